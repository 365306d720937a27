/-! AN EQUATION FOR EACH INSTRUCTION -/
abbrev em0 : MI := (yX0_init, cX0_init, 4, none, 0, [])
theorem mm0 : mtab[0]? = some em0 := rfl
theorem in0 {d : Nat} {h : AH} {K : AO → AH → Prop} {v0 : Nat} {v1 : Nat} {v2 : Int32} : EvM d 0 [(.ref v0), (.ref v1), (.int v2)] h K = Ev d 0 0 [some (.ref v0), some (.ref v1), some (.int v2), none] [] h K := evm_in mm0 (of_decide_eq_true rfl) rfl
theorem i0_0 {d a l1 l2 l3 t h Q} : Ev d 0 0 [some (.ref a), l1, l2, l3] t h Q = Ev d 0 1 [some (.ref a), l1, l2, l3] (.ref a :: t) h Q := en_aload_n mm0 dX0_init_0 rfl
theorem i0_1 {d a l0 l1 l2 l3 h Q} : Ev (d + 1) 0 1 [l0, l1, l2, l3] [.ref a] h Q = Ev (d + 1) 0 4 [l0, l1, l2, l3] [] h Q := en_objinit mm0 dX0_init_1 (by decide +kernel) (of_decide_eq_true rfl)
theorem i0_4 {d l0 l1 l3 t x h Q} : Ev d 0 4 [l0, l1, some (.int x), l3] t h Q = Ev d 0 5 [l0, l1, some (.int x), l3] (.int x :: t) h Q := en_iload_n mm0 dX0_init_4 rfl
theorem i0_5 {d l0 l1 l2 l3 t h Q} : Ev d 0 5 [l0, l1, l2, l3] t h Q = Ev d 0 6 [l0, l1, l2, l3] (.int 0 :: t) h Q := en_iconst mm0 dX0_init_5 (by decide)
theorem i0_6 {d a l0 l2 l3 t h Q} : Ev d 0 6 [l0, some (.ref a), l2, l3] t h Q = Ev d 0 7 [l0, some (.ref a), l2, l3] (.ref a :: t) h Q := en_aload_n mm0 dX0_init_6 rfl
theorem i0_7 {d a l0 l1 l2 l3 t h Q} : Ev d 0 7 [l0, l1, l2, l3] (.ref a :: t) h Q = ((10 ≤ hk h a ∧ hk h a ≤ 16) ∧ Ev d 0 8 [l0, l1, l2, l3] (.int (nI (hl h a)) :: t) h Q) := en_arraylength mm0 dX0_init_7
theorem i0_8 {d l0 l1 l2 l3 x0 x1 x2 h Q} : Ev (d + 1) 0 8 [l0, l1, l2, l3] [x0, x1, x2] h Q = EvM d 83 [x2, x1, x0] h (konN (d + 1) 0 11 [l0, l1, l2, l3] [] Q) := en_staticN mm0 dX0_init_8 (by decide +kernel : ml _ _ = some (1, 83)) (by decide) (rfl : mtab[83]? = some _) (by decide +kernel : npar _ = 3) (of_decide_eq_true rfl) (len_cat (of_decide_eq_true rfl)) rfl rfl rfl
theorem i0_11 {d l0 l1 l2 l3 t x h Q} : Ev d 0 11 [l0, l1, l2, l3] (.int x :: t) h Q = Ev d 0 12 [l0, l1, nl l2, some (.int x)] t h Q := en_istore_n mm0 dX0_init_11 (of_decide_eq_true rfl) rfl
theorem i0_12 {d a l1 l2 l3 t h Q} : Ev d 0 12 [some (.ref a), l1, l2, l3] t h Q = Ev d 0 13 [some (.ref a), l1, l2, l3] (.ref a :: t) h Q := en_aload_n mm0 dX0_init_12 rfl
theorem i0_13 {d l0 l1 l2 t x h Q} : Ev d 0 13 [l0, l1, l2, some (.int x)] t h Q = Ev d 0 14 [l0, l1, l2, some (.int x)] (.int x :: t) h Q := en_iload_n mm0 dX0_init_13 rfl
theorem i0_14 {d l0 l1 l2 l3 t x h Q} : Ev d 0 14 [l0, l1, l2, l3] (.int x :: t) h Q = (¬ (x < 0 ∨ 60000000 < x.toNatClampNeg) ∧ Ev d 0 16 [l0, l1, l2, l3] (.ref (hN h) :: t) (alA h 10 x.toNatClampNeg) Q) := en_newI mm0 dX0_init_14
theorem i0_16 {d a b l0 l1 l2 l3 t h Q} : Ev d 0 16 [l0, l1, l2, l3] (.ref b :: .ref a :: t) h Q = (hk h a = 1 ∧ Ev d 0 19 [l0, l1, l2, l3] t (wF h a 0 (.ref b)) Q) := en_putfield (cj := 0) mm0 dX0_init_16 (by decide +kernel) rfl
theorem i0_19 {d a l0 l2 l3 t h Q} : Ev d 0 19 [l0, some (.ref a), l2, l3] t h Q = Ev d 0 20 [l0, some (.ref a), l2, l3] (.ref a :: t) h Q := en_aload_n mm0 dX0_init_19 rfl
theorem i0_20 {d l0 l1 l2 l3 t h Q} : Ev d 0 20 [l0, l1, l2, l3] t h Q = Ev d 0 21 [l0, l1, l2, l3] (.int 0 :: t) h Q := en_iconst mm0 dX0_init_20 (by decide)
theorem i0_21 {d a l1 l2 l3 t h Q} : Ev d 0 21 [some (.ref a), l1, l2, l3] t h Q = Ev d 0 22 [some (.ref a), l1, l2, l3] (.ref a :: t) h Q := en_aload_n mm0 dX0_init_21 rfl
theorem i0_22 {d a l0 l1 l2 l3 t h Q} : Ev d 0 22 [l0, l1, l2, l3] (.ref a :: t) h Q = (hk h a = 1 ∧ Ev d 0 25 [l0, l1, l2, l3] (hF h a 0 :: t) h Q) := en_getfield (cj := 0) mm0 dX0_init_22 (by decide +kernel)
theorem i0_25 {d l0 l1 l2 l3 t h Q} : Ev d 0 25 [l0, l1, l2, l3] t h Q = Ev d 0 26 [l0, l1, l2, l3] (.int 0 :: t) h Q := en_iconst mm0 dX0_init_25 (by decide)
theorem i0_26 {d l0 l1 l2 t x h Q} : Ev d 0 26 [l0, l1, l2, some (.int x)] t h Q = Ev d 0 27 [l0, l1, l2, some (.int x)] (.int x :: t) h Q := en_iload_n mm0 dX0_init_26 rfl
theorem i0_27 {d l0 l1 l2 l3 a b h Q} {x : Int32} (h0 : hk h a = 10) : Ev (d + 1) 0 27 [l0, l1, l2, l3] [.int x, .int 0, .ref b, .int 0, .ref a] h Q = ((hk h b = 10 ∧ ¬ x < 0 ∧ x.toNatClampNeg = hl h b ∧ hl h b ≤ hl h a) ∧ Ev (d + 1) 0 30 [l0, l1, l2, l3] [] (wA h b (hA h a)) Q) := en_acopy mm0 dX0_init_27 (by decide +kernel) h0
theorem i0_30 {d a l1 l2 l3 t h Q} : Ev d 0 30 [some (.ref a), l1, l2, l3] t h Q = Ev d 0 31 [some (.ref a), l1, l2, l3] (.ref a :: t) h Q := en_aload_n mm0 dX0_init_30 rfl
theorem i0_31 {d l0 l1 l2 l3 t h Q} : Ev d 0 31 [l0, l1, l2, l3] t h Q = Ev d 0 33 [l0, l1, l2, l3] (.int 11 :: t) h Q := en_bipush mm0 dX0_init_31 (by decide)
theorem i0_33 {d l0 l1 l2 l3 t x h Q} : Ev d 0 33 [l0, l1, l2, l3] (.int x :: t) h Q = (¬ (x < 0 ∨ 60000000 < x.toNatClampNeg) ∧ Ev d 0 35 [l0, l1, l2, l3] (.ref (hN h) :: t) (alA h 10 x.toNatClampNeg) Q) := en_newI mm0 dX0_init_33
theorem i0_35 {d a b l0 l1 l2 l3 t h Q} : Ev d 0 35 [l0, l1, l2, l3] (.ref b :: .ref a :: t) h Q = (hk h a = 1 ∧ Ev d 0 38 [l0, l1, l2, l3] t (wF h a 1 (.ref b)) Q) := en_putfield (cj := 0) mm0 dX0_init_35 (by decide +kernel) rfl
theorem i0_38 {d l0 l1 l2 l3 h Q} : Ev d 0 38 [l0, l1, l2, l3] [] h Q = Q (.inl none) h := en_return mm0 dX0_init_38 rfl
abbrev em1 : MI := (yX0_valueFor, cX0_valueFor, 7, some .int, 0, [])
theorem mm1 : mtab[1]? = some em1 := rfl
theorem in1 {d : Nat} {h : AH} {K : AO → AH → Prop} {v0 : Nat} {v1 : Int32} {v2 : Int32} {v3 : Int32} : EvM d 1 [(.ref v0), (.int v1), (.int v2), (.int v3)] h K = Ev d 1 0 [some (.ref v0), some (.int v1), some (.int v2), some (.int v3), none, none, none] [] h K := evm_in mm1 (of_decide_eq_true rfl) rfl
theorem i1_0 {d l0 l1 l2 l3 l4 l5 l6 t h Q} : Ev d 1 0 [l0, l1, l2, l3, l4, l5, l6] t h Q = Ev d 1 1 [l0, l1, l2, l3, l4, l5, l6] (.int 0 :: t) h Q := en_iconst mm1 dX0_valueFor_0 (by decide)
theorem i1_1 {d l0 l1 l2 l3 l4 l5 l6 t x h Q} : Ev d 1 1 [l0, l1, l2, l3, l4, l5, l6] (.int x :: t) h Q = Ev d 1 3 [l0, l1, l2, nl l3, some (.int x), l5, l6] t h Q := en_istore mm1 dX0_valueFor_1 (of_decide_eq_true rfl) rfl
theorem i1_3 {d l0 l1 l2 l3 l4 l5 l6 t h Q} : Ev d 1 3 [l0, l1, l2, l3, l4, l5, l6] t h Q = Ev d 1 4 [l0, l1, l2, l3, l4, l5, l6] (.int 0 :: t) h Q := en_iconst mm1 dX0_valueFor_3 (by decide)
theorem i1_4 {d l0 l1 l2 l3 l4 l5 l6 t x h Q} : Ev d 1 4 [l0, l1, l2, l3, l4, l5, l6] (.int x :: t) h Q = Ev d 1 6 [l0, l1, l2, l3, nl l4, some (.int x), l6] t h Q := en_istore mm1 dX0_valueFor_4 (of_decide_eq_true rfl) rfl
theorem i1_6 {d l0 l1 l2 l3 l4 l6 t x h Q} : Ev d 1 6 [l0, l1, l2, l3, l4, some (.int x), l6] t h Q = Ev d 1 8 [l0, l1, l2, l3, l4, some (.int x), l6] (.int x :: t) h Q := en_iload mm1 dX0_valueFor_6 rfl
theorem i1_8 {d a l1 l2 l3 l4 l5 l6 t h Q} : Ev d 1 8 [some (.ref a), l1, l2, l3, l4, l5, l6] t h Q = Ev d 1 9 [some (.ref a), l1, l2, l3, l4, l5, l6] (.ref a :: t) h Q := en_aload_n mm1 dX0_valueFor_8 rfl
theorem i1_9 {d a l0 l1 l2 l3 l4 l5 l6 t h Q} : Ev d 1 9 [l0, l1, l2, l3, l4, l5, l6] (.ref a :: t) h Q = (hk h a = 1 ∧ Ev d 1 12 [l0, l1, l2, l3, l4, l5, l6] (hF h a 0 :: t) h Q) := en_getfield (cj := 0) mm1 dX0_valueFor_9 (by decide +kernel)
theorem i1_12 {d a l0 l1 l2 l3 l4 l5 l6 t h Q} : Ev d 1 12 [l0, l1, l2, l3, l4, l5, l6] (.ref a :: t) h Q = ((10 ≤ hk h a ∧ hk h a ≤ 16) ∧ Ev d 1 13 [l0, l1, l2, l3, l4, l5, l6] (.int (nI (hl h a)) :: t) h Q) := en_arraylength mm1 dX0_valueFor_12
theorem i1_13 {d l0 l1 l2 l3 l4 l5 l6 t x y h Q} : Ev d 1 13 [l0, l1, l2, l3, l4, l5, l6] (.int y :: .int x :: t) h Q = if y ≤ x then Ev d 1 135 [l0, l1, l2, l3, l4, l5, l6] t h Q else Ev d 1 16 [l0, l1, l2, l3, l4, l5, l6] t h Q := en_ic_ge mm1 dX0_valueFor_13 rfl
theorem i1_16 {d a l1 l2 l3 l4 l5 l6 t h Q} : Ev d 1 16 [some (.ref a), l1, l2, l3, l4, l5, l6] t h Q = Ev d 1 17 [some (.ref a), l1, l2, l3, l4, l5, l6] (.ref a :: t) h Q := en_aload_n mm1 dX0_valueFor_16 rfl
theorem i1_17 {d a l0 l1 l2 l3 l4 l5 l6 t h Q} : Ev d 1 17 [l0, l1, l2, l3, l4, l5, l6] (.ref a :: t) h Q = (hk h a = 1 ∧ Ev d 1 20 [l0, l1, l2, l3, l4, l5, l6] (hF h a 0 :: t) h Q) := en_getfield (cj := 0) mm1 dX0_valueFor_17 (by decide +kernel)
theorem i1_20 {d l0 l1 l2 l3 l4 l6 t x h Q} : Ev d 1 20 [l0, l1, l2, l3, l4, some (.int x), l6] t h Q = Ev d 1 22 [l0, l1, l2, l3, l4, some (.int x), l6] (.int x :: t) h Q := en_iload mm1 dX0_valueFor_20 rfl
theorem i1_22 {d a j l0 l1 l2 l3 l4 l5 l6 t h Q} : Ev d 1 22 [l0, l1, l2, l3, l4, l5, l6] (.int j :: .ref a :: t) h Q = (hk h a = 10 ∧ inb j (hl h a) ∧ Ev d 1 23 [l0, l1, l2, l3, l4, l5, l6] (.int (hA h a j.toNatClampNeg) :: t) h Q) := en_iaload mm1 dX0_valueFor_22
theorem i1_23 {d l0 l1 l2 l3 l4 l5 l6 t x h Q} : Ev d 1 23 [l0, l1, l2, l3, l4, l5, l6] (.int x :: t) h Q = Ev d 1 25 [l0, l1, l2, l3, l4, nl l5, some (.int x)] t h Q := en_istore mm1 dX0_valueFor_23 (of_decide_eq_true rfl) rfl
theorem i1_25 {d l0 l1 l2 l3 l4 l5 t x h Q} : Ev d 1 25 [l0, l1, l2, l3, l4, l5, some (.int x)] t h Q = Ev d 1 27 [l0, l1, l2, l3, l4, l5, some (.int x)] (.int x :: t) h Q := en_iload mm1 dX0_valueFor_25 rfl
theorem i1_27 {d l0 l1 l2 l3 l4 l5 l6 t x h Q} : Ev d 1 27 [l0, l1, l2, l3, l4, l5, l6] (.int x :: t) h Q = if 0 ≤ x then Ev d 1 79 [l0, l1, l2, l3, l4, l5, l6] t h Q else Ev d 1 30 [l0, l1, l2, l3, l4, l5, l6] t h Q := en_if_ge mm1 dX0_valueFor_27 rfl
theorem i1_30 {d l0 l1 l2 l3 l4 l5 t x h Q} : Ev d 1 30 [l0, l1, l2, l3, l4, l5, some (.int x)] t h Q = Ev d 1 32 [l0, l1, l2, l3, l4, l5, some (.int x)] (.int x :: t) h Q := en_iload mm1 dX0_valueFor_30 rfl
theorem i1_32 {d l0 l1 l2 l3 l4 l5 l6 t h Q} : Ev d 1 32 [l0, l1, l2, l3, l4, l5, l6] t h Q = Ev d 1 34 [l0, l1, l2, l3, l4, l5, l6] (.int (-4) :: t) h Q := en_bipush mm1 dX0_valueFor_32 (by decide)
theorem i1_34 {d l0 l1 l2 l3 l4 l5 l6 t x y h Q} : Ev d 1 34 [l0, l1, l2, l3, l4, l5, l6] (.int y :: .int x :: t) h Q = if x < y then Ev d 1 79 [l0, l1, l2, l3, l4, l5, l6] t h Q else Ev d 1 37 [l0, l1, l2, l3, l4, l5, l6] t h Q := en_ic_lt mm1 dX0_valueFor_34 rfl
theorem i1_37 {d l0 l1 l2 l3 l5 l6 t x h Q} : Ev d 1 37 [l0, l1, l2, l3, some (.int x), l5, l6] t h Q = Ev d 1 39 [l0, l1, l2, l3, some (.int x), l5, l6] (.int x :: t) h Q := en_iload mm1 dX0_valueFor_37 rfl
theorem i1_39 {d l0 l1 l2 l3 l4 l5 l6 t h Q} : Ev d 1 39 [l0, l1, l2, l3, l4, l5, l6] t h Q = Ev d 1 40 [l0, l1, l2, l3, l4, l5, l6] (.int 2 :: t) h Q := en_iconst mm1 dX0_valueFor_39 (by decide)
theorem i1_40 {d l0 l1 l2 l3 l4 l5 l6 t x y h Q} : Ev d 1 40 [l0, l1, l2, l3, l4, l5, l6] (.int y :: .int x :: t) h Q = if x < y then Ev d 1 129 [l0, l1, l2, l3, l4, l5, l6] t h Q else Ev d 1 43 [l0, l1, l2, l3, l4, l5, l6] t h Q := en_ic_lt mm1 dX0_valueFor_40 rfl
theorem i1_43 {d l0 l1 l2 l3 l5 l6 t x h Q} : Ev d 1 43 [l0, l1, l2, l3, some (.int x), l5, l6] t h Q = Ev d 1 46 [l0, l1, l2, nl l3, some (.int (x + (-1))), l5, l6] t h Q := en_iinc mm1 dX0_valueFor_43 rfl (by decide) rfl
theorem i1_46 {d a l1 l2 l3 l4 l5 l6 t h Q} : Ev d 1 46 [some (.ref a), l1, l2, l3, l4, l5, l6] t h Q = Ev d 1 47 [some (.ref a), l1, l2, l3, l4, l5, l6] (.ref a :: t) h Q := en_aload_n mm1 dX0_valueFor_46 rfl
theorem i1_47 {d a l0 l1 l2 l3 l4 l5 l6 t h Q} : Ev d 1 47 [l0, l1, l2, l3, l4, l5, l6] (.ref a :: t) h Q = (hk h a = 1 ∧ Ev d 1 50 [l0, l1, l2, l3, l4, l5, l6] (hF h a 1 :: t) h Q) := en_getfield (cj := 0) mm1 dX0_valueFor_47 (by decide +kernel)
theorem i1_50 {d l0 l1 l2 l3 l5 l6 t x h Q} : Ev d 1 50 [l0, l1, l2, l3, some (.int x), l5, l6] t h Q = Ev d 1 52 [l0, l1, l2, l3, some (.int x), l5, l6] (.int x :: t) h Q := en_iload mm1 dX0_valueFor_50 rfl
theorem i1_52 {d l0 l1 l2 l3 l4 l5 l6 t h Q} : Ev d 1 52 [l0, l1, l2, l3, l4, l5, l6] t h Q = Ev d 1 53 [l0, l1, l2, l3, l4, l5, l6] (.int 1 :: t) h Q := en_iconst mm1 dX0_valueFor_52 (by decide)
theorem i1_53 {d l0 l1 l2 l3 l4 l5 l6 t x y h Q} : Ev d 1 53 [l0, l1, l2, l3, l4, l5, l6] (.int y :: .int x :: t) h Q = Ev d 1 54 [l0, l1, l2, l3, l4, l5, l6] (.int (x - y) :: t) h Q := en_isub mm1 dX0_valueFor_53
theorem i1_54 {d l0 l1 l2 l3 l4 l5 t x h Q} : Ev d 1 54 [l0, l1, l2, l3, l4, l5, some (.int x)] t h Q = Ev d 1 56 [l0, l1, l2, l3, l4, l5, some (.int x)] (.int x :: t) h Q := en_iload mm1 dX0_valueFor_54 rfl
theorem i1_56 {d a l1 l2 l3 l4 l5 l6 t h Q} : Ev d 1 56 [some (.ref a), l1, l2, l3, l4, l5, l6] t h Q = Ev d 1 57 [some (.ref a), l1, l2, l3, l4, l5, l6] (.ref a :: t) h Q := en_aload_n mm1 dX0_valueFor_56 rfl
theorem i1_57 {d a l0 l1 l2 l3 l4 l5 l6 t h Q} : Ev d 1 57 [l0, l1, l2, l3, l4, l5, l6] (.ref a :: t) h Q = (hk h a = 1 ∧ Ev d 1 60 [l0, l1, l2, l3, l4, l5, l6] (hF h a 1 :: t) h Q) := en_getfield (cj := 0) mm1 dX0_valueFor_57 (by decide +kernel)
theorem i1_60 {d l0 l1 l2 l3 l5 l6 t x h Q} : Ev d 1 60 [l0, l1, l2, l3, some (.int x), l5, l6] t h Q = Ev d 1 62 [l0, l1, l2, l3, some (.int x), l5, l6] (.int x :: t) h Q := en_iload mm1 dX0_valueFor_60 rfl
theorem i1_62 {d l0 l1 l2 l3 l4 l5 l6 t h Q} : Ev d 1 62 [l0, l1, l2, l3, l4, l5, l6] t h Q = Ev d 1 63 [l0, l1, l2, l3, l4, l5, l6] (.int 1 :: t) h Q := en_iconst mm1 dX0_valueFor_62 (by decide)
theorem i1_63 {d l0 l1 l2 l3 l4 l5 l6 t x y h Q} : Ev d 1 63 [l0, l1, l2, l3, l4, l5, l6] (.int y :: .int x :: t) h Q = Ev d 1 64 [l0, l1, l2, l3, l4, l5, l6] (.int (x - y) :: t) h Q := en_isub mm1 dX0_valueFor_63
theorem i1_64 {d a j l0 l1 l2 l3 l4 l5 l6 t h Q} : Ev d 1 64 [l0, l1, l2, l3, l4, l5, l6] (.int j :: .ref a :: t) h Q = (hk h a = 10 ∧ inb j (hl h a) ∧ Ev d 1 65 [l0, l1, l2, l3, l4, l5, l6] (.int (hA h a j.toNatClampNeg) :: t) h Q) := en_iaload mm1 dX0_valueFor_64
theorem i1_65 {d a l1 l2 l3 l4 l5 l6 t h Q} : Ev d 1 65 [some (.ref a), l1, l2, l3, l4, l5, l6] t h Q = Ev d 1 66 [some (.ref a), l1, l2, l3, l4, l5, l6] (.ref a :: t) h Q := en_aload_n mm1 dX0_valueFor_65 rfl
theorem i1_66 {d a l0 l1 l2 l3 l4 l5 l6 t h Q} : Ev d 1 66 [l0, l1, l2, l3, l4, l5, l6] (.ref a :: t) h Q = (hk h a = 1 ∧ Ev d 1 69 [l0, l1, l2, l3, l4, l5, l6] (hF h a 1 :: t) h Q) := en_getfield (cj := 0) mm1 dX0_valueFor_66 (by decide +kernel)
theorem i1_69 {d l0 l1 l2 l3 l5 l6 t x h Q} : Ev d 1 69 [l0, l1, l2, l3, some (.int x), l5, l6] t h Q = Ev d 1 71 [l0, l1, l2, l3, some (.int x), l5, l6] (.int x :: t) h Q := en_iload mm1 dX0_valueFor_69 rfl
theorem i1_71 {d a j l0 l1 l2 l3 l4 l5 l6 t h Q} : Ev d 1 71 [l0, l1, l2, l3, l4, l5, l6] (.int j :: .ref a :: t) h Q = (hk h a = 10 ∧ inb j (hl h a) ∧ Ev d 1 72 [l0, l1, l2, l3, l4, l5, l6] (.int (hA h a j.toNatClampNeg) :: t) h Q) := en_iaload mm1 dX0_valueFor_71
theorem i1_72 {d l0 l1 l2 l3 l4 l5 l6 x0 x1 x2 x3 x4 h Q} : Ev (d + 1) 1 72 [l0, l1, l2, l3, l4, l5, l6] [x0, x1, x2, x3, x4] h Q = EvM d 2 [x2, x1, x0] h (konN (d + 1) 1 75 [l0, l1, l2, l3, l4, l5, l6] [x3, x4] Q) := en_staticN mm1 dX0_valueFor_72 (by decide +kernel : ml _ _ = some (0, 2)) (by decide) (rfl : mtab[2]? = some _) (by decide +kernel : npar _ = 3) (of_decide_eq_true rfl) (len_cat (of_decide_eq_true rfl)) rfl rfl rfl
theorem i1_75 {d a j l0 l1 l2 l3 l4 l5 l6 t x h Q} : Ev d 1 75 [l0, l1, l2, l3, l4, l5, l6] (.int x :: .int j :: .ref a :: t) h Q = (hk h a = 10 ∧ inb j (hl h a) ∧ Ev d 1 76 [l0, l1, l2, l3, l4, l5, l6] t (wA h a (upd (hA h a) j.toNatClampNeg x)) Q) := en_iastore mm1 dX0_valueFor_75
theorem i1_76 {d l0 l1 l2 l3 l4 l5 l6 t h Q} : Ev d 1 76 [l0, l1, l2, l3, l4, l5, l6] t h Q = Ev d 1 129 [l0, l1, l2, l3, l4, l5, l6] t h Q := en_goto mm1 dX0_valueFor_76 rfl
theorem i1_79 {d l0 l1 l2 l3 l5 l6 t x h Q} : Ev d 1 79 [l0, l1, l2, l3, some (.int x), l5, l6] t h Q = Ev d 1 81 [l0, l1, l2, l3, some (.int x), l5, l6] (.int x :: t) h Q := en_iload mm1 dX0_valueFor_79 rfl
theorem i1_81 {d l0 l1 l2 l3 l4 l5 l6 t h Q} : Ev d 1 81 [l0, l1, l2, l3, l4, l5, l6] t h Q = Ev d 1 83 [l0, l1, l2, l3, l4, l5, l6] (.int 11 :: t) h Q := en_bipush mm1 dX0_valueFor_81 (by decide)
theorem i1_83 {d l0 l1 l2 l3 l4 l5 l6 t x y h Q} : Ev d 1 83 [l0, l1, l2, l3, l4, l5, l6] (.int y :: .int x :: t) h Q = if y ≤ x then Ev d 1 129 [l0, l1, l2, l3, l4, l5, l6] t h Q else Ev d 1 86 [l0, l1, l2, l3, l4, l5, l6] t h Q := en_ic_ge mm1 dX0_valueFor_83 rfl
theorem i1_86 {d a l1 l2 l3 l4 l5 l6 t h Q} : Ev d 1 86 [some (.ref a), l1, l2, l3, l4, l5, l6] t h Q = Ev d 1 87 [some (.ref a), l1, l2, l3, l4, l5, l6] (.ref a :: t) h Q := en_aload_n mm1 dX0_valueFor_86 rfl
theorem i1_87 {d a l0 l1 l2 l3 l4 l5 l6 t h Q} : Ev d 1 87 [l0, l1, l2, l3, l4, l5, l6] (.ref a :: t) h Q = (hk h a = 1 ∧ Ev d 1 90 [l0, l1, l2, l3, l4, l5, l6] (hF h a 1 :: t) h Q) := en_getfield (cj := 0) mm1 dX0_valueFor_87 (by decide +kernel)
theorem i1_90 {d l0 l1 l2 l3 l5 l6 t x h Q} : Ev d 1 90 [l0, l1, l2, l3, some (.int x), l5, l6] t h Q = Ev d 1 92 [l0, l1, l2, l3, some (.int x), l5, l6] (.int x :: t) h Q := en_iload mm1 dX0_valueFor_90 rfl
theorem i1_92 {d l0 l1 l2 l3 l4 l5 t x h Q} : Ev d 1 92 [l0, l1, l2, l3, l4, l5, some (.int x)] t h Q = Ev d 1 94 [l0, l1, l2, l3, l4, l5, some (.int x)] (.int x :: t) h Q := en_iload mm1 dX0_valueFor_92 rfl
theorem i1_94 {d l0 l1 l2 l3 l4 l5 l6 t x h Q} : Ev d 1 94 [l0, l1, l2, l3, l4, l5, l6] (.int x :: t) h Q = if x < 0 then Ev d 1 102 [l0, l1, l2, l3, l4, l5, l6] t h Q else Ev d 1 97 [l0, l1, l2, l3, l4, l5, l6] t h Q := en_if_lt mm1 dX0_valueFor_94 rfl
theorem i1_97 {d l0 l1 l2 l3 l4 l5 t x h Q} : Ev d 1 97 [l0, l1, l2, l3, l4, l5, some (.int x)] t h Q = Ev d 1 99 [l0, l1, l2, l3, l4, l5, some (.int x)] (.int x :: t) h Q := en_iload mm1 dX0_valueFor_97 rfl
theorem i1_99 {d l0 l1 l2 l3 l4 l5 l6 t h Q} : Ev d 1 99 [l0, l1, l2, l3, l4, l5, l6] t h Q = Ev d 1 125 [l0, l1, l2, l3, l4, l5, l6] t h Q := en_goto mm1 dX0_valueFor_99 rfl
theorem i1_102 {d l0 l1 l2 l3 l4 l5 t x h Q} : Ev d 1 102 [l0, l1, l2, l3, l4, l5, some (.int x)] t h Q = Ev d 1 104 [l0, l1, l2, l3, l4, l5, some (.int x)] (.int x :: t) h Q := en_iload mm1 dX0_valueFor_102 rfl
theorem i1_104 {d l0 l1 l2 l3 l4 l5 l6 t h Q} : Ev d 1 104 [l0, l1, l2, l3, l4, l5, l6] t h Q = Ev d 1 106 [l0, l1, l2, l3, l4, l5, l6] (.int (-5) :: t) h Q := en_bipush mm1 dX0_valueFor_104 (by decide)
theorem i1_106 {d l0 l1 l2 l3 l4 l5 l6 t x y h Q} : Ev d 1 106 [l0, l1, l2, l3, l4, l5, l6] (.int y :: .int x :: t) h Q = if x = y then Ev d 1 109 [l0, l1, l2, l3, l4, l5, l6] t h Q else Ev d 1 113 [l0, l1, l2, l3, l4, l5, l6] t h Q := en_ic_ne mm1 dX0_valueFor_106 rfl
theorem i1_109 {d l0 l2 l3 l4 l5 l6 t x h Q} : Ev d 1 109 [l0, some (.int x), l2, l3, l4, l5, l6] t h Q = Ev d 1 110 [l0, some (.int x), l2, l3, l4, l5, l6] (.int x :: t) h Q := en_iload_n mm1 dX0_valueFor_109 rfl
theorem i1_110 {d l0 l1 l2 l3 l4 l5 l6 t h Q} : Ev d 1 110 [l0, l1, l2, l3, l4, l5, l6] t h Q = Ev d 1 125 [l0, l1, l2, l3, l4, l5, l6] t h Q := en_goto mm1 dX0_valueFor_110 rfl
theorem i1_113 {d l0 l1 l2 l3 l4 l5 t x h Q} : Ev d 1 113 [l0, l1, l2, l3, l4, l5, some (.int x)] t h Q = Ev d 1 115 [l0, l1, l2, l3, l4, l5, some (.int x)] (.int x :: t) h Q := en_iload mm1 dX0_valueFor_113 rfl
theorem i1_115 {d l0 l1 l2 l3 l4 l5 l6 t h Q} : Ev d 1 115 [l0, l1, l2, l3, l4, l5, l6] t h Q = Ev d 1 117 [l0, l1, l2, l3, l4, l5, l6] (.int (-6) :: t) h Q := en_bipush mm1 dX0_valueFor_115 (by decide)
theorem i1_117 {d l0 l1 l2 l3 l4 l5 l6 t x y h Q} : Ev d 1 117 [l0, l1, l2, l3, l4, l5, l6] (.int y :: .int x :: t) h Q = if x = y then Ev d 1 120 [l0, l1, l2, l3, l4, l5, l6] t h Q else Ev d 1 124 [l0, l1, l2, l3, l4, l5, l6] t h Q := en_ic_ne mm1 dX0_valueFor_117 rfl
theorem i1_120 {d l0 l1 l3 l4 l5 l6 t x h Q} : Ev d 1 120 [l0, l1, some (.int x), l3, l4, l5, l6] t h Q = Ev d 1 121 [l0, l1, some (.int x), l3, l4, l5, l6] (.int x :: t) h Q := en_iload_n mm1 dX0_valueFor_120 rfl
theorem i1_121 {d l0 l1 l2 l3 l4 l5 l6 t h Q} : Ev d 1 121 [l0, l1, l2, l3, l4, l5, l6] t h Q = Ev d 1 125 [l0, l1, l2, l3, l4, l5, l6] t h Q := en_goto mm1 dX0_valueFor_121 rfl
theorem i1_124 {d l0 l1 l2 l4 l5 l6 t x h Q} : Ev d 1 124 [l0, l1, l2, some (.int x), l4, l5, l6] t h Q = Ev d 1 125 [l0, l1, l2, some (.int x), l4, l5, l6] (.int x :: t) h Q := en_iload_n mm1 dX0_valueFor_124 rfl
theorem i1_125 {d a j l0 l1 l2 l3 l4 l5 l6 t x h Q} : Ev d 1 125 [l0, l1, l2, l3, l4, l5, l6] (.int x :: .int j :: .ref a :: t) h Q = (hk h a = 10 ∧ inb j (hl h a) ∧ Ev d 1 126 [l0, l1, l2, l3, l4, l5, l6] t (wA h a (upd (hA h a) j.toNatClampNeg x)) Q) := en_iastore mm1 dX0_valueFor_125
theorem i1_126 {d l0 l1 l2 l3 l5 l6 t x h Q} : Ev d 1 126 [l0, l1, l2, l3, some (.int x), l5, l6] t h Q = Ev d 1 129 [l0, l1, l2, nl l3, some (.int (x + 1)), l5, l6] t h Q := en_iinc mm1 dX0_valueFor_126 rfl (by decide) rfl
theorem i1_129 {d l0 l1 l2 l3 l4 l6 t x h Q} : Ev d 1 129 [l0, l1, l2, l3, l4, some (.int x), l6] t h Q = Ev d 1 132 [l0, l1, l2, l3, nl l4, some (.int (x + 1)), l6] t h Q := en_iinc mm1 dX0_valueFor_129 rfl (by decide) rfl
theorem i1_132 {d l0 l1 l2 l3 l4 l5 l6 t h Q} : Ev d 1 132 [l0, l1, l2, l3, l4, l5, l6] t h Q = Ev d 1 6 [l0, l1, l2, l3, l4, l5, l6] t h Q := en_goto mm1 dX0_valueFor_132 rfl
theorem i1_135 {d a l1 l2 l3 l4 l5 l6 t h Q} : Ev d 1 135 [some (.ref a), l1, l2, l3, l4, l5, l6] t h Q = Ev d 1 136 [some (.ref a), l1, l2, l3, l4, l5, l6] (.ref a :: t) h Q := en_aload_n mm1 dX0_valueFor_135 rfl
theorem i1_136 {d a l0 l1 l2 l3 l4 l5 l6 t h Q} : Ev d 1 136 [l0, l1, l2, l3, l4, l5, l6] (.ref a :: t) h Q = (hk h a = 1 ∧ Ev d 1 139 [l0, l1, l2, l3, l4, l5, l6] (hF h a 1 :: t) h Q) := en_getfield (cj := 0) mm1 dX0_valueFor_136 (by decide +kernel)
theorem i1_139 {d l0 l1 l2 l3 l4 l5 l6 t h Q} : Ev d 1 139 [l0, l1, l2, l3, l4, l5, l6] t h Q = Ev d 1 140 [l0, l1, l2, l3, l4, l5, l6] (.int 0 :: t) h Q := en_iconst mm1 dX0_valueFor_139 (by decide)
theorem i1_140 {d a j l0 l1 l2 l3 l4 l5 l6 t h Q} : Ev d 1 140 [l0, l1, l2, l3, l4, l5, l6] (.int j :: .ref a :: t) h Q = (hk h a = 10 ∧ inb j (hl h a) ∧ Ev d 1 141 [l0, l1, l2, l3, l4, l5, l6] (.int (hA h a j.toNatClampNeg) :: t) h Q) := en_iaload mm1 dX0_valueFor_140
theorem i1_141 {d l0 l1 l2 l3 l4 l5 l6 x h Q} : Ev d 1 141 [l0, l1, l2, l3, l4, l5, l6] [.int x] h Q = Q (.inl (some (.int x))) h := en_ireturnI mm1 dX0_valueFor_141 rfl
abbrev em2 : MI := (yX0_result, cX0_result, 5, some .int, 0, [])
theorem mm2 : mtab[2]? = some em2 := rfl
theorem in2 {d : Nat} {h : AH} {K : AO → AH → Prop} {v0 : Int32} {v1 : Int32} {v2 : Int32} : EvM d 2 [(.int v0), (.int v1), (.int v2)] h K = Ev d 2 0 [some (.int v0), some (.int v1), some (.int v2), none, none] [] h K := evm_in mm2 (of_decide_eq_true rfl) rfl
theorem i2_0 {d l0 l1 l2 l3 l4 t h Q} : Ev d 2 0 [l0, l1, l2, l3, l4] t h Q = Ev d 2 1 [l0, l1, l2, l3, l4] (.long 0 :: t) h Q := en_lconst mm2 dX0_result_0 (by decide)
theorem i2_1 {d l0 l1 l2 l3 l4 t x h Q} : Ev d 2 1 [l0, l1, l2, l3, l4] (.long x :: t) h Q = Ev d 2 2 [l0, l1, nl l2, some (.long x), none] t h Q := en_lstore_n mm2 dX0_result_1 (of_decide_eq_true rfl) rfl
theorem i2_2 {d l1 l2 l3 l4 t x h Q} : Ev d 2 2 [some (.int x), l1, l2, l3, l4] t h Q = Ev d 2 3 [some (.int x), l1, l2, l3, l4] (.int x :: t) h Q := en_iload_n mm2 dX0_result_2 rfl
theorem i2_3_0 {d l0 l1 l2 l3 l4 t h Q} : Ev d 2 3 [l0, l1, l2, l3, l4] (.int (-3) :: t) h Q = Ev d 2 46 [l0, l1, l2, l3, l4] t h Q := en_tsw mm2 dX0_result_3 rfl
theorem i2_3_1 {d l0 l1 l2 l3 l4 t h Q} : Ev d 2 3 [l0, l1, l2, l3, l4] (.int (-2) :: t) h Q = Ev d 2 37 [l0, l1, l2, l3, l4] t h Q := en_tsw mm2 dX0_result_3 rfl
theorem i2_3_2 {d l0 l1 l2 l3 l4 t h Q} : Ev d 2 3 [l0, l1, l2, l3, l4] (.int (-1) :: t) h Q = Ev d 2 28 [l0, l1, l2, l3, l4] t h Q := en_tsw mm2 dX0_result_3 rfl
theorem i2_3_d {d l0 l1 l2 l3 l4 t h Q} {x : Int32} (hx : x.toInt < -3 ∨ -1 < x.toInt) : Ev d 2 3 [l0, l1, l2, l3, l4] (.int x :: t) h Q = Ev d 2 55 [l0, l1, l2, l3, l4] t h Q := en_tsw mm2 dX0_result_3 (if_pos hx)
theorem i2_28 {d l0 l2 l3 l4 t x h Q} : Ev d 2 28 [l0, some (.int x), l2, l3, l4] t h Q = Ev d 2 29 [l0, some (.int x), l2, l3, l4] (.int x :: t) h Q := en_iload_n mm2 dX0_result_28 rfl
theorem i2_29 {d l0 l1 l2 l3 l4 t x h Q} : Ev d 2 29 [l0, l1, l2, l3, l4] (.int x :: t) h Q = Ev d 2 30 [l0, l1, l2, l3, l4] (.long x.toInt64 :: t) h Q := en_i2l mm2 dX0_result_29
theorem i2_30 {d l0 l1 l3 l4 t x h Q} : Ev d 2 30 [l0, l1, some (.int x), l3, l4] t h Q = Ev d 2 31 [l0, l1, some (.int x), l3, l4] (.int x :: t) h Q := en_iload_n mm2 dX0_result_30 rfl
theorem i2_31 {d l0 l1 l2 l3 l4 t x h Q} : Ev d 2 31 [l0, l1, l2, l3, l4] (.int x :: t) h Q = Ev d 2 32 [l0, l1, l2, l3, l4] (.long x.toInt64 :: t) h Q := en_i2l mm2 dX0_result_31
theorem i2_32 {d l0 l1 l2 l3 l4 t x y h Q} : Ev d 2 32 [l0, l1, l2, l3, l4] (.long y :: .long x :: t) h Q = Ev d 2 33 [l0, l1, l2, l3, l4] (.long (x + y) :: t) h Q := en_ladd mm2 dX0_result_32
theorem i2_33 {d l0 l1 l2 l3 l4 t x h Q} : Ev d 2 33 [l0, l1, l2, l3, l4] (.long x :: t) h Q = Ev d 2 34 [l0, l1, nl l2, some (.long x), none] t h Q := en_lstore_n mm2 dX0_result_33 (of_decide_eq_true rfl) rfl
theorem i2_34 {d l0 l1 l2 l3 l4 t h Q} : Ev d 2 34 [l0, l1, l2, l3, l4] t h Q = Ev d 2 69 [l0, l1, l2, l3, l4] t h Q := en_goto mm2 dX0_result_34 rfl
theorem i2_37 {d l0 l2 l3 l4 t x h Q} : Ev d 2 37 [l0, some (.int x), l2, l3, l4] t h Q = Ev d 2 38 [l0, some (.int x), l2, l3, l4] (.int x :: t) h Q := en_iload_n mm2 dX0_result_37 rfl
theorem i2_38 {d l0 l1 l2 l3 l4 t x h Q} : Ev d 2 38 [l0, l1, l2, l3, l4] (.int x :: t) h Q = Ev d 2 39 [l0, l1, l2, l3, l4] (.long x.toInt64 :: t) h Q := en_i2l mm2 dX0_result_38
theorem i2_39 {d l0 l1 l3 l4 t x h Q} : Ev d 2 39 [l0, l1, some (.int x), l3, l4] t h Q = Ev d 2 40 [l0, l1, some (.int x), l3, l4] (.int x :: t) h Q := en_iload_n mm2 dX0_result_39 rfl
theorem i2_40 {d l0 l1 l2 l3 l4 t x h Q} : Ev d 2 40 [l0, l1, l2, l3, l4] (.int x :: t) h Q = Ev d 2 41 [l0, l1, l2, l3, l4] (.long x.toInt64 :: t) h Q := en_i2l mm2 dX0_result_40
theorem i2_41 {d l0 l1 l2 l3 l4 t x y h Q} : Ev d 2 41 [l0, l1, l2, l3, l4] (.long y :: .long x :: t) h Q = Ev d 2 42 [l0, l1, l2, l3, l4] (.long (x - y) :: t) h Q := en_lsub mm2 dX0_result_41
theorem i2_42 {d l0 l1 l2 l3 l4 t x h Q} : Ev d 2 42 [l0, l1, l2, l3, l4] (.long x :: t) h Q = Ev d 2 43 [l0, l1, nl l2, some (.long x), none] t h Q := en_lstore_n mm2 dX0_result_42 (of_decide_eq_true rfl) rfl
theorem i2_43 {d l0 l1 l2 l3 l4 t h Q} : Ev d 2 43 [l0, l1, l2, l3, l4] t h Q = Ev d 2 69 [l0, l1, l2, l3, l4] t h Q := en_goto mm2 dX0_result_43 rfl
theorem i2_46 {d l0 l2 l3 l4 t x h Q} : Ev d 2 46 [l0, some (.int x), l2, l3, l4] t h Q = Ev d 2 47 [l0, some (.int x), l2, l3, l4] (.int x :: t) h Q := en_iload_n mm2 dX0_result_46 rfl
theorem i2_47 {d l0 l1 l2 l3 l4 t x h Q} : Ev d 2 47 [l0, l1, l2, l3, l4] (.int x :: t) h Q = Ev d 2 48 [l0, l1, l2, l3, l4] (.long x.toInt64 :: t) h Q := en_i2l mm2 dX0_result_47
theorem i2_48 {d l0 l1 l3 l4 t x h Q} : Ev d 2 48 [l0, l1, some (.int x), l3, l4] t h Q = Ev d 2 49 [l0, l1, some (.int x), l3, l4] (.int x :: t) h Q := en_iload_n mm2 dX0_result_48 rfl
theorem i2_49 {d l0 l1 l2 l3 l4 t x h Q} : Ev d 2 49 [l0, l1, l2, l3, l4] (.int x :: t) h Q = Ev d 2 50 [l0, l1, l2, l3, l4] (.long x.toInt64 :: t) h Q := en_i2l mm2 dX0_result_49
theorem i2_50 {d l0 l1 l2 l3 l4 t x y h Q} : Ev d 2 50 [l0, l1, l2, l3, l4] (.long y :: .long x :: t) h Q = Ev d 2 51 [l0, l1, l2, l3, l4] (.long (x * y) :: t) h Q := en_lmul mm2 dX0_result_50
theorem i2_51 {d l0 l1 l2 l3 l4 t x h Q} : Ev d 2 51 [l0, l1, l2, l3, l4] (.long x :: t) h Q = Ev d 2 52 [l0, l1, nl l2, some (.long x), none] t h Q := en_lstore_n mm2 dX0_result_51 (of_decide_eq_true rfl) rfl
theorem i2_52 {d l0 l1 l2 l3 l4 t h Q} : Ev d 2 52 [l0, l1, l2, l3, l4] t h Q = Ev d 2 69 [l0, l1, l2, l3, l4] t h Q := en_goto mm2 dX0_result_52 rfl
theorem i2_55 {d l0 l1 l3 l4 t x h Q} : Ev d 2 55 [l0, l1, some (.int x), l3, l4] t h Q = Ev d 2 56 [l0, l1, some (.int x), l3, l4] (.int x :: t) h Q := en_iload_n mm2 dX0_result_55 rfl
theorem i2_56 {d l0 l1 l2 l3 l4 t x h Q} : Ev d 2 56 [l0, l1, l2, l3, l4] (.int x :: t) h Q = if x = 0 then Ev d 2 59 [l0, l1, l2, l3, l4] t h Q else Ev d 2 63 [l0, l1, l2, l3, l4] t h Q := en_if_ne mm2 dX0_result_56 rfl
theorem i2_59 {d l0 l1 l2 l3 l4 t h Q} : Ev d 2 59 [l0, l1, l2, l3, l4] t h Q = Ev d 2 60 [l0, l1, l2, l3, l4] (.long 0 :: t) h Q := en_lconst mm2 dX0_result_59 (by decide)
theorem i2_60 {d l0 l1 l2 l3 l4 t h Q} : Ev d 2 60 [l0, l1, l2, l3, l4] t h Q = Ev d 2 68 [l0, l1, l2, l3, l4] t h Q := en_goto mm2 dX0_result_60 rfl
theorem i2_63 {d l0 l2 l3 l4 t x h Q} : Ev d 2 63 [l0, some (.int x), l2, l3, l4] t h Q = Ev d 2 64 [l0, some (.int x), l2, l3, l4] (.int x :: t) h Q := en_iload_n mm2 dX0_result_63 rfl
theorem i2_64 {d l0 l1 l2 l3 l4 t x h Q} : Ev d 2 64 [l0, l1, l2, l3, l4] (.int x :: t) h Q = Ev d 2 65 [l0, l1, l2, l3, l4] (.long x.toInt64 :: t) h Q := en_i2l mm2 dX0_result_64
theorem i2_65 {d l0 l1 l3 l4 t x h Q} : Ev d 2 65 [l0, l1, some (.int x), l3, l4] t h Q = Ev d 2 66 [l0, l1, some (.int x), l3, l4] (.int x :: t) h Q := en_iload_n mm2 dX0_result_65 rfl
theorem i2_66 {d l0 l1 l2 l3 l4 t x h Q} : Ev d 2 66 [l0, l1, l2, l3, l4] (.int x :: t) h Q = Ev d 2 67 [l0, l1, l2, l3, l4] (.long x.toInt64 :: t) h Q := en_i2l mm2 dX0_result_66
theorem i2_67 {d l0 l1 l2 l3 l4 t x y h Q} : Ev d 2 67 [l0, l1, l2, l3, l4] (.long y :: .long x :: t) h Q = (¬ y = 0 ∧ Ev d 2 68 [l0, l1, l2, l3, l4] (.long (x / y) :: t) h Q) := en_ldiv mm2 dX0_result_67
theorem i2_68 {d l0 l1 l2 l3 l4 t x h Q} : Ev d 2 68 [l0, l1, l2, l3, l4] (.long x :: t) h Q = Ev d 2 69 [l0, l1, nl l2, some (.long x), none] t h Q := en_lstore_n mm2 dX0_result_68 (of_decide_eq_true rfl) rfl
theorem i2_69 {d l0 l1 l2 l4 t x h Q} : Ev d 2 69 [l0, l1, l2, some (.long x), l4] t h Q = Ev d 2 70 [l0, l1, l2, some (.long x), l4] (.long x :: t) h Q := en_lload_n mm2 dX0_result_69 rfl
theorem i2_70 {d l0 l1 l2 l3 l4 t h Q} : Ev d 2 70 [l0, l1, l2, l3, l4] t h Q = Ev d 2 73 [l0, l1, l2, l3, l4] (.long (-1000000) :: t) h Q := en_ldc2 mm2 dX0_result_70 (by decide +kernel : look _ cstLT = some (375, -1000000)) (by decide)
theorem i2_73 {d l0 l1 l2 l3 l4 t x y h Q} : Ev d 2 73 [l0, l1, l2, l3, l4] (.long y :: .long x :: t) h Q = Ev d 2 74 [l0, l1, l2, l3, l4] (.int (lg_cmp x y) :: t) h Q := en_lcmp mm2 dX0_result_73
theorem i2_74 {d l0 l1 l2 l3 l4 t x h Q} : Ev d 2 74 [l0, l1, l2, l3, l4] (.int x :: t) h Q = if 0 ≤ x then Ev d 2 82 [l0, l1, l2, l3, l4] t h Q else Ev d 2 77 [l0, l1, l2, l3, l4] t h Q := en_if_ge mm2 dX0_result_74 rfl
theorem i2_77 {d l0 l1 l2 l3 l4 t h Q} : Ev d 2 77 [l0, l1, l2, l3, l4] t h Q = Ev d 2 79 [l0, l1, l2, l3, l4] (.int (-1000000) :: t) h Q := en_ldcI mm2 dX0_result_77 (by decide +kernel : look _ cstT = some (376, -1000000)) (by decide)
theorem i2_79 {d l0 l1 l2 l3 l4 t h Q} : Ev d 2 79 [l0, l1, l2, l3, l4] t h Q = Ev d 2 97 [l0, l1, l2, l3, l4] t h Q := en_goto mm2 dX0_result_79 rfl
theorem i2_82 {d l0 l1 l2 l4 t x h Q} : Ev d 2 82 [l0, l1, l2, some (.long x), l4] t h Q = Ev d 2 83 [l0, l1, l2, some (.long x), l4] (.long x :: t) h Q := en_lload_n mm2 dX0_result_82 rfl
theorem i2_83 {d l0 l1 l2 l3 l4 t h Q} : Ev d 2 83 [l0, l1, l2, l3, l4] t h Q = Ev d 2 86 [l0, l1, l2, l3, l4] (.long 1000000 :: t) h Q := en_ldc2 mm2 dX0_result_83 (by decide +kernel : look _ cstLT = some (377, 1000000)) (by decide)
theorem i2_86 {d l0 l1 l2 l3 l4 t x y h Q} : Ev d 2 86 [l0, l1, l2, l3, l4] (.long y :: .long x :: t) h Q = Ev d 2 87 [l0, l1, l2, l3, l4] (.int (lg_cmp x y) :: t) h Q := en_lcmp mm2 dX0_result_86
theorem i2_87 {d l0 l1 l2 l3 l4 t x h Q} : Ev d 2 87 [l0, l1, l2, l3, l4] (.int x :: t) h Q = if x ≤ 0 then Ev d 2 95 [l0, l1, l2, l3, l4] t h Q else Ev d 2 90 [l0, l1, l2, l3, l4] t h Q := en_if_le mm2 dX0_result_87 rfl
theorem i2_90 {d l0 l1 l2 l3 l4 t h Q} : Ev d 2 90 [l0, l1, l2, l3, l4] t h Q = Ev d 2 92 [l0, l1, l2, l3, l4] (.int 1000000 :: t) h Q := en_ldcI mm2 dX0_result_90 (by decide +kernel : look _ cstT = some (378, 1000000)) (by decide)
theorem i2_92 {d l0 l1 l2 l3 l4 t h Q} : Ev d 2 92 [l0, l1, l2, l3, l4] t h Q = Ev d 2 97 [l0, l1, l2, l3, l4] t h Q := en_goto mm2 dX0_result_92 rfl
theorem i2_95 {d l0 l1 l2 l4 t x h Q} : Ev d 2 95 [l0, l1, l2, some (.long x), l4] t h Q = Ev d 2 96 [l0, l1, l2, some (.long x), l4] (.long x :: t) h Q := en_lload_n mm2 dX0_result_95 rfl
theorem i2_96 {d l0 l1 l2 l3 l4 t x h Q} : Ev d 2 96 [l0, l1, l2, l3, l4] (.long x :: t) h Q = Ev d 2 97 [l0, l1, l2, l3, l4] (.int x.toInt32 :: t) h Q := en_l2i mm2 dX0_result_96
theorem i2_97 {d l0 l1 l2 l3 l4 x h Q} : Ev d 2 97 [l0, l1, l2, l3, l4] [.int x] h Q = Q (.inl (some (.int x))) h := en_ireturnI mm2 dX0_result_97 rfl
abbrev em3 : MI := (yX1_init, cX1_init, 3, none, 1, [])
theorem mm3 : mtab[3]? = some em3 := rfl
theorem in3 {d : Nat} {h : AH} {K : AO → AH → Prop} {v0 : Nat} {v1 : Nat} : EvM d 3 [(.ref v0), (.ref v1)] h K = Ev d 3 0 [some (.ref v0), some (.ref v1), none] [] h K := evm_in mm3 (of_decide_eq_true rfl) rfl
theorem i3_0 {d a l1 l2 t h Q} : Ev d 3 0 [some (.ref a), l1, l2] t h Q = Ev d 3 1 [some (.ref a), l1, l2] (.ref a :: t) h Q := en_aload_n mm3 dX1_init_0 rfl
theorem i3_1 {d a l0 l1 l2 h Q} : Ev (d + 1) 3 1 [l0, l1, l2] [.ref a] h Q = Ev (d + 1) 3 4 [l0, l1, l2] [] h Q := en_objinit mm3 dX1_init_1 (by decide +kernel) (of_decide_eq_true rfl)
theorem i3_4 {d a l1 l2 t h Q} : Ev d 3 4 [some (.ref a), l1, l2] t h Q = Ev d 3 5 [some (.ref a), l1, l2] (.ref a :: t) h Q := en_aload_n mm3 dX1_init_4 rfl
theorem i3_5 {d l0 l1 l2 t h Q} : Ev d 3 5 [l0, l1, l2] t h Q = Ev d 3 7 [l0, l1, l2] (.int 8 :: t) h Q := en_bipush mm3 dX1_init_5 (by decide)
theorem i3_7 {d l0 l1 l2 t x h Q} : Ev d 3 7 [l0, l1, l2] (.int x :: t) h Q = (¬ (x < 0 ∨ 60000000 < x.toNatClampNeg) ∧ Ev d 3 10 [l0, l1, l2] (.ref (hN h) :: t) (alA h 13 x.toNatClampNeg) Q) := en_newL mm3 dX1_init_7 (by decide +kernel : look _ clsT = some (294, 2)) (by decide) rfl
theorem i3_10 {d a b l0 l1 l2 t h Q} : Ev d 3 10 [l0, l1, l2] (.ref b :: .ref a :: t) h Q = (hk h a = 2 ∧ Ev d 3 13 [l0, l1, l2] t (wF h a 0 (.ref b)) Q) := en_putfield (cj := 1) mm3 dX1_init_10 (by decide +kernel) rfl
theorem i3_13 {d l0 l1 l2 t h Q} : Ev d 3 13 [l0, l1, l2] t h Q = Ev d 3 14 [l0, l1, l2] (.int 0 :: t) h Q := en_iconst mm3 dX1_init_13 (by decide)
theorem i3_14 {d l0 l1 l2 t x h Q} : Ev d 3 14 [l0, l1, l2] (.int x :: t) h Q = Ev d 3 15 [l0, nl l1, some (.int x)] t h Q := en_istore_n mm3 dX1_init_14 (of_decide_eq_true rfl) rfl
theorem i3_15 {d l0 l1 t x h Q} : Ev d 3 15 [l0, l1, some (.int x)] t h Q = Ev d 3 16 [l0, l1, some (.int x)] (.int x :: t) h Q := en_iload_n mm3 dX1_init_15 rfl
theorem i3_16 {d l0 l1 l2 t h Q} : Ev d 3 16 [l0, l1, l2] t h Q = Ev d 3 18 [l0, l1, l2] (.int 8 :: t) h Q := en_bipush mm3 dX1_init_16 (by decide)
theorem i3_18 {d l0 l1 l2 t x y h Q} : Ev d 3 18 [l0, l1, l2] (.int y :: .int x :: t) h Q = if y ≤ x then Ev d 3 41 [l0, l1, l2] t h Q else Ev d 3 21 [l0, l1, l2] t h Q := en_ic_ge mm3 dX1_init_18 rfl
theorem i3_21 {d a l1 l2 t h Q} : Ev d 3 21 [some (.ref a), l1, l2] t h Q = Ev d 3 22 [some (.ref a), l1, l2] (.ref a :: t) h Q := en_aload_n mm3 dX1_init_21 rfl
theorem i3_22 {d a l0 l1 l2 t h Q} : Ev d 3 22 [l0, l1, l2] (.ref a :: t) h Q = (hk h a = 2 ∧ Ev d 3 25 [l0, l1, l2] (hF h a 0 :: t) h Q) := en_getfield (cj := 1) mm3 dX1_init_22 (by decide +kernel)
theorem i3_25 {d l0 l1 t x h Q} : Ev d 3 25 [l0, l1, some (.int x)] t h Q = Ev d 3 26 [l0, l1, some (.int x)] (.int x :: t) h Q := en_iload_n mm3 dX1_init_25 rfl
theorem i3_26 {d l0 l1 l2 t h Q} : Ev d 3 26 [l0, l1, l2] t h Q = Ev d 3 29 [l0, l1, l2] (.ref (hN h) :: t) (alO h 3 15 (dfl 2)) Q := en_new mm3 dX1_init_26 (by decide +kernel : look _ clsT = some (294, 2)) rfl
theorem i3_29 {d a l0 l1 l2 t h Q} : Ev d 3 29 [l0, l1, l2] (.ref a :: t) h Q = Ev d 3 30 [l0, l1, l2] (.ref a :: .ref a :: t) h Q := en_dup mm3 dX1_init_29
theorem i3_30 {d a l0 l2 t h Q} : Ev d 3 30 [l0, some (.ref a), l2] t h Q = Ev d 3 31 [l0, some (.ref a), l2] (.ref a :: t) h Q := en_aload_n mm3 dX1_init_30 rfl
theorem i3_31 {d a l0 l1 l2 x0 x2 x3 x4 h Q} : Ev (d + 1) 3 31 [l0, l1, l2] [x0, .ref a, x2, x3, x4] h Q = (hk h a = 3 ∧ EvM d 6 [.ref a, x0] h (konN (d + 1) 3 34 [l0, l1, l2] [x2, x3, x4] Q)) := en_specialN mm3 dX1_init_31 (by decide +kernel : ml _ _ = some (5, 6)) (by decide) (rfl : mtab[6]? = some _) (by decide +kernel : npar _ = 1) rfl (by decide) rfl (of_decide_eq_true rfl) (len_cat (of_decide_eq_true rfl)) rfl rfl rfl
theorem i3_34 {d l0 l1 l2 t h Q j v a} (h0 : hk h a = 13) : Ev d 3 34 [l0, l1, l2] (.ref v :: .int j :: .ref a :: t) h Q = (hk h v = 3 ∧ inb j (hl h a) ∧ Ev d 3 35 [l0, l1, l2] t (wR h a (va_up (hR h a) j.toNatClampNeg (some v))) Q) := en_aastoreK mm3 dX1_init_34 (by decide) h0
theorem i3_35 {d l0 l1 t x h Q} : Ev d 3 35 [l0, l1, some (.int x)] t h Q = Ev d 3 38 [l0, nl l1, some (.int (x + 1))] t h Q := en_iinc mm3 dX1_init_35 rfl (by decide) rfl
theorem i3_38 {d l0 l1 l2 t h Q} : Ev d 3 38 [l0, l1, l2] t h Q = Ev d 3 15 [l0, l1, l2] t h Q := en_goto mm3 dX1_init_38 rfl
theorem i3_41 {d l0 l1 l2 h Q} : Ev d 3 41 [l0, l1, l2] [] h Q = Q (.inl none) h := en_return mm3 dX1_init_41 rfl
abbrev em4 : MI := (yX1_remember, cX1_remember, 2, none, 1, [])
theorem mm4 : mtab[4]? = some em4 := rfl
theorem in4 {d : Nat} {h : AH} {K : AO → AH → Prop} {v0 : Nat} {v1 : Nat} : EvM d 4 [(.ref v0), (.ref v1)] h K = Ev d 4 0 [some (.ref v0), some (.ref v1)] [] h K := evm_in mm4 (of_decide_eq_true rfl) rfl
theorem i4_0 {d a l1 t h Q} : Ev d 4 0 [some (.ref a), l1] t h Q = Ev d 4 1 [some (.ref a), l1] (.ref a :: t) h Q := en_aload_n mm4 dX1_remember_0 rfl
theorem i4_1 {d a l0 l1 t h Q} : Ev d 4 1 [l0, l1] (.ref a :: t) h Q = (hk h a = 2 ∧ Ev d 4 4 [l0, l1] (hF h a 0 :: t) h Q) := en_getfield (cj := 1) mm4 dX1_remember_1 (by decide +kernel)
theorem i4_4 {d a l1 t h Q} : Ev d 4 4 [some (.ref a), l1] t h Q = Ev d 4 5 [some (.ref a), l1] (.ref a :: t) h Q := en_aload_n mm4 dX1_remember_4 rfl
theorem i4_5 {d a l0 l1 t h Q} : Ev d 4 5 [l0, l1] (.ref a :: t) h Q = (hk h a = 2 ∧ Ev d 4 8 [l0, l1] (hF h a 1 :: t) h Q) := en_getfield (cj := 1) mm4 dX1_remember_5 (by decide +kernel)
theorem i4_8 {d a j l0 l1 t h Q} : Ev d 4 8 [l0, l1] (.int j :: .ref a :: t) h Q = ((13 ≤ hk h a ∧ hk h a ≤ 16) ∧ inb j (hl h a) ∧ Ev d 4 9 [l0, l1] (orv (hR h a j.toNatClampNeg) :: t) h Q) := en_aaload mm4 dX1_remember_8
theorem i4_9 {d a l0 t h Q} : Ev d 4 9 [l0, some (.ref a)] t h Q = Ev d 4 10 [l0, some (.ref a)] (.ref a :: t) h Q := en_aload_n mm4 dX1_remember_9 rfl
theorem i4_10 {d a l0 l1 x0 h Q} : Ev (d + 1) 4 10 [l0, l1] [x0, .ref a] h Q = (hk h a = 3 ∧ EvM d 13 [.ref a, x0] h (konN (d + 1) 4 13 [l0, l1] [] Q)) := en_virtualN mm4 dX1_remember_10 (by decide +kernel : ml _ _ = some (3, 13)) (by decide) (rfl : mtab[13]? = some _) (by decide +kernel : npar _ = 1) rfl (by decide) rfl (of_decide_eq_true rfl) (len_cat (of_decide_eq_true rfl)) rfl rfl rfl
theorem i4_13 {d a l1 t h Q} : Ev d 4 13 [some (.ref a), l1] t h Q = Ev d 4 14 [some (.ref a), l1] (.ref a :: t) h Q := en_aload_n mm4 dX1_remember_13 rfl
theorem i4_14 {d a l1 t h Q} : Ev d 4 14 [some (.ref a), l1] t h Q = Ev d 4 15 [some (.ref a), l1] (.ref a :: t) h Q := en_aload_n mm4 dX1_remember_14 rfl
theorem i4_15 {d a l0 l1 t h Q} : Ev d 4 15 [l0, l1] (.ref a :: t) h Q = (hk h a = 2 ∧ Ev d 4 18 [l0, l1] (hF h a 1 :: t) h Q) := en_getfield (cj := 1) mm4 dX1_remember_15 (by decide +kernel)
theorem i4_18 {d l0 l1 t h Q} : Ev d 4 18 [l0, l1] t h Q = Ev d 4 19 [l0, l1] (.int 1 :: t) h Q := en_iconst mm4 dX1_remember_18 (by decide)
theorem i4_19 {d l0 l1 t x y h Q} : Ev d 4 19 [l0, l1] (.int y :: .int x :: t) h Q = Ev d 4 20 [l0, l1] (.int (x + y) :: t) h Q := en_iadd mm4 dX1_remember_19
theorem i4_20 {d l0 l1 t h Q} : Ev d 4 20 [l0, l1] t h Q = Ev d 4 22 [l0, l1] (.int 8 :: t) h Q := en_bipush mm4 dX1_remember_20 (by decide)
theorem i4_22 {d l0 l1 t x y h Q} : Ev d 4 22 [l0, l1] (.int y :: .int x :: t) h Q = (¬ y = 0 ∧ Ev d 4 23 [l0, l1] (.int (x - x / y * y) :: t) h Q) := en_irem mm4 dX1_remember_22
theorem i4_23 {d a l0 l1 t x h Q} : Ev d 4 23 [l0, l1] (.int x :: .ref a :: t) h Q = (hk h a = 2 ∧ Ev d 4 26 [l0, l1] t (wF h a 1 (.int x)) Q) := en_putfield (cj := 1) mm4 dX1_remember_23 (by decide +kernel) rfl
theorem i4_26 {d a l1 t h Q} : Ev d 4 26 [some (.ref a), l1] t h Q = Ev d 4 27 [some (.ref a), l1] (.ref a :: t) h Q := en_aload_n mm4 dX1_remember_26 rfl
theorem i4_27 {d a l1 t h Q} : Ev d 4 27 [some (.ref a), l1] t h Q = Ev d 4 28 [some (.ref a), l1] (.ref a :: t) h Q := en_aload_n mm4 dX1_remember_27 rfl
theorem i4_28 {d a l0 l1 t h Q} : Ev d 4 28 [l0, l1] (.ref a :: t) h Q = (hk h a = 2 ∧ Ev d 4 31 [l0, l1] (hF h a 2 :: t) h Q) := en_getfield (cj := 1) mm4 dX1_remember_28 (by decide +kernel)
theorem i4_31 {d l0 l1 t h Q} : Ev d 4 31 [l0, l1] t h Q = Ev d 4 32 [l0, l1] (.int 1 :: t) h Q := en_iconst mm4 dX1_remember_31 (by decide)
theorem i4_32 {d l0 l1 t x y h Q} : Ev d 4 32 [l0, l1] (.int y :: .int x :: t) h Q = Ev d 4 33 [l0, l1] (.int (x + y) :: t) h Q := en_iadd mm4 dX1_remember_32
theorem i4_33 {d l0 l1 t h Q} : Ev d 4 33 [l0, l1] t h Q = Ev d 4 35 [l0, l1] (.int 8 :: t) h Q := en_bipush mm4 dX1_remember_33 (by decide)
theorem i4_35 {d l0 l1 x x0 y h Q} : Ev (d + 1) 4 35 [l0, l1] [.int y, .int x, x0] h Q = Ev (d + 1) 4 38 [l0, l1] [.int (if y < x then y else x), x0] h Q := en_min mm4 dX1_remember_35 (by decide +kernel) (of_decide_eq_true rfl)
theorem i4_38 {d a l0 l1 t x h Q} : Ev d 4 38 [l0, l1] (.int x :: .ref a :: t) h Q = (hk h a = 2 ∧ Ev d 4 41 [l0, l1] t (wF h a 2 (.int x)) Q) := en_putfield (cj := 1) mm4 dX1_remember_38 (by decide +kernel) rfl
theorem i4_41 {d l0 l1 h Q} : Ev d 4 41 [l0, l1] [] h Q = Q (.inl none) h := en_return mm4 dX1_remember_41 rfl
abbrev em5 : MI := (yX1_restoreLatest, cX1_restoreLatest, 2, some .int, 1, [])
theorem mm5 : mtab[5]? = some em5 := rfl
theorem in5 {d : Nat} {h : AH} {K : AO → AH → Prop} {v0 : Nat} {v1 : Nat} : EvM d 5 [(.ref v0), (.ref v1)] h K = Ev d 5 0 [some (.ref v0), some (.ref v1)] [] h K := evm_in mm5 (of_decide_eq_true rfl) rfl
theorem i5_0 {d a l1 t h Q} : Ev d 5 0 [some (.ref a), l1] t h Q = Ev d 5 1 [some (.ref a), l1] (.ref a :: t) h Q := en_aload_n mm5 dX1_restoreLatest_0 rfl
theorem i5_1 {d a l0 l1 t h Q} : Ev d 5 1 [l0, l1] (.ref a :: t) h Q = (hk h a = 2 ∧ Ev d 5 4 [l0, l1] (hF h a 2 :: t) h Q) := en_getfield (cj := 1) mm5 dX1_restoreLatest_1 (by decide +kernel)
theorem i5_4 {d l0 l1 t x h Q} : Ev d 5 4 [l0, l1] (.int x :: t) h Q = if x = 0 then Ev d 5 7 [l0, l1] t h Q else Ev d 5 9 [l0, l1] t h Q := en_if_ne mm5 dX1_restoreLatest_4 rfl
theorem i5_7 {d l0 l1 t h Q} : Ev d 5 7 [l0, l1] t h Q = Ev d 5 8 [l0, l1] (.int (-1) :: t) h Q := en_iconst mm5 dX1_restoreLatest_7 (by decide)
theorem i5_8 {d l0 l1 x h Q} : Ev d 5 8 [l0, l1] [.int x] h Q = Q (.inl (some (.int x))) h := en_ireturnI mm5 dX1_restoreLatest_8 rfl
theorem i5_9 {d a l1 t h Q} : Ev d 5 9 [some (.ref a), l1] t h Q = Ev d 5 10 [some (.ref a), l1] (.ref a :: t) h Q := en_aload_n mm5 dX1_restoreLatest_9 rfl
theorem i5_10 {d a l1 t h Q} : Ev d 5 10 [some (.ref a), l1] t h Q = Ev d 5 11 [some (.ref a), l1] (.ref a :: t) h Q := en_aload_n mm5 dX1_restoreLatest_10 rfl
theorem i5_11 {d a l0 l1 t h Q} : Ev d 5 11 [l0, l1] (.ref a :: t) h Q = (hk h a = 2 ∧ Ev d 5 14 [l0, l1] (hF h a 1 :: t) h Q) := en_getfield (cj := 1) mm5 dX1_restoreLatest_11 (by decide +kernel)
theorem i5_14 {d l0 l1 t h Q} : Ev d 5 14 [l0, l1] t h Q = Ev d 5 16 [l0, l1] (.int 8 :: t) h Q := en_bipush mm5 dX1_restoreLatest_14 (by decide)
theorem i5_16 {d l0 l1 t x y h Q} : Ev d 5 16 [l0, l1] (.int y :: .int x :: t) h Q = Ev d 5 17 [l0, l1] (.int (x + y) :: t) h Q := en_iadd mm5 dX1_restoreLatest_16
theorem i5_17 {d l0 l1 t h Q} : Ev d 5 17 [l0, l1] t h Q = Ev d 5 18 [l0, l1] (.int 1 :: t) h Q := en_iconst mm5 dX1_restoreLatest_17 (by decide)
theorem i5_18 {d l0 l1 t x y h Q} : Ev d 5 18 [l0, l1] (.int y :: .int x :: t) h Q = Ev d 5 19 [l0, l1] (.int (x - y) :: t) h Q := en_isub mm5 dX1_restoreLatest_18
theorem i5_19 {d l0 l1 t h Q} : Ev d 5 19 [l0, l1] t h Q = Ev d 5 21 [l0, l1] (.int 8 :: t) h Q := en_bipush mm5 dX1_restoreLatest_19 (by decide)
theorem i5_21 {d l0 l1 t x y h Q} : Ev d 5 21 [l0, l1] (.int y :: .int x :: t) h Q = (¬ y = 0 ∧ Ev d 5 22 [l0, l1] (.int (x - x / y * y) :: t) h Q) := en_irem mm5 dX1_restoreLatest_21
theorem i5_22 {d a l0 l1 t x h Q} : Ev d 5 22 [l0, l1] (.int x :: .ref a :: t) h Q = (hk h a = 2 ∧ Ev d 5 25 [l0, l1] t (wF h a 1 (.int x)) Q) := en_putfield (cj := 1) mm5 dX1_restoreLatest_22 (by decide +kernel) rfl
theorem i5_25 {d a l0 t h Q} : Ev d 5 25 [l0, some (.ref a)] t h Q = Ev d 5 26 [l0, some (.ref a)] (.ref a :: t) h Q := en_aload_n mm5 dX1_restoreLatest_25 rfl
theorem i5_26 {d a l1 t h Q} : Ev d 5 26 [some (.ref a), l1] t h Q = Ev d 5 27 [some (.ref a), l1] (.ref a :: t) h Q := en_aload_n mm5 dX1_restoreLatest_26 rfl
theorem i5_27 {d a l0 l1 t h Q} : Ev d 5 27 [l0, l1] (.ref a :: t) h Q = (hk h a = 2 ∧ Ev d 5 30 [l0, l1] (hF h a 0 :: t) h Q) := en_getfield (cj := 1) mm5 dX1_restoreLatest_27 (by decide +kernel)
theorem i5_30 {d a l1 t h Q} : Ev d 5 30 [some (.ref a), l1] t h Q = Ev d 5 31 [some (.ref a), l1] (.ref a :: t) h Q := en_aload_n mm5 dX1_restoreLatest_30 rfl
theorem i5_31 {d a l0 l1 t h Q} : Ev d 5 31 [l0, l1] (.ref a :: t) h Q = (hk h a = 2 ∧ Ev d 5 34 [l0, l1] (hF h a 1 :: t) h Q) := en_getfield (cj := 1) mm5 dX1_restoreLatest_31 (by decide +kernel)
theorem i5_34 {d a j l0 l1 t h Q} : Ev d 5 34 [l0, l1] (.int j :: .ref a :: t) h Q = ((13 ≤ hk h a ∧ hk h a ≤ 16) ∧ inb j (hl h a) ∧ Ev d 5 35 [l0, l1] (orv (hR h a j.toNatClampNeg) :: t) h Q) := en_aaload mm5 dX1_restoreLatest_34
theorem i5_35 {d a l0 l1 x0 h Q} : Ev (d + 1) 5 35 [l0, l1] [x0, .ref a] h Q = (hk h a = 3 ∧ EvM d 13 [.ref a, x0] h (konN (d + 1) 5 38 [l0, l1] [] Q)) := en_virtualN mm5 dX1_restoreLatest_35 (by decide +kernel : ml _ _ = some (3, 13)) (by decide) (rfl : mtab[13]? = some _) (by decide +kernel : npar _ = 1) rfl (by decide) rfl (of_decide_eq_true rfl) (len_cat (of_decide_eq_true rfl)) rfl rfl rfl
theorem i5_38 {d a l1 t h Q} : Ev d 5 38 [some (.ref a), l1] t h Q = Ev d 5 39 [some (.ref a), l1] (.ref a :: t) h Q := en_aload_n mm5 dX1_restoreLatest_38 rfl
theorem i5_39 {d a l0 l1 t h Q} : Ev d 5 39 [l0, l1] (.ref a :: t) h Q = Ev d 5 40 [l0, l1] (.ref a :: .ref a :: t) h Q := en_dup mm5 dX1_restoreLatest_39
theorem i5_40 {d a l0 l1 t h Q} : Ev d 5 40 [l0, l1] (.ref a :: t) h Q = (hk h a = 2 ∧ Ev d 5 43 [l0, l1] (hF h a 2 :: t) h Q) := en_getfield (cj := 1) mm5 dX1_restoreLatest_40 (by decide +kernel)
theorem i5_43 {d l0 l1 t h Q} : Ev d 5 43 [l0, l1] t h Q = Ev d 5 44 [l0, l1] (.int 1 :: t) h Q := en_iconst mm5 dX1_restoreLatest_43 (by decide)
theorem i5_44 {d l0 l1 t x y h Q} : Ev d 5 44 [l0, l1] (.int y :: .int x :: t) h Q = Ev d 5 45 [l0, l1] (.int (x - y) :: t) h Q := en_isub mm5 dX1_restoreLatest_44
theorem i5_45 {d a l0 l1 t x h Q} : Ev d 5 45 [l0, l1] (.int x :: .ref a :: t) h Q = (hk h a = 2 ∧ Ev d 5 48 [l0, l1] t (wF h a 2 (.int x)) Q) := en_putfield (cj := 1) mm5 dX1_restoreLatest_45 (by decide +kernel) rfl
theorem i5_48 {d a l1 t h Q} : Ev d 5 48 [some (.ref a), l1] t h Q = Ev d 5 49 [some (.ref a), l1] (.ref a :: t) h Q := en_aload_n mm5 dX1_restoreLatest_48 rfl
theorem i5_49 {d a l0 l1 t h Q} : Ev d 5 49 [l0, l1] (.ref a :: t) h Q = (hk h a = 2 ∧ Ev d 5 52 [l0, l1] (hF h a 2 :: t) h Q) := en_getfield (cj := 1) mm5 dX1_restoreLatest_49 (by decide +kernel)
theorem i5_52 {d l0 l1 x h Q} : Ev d 5 52 [l0, l1] [.int x] h Q = Q (.inl (some (.int x))) h := en_ireturnI mm5 dX1_restoreLatest_52 rfl
abbrev em6 : MI := (yX2_init, cX2_init, 2, none, 2, [])
theorem mm6 : mtab[6]? = some em6 := rfl
theorem in6 {d : Nat} {h : AH} {K : AO → AH → Prop} {v0 : Nat} {v1 : Nat} : EvM d 6 [(.ref v0), (.ref v1)] h K = Ev d 6 0 [some (.ref v0), some (.ref v1)] [] h K := evm_in mm6 (of_decide_eq_true rfl) rfl
theorem i6_0 {d a l1 t h Q} : Ev d 6 0 [some (.ref a), l1] t h Q = Ev d 6 1 [some (.ref a), l1] (.ref a :: t) h Q := en_aload_n mm6 dX2_init_0 rfl
theorem i6_1 {d a l0 l1 h Q} : Ev (d + 1) 6 1 [l0, l1] [.ref a] h Q = Ev (d + 1) 6 4 [l0, l1] [] h Q := en_objinit mm6 dX2_init_1 (by decide +kernel) (of_decide_eq_true rfl)
theorem i6_4 {d a l1 t h Q} : Ev d 6 4 [some (.ref a), l1] t h Q = Ev d 6 5 [some (.ref a), l1] (.ref a :: t) h Q := en_aload_n mm6 dX2_init_4 rfl
theorem i6_5 {d a l0 t h Q} : Ev d 6 5 [l0, some (.ref a)] t h Q = Ev d 6 6 [l0, some (.ref a)] (.ref a :: t) h Q := en_aload_n mm6 dX2_init_5 rfl
theorem i6_6 {d a b l0 l1 t h Q} : Ev d 6 6 [l0, l1] (.ref b :: .ref a :: t) h Q = (hk h a = 3 ∧ Ev d 6 9 [l0, l1] t (wF h a 0 (.ref b)) Q) := en_putfield (cj := 2) mm6 dX2_init_6 (by decide +kernel) rfl
theorem i6_9 {d a l1 t h Q} : Ev d 6 9 [some (.ref a), l1] t h Q = Ev d 6 10 [some (.ref a), l1] (.ref a :: t) h Q := en_aload_n mm6 dX2_init_9 rfl
theorem i6_10 {d l0 l1 t h Q} : Ev d 6 10 [l0, l1] t h Q = Ev d 6 11 [l0, l1] (.int (-1) :: t) h Q := en_iconst mm6 dX2_init_10 (by decide)
theorem i6_11 {d a l0 l1 t x h Q} : Ev d 6 11 [l0, l1] (.int x :: .ref a :: t) h Q = (hk h a = 3 ∧ Ev d 6 14 [l0, l1] t (wF h a 3 (.int x)) Q) := en_putfield (cj := 2) mm6 dX2_init_11 (by decide +kernel) rfl
theorem i6_14 {d a l1 t h Q} : Ev d 6 14 [some (.ref a), l1] t h Q = Ev d 6 15 [some (.ref a), l1] (.ref a :: t) h Q := en_aload_n mm6 dX2_init_14 rfl
theorem i6_15 {d l0 l1 t h Q} : Ev d 6 15 [l0, l1] t h Q = Ev d 6 17 [l0, l1] (.int 6 :: t) h Q := en_bipush mm6 dX2_init_15 (by decide)
theorem i6_17 {d l0 l1 t x h Q} : Ev d 6 17 [l0, l1] (.int x :: t) h Q = (¬ (x < 0 ∨ 60000000 < x.toNatClampNeg) ∧ Ev d 6 19 [l0, l1] (.ref (hN h) :: t) (alA h 10 x.toNatClampNeg) Q) := en_newI mm6 dX2_init_17
theorem i6_19 {d a b l0 l1 t h Q} : Ev d 6 19 [l0, l1] (.ref b :: .ref a :: t) h Q = (hk h a = 3 ∧ Ev d 6 22 [l0, l1] t (wF h a 5 (.ref b)) Q) := en_putfield (cj := 2) mm6 dX2_init_19 (by decide +kernel) rfl
theorem i6_22 {d a l1 t h Q} : Ev d 6 22 [some (.ref a), l1] t h Q = Ev d 6 23 [some (.ref a), l1] (.ref a :: t) h Q := en_aload_n mm6 dX2_init_22 rfl
theorem i6_23 {d l0 l1 t h Q} : Ev d 6 23 [l0, l1] t h Q = Ev d 6 25 [l0, l1] (.int 6 :: t) h Q := en_bipush mm6 dX2_init_23 (by decide)
theorem i6_25 {d l0 l1 t x h Q} : Ev d 6 25 [l0, l1] (.int x :: t) h Q = (¬ (x < 0 ∨ 60000000 < x.toNatClampNeg) ∧ Ev d 6 27 [l0, l1] (.ref (hN h) :: t) (alA h 10 x.toNatClampNeg) Q) := en_newI mm6 dX2_init_25
theorem i6_27 {d a b l0 l1 t h Q} : Ev d 6 27 [l0, l1] (.ref b :: .ref a :: t) h Q = (hk h a = 3 ∧ Ev d 6 30 [l0, l1] t (wF h a 6 (.ref b)) Q) := en_putfield (cj := 2) mm6 dX2_init_27 (by decide +kernel) rfl
theorem i6_30 {d a l1 t h Q} : Ev d 6 30 [some (.ref a), l1] t h Q = Ev d 6 31 [some (.ref a), l1] (.ref a :: t) h Q := en_aload_n mm6 dX2_init_30 rfl
theorem i6_31 {d l0 l1 t h Q} : Ev d 6 31 [l0, l1] t h Q = Ev d 6 33 [l0, l1] (.int 6 :: t) h Q := en_bipush mm6 dX2_init_31 (by decide)
theorem i6_33 {d l0 l1 t x h Q} : Ev d 6 33 [l0, l1] (.int x :: t) h Q = (¬ (x < 0 ∨ 60000000 < x.toNatClampNeg) ∧ Ev d 6 35 [l0, l1] (.ref (hN h) :: t) (alA h 10 x.toNatClampNeg) Q) := en_newI mm6 dX2_init_33
theorem i6_35 {d a b l0 l1 t h Q} : Ev d 6 35 [l0, l1] (.ref b :: .ref a :: t) h Q = (hk h a = 3 ∧ Ev d 6 38 [l0, l1] t (wF h a 7 (.ref b)) Q) := en_putfield (cj := 2) mm6 dX2_init_35 (by decide +kernel) rfl
theorem i6_38 {d a l1 t h Q} : Ev d 6 38 [some (.ref a), l1] t h Q = Ev d 6 39 [some (.ref a), l1] (.ref a :: t) h Q := en_aload_n mm6 dX2_init_38 rfl
theorem i6_39 {d l0 l1 t h Q} : Ev d 6 39 [l0, l1] t h Q = Ev d 6 41 [l0, l1] (.int 20 :: t) h Q := en_bipush mm6 dX2_init_39 (by decide)
theorem i6_41 {d l0 l1 t x h Q} : Ev d 6 41 [l0, l1] (.int x :: t) h Q = (¬ (x < 0 ∨ 60000000 < x.toNatClampNeg) ∧ Ev d 6 43 [l0, l1] (.ref (hN h) :: t) (alA h 10 x.toNatClampNeg) Q) := en_newI mm6 dX2_init_41
theorem i6_43 {d a b l0 l1 t h Q} : Ev d 6 43 [l0, l1] (.ref b :: .ref a :: t) h Q = (hk h a = 3 ∧ Ev d 6 46 [l0, l1] t (wF h a 8 (.ref b)) Q) := en_putfield (cj := 2) mm6 dX2_init_43 (by decide +kernel) rfl
theorem i6_46 {d a l1 t h Q} : Ev d 6 46 [some (.ref a), l1] t h Q = Ev d 6 47 [some (.ref a), l1] (.ref a :: t) h Q := en_aload_n mm6 dX2_init_46 rfl
theorem i6_47 {d l0 l1 t h Q} : Ev d 6 47 [l0, l1] t h Q = Ev d 6 49 [l0, l1] (.int 20 :: t) h Q := en_bipush mm6 dX2_init_47 (by decide)
theorem i6_49 {d l0 l1 t x h Q} : Ev d 6 49 [l0, l1] (.int x :: t) h Q = (¬ (x < 0 ∨ 60000000 < x.toNatClampNeg) ∧ Ev d 6 51 [l0, l1] (.ref (hN h) :: t) (alA h 10 x.toNatClampNeg) Q) := en_newI mm6 dX2_init_49
theorem i6_51 {d a b l0 l1 t h Q} : Ev d 6 51 [l0, l1] (.ref b :: .ref a :: t) h Q = (hk h a = 3 ∧ Ev d 6 54 [l0, l1] t (wF h a 9 (.ref b)) Q) := en_putfield (cj := 2) mm6 dX2_init_51 (by decide +kernel) rfl
theorem i6_54 {d a l1 t h Q} : Ev d 6 54 [some (.ref a), l1] t h Q = Ev d 6 55 [some (.ref a), l1] (.ref a :: t) h Q := en_aload_n mm6 dX2_init_54 rfl
theorem i6_55 {d l0 l1 t h Q} : Ev d 6 55 [l0, l1] t h Q = Ev d 6 57 [l0, l1] (.int 20 :: t) h Q := en_bipush mm6 dX2_init_55 (by decide)
theorem i6_57 {d l0 l1 t x h Q} : Ev d 6 57 [l0, l1] (.int x :: t) h Q = (¬ (x < 0 ∨ 60000000 < x.toNatClampNeg) ∧ Ev d 6 59 [l0, l1] (.ref (hN h) :: t) (alA h 10 x.toNatClampNeg) Q) := en_newI mm6 dX2_init_57
theorem i6_59 {d a b l0 l1 t h Q} : Ev d 6 59 [l0, l1] (.ref b :: .ref a :: t) h Q = (hk h a = 3 ∧ Ev d 6 62 [l0, l1] t (wF h a 10 (.ref b)) Q) := en_putfield (cj := 2) mm6 dX2_init_59 (by decide +kernel) rfl
theorem i6_62 {d a l1 t h Q} : Ev d 6 62 [some (.ref a), l1] t h Q = Ev d 6 63 [some (.ref a), l1] (.ref a :: t) h Q := en_aload_n mm6 dX2_init_62 rfl
theorem i6_63 {d l0 l1 t h Q} : Ev d 6 63 [l0, l1] t h Q = Ev d 6 65 [l0, l1] (.int 20 :: t) h Q := en_bipush mm6 dX2_init_63 (by decide)
theorem i6_65 {d l0 l1 t x h Q} : Ev d 6 65 [l0, l1] (.int x :: t) h Q = (¬ (x < 0 ∨ 60000000 < x.toNatClampNeg) ∧ Ev d 6 67 [l0, l1] (.ref (hN h) :: t) (alA h 10 x.toNatClampNeg) Q) := en_newI mm6 dX2_init_65
theorem i6_67 {d a b l0 l1 t h Q} : Ev d 6 67 [l0, l1] (.ref b :: .ref a :: t) h Q = (hk h a = 3 ∧ Ev d 6 70 [l0, l1] t (wF h a 11 (.ref b)) Q) := en_putfield (cj := 2) mm6 dX2_init_67 (by decide +kernel) rfl
theorem i6_70 {d a l1 t h Q} : Ev d 6 70 [some (.ref a), l1] t h Q = Ev d 6 71 [some (.ref a), l1] (.ref a :: t) h Q := en_aload_n mm6 dX2_init_70 rfl
theorem i6_71 {d l0 l1 t h Q} : Ev d 6 71 [l0, l1] t h Q = Ev d 6 73 [l0, l1] (.int 20 :: t) h Q := en_bipush mm6 dX2_init_71 (by decide)
theorem i6_73 {d l0 l1 t x h Q} : Ev d 6 73 [l0, l1] (.int x :: t) h Q = (¬ (x < 0 ∨ 60000000 < x.toNatClampNeg) ∧ Ev d 6 75 [l0, l1] (.ref (hN h) :: t) (alA h 10 x.toNatClampNeg) Q) := en_newI mm6 dX2_init_73
theorem i6_75 {d a b l0 l1 t h Q} : Ev d 6 75 [l0, l1] (.ref b :: .ref a :: t) h Q = (hk h a = 3 ∧ Ev d 6 78 [l0, l1] t (wF h a 12 (.ref b)) Q) := en_putfield (cj := 2) mm6 dX2_init_75 (by decide +kernel) rfl
theorem i6_78 {d a l1 t h Q} : Ev d 6 78 [some (.ref a), l1] t h Q = Ev d 6 79 [some (.ref a), l1] (.ref a :: t) h Q := en_aload_n mm6 dX2_init_78 rfl
theorem i6_79 {d l0 l1 t h Q} : Ev d 6 79 [l0, l1] t h Q = Ev d 6 81 [l0, l1] (.int 20 :: t) h Q := en_bipush mm6 dX2_init_79 (by decide)
theorem i6_81 {d l0 l1 t x h Q} : Ev d 6 81 [l0, l1] (.int x :: t) h Q = (¬ (x < 0 ∨ 60000000 < x.toNatClampNeg) ∧ Ev d 6 83 [l0, l1] (.ref (hN h) :: t) (alA h 10 x.toNatClampNeg) Q) := en_newI mm6 dX2_init_81
theorem i6_83 {d a b l0 l1 t h Q} : Ev d 6 83 [l0, l1] (.ref b :: .ref a :: t) h Q = (hk h a = 3 ∧ Ev d 6 86 [l0, l1] t (wF h a 13 (.ref b)) Q) := en_putfield (cj := 2) mm6 dX2_init_83 (by decide +kernel) rfl
theorem i6_86 {d a l1 t h Q} : Ev d 6 86 [some (.ref a), l1] t h Q = Ev d 6 87 [some (.ref a), l1] (.ref a :: t) h Q := en_aload_n mm6 dX2_init_86 rfl
theorem i6_87 {d l0 l1 t h Q} : Ev d 6 87 [l0, l1] t h Q = Ev d 6 89 [l0, l1] (.int 20 :: t) h Q := en_bipush mm6 dX2_init_87 (by decide)
theorem i6_89 {d l0 l1 t x h Q} : Ev d 6 89 [l0, l1] (.int x :: t) h Q = (¬ (x < 0 ∨ 60000000 < x.toNatClampNeg) ∧ Ev d 6 91 [l0, l1] (.ref (hN h) :: t) (alA h 10 x.toNatClampNeg) Q) := en_newI mm6 dX2_init_89
theorem i6_91 {d a b l0 l1 t h Q} : Ev d 6 91 [l0, l1] (.ref b :: .ref a :: t) h Q = (hk h a = 3 ∧ Ev d 6 94 [l0, l1] t (wF h a 14 (.ref b)) Q) := en_putfield (cj := 2) mm6 dX2_init_91 (by decide +kernel) rfl
theorem i6_94 {d l0 l1 h Q} : Ev d 6 94 [l0, l1] [] h Q = Q (.inl none) h := en_return mm6 dX2_init_94 rfl
abbrev em7 : MI := (yX2_exists, cX2_exists, 1, some .boolean, 2, [])
theorem mm7 : mtab[7]? = some em7 := rfl
theorem in7 {d : Nat} {h : AH} {K : AO → AH → Prop} {v0 : Nat} : EvM d 7 [(.ref v0)] h K = Ev d 7 0 [some (.ref v0)] [] h K := evm_in mm7 (of_decide_eq_true rfl) rfl
theorem i7_0 {d a t h Q} : Ev d 7 0 [some (.ref a)] t h Q = Ev d 7 1 [some (.ref a)] (.ref a :: t) h Q := en_aload_n mm7 dX2_exists_0 rfl
theorem i7_1 {d a l0 t h Q} : Ev d 7 1 [l0] (.ref a :: t) h Q = (hk h a = 3 ∧ Ev d 7 4 [l0] (hF h a 0 :: t) h Q) := en_getfield (cj := 2) mm7 dX2_exists_1 (by decide +kernel)
theorem i7_4 {d a l0 t h Q} : Ev d 7 4 [l0] (.ref a :: t) h Q = (hk h a = 4 ∧ Ev d 7 7 [l0] (hF h a 0 :: t) h Q) := en_getfield (cj := 3) mm7 dX2_exists_4 (by decide +kernel)
theorem i7_7 {d l0 t x h Q} : Ev d 7 7 [l0] (.int x :: t) h Q = if x ≤ 0 then Ev d 7 14 [l0] t h Q else Ev d 7 10 [l0] t h Q := en_if_le mm7 dX2_exists_7 rfl
theorem i7_10 {d l0 t h Q} : Ev d 7 10 [l0] t h Q = Ev d 7 11 [l0] (.int 1 :: t) h Q := en_iconst mm7 dX2_exists_10 (by decide)
theorem i7_11 {d l0 t h Q} : Ev d 7 11 [l0] t h Q = Ev d 7 15 [l0] t h Q := en_goto mm7 dX2_exists_11 rfl
theorem i7_14 {d l0 t h Q} : Ev d 7 14 [l0] t h Q = Ev d 7 15 [l0] (.int 0 :: t) h Q := en_iconst mm7 dX2_exists_14 (by decide)
theorem i7_15 {d l0 x h Q} : Ev d 7 15 [l0] [.int x] h Q = (narrow .boolean (.int x) = .int x ∧ Q (.inl (some (.int x))) h) := en_ireturn mm7 dX2_exists_15 rfl
abbrev em8 : MI := (yX2_isSheet, cX2_isSheet, 2, some .boolean, 2, [])
theorem mm8 : mtab[8]? = some em8 := rfl
theorem in8 {d : Nat} {h : AH} {K : AO → AH → Prop} {v0 : Nat} {v1 : Int32} : EvM d 8 [(.ref v0), (.int v1)] h K = Ev d 8 0 [some (.ref v0), some (.int v1)] [] h K := evm_in mm8 (of_decide_eq_true rfl) rfl
theorem i8_0 {d l0 t x h Q} : Ev d 8 0 [l0, some (.int x)] t h Q = Ev d 8 1 [l0, some (.int x)] (.int x :: t) h Q := en_iload_n mm8 dX2_isSheet_0 rfl
theorem i8_1 {d l0 l1 t x h Q} : Ev d 8 1 [l0, l1] (.int x :: t) h Q = if x < 0 then Ev d 8 16 [l0, l1] t h Q else Ev d 8 4 [l0, l1] t h Q := en_if_lt mm8 dX2_isSheet_1 rfl
theorem i8_4 {d l0 t x h Q} : Ev d 8 4 [l0, some (.int x)] t h Q = Ev d 8 5 [l0, some (.int x)] (.int x :: t) h Q := en_iload_n mm8 dX2_isSheet_4 rfl
theorem i8_5 {d a l1 t h Q} : Ev d 8 5 [some (.ref a), l1] t h Q = Ev d 8 6 [some (.ref a), l1] (.ref a :: t) h Q := en_aload_n mm8 dX2_isSheet_5 rfl
theorem i8_6 {d a l0 l1 t h Q} : Ev d 8 6 [l0, l1] (.ref a :: t) h Q = (hk h a = 3 ∧ Ev d 8 9 [l0, l1] (hF h a 2 :: t) h Q) := en_getfield (cj := 2) mm8 dX2_isSheet_6 (by decide +kernel)
theorem i8_9 {d l0 l1 t x y h Q} : Ev d 8 9 [l0, l1] (.int y :: .int x :: t) h Q = if y ≤ x then Ev d 8 16 [l0, l1] t h Q else Ev d 8 12 [l0, l1] t h Q := en_ic_ge mm8 dX2_isSheet_9 rfl
theorem i8_12 {d l0 l1 t h Q} : Ev d 8 12 [l0, l1] t h Q = Ev d 8 13 [l0, l1] (.int 1 :: t) h Q := en_iconst mm8 dX2_isSheet_12 (by decide)
theorem i8_13 {d l0 l1 t h Q} : Ev d 8 13 [l0, l1] t h Q = Ev d 8 17 [l0, l1] t h Q := en_goto mm8 dX2_isSheet_13 rfl
theorem i8_16 {d l0 l1 t h Q} : Ev d 8 16 [l0, l1] t h Q = Ev d 8 17 [l0, l1] (.int 0 :: t) h Q := en_iconst mm8 dX2_isSheet_16 (by decide)
theorem i8_17 {d l0 l1 x h Q} : Ev d 8 17 [l0, l1] [.int x] h Q = (narrow .boolean (.int x) = .int x ∧ Q (.inl (some (.int x))) h) := en_ireturn mm8 dX2_isSheet_17 rfl
abbrev em9 : MI := (yX2_startWith, cX2_startWith, 3, none, 2, [])
theorem mm9 : mtab[9]? = some em9 := rfl
theorem in9 {d : Nat} {h : AH} {K : AO → AH → Prop} {v0 : Nat} {v1 : Nat} : EvM d 9 [(.ref v0), (.ref v1)] h K = Ev d 9 0 [some (.ref v0), some (.ref v1), none] [] h K := evm_in mm9 (of_decide_eq_true rfl) rfl
theorem i9_0 {d a l1 l2 t h Q} : Ev d 9 0 [some (.ref a), l1, l2] t h Q = Ev d 9 1 [some (.ref a), l1, l2] (.ref a :: t) h Q := en_aload_n mm9 dX2_startWith_0 rfl
theorem i9_1 {d a l0 l2 t h Q} : Ev d 9 1 [l0, some (.ref a), l2] t h Q = Ev d 9 2 [l0, some (.ref a), l2] (.ref a :: t) h Q := en_aload_n mm9 dX2_startWith_1 rfl
theorem i9_2 {d a b l0 l1 l2 t h Q} : Ev d 9 2 [l0, l1, l2] (.ref b :: .ref a :: t) h Q = (hk h a = 3 ∧ Ev d 9 5 [l0, l1, l2] t (wF h a 0 (.ref b)) Q) := en_putfield (cj := 2) mm9 dX2_startWith_2 (by decide +kernel) rfl
theorem i9_5 {d a l1 l2 t h Q} : Ev d 9 5 [some (.ref a), l1, l2] t h Q = Ev d 9 6 [some (.ref a), l1, l2] (.ref a :: t) h Q := en_aload_n mm9 dX2_startWith_5 rfl
theorem i9_6 {d l0 l1 l2 t h Q} : Ev d 9 6 [l0, l1, l2] t h Q = Ev d 9 7 [l0, l1, l2] (.int 0 :: t) h Q := en_iconst mm9 dX2_startWith_6 (by decide)
theorem i9_7 {d a l0 l1 l2 t x h Q} : Ev d 9 7 [l0, l1, l2] (.int x :: .ref a :: t) h Q = (hk h a = 3 ∧ Ev d 9 10 [l0, l1, l2] t (wF h a 1 (.int x)) Q) := en_putfield (cj := 2) mm9 dX2_startWith_7 (by decide +kernel) rfl
theorem i9_10 {d a l1 l2 t h Q} : Ev d 9 10 [some (.ref a), l1, l2] t h Q = Ev d 9 11 [some (.ref a), l1, l2] (.ref a :: t) h Q := en_aload_n mm9 dX2_startWith_10 rfl
theorem i9_11 {d l0 l1 l2 t h Q} : Ev d 9 11 [l0, l1, l2] t h Q = Ev d 9 12 [l0, l1, l2] (.int 0 :: t) h Q := en_iconst mm9 dX2_startWith_11 (by decide)
theorem i9_12 {d a l0 l1 l2 t x h Q} : Ev d 9 12 [l0, l1, l2] (.int x :: .ref a :: t) h Q = (hk h a = 3 ∧ Ev d 9 15 [l0, l1, l2] t (wF h a 2 (.int x)) Q) := en_putfield (cj := 2) mm9 dX2_startWith_12 (by decide +kernel) rfl
theorem i9_15 {d a l1 l2 t h Q} : Ev d 9 15 [some (.ref a), l1, l2] t h Q = Ev d 9 16 [some (.ref a), l1, l2] (.ref a :: t) h Q := en_aload_n mm9 dX2_startWith_15 rfl
theorem i9_16 {d a l0 l1 l2 h Q} : Ev (d + 1) 9 16 [l0, l1, l2] [.ref a] h Q = (hk h a = 3 ∧ EvM d 10 [.ref a] h (konN (d + 1) 9 19 [l0, l1, l2] [] Q)) := en_virtualN mm9 dX2_startWith_16 (by decide +kernel : ml _ _ = some (2, 10)) (by decide) (rfl : mtab[10]? = some _) (by decide +kernel : npar _ = 0) rfl (by decide) rfl (of_decide_eq_true rfl) (len_cat (of_decide_eq_true rfl)) rfl rfl rfl
theorem i9_19 {d l0 l1 l2 t h Q} : Ev d 9 19 [l0, l1, l2] t h Q = Ev d 9 20 [l0, l1, l2] (.int 0 :: t) h Q := en_iconst mm9 dX2_startWith_19 (by decide)
theorem i9_20 {d l0 l1 l2 t x h Q} : Ev d 9 20 [l0, l1, l2] (.int x :: t) h Q = Ev d 9 21 [l0, nl l1, some (.int x)] t h Q := en_istore_n mm9 dX2_startWith_20 (of_decide_eq_true rfl) rfl
theorem i9_21 {d l0 l1 t x h Q} : Ev d 9 21 [l0, l1, some (.int x)] t h Q = Ev d 9 22 [l0, l1, some (.int x)] (.int x :: t) h Q := en_iload_n mm9 dX2_startWith_21 rfl
theorem i9_22 {d l0 l1 l2 t h Q} : Ev d 9 22 [l0, l1, l2] t h Q = Ev d 9 24 [l0, l1, l2] (.int 6 :: t) h Q := en_bipush mm9 dX2_startWith_22 (by decide)
theorem i9_24 {d l0 l1 l2 t x y h Q} : Ev d 9 24 [l0, l1, l2] (.int y :: .int x :: t) h Q = if y ≤ x then Ev d 9 57 [l0, l1, l2] t h Q else Ev d 9 27 [l0, l1, l2] t h Q := en_ic_ge mm9 dX2_startWith_24 rfl
theorem i9_27 {d a l1 l2 t h Q} : Ev d 9 27 [some (.ref a), l1, l2] t h Q = Ev d 9 28 [some (.ref a), l1, l2] (.ref a :: t) h Q := en_aload_n mm9 dX2_startWith_27 rfl
theorem i9_28 {d a l0 l1 l2 t h Q} : Ev d 9 28 [l0, l1, l2] (.ref a :: t) h Q = (hk h a = 3 ∧ Ev d 9 31 [l0, l1, l2] (hF h a 5 :: t) h Q) := en_getfield (cj := 2) mm9 dX2_startWith_28 (by decide +kernel)
theorem i9_31 {d l0 l1 t x h Q} : Ev d 9 31 [l0, l1, some (.int x)] t h Q = Ev d 9 32 [l0, l1, some (.int x)] (.int x :: t) h Q := en_iload_n mm9 dX2_startWith_31 rfl
theorem i9_32 {d a l0 l2 t h Q} : Ev d 9 32 [l0, some (.ref a), l2] t h Q = Ev d 9 33 [l0, some (.ref a), l2] (.ref a :: t) h Q := en_aload_n mm9 dX2_startWith_32 rfl
theorem i9_33 {d a l0 l1 l2 t h Q} : Ev d 9 33 [l0, l1, l2] (.ref a :: t) h Q = (hk h a = 4 ∧ Ev d 9 36 [l0, l1, l2] (hF h a 3 :: t) h Q) := en_getfield (cj := 3) mm9 dX2_startWith_33 (by decide +kernel)
theorem i9_36 {d l0 l1 t x h Q} : Ev d 9 36 [l0, l1, some (.int x)] t h Q = Ev d 9 37 [l0, l1, some (.int x)] (.int x :: t) h Q := en_iload_n mm9 dX2_startWith_36 rfl
theorem i9_37 {d a j l0 l1 l2 t h Q} : Ev d 9 37 [l0, l1, l2] (.int j :: .ref a :: t) h Q = (hk h a = 10 ∧ inb j (hl h a) ∧ Ev d 9 38 [l0, l1, l2] (.int (hA h a j.toNatClampNeg) :: t) h Q) := en_iaload mm9 dX2_startWith_37
theorem i9_38 {d a j l0 l1 l2 t x h Q} : Ev d 9 38 [l0, l1, l2] (.int x :: .int j :: .ref a :: t) h Q = (hk h a = 10 ∧ inb j (hl h a) ∧ Ev d 9 39 [l0, l1, l2] t (wA h a (upd (hA h a) j.toNatClampNeg x)) Q) := en_iastore mm9 dX2_startWith_38
theorem i9_39 {d a l1 l2 t h Q} : Ev d 9 39 [some (.ref a), l1, l2] t h Q = Ev d 9 40 [some (.ref a), l1, l2] (.ref a :: t) h Q := en_aload_n mm9 dX2_startWith_39 rfl
theorem i9_40 {d a l0 l1 l2 t h Q} : Ev d 9 40 [l0, l1, l2] (.ref a :: t) h Q = (hk h a = 3 ∧ Ev d 9 43 [l0, l1, l2] (hF h a 6 :: t) h Q) := en_getfield (cj := 2) mm9 dX2_startWith_40 (by decide +kernel)
theorem i9_43 {d l0 l1 t x h Q} : Ev d 9 43 [l0, l1, some (.int x)] t h Q = Ev d 9 44 [l0, l1, some (.int x)] (.int x :: t) h Q := en_iload_n mm9 dX2_startWith_43 rfl
theorem i9_44 {d a l0 l2 t h Q} : Ev d 9 44 [l0, some (.ref a), l2] t h Q = Ev d 9 45 [l0, some (.ref a), l2] (.ref a :: t) h Q := en_aload_n mm9 dX2_startWith_44 rfl
theorem i9_45 {d a l0 l1 l2 t h Q} : Ev d 9 45 [l0, l1, l2] (.ref a :: t) h Q = (hk h a = 4 ∧ Ev d 9 48 [l0, l1, l2] (hF h a 3 :: t) h Q) := en_getfield (cj := 3) mm9 dX2_startWith_45 (by decide +kernel)
theorem i9_48 {d l0 l1 t x h Q} : Ev d 9 48 [l0, l1, some (.int x)] t h Q = Ev d 9 49 [l0, l1, some (.int x)] (.int x :: t) h Q := en_iload_n mm9 dX2_startWith_48 rfl
theorem i9_49 {d a j l0 l1 l2 t h Q} : Ev d 9 49 [l0, l1, l2] (.int j :: .ref a :: t) h Q = (hk h a = 10 ∧ inb j (hl h a) ∧ Ev d 9 50 [l0, l1, l2] (.int (hA h a j.toNatClampNeg) :: t) h Q) := en_iaload mm9 dX2_startWith_49
theorem i9_50 {d a j l0 l1 l2 t x h Q} : Ev d 9 50 [l0, l1, l2] (.int x :: .int j :: .ref a :: t) h Q = (hk h a = 10 ∧ inb j (hl h a) ∧ Ev d 9 51 [l0, l1, l2] t (wA h a (upd (hA h a) j.toNatClampNeg x)) Q) := en_iastore mm9 dX2_startWith_50
theorem i9_51 {d l0 l1 t x h Q} : Ev d 9 51 [l0, l1, some (.int x)] t h Q = Ev d 9 54 [l0, nl l1, some (.int (x + 1))] t h Q := en_iinc mm9 dX2_startWith_51 rfl (by decide) rfl
theorem i9_54 {d l0 l1 l2 t h Q} : Ev d 9 54 [l0, l1, l2] t h Q = Ev d 9 21 [l0, l1, l2] t h Q := en_goto mm9 dX2_startWith_54 rfl
theorem i9_57 {d l0 l1 l2 t h Q} : Ev d 9 57 [l0, l1, l2] t h Q = Ev d 9 58 [l0, l1, l2] (.int 0 :: t) h Q := en_iconst mm9 dX2_startWith_57 (by decide)
theorem i9_58 {d l0 l1 l2 t x h Q} : Ev d 9 58 [l0, l1, l2] (.int x :: t) h Q = Ev d 9 59 [l0, nl l1, some (.int x)] t h Q := en_istore_n mm9 dX2_startWith_58 (of_decide_eq_true rfl) rfl
theorem i9_59 {d l0 l1 t x h Q} : Ev d 9 59 [l0, l1, some (.int x)] t h Q = Ev d 9 60 [l0, l1, some (.int x)] (.int x :: t) h Q := en_iload_n mm9 dX2_startWith_59 rfl
theorem i9_60 {d l0 l1 l2 t h Q} : Ev d 9 60 [l0, l1, l2] t h Q = Ev d 9 62 [l0, l1, l2] (.int 20 :: t) h Q := en_bipush mm9 dX2_startWith_60 (by decide)
theorem i9_62 {d l0 l1 l2 t x y h Q} : Ev d 9 62 [l0, l1, l2] (.int y :: .int x :: t) h Q = if y ≤ x then Ev d 9 99 [l0, l1, l2] t h Q else Ev d 9 65 [l0, l1, l2] t h Q := en_ic_ge mm9 dX2_startWith_62 rfl
theorem i9_65 {d a l1 l2 t h Q} : Ev d 9 65 [some (.ref a), l1, l2] t h Q = Ev d 9 66 [some (.ref a), l1, l2] (.ref a :: t) h Q := en_aload_n mm9 dX2_startWith_65 rfl
theorem i9_66 {d a l0 l1 l2 t h Q} : Ev d 9 66 [l0, l1, l2] (.ref a :: t) h Q = (hk h a = 3 ∧ Ev d 9 69 [l0, l1, l2] (hF h a 11 :: t) h Q) := en_getfield (cj := 2) mm9 dX2_startWith_66 (by decide +kernel)
theorem i9_69 {d l0 l1 t x h Q} : Ev d 9 69 [l0, l1, some (.int x)] t h Q = Ev d 9 70 [l0, l1, some (.int x)] (.int x :: t) h Q := en_iload_n mm9 dX2_startWith_69 rfl
theorem i9_70 {d l0 l1 l2 t h Q} : Ev d 9 70 [l0, l1, l2] t h Q = Ev d 9 71 [l0, l1, l2] (.int 0 :: t) h Q := en_iconst mm9 dX2_startWith_70 (by decide)
theorem i9_71 {d a j l0 l1 l2 t x h Q} : Ev d 9 71 [l0, l1, l2] (.int x :: .int j :: .ref a :: t) h Q = (hk h a = 10 ∧ inb j (hl h a) ∧ Ev d 9 72 [l0, l1, l2] t (wA h a (upd (hA h a) j.toNatClampNeg x)) Q) := en_iastore mm9 dX2_startWith_71
theorem i9_72 {d a l1 l2 t h Q} : Ev d 9 72 [some (.ref a), l1, l2] t h Q = Ev d 9 73 [some (.ref a), l1, l2] (.ref a :: t) h Q := en_aload_n mm9 dX2_startWith_72 rfl
theorem i9_73 {d a l0 l1 l2 t h Q} : Ev d 9 73 [l0, l1, l2] (.ref a :: t) h Q = (hk h a = 3 ∧ Ev d 9 76 [l0, l1, l2] (hF h a 12 :: t) h Q) := en_getfield (cj := 2) mm9 dX2_startWith_73 (by decide +kernel)
theorem i9_76 {d l0 l1 t x h Q} : Ev d 9 76 [l0, l1, some (.int x)] t h Q = Ev d 9 77 [l0, l1, some (.int x)] (.int x :: t) h Q := en_iload_n mm9 dX2_startWith_76 rfl
theorem i9_77 {d l0 l1 l2 t h Q} : Ev d 9 77 [l0, l1, l2] t h Q = Ev d 9 78 [l0, l1, l2] (.int 0 :: t) h Q := en_iconst mm9 dX2_startWith_77 (by decide)
theorem i9_78 {d a j l0 l1 l2 t x h Q} : Ev d 9 78 [l0, l1, l2] (.int x :: .int j :: .ref a :: t) h Q = (hk h a = 10 ∧ inb j (hl h a) ∧ Ev d 9 79 [l0, l1, l2] t (wA h a (upd (hA h a) j.toNatClampNeg x)) Q) := en_iastore mm9 dX2_startWith_78
theorem i9_79 {d a l1 l2 t h Q} : Ev d 9 79 [some (.ref a), l1, l2] t h Q = Ev d 9 80 [some (.ref a), l1, l2] (.ref a :: t) h Q := en_aload_n mm9 dX2_startWith_79 rfl
theorem i9_80 {d a l0 l1 l2 t h Q} : Ev d 9 80 [l0, l1, l2] (.ref a :: t) h Q = (hk h a = 3 ∧ Ev d 9 83 [l0, l1, l2] (hF h a 13 :: t) h Q) := en_getfield (cj := 2) mm9 dX2_startWith_80 (by decide +kernel)
theorem i9_83 {d l0 l1 t x h Q} : Ev d 9 83 [l0, l1, some (.int x)] t h Q = Ev d 9 84 [l0, l1, some (.int x)] (.int x :: t) h Q := en_iload_n mm9 dX2_startWith_83 rfl
theorem i9_84 {d l0 l1 l2 t h Q} : Ev d 9 84 [l0, l1, l2] t h Q = Ev d 9 85 [l0, l1, l2] (.int 0 :: t) h Q := en_iconst mm9 dX2_startWith_84 (by decide)
theorem i9_85 {d a j l0 l1 l2 t x h Q} : Ev d 9 85 [l0, l1, l2] (.int x :: .int j :: .ref a :: t) h Q = (hk h a = 10 ∧ inb j (hl h a) ∧ Ev d 9 86 [l0, l1, l2] t (wA h a (upd (hA h a) j.toNatClampNeg x)) Q) := en_iastore mm9 dX2_startWith_85
theorem i9_86 {d a l1 l2 t h Q} : Ev d 9 86 [some (.ref a), l1, l2] t h Q = Ev d 9 87 [some (.ref a), l1, l2] (.ref a :: t) h Q := en_aload_n mm9 dX2_startWith_86 rfl
theorem i9_87 {d a l0 l1 l2 t h Q} : Ev d 9 87 [l0, l1, l2] (.ref a :: t) h Q = (hk h a = 3 ∧ Ev d 9 90 [l0, l1, l2] (hF h a 14 :: t) h Q) := en_getfield (cj := 2) mm9 dX2_startWith_87 (by decide +kernel)
theorem i9_90 {d l0 l1 t x h Q} : Ev d 9 90 [l0, l1, some (.int x)] t h Q = Ev d 9 91 [l0, l1, some (.int x)] (.int x :: t) h Q := en_iload_n mm9 dX2_startWith_90 rfl
theorem i9_91 {d l0 l1 l2 t h Q} : Ev d 9 91 [l0, l1, l2] t h Q = Ev d 9 92 [l0, l1, l2] (.int 0 :: t) h Q := en_iconst mm9 dX2_startWith_91 (by decide)
theorem i9_92 {d a j l0 l1 l2 t x h Q} : Ev d 9 92 [l0, l1, l2] (.int x :: .int j :: .ref a :: t) h Q = (hk h a = 10 ∧ inb j (hl h a) ∧ Ev d 9 93 [l0, l1, l2] t (wA h a (upd (hA h a) j.toNatClampNeg x)) Q) := en_iastore mm9 dX2_startWith_92
theorem i9_93 {d l0 l1 t x h Q} : Ev d 9 93 [l0, l1, some (.int x)] t h Q = Ev d 9 96 [l0, nl l1, some (.int (x + 1))] t h Q := en_iinc mm9 dX2_startWith_93 rfl (by decide) rfl
theorem i9_96 {d l0 l1 l2 t h Q} : Ev d 9 96 [l0, l1, l2] t h Q = Ev d 9 59 [l0, l1, l2] t h Q := en_goto mm9 dX2_startWith_96 rfl
theorem i9_99 {d l0 l1 l2 h Q} : Ev d 9 99 [l0, l1, l2] [] h Q = Q (.inl none) h := en_return mm9 dX2_startWith_99 rfl
abbrev em10 : MI := (yX2_standReady, cX2_standReady, 2, none, 2, [])
theorem mm10 : mtab[10]? = some em10 := rfl
theorem in10 {d : Nat} {h : AH} {K : AO → AH → Prop} {v0 : Nat} : EvM d 10 [(.ref v0)] h K = Ev d 10 0 [some (.ref v0), none] [] h K := evm_in mm10 (of_decide_eq_true rfl) rfl
theorem i10_0 {d a l1 t h Q} : Ev d 10 0 [some (.ref a), l1] t h Q = Ev d 10 1 [some (.ref a), l1] (.ref a :: t) h Q := en_aload_n mm10 dX2_standReady_0 rfl
theorem i10_1 {d l0 l1 t h Q} : Ev d 10 1 [l0, l1] t h Q = Ev d 10 2 [l0, l1] (.int (-1) :: t) h Q := en_iconst mm10 dX2_standReady_1 (by decide)
theorem i10_2 {d a l0 l1 t x h Q} : Ev d 10 2 [l0, l1] (.int x :: .ref a :: t) h Q = (hk h a = 3 ∧ Ev d 10 5 [l0, l1] t (wF h a 3 (.int x)) Q) := en_putfield (cj := 2) mm10 dX2_standReady_2 (by decide +kernel) rfl
theorem i10_5 {d a l1 t h Q} : Ev d 10 5 [some (.ref a), l1] t h Q = Ev d 10 6 [some (.ref a), l1] (.ref a :: t) h Q := en_aload_n mm10 dX2_standReady_5 rfl
theorem i10_6 {d l0 l1 t h Q} : Ev d 10 6 [l0, l1] t h Q = Ev d 10 7 [l0, l1] (.int 0 :: t) h Q := en_iconst mm10 dX2_standReady_6 (by decide)
theorem i10_7 {d a l0 l1 t x h Q} : Ev d 10 7 [l0, l1] (.int x :: .ref a :: t) h Q = (hk h a = 3 ∧ Ev d 10 10 [l0, l1] t (wF h a 4 (.int x)) Q) := en_putfield (cj := 2) mm10 dX2_standReady_7 (by decide +kernel) rfl
theorem i10_10 {d l0 l1 t h Q} : Ev d 10 10 [l0, l1] t h Q = Ev d 10 11 [l0, l1] (.int 0 :: t) h Q := en_iconst mm10 dX2_standReady_10 (by decide)
theorem i10_11 {d l0 l1 t x h Q} : Ev d 10 11 [l0, l1] (.int x :: t) h Q = Ev d 10 12 [nl l0, some (.int x)] t h Q := en_istore_n mm10 dX2_standReady_11 (of_decide_eq_true rfl) rfl
theorem i10_12 {d l0 t x h Q} : Ev d 10 12 [l0, some (.int x)] t h Q = Ev d 10 13 [l0, some (.int x)] (.int x :: t) h Q := en_iload_n mm10 dX2_standReady_12 rfl
theorem i10_13 {d l0 l1 t h Q} : Ev d 10 13 [l0, l1] t h Q = Ev d 10 15 [l0, l1] (.int 6 :: t) h Q := en_bipush mm10 dX2_standReady_13 (by decide)
theorem i10_15 {d l0 l1 t x y h Q} : Ev d 10 15 [l0, l1] (.int y :: .int x :: t) h Q = if y ≤ x then Ev d 10 31 [l0, l1] t h Q else Ev d 10 18 [l0, l1] t h Q := en_ic_ge mm10 dX2_standReady_15 rfl
theorem i10_18 {d a l1 t h Q} : Ev d 10 18 [some (.ref a), l1] t h Q = Ev d 10 19 [some (.ref a), l1] (.ref a :: t) h Q := en_aload_n mm10 dX2_standReady_18 rfl
theorem i10_19 {d a l0 l1 t h Q} : Ev d 10 19 [l0, l1] (.ref a :: t) h Q = (hk h a = 3 ∧ Ev d 10 22 [l0, l1] (hF h a 7 :: t) h Q) := en_getfield (cj := 2) mm10 dX2_standReady_19 (by decide +kernel)
theorem i10_22 {d l0 t x h Q} : Ev d 10 22 [l0, some (.int x)] t h Q = Ev d 10 23 [l0, some (.int x)] (.int x :: t) h Q := en_iload_n mm10 dX2_standReady_22 rfl
theorem i10_23 {d l0 l1 t h Q} : Ev d 10 23 [l0, l1] t h Q = Ev d 10 24 [l0, l1] (.int (-1) :: t) h Q := en_iconst mm10 dX2_standReady_23 (by decide)
theorem i10_24 {d a j l0 l1 t x h Q} : Ev d 10 24 [l0, l1] (.int x :: .int j :: .ref a :: t) h Q = (hk h a = 10 ∧ inb j (hl h a) ∧ Ev d 10 25 [l0, l1] t (wA h a (upd (hA h a) j.toNatClampNeg x)) Q) := en_iastore mm10 dX2_standReady_24
theorem i10_25 {d l0 t x h Q} : Ev d 10 25 [l0, some (.int x)] t h Q = Ev d 10 28 [nl l0, some (.int (x + 1))] t h Q := en_iinc mm10 dX2_standReady_25 rfl (by decide) rfl
theorem i10_28 {d l0 l1 t h Q} : Ev d 10 28 [l0, l1] t h Q = Ev d 10 12 [l0, l1] t h Q := en_goto mm10 dX2_standReady_28 rfl
theorem i10_31 {d l0 l1 h Q} : Ev d 10 31 [l0, l1] [] h Q = Q (.inl none) h := en_return mm10 dX2_standReady_31 rfl
abbrev em11 : MI := (yX2_holdOnly, cX2_holdOnly, 3, none, 2, [])
theorem mm11 : mtab[11]? = some em11 := rfl
theorem in11 {d : Nat} {h : AH} {K : AO → AH → Prop} {v0 : Nat} {v1 : Int32} : EvM d 11 [(.ref v0), (.int v1)] h K = Ev d 11 0 [some (.ref v0), some (.int v1), none] [] h K := evm_in mm11 (of_decide_eq_true rfl) rfl
theorem i11_0 {d a l1 l2 t h Q} : Ev d 11 0 [some (.ref a), l1, l2] t h Q = Ev d 11 1 [some (.ref a), l1, l2] (.ref a :: t) h Q := en_aload_n mm11 dX2_holdOnly_0 rfl
theorem i11_1 {d a l0 l1 l2 h Q} : Ev (d + 1) 11 1 [l0, l1, l2] [.ref a] h Q = (hk h a = 3 ∧ EvM d 10 [.ref a] h (konN (d + 1) 11 4 [l0, l1, l2] [] Q)) := en_virtualN mm11 dX2_holdOnly_1 (by decide +kernel : ml _ _ = some (2, 10)) (by decide) (rfl : mtab[10]? = some _) (by decide +kernel : npar _ = 0) rfl (by decide) rfl (of_decide_eq_true rfl) (len_cat (of_decide_eq_true rfl)) rfl rfl rfl
theorem i11_4 {d l0 l1 l2 t h Q} : Ev d 11 4 [l0, l1, l2] t h Q = Ev d 11 5 [l0, l1, l2] (.int 0 :: t) h Q := en_iconst mm11 dX2_holdOnly_4 (by decide)
theorem i11_5 {d l0 l1 l2 t x h Q} : Ev d 11 5 [l0, l1, l2] (.int x :: t) h Q = Ev d 11 6 [l0, nl l1, some (.int x)] t h Q := en_istore_n mm11 dX2_holdOnly_5 (of_decide_eq_true rfl) rfl
theorem i11_6 {d l0 l1 t x h Q} : Ev d 11 6 [l0, l1, some (.int x)] t h Q = Ev d 11 7 [l0, l1, some (.int x)] (.int x :: t) h Q := en_iload_n mm11 dX2_holdOnly_6 rfl
theorem i11_7 {d l0 l1 l2 t h Q} : Ev d 11 7 [l0, l1, l2] t h Q = Ev d 11 9 [l0, l1, l2] (.int 6 :: t) h Q := en_bipush mm11 dX2_holdOnly_7 (by decide)
theorem i11_9 {d l0 l1 l2 t x y h Q} : Ev d 11 9 [l0, l1, l2] (.int y :: .int x :: t) h Q = if y ≤ x then Ev d 11 30 [l0, l1, l2] t h Q else Ev d 11 12 [l0, l1, l2] t h Q := en_ic_ge mm11 dX2_holdOnly_9 rfl
theorem i11_12 {d a l1 l2 t h Q} : Ev d 11 12 [some (.ref a), l1, l2] t h Q = Ev d 11 13 [some (.ref a), l1, l2] (.ref a :: t) h Q := en_aload_n mm11 dX2_holdOnly_12 rfl
theorem i11_13 {d a l0 l1 l2 t h Q} : Ev d 11 13 [l0, l1, l2] (.ref a :: t) h Q = (hk h a = 3 ∧ Ev d 11 16 [l0, l1, l2] (hF h a 6 :: t) h Q) := en_getfield (cj := 2) mm11 dX2_holdOnly_13 (by decide +kernel)
theorem i11_16 {d l0 l1 t x h Q} : Ev d 11 16 [l0, l1, some (.int x)] t h Q = Ev d 11 17 [l0, l1, some (.int x)] (.int x :: t) h Q := en_iload_n mm11 dX2_holdOnly_16 rfl
theorem i11_17 {d a l1 l2 t h Q} : Ev d 11 17 [some (.ref a), l1, l2] t h Q = Ev d 11 18 [some (.ref a), l1, l2] (.ref a :: t) h Q := en_aload_n mm11 dX2_holdOnly_17 rfl
theorem i11_18 {d a l0 l1 l2 t h Q} : Ev d 11 18 [l0, l1, l2] (.ref a :: t) h Q = (hk h a = 3 ∧ Ev d 11 21 [l0, l1, l2] (hF h a 5 :: t) h Q) := en_getfield (cj := 2) mm11 dX2_holdOnly_18 (by decide +kernel)
theorem i11_21 {d l0 l1 t x h Q} : Ev d 11 21 [l0, l1, some (.int x)] t h Q = Ev d 11 22 [l0, l1, some (.int x)] (.int x :: t) h Q := en_iload_n mm11 dX2_holdOnly_21 rfl
theorem i11_22 {d a j l0 l1 l2 t h Q} : Ev d 11 22 [l0, l1, l2] (.int j :: .ref a :: t) h Q = (hk h a = 10 ∧ inb j (hl h a) ∧ Ev d 11 23 [l0, l1, l2] (.int (hA h a j.toNatClampNeg) :: t) h Q) := en_iaload mm11 dX2_holdOnly_22
theorem i11_23 {d a j l0 l1 l2 t x h Q} : Ev d 11 23 [l0, l1, l2] (.int x :: .int j :: .ref a :: t) h Q = (hk h a = 10 ∧ inb j (hl h a) ∧ Ev d 11 24 [l0, l1, l2] t (wA h a (upd (hA h a) j.toNatClampNeg x)) Q) := en_iastore mm11 dX2_holdOnly_23
theorem i11_24 {d l0 l1 t x h Q} : Ev d 11 24 [l0, l1, some (.int x)] t h Q = Ev d 11 27 [l0, nl l1, some (.int (x + 1))] t h Q := en_iinc mm11 dX2_holdOnly_24 rfl (by decide) rfl
theorem i11_27 {d l0 l1 l2 t h Q} : Ev d 11 27 [l0, l1, l2] t h Q = Ev d 11 6 [l0, l1, l2] t h Q := en_goto mm11 dX2_holdOnly_27 rfl
theorem i11_30 {d a l1 l2 t h Q} : Ev d 11 30 [some (.ref a), l1, l2] t h Q = Ev d 11 31 [some (.ref a), l1, l2] (.ref a :: t) h Q := en_aload_n mm11 dX2_holdOnly_30 rfl
theorem i11_31 {d l0 l1 l2 t h Q} : Ev d 11 31 [l0, l1, l2] t h Q = Ev d 11 32 [l0, l1, l2] (.int 0 :: t) h Q := en_iconst mm11 dX2_holdOnly_31 (by decide)
theorem i11_32 {d a l0 l1 l2 t x h Q} : Ev d 11 32 [l0, l1, l2] (.int x :: .ref a :: t) h Q = (hk h a = 3 ∧ Ev d 11 35 [l0, l1, l2] t (wF h a 2 (.int x)) Q) := en_putfield (cj := 2) mm11 dX2_holdOnly_32 (by decide +kernel) rfl
theorem i11_35 {d a l1 l2 t h Q} : Ev d 11 35 [some (.ref a), l1, l2] t h Q = Ev d 11 36 [some (.ref a), l1, l2] (.ref a :: t) h Q := en_aload_n mm11 dX2_holdOnly_35 rfl
theorem i11_36 {d l0 l2 t x h Q} : Ev d 11 36 [l0, some (.int x), l2] t h Q = Ev d 11 37 [l0, some (.int x), l2] (.int x :: t) h Q := en_iload_n mm11 dX2_holdOnly_36 rfl
theorem i11_37 {d a l0 l1 l2 x0 h Q} : Ev (d + 1) 11 37 [l0, l1, l2] [x0, .ref a] h Q = (hk h a = 3 ∧ EvM d 12 [.ref a, x0] h (konN (d + 1) 11 40 [l0, l1, l2] [] Q)) := en_virtualN mm11 dX2_holdOnly_37 (by decide +kernel : ml _ _ = some (2, 12)) (by decide) (rfl : mtab[12]? = some _) (by decide +kernel : npar _ = 1) rfl (by decide) rfl (of_decide_eq_true rfl) (len_cat (of_decide_eq_true rfl)) rfl rfl rfl
theorem i11_40 {d l0 l1 l2 t x h Q} : Ev d 11 40 [l0, l1, l2] (.int x :: t) h Q = Ev d 11 41 [l0, l1, l2] t h Q := en_popI mm11 dX2_holdOnly_40
theorem i11_41 {d l0 l1 l2 h Q} : Ev d 11 41 [l0, l1, l2] [] h Q = Q (.inl none) h := en_return mm11 dX2_holdOnly_41 rfl
abbrev em12 : MI := (yX2_putSheet, cX2_putSheet, 3, some .int, 2, [])
theorem mm12 : mtab[12]? = some em12 := rfl
theorem in12 {d : Nat} {h : AH} {K : AO → AH → Prop} {v0 : Nat} {v1 : Int32} : EvM d 12 [(.ref v0), (.int v1)] h K = Ev d 12 0 [some (.ref v0), some (.int v1), none] [] h K := evm_in mm12 (of_decide_eq_true rfl) rfl
theorem i12_0 {d a l1 l2 t h Q} : Ev d 12 0 [some (.ref a), l1, l2] t h Q = Ev d 12 1 [some (.ref a), l1, l2] (.ref a :: t) h Q := en_aload_n mm12 dX2_putSheet_0 rfl
theorem i12_1 {d a l0 l1 l2 t h Q} : Ev d 12 1 [l0, l1, l2] (.ref a :: t) h Q = (hk h a = 3 ∧ Ev d 12 4 [l0, l1, l2] (hF h a 2 :: t) h Q) := en_getfield (cj := 2) mm12 dX2_putSheet_1 (by decide +kernel)
theorem i12_4 {d l0 l1 l2 t h Q} : Ev d 12 4 [l0, l1, l2] t h Q = Ev d 12 6 [l0, l1, l2] (.int 20 :: t) h Q := en_bipush mm12 dX2_putSheet_4 (by decide)
theorem i12_6 {d l0 l1 l2 t x y h Q} : Ev d 12 6 [l0, l1, l2] (.int y :: .int x :: t) h Q = if x < y then Ev d 12 11 [l0, l1, l2] t h Q else Ev d 12 9 [l0, l1, l2] t h Q := en_ic_lt mm12 dX2_putSheet_6 rfl
theorem i12_9 {d l0 l1 l2 t h Q} : Ev d 12 9 [l0, l1, l2] t h Q = Ev d 12 10 [l0, l1, l2] (.int (-1) :: t) h Q := en_iconst mm12 dX2_putSheet_9 (by decide)
theorem i12_10 {d l0 l1 l2 x h Q} : Ev d 12 10 [l0, l1, l2] [.int x] h Q = Q (.inl (some (.int x))) h := en_ireturnI mm12 dX2_putSheet_10 rfl
theorem i12_11 {d a l1 l2 t h Q} : Ev d 12 11 [some (.ref a), l1, l2] t h Q = Ev d 12 12 [some (.ref a), l1, l2] (.ref a :: t) h Q := en_aload_n mm12 dX2_putSheet_11 rfl
theorem i12_12 {d a l0 l1 l2 t h Q} : Ev d 12 12 [l0, l1, l2] (.ref a :: t) h Q = (hk h a = 3 ∧ Ev d 12 15 [l0, l1, l2] (hF h a 2 :: t) h Q) := en_getfield (cj := 2) mm12 dX2_putSheet_12 (by decide +kernel)
theorem i12_15 {d l0 l1 l2 t x h Q} : Ev d 12 15 [l0, l1, l2] (.int x :: t) h Q = Ev d 12 16 [l0, nl l1, some (.int x)] t h Q := en_istore_n mm12 dX2_putSheet_15 (of_decide_eq_true rfl) rfl
theorem i12_16 {d a l1 l2 t h Q} : Ev d 12 16 [some (.ref a), l1, l2] t h Q = Ev d 12 17 [some (.ref a), l1, l2] (.ref a :: t) h Q := en_aload_n mm12 dX2_putSheet_16 rfl
theorem i12_17 {d a l0 l1 l2 t h Q} : Ev d 12 17 [l0, l1, l2] (.ref a :: t) h Q = (hk h a = 3 ∧ Ev d 12 20 [l0, l1, l2] (hF h a 8 :: t) h Q) := en_getfield (cj := 2) mm12 dX2_putSheet_17 (by decide +kernel)
theorem i12_20 {d l0 l1 t x h Q} : Ev d 12 20 [l0, l1, some (.int x)] t h Q = Ev d 12 21 [l0, l1, some (.int x)] (.int x :: t) h Q := en_iload_n mm12 dX2_putSheet_20 rfl
theorem i12_21 {d l0 l2 t x h Q} : Ev d 12 21 [l0, some (.int x), l2] t h Q = Ev d 12 22 [l0, some (.int x), l2] (.int x :: t) h Q := en_iload_n mm12 dX2_putSheet_21 rfl
theorem i12_22 {d a j l0 l1 l2 t x h Q} : Ev d 12 22 [l0, l1, l2] (.int x :: .int j :: .ref a :: t) h Q = (hk h a = 10 ∧ inb j (hl h a) ∧ Ev d 12 23 [l0, l1, l2] t (wA h a (upd (hA h a) j.toNatClampNeg x)) Q) := en_iastore mm12 dX2_putSheet_22
theorem i12_23 {d a l1 l2 t h Q} : Ev d 12 23 [some (.ref a), l1, l2] t h Q = Ev d 12 24 [some (.ref a), l1, l2] (.ref a :: t) h Q := en_aload_n mm12 dX2_putSheet_23 rfl
theorem i12_24 {d a l0 l1 l2 t h Q} : Ev d 12 24 [l0, l1, l2] (.ref a :: t) h Q = (hk h a = 3 ∧ Ev d 12 27 [l0, l1, l2] (hF h a 9 :: t) h Q) := en_getfield (cj := 2) mm12 dX2_putSheet_24 (by decide +kernel)
theorem i12_27 {d l0 l1 t x h Q} : Ev d 12 27 [l0, l1, some (.int x)] t h Q = Ev d 12 28 [l0, l1, some (.int x)] (.int x :: t) h Q := en_iload_n mm12 dX2_putSheet_27 rfl
theorem i12_28 {d l0 l1 l2 t h Q} : Ev d 12 28 [l0, l1, l2] t h Q = Ev d 12 30 [l0, l1, l2] (.int 20 :: t) h Q := en_bipush mm12 dX2_putSheet_28 (by decide)
theorem i12_30 {d a j l0 l1 l2 t x h Q} : Ev d 12 30 [l0, l1, l2] (.int x :: .int j :: .ref a :: t) h Q = (hk h a = 10 ∧ inb j (hl h a) ∧ Ev d 12 31 [l0, l1, l2] t (wA h a (upd (hA h a) j.toNatClampNeg x)) Q) := en_iastore mm12 dX2_putSheet_30
theorem i12_31 {d a l1 l2 t h Q} : Ev d 12 31 [some (.ref a), l1, l2] t h Q = Ev d 12 32 [some (.ref a), l1, l2] (.ref a :: t) h Q := en_aload_n mm12 dX2_putSheet_31 rfl
theorem i12_32 {d a l0 l1 l2 t h Q} : Ev d 12 32 [l0, l1, l2] (.ref a :: t) h Q = (hk h a = 3 ∧ Ev d 12 35 [l0, l1, l2] (hF h a 10 :: t) h Q) := en_getfield (cj := 2) mm12 dX2_putSheet_32 (by decide +kernel)
theorem i12_35 {d l0 l1 t x h Q} : Ev d 12 35 [l0, l1, some (.int x)] t h Q = Ev d 12 36 [l0, l1, some (.int x)] (.int x :: t) h Q := en_iload_n mm12 dX2_putSheet_35 rfl
theorem i12_36 {d l0 l1 l2 t h Q} : Ev d 12 36 [l0, l1, l2] t h Q = Ev d 12 37 [l0, l1, l2] (.int 0 :: t) h Q := en_iconst mm12 dX2_putSheet_36 (by decide)
theorem i12_37 {d a j l0 l1 l2 t x h Q} : Ev d 12 37 [l0, l1, l2] (.int x :: .int j :: .ref a :: t) h Q = (hk h a = 10 ∧ inb j (hl h a) ∧ Ev d 12 38 [l0, l1, l2] t (wA h a (upd (hA h a) j.toNatClampNeg x)) Q) := en_iastore mm12 dX2_putSheet_37
theorem i12_38 {d a l1 l2 t h Q} : Ev d 12 38 [some (.ref a), l1, l2] t h Q = Ev d 12 39 [some (.ref a), l1, l2] (.ref a :: t) h Q := en_aload_n mm12 dX2_putSheet_38 rfl
theorem i12_39 {d a l0 l1 l2 t h Q} : Ev d 12 39 [l0, l1, l2] (.ref a :: t) h Q = Ev d 12 40 [l0, l1, l2] (.ref a :: .ref a :: t) h Q := en_dup mm12 dX2_putSheet_39
theorem i12_40 {d a l0 l1 l2 t h Q} : Ev d 12 40 [l0, l1, l2] (.ref a :: t) h Q = (hk h a = 3 ∧ Ev d 12 43 [l0, l1, l2] (hF h a 2 :: t) h Q) := en_getfield (cj := 2) mm12 dX2_putSheet_40 (by decide +kernel)
theorem i12_43 {d l0 l1 l2 t h Q} : Ev d 12 43 [l0, l1, l2] t h Q = Ev d 12 44 [l0, l1, l2] (.int 1 :: t) h Q := en_iconst mm12 dX2_putSheet_43 (by decide)
theorem i12_44 {d l0 l1 l2 t x y h Q} : Ev d 12 44 [l0, l1, l2] (.int y :: .int x :: t) h Q = Ev d 12 45 [l0, l1, l2] (.int (x + y) :: t) h Q := en_iadd mm12 dX2_putSheet_44
theorem i12_45 {d a l0 l1 l2 t x h Q} : Ev d 12 45 [l0, l1, l2] (.int x :: .ref a :: t) h Q = (hk h a = 3 ∧ Ev d 12 48 [l0, l1, l2] t (wF h a 2 (.int x)) Q) := en_putfield (cj := 2) mm12 dX2_putSheet_45 (by decide +kernel) rfl
theorem i12_48 {d l0 l1 t x h Q} : Ev d 12 48 [l0, l1, some (.int x)] t h Q = Ev d 12 49 [l0, l1, some (.int x)] (.int x :: t) h Q := en_iload_n mm12 dX2_putSheet_48 rfl
theorem i12_49 {d l0 l1 l2 x h Q} : Ev d 12 49 [l0, l1, l2] [.int x] h Q = Q (.inl (some (.int x))) h := en_ireturnI mm12 dX2_putSheet_49 rfl
abbrev em13 : MI := (yX2_copyFrom, cX2_copyFrom, 2, none, 2, [])
theorem mm13 : mtab[13]? = some em13 := rfl
theorem in13 {d : Nat} {h : AH} {K : AO → AH → Prop} {v0 : Nat} {v1 : Nat} : EvM d 13 [(.ref v0), (.ref v1)] h K = Ev d 13 0 [some (.ref v0), some (.ref v1)] [] h K := evm_in mm13 (of_decide_eq_true rfl) rfl
theorem i13_0 {d a l1 t h Q} : Ev d 13 0 [some (.ref a), l1] t h Q = Ev d 13 1 [some (.ref a), l1] (.ref a :: t) h Q := en_aload_n mm13 dX2_copyFrom_0 rfl
theorem i13_1 {d a l0 t h Q} : Ev d 13 1 [l0, some (.ref a)] t h Q = Ev d 13 2 [l0, some (.ref a)] (.ref a :: t) h Q := en_aload_n mm13 dX2_copyFrom_1 rfl
theorem i13_2 {d a l0 l1 t h Q} : Ev d 13 2 [l0, l1] (.ref a :: t) h Q = (hk h a = 3 ∧ Ev d 13 5 [l0, l1] (hF h a 0 :: t) h Q) := en_getfield (cj := 2) mm13 dX2_copyFrom_2 (by decide +kernel)
theorem i13_5 {d a b l0 l1 t h Q} : Ev d 13 5 [l0, l1] (.ref b :: .ref a :: t) h Q = (hk h a = 3 ∧ Ev d 13 8 [l0, l1] t (wF h a 0 (.ref b)) Q) := en_putfield (cj := 2) mm13 dX2_copyFrom_5 (by decide +kernel) rfl
theorem i13_8 {d a l1 t h Q} : Ev d 13 8 [some (.ref a), l1] t h Q = Ev d 13 9 [some (.ref a), l1] (.ref a :: t) h Q := en_aload_n mm13 dX2_copyFrom_8 rfl
theorem i13_9 {d a l0 t h Q} : Ev d 13 9 [l0, some (.ref a)] t h Q = Ev d 13 10 [l0, some (.ref a)] (.ref a :: t) h Q := en_aload_n mm13 dX2_copyFrom_9 rfl
theorem i13_10 {d a l0 l1 t h Q} : Ev d 13 10 [l0, l1] (.ref a :: t) h Q = (hk h a = 3 ∧ Ev d 13 13 [l0, l1] (hF h a 1 :: t) h Q) := en_getfield (cj := 2) mm13 dX2_copyFrom_10 (by decide +kernel)
theorem i13_13 {d a l0 l1 t x h Q} : Ev d 13 13 [l0, l1] (.int x :: .ref a :: t) h Q = (hk h a = 3 ∧ Ev d 13 16 [l0, l1] t (wF h a 1 (.int x)) Q) := en_putfield (cj := 2) mm13 dX2_copyFrom_13 (by decide +kernel) rfl
theorem i13_16 {d a l1 t h Q} : Ev d 13 16 [some (.ref a), l1] t h Q = Ev d 13 17 [some (.ref a), l1] (.ref a :: t) h Q := en_aload_n mm13 dX2_copyFrom_16 rfl
theorem i13_17 {d a l0 t h Q} : Ev d 13 17 [l0, some (.ref a)] t h Q = Ev d 13 18 [l0, some (.ref a)] (.ref a :: t) h Q := en_aload_n mm13 dX2_copyFrom_17 rfl
theorem i13_18 {d a l0 l1 t h Q} : Ev d 13 18 [l0, l1] (.ref a :: t) h Q = (hk h a = 3 ∧ Ev d 13 21 [l0, l1] (hF h a 2 :: t) h Q) := en_getfield (cj := 2) mm13 dX2_copyFrom_18 (by decide +kernel)
theorem i13_21 {d a l0 l1 t x h Q} : Ev d 13 21 [l0, l1] (.int x :: .ref a :: t) h Q = (hk h a = 3 ∧ Ev d 13 24 [l0, l1] t (wF h a 2 (.int x)) Q) := en_putfield (cj := 2) mm13 dX2_copyFrom_21 (by decide +kernel) rfl
theorem i13_24 {d a l1 t h Q} : Ev d 13 24 [some (.ref a), l1] t h Q = Ev d 13 25 [some (.ref a), l1] (.ref a :: t) h Q := en_aload_n mm13 dX2_copyFrom_24 rfl
theorem i13_25 {d a l0 t h Q} : Ev d 13 25 [l0, some (.ref a)] t h Q = Ev d 13 26 [l0, some (.ref a)] (.ref a :: t) h Q := en_aload_n mm13 dX2_copyFrom_25 rfl
theorem i13_26 {d a l0 l1 t h Q} : Ev d 13 26 [l0, l1] (.ref a :: t) h Q = (hk h a = 3 ∧ Ev d 13 29 [l0, l1] (hF h a 3 :: t) h Q) := en_getfield (cj := 2) mm13 dX2_copyFrom_26 (by decide +kernel)
theorem i13_29 {d a l0 l1 t x h Q} : Ev d 13 29 [l0, l1] (.int x :: .ref a :: t) h Q = (hk h a = 3 ∧ Ev d 13 32 [l0, l1] t (wF h a 3 (.int x)) Q) := en_putfield (cj := 2) mm13 dX2_copyFrom_29 (by decide +kernel) rfl
theorem i13_32 {d a l1 t h Q} : Ev d 13 32 [some (.ref a), l1] t h Q = Ev d 13 33 [some (.ref a), l1] (.ref a :: t) h Q := en_aload_n mm13 dX2_copyFrom_32 rfl
theorem i13_33 {d a l0 t h Q} : Ev d 13 33 [l0, some (.ref a)] t h Q = Ev d 13 34 [l0, some (.ref a)] (.ref a :: t) h Q := en_aload_n mm13 dX2_copyFrom_33 rfl
theorem i13_34 {d a l0 l1 t h Q} : Ev d 13 34 [l0, l1] (.ref a :: t) h Q = (hk h a = 3 ∧ Ev d 13 37 [l0, l1] (hF h a 4 :: t) h Q) := en_getfield (cj := 2) mm13 dX2_copyFrom_34 (by decide +kernel)
theorem i13_37 {d a l0 l1 t x h Q} : Ev d 13 37 [l0, l1] (.int x :: .ref a :: t) h Q = (hk h a = 3 ∧ Ev d 13 40 [l0, l1] t (wF h a 4 (.int x)) Q) := en_putfield (cj := 2) mm13 dX2_copyFrom_37 (by decide +kernel) rfl
theorem i13_40 {d a l0 t h Q} : Ev d 13 40 [l0, some (.ref a)] t h Q = Ev d 13 41 [l0, some (.ref a)] (.ref a :: t) h Q := en_aload_n mm13 dX2_copyFrom_40 rfl
theorem i13_41 {d a l0 l1 t h Q} : Ev d 13 41 [l0, l1] (.ref a :: t) h Q = (hk h a = 3 ∧ Ev d 13 44 [l0, l1] (hF h a 5 :: t) h Q) := en_getfield (cj := 2) mm13 dX2_copyFrom_41 (by decide +kernel)
theorem i13_44 {d l0 l1 t h Q} : Ev d 13 44 [l0, l1] t h Q = Ev d 13 45 [l0, l1] (.int 0 :: t) h Q := en_iconst mm13 dX2_copyFrom_44 (by decide)
theorem i13_45 {d a l1 t h Q} : Ev d 13 45 [some (.ref a), l1] t h Q = Ev d 13 46 [some (.ref a), l1] (.ref a :: t) h Q := en_aload_n mm13 dX2_copyFrom_45 rfl
theorem i13_46 {d a l0 l1 t h Q} : Ev d 13 46 [l0, l1] (.ref a :: t) h Q = (hk h a = 3 ∧ Ev d 13 49 [l0, l1] (hF h a 5 :: t) h Q) := en_getfield (cj := 2) mm13 dX2_copyFrom_46 (by decide +kernel)
theorem i13_49 {d l0 l1 t h Q} : Ev d 13 49 [l0, l1] t h Q = Ev d 13 50 [l0, l1] (.int 0 :: t) h Q := en_iconst mm13 dX2_copyFrom_49 (by decide)
theorem i13_50 {d l0 l1 t h Q} : Ev d 13 50 [l0, l1] t h Q = Ev d 13 52 [l0, l1] (.int 6 :: t) h Q := en_bipush mm13 dX2_copyFrom_50 (by decide)
theorem i13_52 {d l0 l1 a b h Q} {x : Int32} (h0 : hk h a = 10) : Ev (d + 1) 13 52 [l0, l1] [.int x, .int 0, .ref b, .int 0, .ref a] h Q = ((hk h b = 10 ∧ ¬ x < 0 ∧ x.toNatClampNeg = hl h b ∧ hl h b ≤ hl h a) ∧ Ev (d + 1) 13 55 [l0, l1] [] (wA h b (hA h a)) Q) := en_acopy mm13 dX2_copyFrom_52 (by decide +kernel) h0
theorem i13_55 {d a l0 t h Q} : Ev d 13 55 [l0, some (.ref a)] t h Q = Ev d 13 56 [l0, some (.ref a)] (.ref a :: t) h Q := en_aload_n mm13 dX2_copyFrom_55 rfl
theorem i13_56 {d a l0 l1 t h Q} : Ev d 13 56 [l0, l1] (.ref a :: t) h Q = (hk h a = 3 ∧ Ev d 13 59 [l0, l1] (hF h a 6 :: t) h Q) := en_getfield (cj := 2) mm13 dX2_copyFrom_56 (by decide +kernel)
theorem i13_59 {d l0 l1 t h Q} : Ev d 13 59 [l0, l1] t h Q = Ev d 13 60 [l0, l1] (.int 0 :: t) h Q := en_iconst mm13 dX2_copyFrom_59 (by decide)
theorem i13_60 {d a l1 t h Q} : Ev d 13 60 [some (.ref a), l1] t h Q = Ev d 13 61 [some (.ref a), l1] (.ref a :: t) h Q := en_aload_n mm13 dX2_copyFrom_60 rfl
theorem i13_61 {d a l0 l1 t h Q} : Ev d 13 61 [l0, l1] (.ref a :: t) h Q = (hk h a = 3 ∧ Ev d 13 64 [l0, l1] (hF h a 6 :: t) h Q) := en_getfield (cj := 2) mm13 dX2_copyFrom_61 (by decide +kernel)
theorem i13_64 {d l0 l1 t h Q} : Ev d 13 64 [l0, l1] t h Q = Ev d 13 65 [l0, l1] (.int 0 :: t) h Q := en_iconst mm13 dX2_copyFrom_64 (by decide)
theorem i13_65 {d l0 l1 t h Q} : Ev d 13 65 [l0, l1] t h Q = Ev d 13 67 [l0, l1] (.int 6 :: t) h Q := en_bipush mm13 dX2_copyFrom_65 (by decide)
theorem i13_67 {d l0 l1 a b h Q} {x : Int32} (h0 : hk h a = 10) : Ev (d + 1) 13 67 [l0, l1] [.int x, .int 0, .ref b, .int 0, .ref a] h Q = ((hk h b = 10 ∧ ¬ x < 0 ∧ x.toNatClampNeg = hl h b ∧ hl h b ≤ hl h a) ∧ Ev (d + 1) 13 70 [l0, l1] [] (wA h b (hA h a)) Q) := en_acopy mm13 dX2_copyFrom_67 (by decide +kernel) h0
theorem i13_70 {d a l0 t h Q} : Ev d 13 70 [l0, some (.ref a)] t h Q = Ev d 13 71 [l0, some (.ref a)] (.ref a :: t) h Q := en_aload_n mm13 dX2_copyFrom_70 rfl
theorem i13_71 {d a l0 l1 t h Q} : Ev d 13 71 [l0, l1] (.ref a :: t) h Q = (hk h a = 3 ∧ Ev d 13 74 [l0, l1] (hF h a 7 :: t) h Q) := en_getfield (cj := 2) mm13 dX2_copyFrom_71 (by decide +kernel)
theorem i13_74 {d l0 l1 t h Q} : Ev d 13 74 [l0, l1] t h Q = Ev d 13 75 [l0, l1] (.int 0 :: t) h Q := en_iconst mm13 dX2_copyFrom_74 (by decide)
theorem i13_75 {d a l1 t h Q} : Ev d 13 75 [some (.ref a), l1] t h Q = Ev d 13 76 [some (.ref a), l1] (.ref a :: t) h Q := en_aload_n mm13 dX2_copyFrom_75 rfl
theorem i13_76 {d a l0 l1 t h Q} : Ev d 13 76 [l0, l1] (.ref a :: t) h Q = (hk h a = 3 ∧ Ev d 13 79 [l0, l1] (hF h a 7 :: t) h Q) := en_getfield (cj := 2) mm13 dX2_copyFrom_76 (by decide +kernel)
theorem i13_79 {d l0 l1 t h Q} : Ev d 13 79 [l0, l1] t h Q = Ev d 13 80 [l0, l1] (.int 0 :: t) h Q := en_iconst mm13 dX2_copyFrom_79 (by decide)
theorem i13_80 {d l0 l1 t h Q} : Ev d 13 80 [l0, l1] t h Q = Ev d 13 82 [l0, l1] (.int 6 :: t) h Q := en_bipush mm13 dX2_copyFrom_80 (by decide)
theorem i13_82 {d l0 l1 a b h Q} {x : Int32} (h0 : hk h a = 10) : Ev (d + 1) 13 82 [l0, l1] [.int x, .int 0, .ref b, .int 0, .ref a] h Q = ((hk h b = 10 ∧ ¬ x < 0 ∧ x.toNatClampNeg = hl h b ∧ hl h b ≤ hl h a) ∧ Ev (d + 1) 13 85 [l0, l1] [] (wA h b (hA h a)) Q) := en_acopy mm13 dX2_copyFrom_82 (by decide +kernel) h0
theorem i13_85 {d a l0 t h Q} : Ev d 13 85 [l0, some (.ref a)] t h Q = Ev d 13 86 [l0, some (.ref a)] (.ref a :: t) h Q := en_aload_n mm13 dX2_copyFrom_85 rfl
theorem i13_86 {d a l0 l1 t h Q} : Ev d 13 86 [l0, l1] (.ref a :: t) h Q = (hk h a = 3 ∧ Ev d 13 89 [l0, l1] (hF h a 8 :: t) h Q) := en_getfield (cj := 2) mm13 dX2_copyFrom_86 (by decide +kernel)
theorem i13_89 {d l0 l1 t h Q} : Ev d 13 89 [l0, l1] t h Q = Ev d 13 90 [l0, l1] (.int 0 :: t) h Q := en_iconst mm13 dX2_copyFrom_89 (by decide)
theorem i13_90 {d a l1 t h Q} : Ev d 13 90 [some (.ref a), l1] t h Q = Ev d 13 91 [some (.ref a), l1] (.ref a :: t) h Q := en_aload_n mm13 dX2_copyFrom_90 rfl
theorem i13_91 {d a l0 l1 t h Q} : Ev d 13 91 [l0, l1] (.ref a :: t) h Q = (hk h a = 3 ∧ Ev d 13 94 [l0, l1] (hF h a 8 :: t) h Q) := en_getfield (cj := 2) mm13 dX2_copyFrom_91 (by decide +kernel)
theorem i13_94 {d l0 l1 t h Q} : Ev d 13 94 [l0, l1] t h Q = Ev d 13 95 [l0, l1] (.int 0 :: t) h Q := en_iconst mm13 dX2_copyFrom_94 (by decide)
theorem i13_95 {d l0 l1 t h Q} : Ev d 13 95 [l0, l1] t h Q = Ev d 13 97 [l0, l1] (.int 20 :: t) h Q := en_bipush mm13 dX2_copyFrom_95 (by decide)
theorem i13_97 {d l0 l1 a b h Q} {x : Int32} (h0 : hk h a = 10) : Ev (d + 1) 13 97 [l0, l1] [.int x, .int 0, .ref b, .int 0, .ref a] h Q = ((hk h b = 10 ∧ ¬ x < 0 ∧ x.toNatClampNeg = hl h b ∧ hl h b ≤ hl h a) ∧ Ev (d + 1) 13 100 [l0, l1] [] (wA h b (hA h a)) Q) := en_acopy mm13 dX2_copyFrom_97 (by decide +kernel) h0
theorem i13_100 {d a l0 t h Q} : Ev d 13 100 [l0, some (.ref a)] t h Q = Ev d 13 101 [l0, some (.ref a)] (.ref a :: t) h Q := en_aload_n mm13 dX2_copyFrom_100 rfl
theorem i13_101 {d a l0 l1 t h Q} : Ev d 13 101 [l0, l1] (.ref a :: t) h Q = (hk h a = 3 ∧ Ev d 13 104 [l0, l1] (hF h a 9 :: t) h Q) := en_getfield (cj := 2) mm13 dX2_copyFrom_101 (by decide +kernel)
theorem i13_104 {d l0 l1 t h Q} : Ev d 13 104 [l0, l1] t h Q = Ev d 13 105 [l0, l1] (.int 0 :: t) h Q := en_iconst mm13 dX2_copyFrom_104 (by decide)
theorem i13_105 {d a l1 t h Q} : Ev d 13 105 [some (.ref a), l1] t h Q = Ev d 13 106 [some (.ref a), l1] (.ref a :: t) h Q := en_aload_n mm13 dX2_copyFrom_105 rfl
theorem i13_106 {d a l0 l1 t h Q} : Ev d 13 106 [l0, l1] (.ref a :: t) h Q = (hk h a = 3 ∧ Ev d 13 109 [l0, l1] (hF h a 9 :: t) h Q) := en_getfield (cj := 2) mm13 dX2_copyFrom_106 (by decide +kernel)
theorem i13_109 {d l0 l1 t h Q} : Ev d 13 109 [l0, l1] t h Q = Ev d 13 110 [l0, l1] (.int 0 :: t) h Q := en_iconst mm13 dX2_copyFrom_109 (by decide)
theorem i13_110 {d l0 l1 t h Q} : Ev d 13 110 [l0, l1] t h Q = Ev d 13 112 [l0, l1] (.int 20 :: t) h Q := en_bipush mm13 dX2_copyFrom_110 (by decide)
theorem i13_112 {d l0 l1 a b h Q} {x : Int32} (h0 : hk h a = 10) : Ev (d + 1) 13 112 [l0, l1] [.int x, .int 0, .ref b, .int 0, .ref a] h Q = ((hk h b = 10 ∧ ¬ x < 0 ∧ x.toNatClampNeg = hl h b ∧ hl h b ≤ hl h a) ∧ Ev (d + 1) 13 115 [l0, l1] [] (wA h b (hA h a)) Q) := en_acopy mm13 dX2_copyFrom_112 (by decide +kernel) h0
theorem i13_115 {d a l0 t h Q} : Ev d 13 115 [l0, some (.ref a)] t h Q = Ev d 13 116 [l0, some (.ref a)] (.ref a :: t) h Q := en_aload_n mm13 dX2_copyFrom_115 rfl
theorem i13_116 {d a l0 l1 t h Q} : Ev d 13 116 [l0, l1] (.ref a :: t) h Q = (hk h a = 3 ∧ Ev d 13 119 [l0, l1] (hF h a 10 :: t) h Q) := en_getfield (cj := 2) mm13 dX2_copyFrom_116 (by decide +kernel)
theorem i13_119 {d l0 l1 t h Q} : Ev d 13 119 [l0, l1] t h Q = Ev d 13 120 [l0, l1] (.int 0 :: t) h Q := en_iconst mm13 dX2_copyFrom_119 (by decide)
theorem i13_120 {d a l1 t h Q} : Ev d 13 120 [some (.ref a), l1] t h Q = Ev d 13 121 [some (.ref a), l1] (.ref a :: t) h Q := en_aload_n mm13 dX2_copyFrom_120 rfl
theorem i13_121 {d a l0 l1 t h Q} : Ev d 13 121 [l0, l1] (.ref a :: t) h Q = (hk h a = 3 ∧ Ev d 13 124 [l0, l1] (hF h a 10 :: t) h Q) := en_getfield (cj := 2) mm13 dX2_copyFrom_121 (by decide +kernel)
theorem i13_124 {d l0 l1 t h Q} : Ev d 13 124 [l0, l1] t h Q = Ev d 13 125 [l0, l1] (.int 0 :: t) h Q := en_iconst mm13 dX2_copyFrom_124 (by decide)
theorem i13_125 {d l0 l1 t h Q} : Ev d 13 125 [l0, l1] t h Q = Ev d 13 127 [l0, l1] (.int 20 :: t) h Q := en_bipush mm13 dX2_copyFrom_125 (by decide)
theorem i13_127 {d l0 l1 a b h Q} {x : Int32} (h0 : hk h a = 10) : Ev (d + 1) 13 127 [l0, l1] [.int x, .int 0, .ref b, .int 0, .ref a] h Q = ((hk h b = 10 ∧ ¬ x < 0 ∧ x.toNatClampNeg = hl h b ∧ hl h b ≤ hl h a) ∧ Ev (d + 1) 13 130 [l0, l1] [] (wA h b (hA h a)) Q) := en_acopy mm13 dX2_copyFrom_127 (by decide +kernel) h0
theorem i13_130 {d a l0 t h Q} : Ev d 13 130 [l0, some (.ref a)] t h Q = Ev d 13 131 [l0, some (.ref a)] (.ref a :: t) h Q := en_aload_n mm13 dX2_copyFrom_130 rfl
theorem i13_131 {d a l0 l1 t h Q} : Ev d 13 131 [l0, l1] (.ref a :: t) h Q = (hk h a = 3 ∧ Ev d 13 134 [l0, l1] (hF h a 11 :: t) h Q) := en_getfield (cj := 2) mm13 dX2_copyFrom_131 (by decide +kernel)
theorem i13_134 {d l0 l1 t h Q} : Ev d 13 134 [l0, l1] t h Q = Ev d 13 135 [l0, l1] (.int 0 :: t) h Q := en_iconst mm13 dX2_copyFrom_134 (by decide)
theorem i13_135 {d a l1 t h Q} : Ev d 13 135 [some (.ref a), l1] t h Q = Ev d 13 136 [some (.ref a), l1] (.ref a :: t) h Q := en_aload_n mm13 dX2_copyFrom_135 rfl
theorem i13_136 {d a l0 l1 t h Q} : Ev d 13 136 [l0, l1] (.ref a :: t) h Q = (hk h a = 3 ∧ Ev d 13 139 [l0, l1] (hF h a 11 :: t) h Q) := en_getfield (cj := 2) mm13 dX2_copyFrom_136 (by decide +kernel)
theorem i13_139 {d l0 l1 t h Q} : Ev d 13 139 [l0, l1] t h Q = Ev d 13 140 [l0, l1] (.int 0 :: t) h Q := en_iconst mm13 dX2_copyFrom_139 (by decide)
theorem i13_140 {d l0 l1 t h Q} : Ev d 13 140 [l0, l1] t h Q = Ev d 13 142 [l0, l1] (.int 20 :: t) h Q := en_bipush mm13 dX2_copyFrom_140 (by decide)
theorem i13_142 {d l0 l1 a b h Q} {x : Int32} (h0 : hk h a = 10) : Ev (d + 1) 13 142 [l0, l1] [.int x, .int 0, .ref b, .int 0, .ref a] h Q = ((hk h b = 10 ∧ ¬ x < 0 ∧ x.toNatClampNeg = hl h b ∧ hl h b ≤ hl h a) ∧ Ev (d + 1) 13 145 [l0, l1] [] (wA h b (hA h a)) Q) := en_acopy mm13 dX2_copyFrom_142 (by decide +kernel) h0
theorem i13_145 {d a l0 t h Q} : Ev d 13 145 [l0, some (.ref a)] t h Q = Ev d 13 146 [l0, some (.ref a)] (.ref a :: t) h Q := en_aload_n mm13 dX2_copyFrom_145 rfl
theorem i13_146 {d a l0 l1 t h Q} : Ev d 13 146 [l0, l1] (.ref a :: t) h Q = (hk h a = 3 ∧ Ev d 13 149 [l0, l1] (hF h a 12 :: t) h Q) := en_getfield (cj := 2) mm13 dX2_copyFrom_146 (by decide +kernel)
theorem i13_149 {d l0 l1 t h Q} : Ev d 13 149 [l0, l1] t h Q = Ev d 13 150 [l0, l1] (.int 0 :: t) h Q := en_iconst mm13 dX2_copyFrom_149 (by decide)
theorem i13_150 {d a l1 t h Q} : Ev d 13 150 [some (.ref a), l1] t h Q = Ev d 13 151 [some (.ref a), l1] (.ref a :: t) h Q := en_aload_n mm13 dX2_copyFrom_150 rfl
theorem i13_151 {d a l0 l1 t h Q} : Ev d 13 151 [l0, l1] (.ref a :: t) h Q = (hk h a = 3 ∧ Ev d 13 154 [l0, l1] (hF h a 12 :: t) h Q) := en_getfield (cj := 2) mm13 dX2_copyFrom_151 (by decide +kernel)
theorem i13_154 {d l0 l1 t h Q} : Ev d 13 154 [l0, l1] t h Q = Ev d 13 155 [l0, l1] (.int 0 :: t) h Q := en_iconst mm13 dX2_copyFrom_154 (by decide)
theorem i13_155 {d l0 l1 t h Q} : Ev d 13 155 [l0, l1] t h Q = Ev d 13 157 [l0, l1] (.int 20 :: t) h Q := en_bipush mm13 dX2_copyFrom_155 (by decide)
theorem i13_157 {d l0 l1 a b h Q} {x : Int32} (h0 : hk h a = 10) : Ev (d + 1) 13 157 [l0, l1] [.int x, .int 0, .ref b, .int 0, .ref a] h Q = ((hk h b = 10 ∧ ¬ x < 0 ∧ x.toNatClampNeg = hl h b ∧ hl h b ≤ hl h a) ∧ Ev (d + 1) 13 160 [l0, l1] [] (wA h b (hA h a)) Q) := en_acopy mm13 dX2_copyFrom_157 (by decide +kernel) h0
theorem i13_160 {d a l0 t h Q} : Ev d 13 160 [l0, some (.ref a)] t h Q = Ev d 13 161 [l0, some (.ref a)] (.ref a :: t) h Q := en_aload_n mm13 dX2_copyFrom_160 rfl
theorem i13_161 {d a l0 l1 t h Q} : Ev d 13 161 [l0, l1] (.ref a :: t) h Q = (hk h a = 3 ∧ Ev d 13 164 [l0, l1] (hF h a 13 :: t) h Q) := en_getfield (cj := 2) mm13 dX2_copyFrom_161 (by decide +kernel)
theorem i13_164 {d l0 l1 t h Q} : Ev d 13 164 [l0, l1] t h Q = Ev d 13 165 [l0, l1] (.int 0 :: t) h Q := en_iconst mm13 dX2_copyFrom_164 (by decide)
theorem i13_165 {d a l1 t h Q} : Ev d 13 165 [some (.ref a), l1] t h Q = Ev d 13 166 [some (.ref a), l1] (.ref a :: t) h Q := en_aload_n mm13 dX2_copyFrom_165 rfl
theorem i13_166 {d a l0 l1 t h Q} : Ev d 13 166 [l0, l1] (.ref a :: t) h Q = (hk h a = 3 ∧ Ev d 13 169 [l0, l1] (hF h a 13 :: t) h Q) := en_getfield (cj := 2) mm13 dX2_copyFrom_166 (by decide +kernel)
theorem i13_169 {d l0 l1 t h Q} : Ev d 13 169 [l0, l1] t h Q = Ev d 13 170 [l0, l1] (.int 0 :: t) h Q := en_iconst mm13 dX2_copyFrom_169 (by decide)
theorem i13_170 {d l0 l1 t h Q} : Ev d 13 170 [l0, l1] t h Q = Ev d 13 172 [l0, l1] (.int 20 :: t) h Q := en_bipush mm13 dX2_copyFrom_170 (by decide)
theorem i13_172 {d l0 l1 a b h Q} {x : Int32} (h0 : hk h a = 10) : Ev (d + 1) 13 172 [l0, l1] [.int x, .int 0, .ref b, .int 0, .ref a] h Q = ((hk h b = 10 ∧ ¬ x < 0 ∧ x.toNatClampNeg = hl h b ∧ hl h b ≤ hl h a) ∧ Ev (d + 1) 13 175 [l0, l1] [] (wA h b (hA h a)) Q) := en_acopy mm13 dX2_copyFrom_172 (by decide +kernel) h0
theorem i13_175 {d a l0 t h Q} : Ev d 13 175 [l0, some (.ref a)] t h Q = Ev d 13 176 [l0, some (.ref a)] (.ref a :: t) h Q := en_aload_n mm13 dX2_copyFrom_175 rfl
theorem i13_176 {d a l0 l1 t h Q} : Ev d 13 176 [l0, l1] (.ref a :: t) h Q = (hk h a = 3 ∧ Ev d 13 179 [l0, l1] (hF h a 14 :: t) h Q) := en_getfield (cj := 2) mm13 dX2_copyFrom_176 (by decide +kernel)
theorem i13_179 {d l0 l1 t h Q} : Ev d 13 179 [l0, l1] t h Q = Ev d 13 180 [l0, l1] (.int 0 :: t) h Q := en_iconst mm13 dX2_copyFrom_179 (by decide)
theorem i13_180 {d a l1 t h Q} : Ev d 13 180 [some (.ref a), l1] t h Q = Ev d 13 181 [some (.ref a), l1] (.ref a :: t) h Q := en_aload_n mm13 dX2_copyFrom_180 rfl
theorem i13_181 {d a l0 l1 t h Q} : Ev d 13 181 [l0, l1] (.ref a :: t) h Q = (hk h a = 3 ∧ Ev d 13 184 [l0, l1] (hF h a 14 :: t) h Q) := en_getfield (cj := 2) mm13 dX2_copyFrom_181 (by decide +kernel)
theorem i13_184 {d l0 l1 t h Q} : Ev d 13 184 [l0, l1] t h Q = Ev d 13 185 [l0, l1] (.int 0 :: t) h Q := en_iconst mm13 dX2_copyFrom_184 (by decide)
theorem i13_185 {d l0 l1 t h Q} : Ev d 13 185 [l0, l1] t h Q = Ev d 13 187 [l0, l1] (.int 20 :: t) h Q := en_bipush mm13 dX2_copyFrom_185 (by decide)
theorem i13_187 {d l0 l1 a b h Q} {x : Int32} (h0 : hk h a = 10) : Ev (d + 1) 13 187 [l0, l1] [.int x, .int 0, .ref b, .int 0, .ref a] h Q = ((hk h b = 10 ∧ ¬ x < 0 ∧ x.toNatClampNeg = hl h b ∧ hl h b ≤ hl h a) ∧ Ev (d + 1) 13 190 [l0, l1] [] (wA h b (hA h a)) Q) := en_acopy mm13 dX2_copyFrom_187 (by decide +kernel) h0
theorem i13_190 {d l0 l1 h Q} : Ev d 13 190 [l0, l1] [] h Q = Q (.inl none) h := en_return mm13 dX2_copyFrom_190 rfl
abbrev em14 : MI := (yX2_sheetsIn, cX2_sheetsIn, 4, some .int, 2, [])
theorem mm14 : mtab[14]? = some em14 := rfl
theorem in14 {d : Nat} {h : AH} {K : AO → AH → Prop} {v0 : Nat} {v1 : Int32} : EvM d 14 [(.ref v0), (.int v1)] h K = Ev d 14 0 [some (.ref v0), some (.int v1), none, none] [] h K := evm_in mm14 (of_decide_eq_true rfl) rfl
theorem i14_0 {d l0 l1 l2 l3 t h Q} : Ev d 14 0 [l0, l1, l2, l3] t h Q = Ev d 14 1 [l0, l1, l2, l3] (.int 0 :: t) h Q := en_iconst mm14 dX2_sheetsIn_0 (by decide)
theorem i14_1 {d l0 l1 l2 l3 t x h Q} : Ev d 14 1 [l0, l1, l2, l3] (.int x :: t) h Q = Ev d 14 2 [l0, nl l1, some (.int x), l3] t h Q := en_istore_n mm14 dX2_sheetsIn_1 (of_decide_eq_true rfl) rfl
theorem i14_2 {d l0 l1 l2 l3 t h Q} : Ev d 14 2 [l0, l1, l2, l3] t h Q = Ev d 14 3 [l0, l1, l2, l3] (.int 0 :: t) h Q := en_iconst mm14 dX2_sheetsIn_2 (by decide)
theorem i14_3 {d l0 l1 l2 l3 t x h Q} : Ev d 14 3 [l0, l1, l2, l3] (.int x :: t) h Q = Ev d 14 4 [l0, l1, nl l2, some (.int x)] t h Q := en_istore_n mm14 dX2_sheetsIn_3 (of_decide_eq_true rfl) rfl
theorem i14_4 {d l0 l1 l2 t x h Q} : Ev d 14 4 [l0, l1, l2, some (.int x)] t h Q = Ev d 14 5 [l0, l1, l2, some (.int x)] (.int x :: t) h Q := en_iload_n mm14 dX2_sheetsIn_4 rfl
theorem i14_5 {d a l1 l2 l3 t h Q} : Ev d 14 5 [some (.ref a), l1, l2, l3] t h Q = Ev d 14 6 [some (.ref a), l1, l2, l3] (.ref a :: t) h Q := en_aload_n mm14 dX2_sheetsIn_5 rfl
theorem i14_6 {d a l0 l1 l2 l3 t h Q} : Ev d 14 6 [l0, l1, l2, l3] (.ref a :: t) h Q = (hk h a = 3 ∧ Ev d 14 9 [l0, l1, l2, l3] (hF h a 2 :: t) h Q) := en_getfield (cj := 2) mm14 dX2_sheetsIn_6 (by decide +kernel)
theorem i14_9 {d l0 l1 l2 l3 t x y h Q} : Ev d 14 9 [l0, l1, l2, l3] (.int y :: .int x :: t) h Q = if y ≤ x then Ev d 14 31 [l0, l1, l2, l3] t h Q else Ev d 14 12 [l0, l1, l2, l3] t h Q := en_ic_ge mm14 dX2_sheetsIn_9 rfl
theorem i14_12 {d a l1 l2 l3 t h Q} : Ev d 14 12 [some (.ref a), l1, l2, l3] t h Q = Ev d 14 13 [some (.ref a), l1, l2, l3] (.ref a :: t) h Q := en_aload_n mm14 dX2_sheetsIn_12 rfl
theorem i14_13 {d a l0 l1 l2 l3 t h Q} : Ev d 14 13 [l0, l1, l2, l3] (.ref a :: t) h Q = (hk h a = 3 ∧ Ev d 14 16 [l0, l1, l2, l3] (hF h a 10 :: t) h Q) := en_getfield (cj := 2) mm14 dX2_sheetsIn_13 (by decide +kernel)
theorem i14_16 {d l0 l1 l2 t x h Q} : Ev d 14 16 [l0, l1, l2, some (.int x)] t h Q = Ev d 14 17 [l0, l1, l2, some (.int x)] (.int x :: t) h Q := en_iload_n mm14 dX2_sheetsIn_16 rfl
theorem i14_17 {d a j l0 l1 l2 l3 t h Q} : Ev d 14 17 [l0, l1, l2, l3] (.int j :: .ref a :: t) h Q = (hk h a = 10 ∧ inb j (hl h a) ∧ Ev d 14 18 [l0, l1, l2, l3] (.int (hA h a j.toNatClampNeg) :: t) h Q) := en_iaload mm14 dX2_sheetsIn_17
theorem i14_18 {d l0 l2 l3 t x h Q} : Ev d 14 18 [l0, some (.int x), l2, l3] t h Q = Ev d 14 19 [l0, some (.int x), l2, l3] (.int x :: t) h Q := en_iload_n mm14 dX2_sheetsIn_18 rfl
theorem i14_19 {d l0 l1 l2 l3 t x y h Q} : Ev d 14 19 [l0, l1, l2, l3] (.int y :: .int x :: t) h Q = if x = y then Ev d 14 22 [l0, l1, l2, l3] t h Q else Ev d 14 25 [l0, l1, l2, l3] t h Q := en_ic_ne mm14 dX2_sheetsIn_19 rfl
theorem i14_22 {d l0 l1 l3 t x h Q} : Ev d 14 22 [l0, l1, some (.int x), l3] t h Q = Ev d 14 25 [l0, nl l1, some (.int (x + 1)), l3] t h Q := en_iinc mm14 dX2_sheetsIn_22 rfl (by decide) rfl
theorem i14_25 {d l0 l1 l2 t x h Q} : Ev d 14 25 [l0, l1, l2, some (.int x)] t h Q = Ev d 14 28 [l0, l1, nl l2, some (.int (x + 1))] t h Q := en_iinc mm14 dX2_sheetsIn_25 rfl (by decide) rfl
theorem i14_28 {d l0 l1 l2 l3 t h Q} : Ev d 14 28 [l0, l1, l2, l3] t h Q = Ev d 14 4 [l0, l1, l2, l3] t h Q := en_goto mm14 dX2_sheetsIn_28 rfl
theorem i14_31 {d l0 l1 l3 t x h Q} : Ev d 14 31 [l0, l1, some (.int x), l3] t h Q = Ev d 14 32 [l0, l1, some (.int x), l3] (.int x :: t) h Q := en_iload_n mm14 dX2_sheetsIn_31 rfl
theorem i14_32 {d l0 l1 l2 l3 x h Q} : Ev d 14 32 [l0, l1, l2, l3] [.int x] h Q = Q (.inl (some (.int x))) h := en_ireturnI mm14 dX2_sheetsIn_32 rfl
abbrev em15 : MI := (yX2_isFinished, cX2_isFinished, 2, some .boolean, 2, [])
theorem mm15 : mtab[15]? = some em15 := rfl
theorem in15 {d : Nat} {h : AH} {K : AO → AH → Prop} {v0 : Nat} : EvM d 15 [(.ref v0)] h K = Ev d 15 0 [some (.ref v0), none] [] h K := evm_in mm15 (of_decide_eq_true rfl) rfl
theorem i15_0 {d l0 l1 t h Q} : Ev d 15 0 [l0, l1] t h Q = Ev d 15 1 [l0, l1] (.int 0 :: t) h Q := en_iconst mm15 dX2_isFinished_0 (by decide)
theorem i15_1 {d l0 l1 t x h Q} : Ev d 15 1 [l0, l1] (.int x :: t) h Q = Ev d 15 2 [nl l0, some (.int x)] t h Q := en_istore_n mm15 dX2_isFinished_1 (of_decide_eq_true rfl) rfl
theorem i15_2 {d l0 t x h Q} : Ev d 15 2 [l0, some (.int x)] t h Q = Ev d 15 3 [l0, some (.int x)] (.int x :: t) h Q := en_iload_n mm15 dX2_isFinished_2 rfl
theorem i15_3 {d a l1 t h Q} : Ev d 15 3 [some (.ref a), l1] t h Q = Ev d 15 4 [some (.ref a), l1] (.ref a :: t) h Q := en_aload_n mm15 dX2_isFinished_3 rfl
theorem i15_4 {d a l0 l1 t h Q} : Ev d 15 4 [l0, l1] (.ref a :: t) h Q = (hk h a = 3 ∧ Ev d 15 7 [l0, l1] (hF h a 2 :: t) h Q) := en_getfield (cj := 2) mm15 dX2_isFinished_4 (by decide +kernel)
theorem i15_7 {d l0 l1 t x y h Q} : Ev d 15 7 [l0, l1] (.int y :: .int x :: t) h Q = if y ≤ x then Ev d 15 47 [l0, l1] t h Q else Ev d 15 10 [l0, l1] t h Q := en_ic_ge mm15 dX2_isFinished_7 rfl
theorem i15_10 {d a l1 t h Q} : Ev d 15 10 [some (.ref a), l1] t h Q = Ev d 15 11 [some (.ref a), l1] (.ref a :: t) h Q := en_aload_n mm15 dX2_isFinished_10 rfl
theorem i15_11 {d a l0 l1 t h Q} : Ev d 15 11 [l0, l1] (.ref a :: t) h Q = (hk h a = 3 ∧ Ev d 15 14 [l0, l1] (hF h a 10 :: t) h Q) := en_getfield (cj := 2) mm15 dX2_isFinished_11 (by decide +kernel)
theorem i15_14 {d l0 t x h Q} : Ev d 15 14 [l0, some (.int x)] t h Q = Ev d 15 15 [l0, some (.int x)] (.int x :: t) h Q := en_iload_n mm15 dX2_isFinished_14 rfl
theorem i15_15 {d a j l0 l1 t h Q} : Ev d 15 15 [l0, l1] (.int j :: .ref a :: t) h Q = (hk h a = 10 ∧ inb j (hl h a) ∧ Ev d 15 16 [l0, l1] (.int (hA h a j.toNatClampNeg) :: t) h Q) := en_iaload mm15 dX2_isFinished_15
theorem i15_16 {d l0 l1 t x h Q} : Ev d 15 16 [l0, l1] (.int x :: t) h Q = if x = 0 then Ev d 15 39 [l0, l1] t h Q else Ev d 15 19 [l0, l1] t h Q := en_if_eq mm15 dX2_isFinished_16 rfl
theorem i15_19 {d a l1 t h Q} : Ev d 15 19 [some (.ref a), l1] t h Q = Ev d 15 20 [some (.ref a), l1] (.ref a :: t) h Q := en_aload_n mm15 dX2_isFinished_19 rfl
theorem i15_20 {d a l0 l1 t h Q} : Ev d 15 20 [l0, l1] (.ref a :: t) h Q = (hk h a = 3 ∧ Ev d 15 23 [l0, l1] (hF h a 10 :: t) h Q) := en_getfield (cj := 2) mm15 dX2_isFinished_20 (by decide +kernel)
theorem i15_23 {d l0 t x h Q} : Ev d 15 23 [l0, some (.int x)] t h Q = Ev d 15 24 [l0, some (.int x)] (.int x :: t) h Q := en_iload_n mm15 dX2_isFinished_23 rfl
theorem i15_24 {d a j l0 l1 t h Q} : Ev d 15 24 [l0, l1] (.int j :: .ref a :: t) h Q = (hk h a = 10 ∧ inb j (hl h a) ∧ Ev d 15 25 [l0, l1] (.int (hA h a j.toNatClampNeg) :: t) h Q) := en_iaload mm15 dX2_isFinished_24
theorem i15_25 {d l0 l1 t h Q} : Ev d 15 25 [l0, l1] t h Q = Ev d 15 26 [l0, l1] (.int 1 :: t) h Q := en_iconst mm15 dX2_isFinished_25 (by decide)
theorem i15_26 {d l0 l1 t x y h Q} : Ev d 15 26 [l0, l1] (.int y :: .int x :: t) h Q = if x = y then Ev d 15 39 [l0, l1] t h Q else Ev d 15 29 [l0, l1] t h Q := en_ic_eq mm15 dX2_isFinished_26 rfl
theorem i15_29 {d a l1 t h Q} : Ev d 15 29 [some (.ref a), l1] t h Q = Ev d 15 30 [some (.ref a), l1] (.ref a :: t) h Q := en_aload_n mm15 dX2_isFinished_29 rfl
theorem i15_30 {d a l0 l1 t h Q} : Ev d 15 30 [l0, l1] (.ref a :: t) h Q = (hk h a = 3 ∧ Ev d 15 33 [l0, l1] (hF h a 10 :: t) h Q) := en_getfield (cj := 2) mm15 dX2_isFinished_30 (by decide +kernel)
theorem i15_33 {d l0 t x h Q} : Ev d 15 33 [l0, some (.int x)] t h Q = Ev d 15 34 [l0, some (.int x)] (.int x :: t) h Q := en_iload_n mm15 dX2_isFinished_33 rfl
theorem i15_34 {d a j l0 l1 t h Q} : Ev d 15 34 [l0, l1] (.int j :: .ref a :: t) h Q = (hk h a = 10 ∧ inb j (hl h a) ∧ Ev d 15 35 [l0, l1] (.int (hA h a j.toNatClampNeg) :: t) h Q) := en_iaload mm15 dX2_isFinished_34
theorem i15_35 {d l0 l1 t h Q} : Ev d 15 35 [l0, l1] t h Q = Ev d 15 36 [l0, l1] (.int 2 :: t) h Q := en_iconst mm15 dX2_isFinished_35 (by decide)
theorem i15_36 {d l0 l1 t x y h Q} : Ev d 15 36 [l0, l1] (.int y :: .int x :: t) h Q = if x = y then Ev d 15 39 [l0, l1] t h Q else Ev d 15 41 [l0, l1] t h Q := en_ic_ne mm15 dX2_isFinished_36 rfl
theorem i15_39 {d l0 l1 t h Q} : Ev d 15 39 [l0, l1] t h Q = Ev d 15 40 [l0, l1] (.int 0 :: t) h Q := en_iconst mm15 dX2_isFinished_39 (by decide)
theorem i15_40 {d l0 l1 x h Q} : Ev d 15 40 [l0, l1] [.int x] h Q = (narrow .boolean (.int x) = .int x ∧ Q (.inl (some (.int x))) h) := en_ireturn mm15 dX2_isFinished_40 rfl
theorem i15_41 {d l0 t x h Q} : Ev d 15 41 [l0, some (.int x)] t h Q = Ev d 15 44 [nl l0, some (.int (x + 1))] t h Q := en_iinc mm15 dX2_isFinished_41 rfl (by decide) rfl
theorem i15_44 {d l0 l1 t h Q} : Ev d 15 44 [l0, l1] t h Q = Ev d 15 2 [l0, l1] t h Q := en_goto mm15 dX2_isFinished_44 rfl
theorem i15_47 {d l0 l1 t h Q} : Ev d 15 47 [l0, l1] t h Q = Ev d 15 48 [l0, l1] (.int 1 :: t) h Q := en_iconst mm15 dX2_isFinished_47 (by decide)
theorem i15_48 {d l0 l1 x h Q} : Ev d 15 48 [l0, l1] [.int x] h Q = (narrow .boolean (.int x) = .int x ∧ Q (.inl (some (.int x))) h) := en_ireturn mm15 dX2_isFinished_48 rfl
abbrev em16 : MI := (yX2_ticksToFinish, cX2_ticksToFinish, 3, some .int, 2, [])
theorem mm16 : mtab[16]? = some em16 := rfl
theorem in16 {d : Nat} {h : AH} {K : AO → AH → Prop} {v0 : Nat} {v1 : Int32} : EvM d 16 [(.ref v0), (.int v1)] h K = Ev d 16 0 [some (.ref v0), some (.int v1), none] [] h K := evm_in mm16 (of_decide_eq_true rfl) rfl
theorem i16_0 {d l0 l1 l2 t h Q} : Ev d 16 0 [l0, l1, l2] t h Q = Ev d 16 1 [l0, l1, l2] (.int 0 :: t) h Q := en_iconst mm16 dX2_ticksToFinish_0 (by decide)
theorem i16_1 {d l0 l1 l2 t x h Q} : Ev d 16 1 [l0, l1, l2] (.int x :: t) h Q = Ev d 16 2 [l0, nl l1, some (.int x)] t h Q := en_istore_n mm16 dX2_ticksToFinish_1 (of_decide_eq_true rfl) rfl
theorem i16_2 {d l0 l1 t x h Q} : Ev d 16 2 [l0, l1, some (.int x)] t h Q = Ev d 16 3 [l0, l1, some (.int x)] (.int x :: t) h Q := en_iload_n mm16 dX2_ticksToFinish_2 rfl
theorem i16_3 {d l0 l2 t x h Q} : Ev d 16 3 [l0, some (.int x), l2] t h Q = Ev d 16 4 [l0, some (.int x), l2] (.int x :: t) h Q := en_iload_n mm16 dX2_ticksToFinish_3 rfl
theorem i16_4 {d l0 l1 l2 t x y h Q} : Ev d 16 4 [l0, l1, l2] (.int y :: .int x :: t) h Q = if y ≤ x then Ev d 16 26 [l0, l1, l2] t h Q else Ev d 16 7 [l0, l1, l2] t h Q := en_ic_ge mm16 dX2_ticksToFinish_4 rfl
theorem i16_7 {d a l1 l2 t h Q} : Ev d 16 7 [some (.ref a), l1, l2] t h Q = Ev d 16 8 [some (.ref a), l1, l2] (.ref a :: t) h Q := en_aload_n mm16 dX2_ticksToFinish_7 rfl
theorem i16_8 {d a l0 l1 l2 h Q} : Ev (d + 1) 16 8 [l0, l1, l2] [.ref a] h Q = (hk h a = 3 ∧ EvM d 15 [.ref a] h (konN (d + 1) 16 11 [l0, l1, l2] [] Q)) := en_virtualN mm16 dX2_ticksToFinish_8 (by decide +kernel : ml _ _ = some (2, 15)) (by decide) (rfl : mtab[15]? = some _) (by decide +kernel : npar _ = 0) rfl (by decide) rfl (of_decide_eq_true rfl) (len_cat (of_decide_eq_true rfl)) rfl rfl rfl
theorem i16_11 {d l0 l1 l2 t x h Q} : Ev d 16 11 [l0, l1, l2] (.int x :: t) h Q = if x = 0 then Ev d 16 16 [l0, l1, l2] t h Q else Ev d 16 14 [l0, l1, l2] t h Q := en_if_eq mm16 dX2_ticksToFinish_11 rfl
theorem i16_14 {d l0 l1 t x h Q} : Ev d 16 14 [l0, l1, some (.int x)] t h Q = Ev d 16 15 [l0, l1, some (.int x)] (.int x :: t) h Q := en_iload_n mm16 dX2_ticksToFinish_14 rfl
theorem i16_15 {d l0 l1 l2 x h Q} : Ev d 16 15 [l0, l1, l2] [.int x] h Q = Q (.inl (some (.int x))) h := en_ireturnI mm16 dX2_ticksToFinish_15 rfl
theorem i16_16 {d a l1 l2 t h Q} : Ev d 16 16 [some (.ref a), l1, l2] t h Q = Ev d 16 17 [some (.ref a), l1, l2] (.ref a :: t) h Q := en_aload_n mm16 dX2_ticksToFinish_16 rfl
theorem i16_17 {d a l0 l1 l2 h Q} : Ev (d + 1) 16 17 [l0, l1, l2] [.ref a] h Q = (hk h a = 3 ∧ EvM d 17 [.ref a] h (konN (d + 1) 16 20 [l0, l1, l2] [] Q)) := en_virtualN mm16 dX2_ticksToFinish_17 (by decide +kernel : ml _ _ = some (2, 17)) (by decide) (rfl : mtab[17]? = some _) (by decide +kernel : npar _ = 0) rfl (by decide) rfl (of_decide_eq_true rfl) (len_cat (of_decide_eq_true rfl)) rfl rfl rfl
theorem i16_20 {d l0 l1 t x h Q} : Ev d 16 20 [l0, l1, some (.int x)] t h Q = Ev d 16 23 [l0, nl l1, some (.int (x + 1))] t h Q := en_iinc mm16 dX2_ticksToFinish_20 rfl (by decide) rfl
theorem i16_23 {d l0 l1 l2 t h Q} : Ev d 16 23 [l0, l1, l2] t h Q = Ev d 16 2 [l0, l1, l2] t h Q := en_goto mm16 dX2_ticksToFinish_23 rfl
theorem i16_26 {d a l1 l2 t h Q} : Ev d 16 26 [some (.ref a), l1, l2] t h Q = Ev d 16 27 [some (.ref a), l1, l2] (.ref a :: t) h Q := en_aload_n mm16 dX2_ticksToFinish_26 rfl
theorem i16_27 {d a l0 l1 l2 h Q} : Ev (d + 1) 16 27 [l0, l1, l2] [.ref a] h Q = (hk h a = 3 ∧ EvM d 15 [.ref a] h (konN (d + 1) 16 30 [l0, l1, l2] [] Q)) := en_virtualN mm16 dX2_ticksToFinish_27 (by decide +kernel : ml _ _ = some (2, 15)) (by decide) (rfl : mtab[15]? = some _) (by decide +kernel : npar _ = 0) rfl (by decide) rfl (of_decide_eq_true rfl) (len_cat (of_decide_eq_true rfl)) rfl rfl rfl
theorem i16_30 {d l0 l1 l2 t x h Q} : Ev d 16 30 [l0, l1, l2] (.int x :: t) h Q = if x = 0 then Ev d 16 37 [l0, l1, l2] t h Q else Ev d 16 33 [l0, l1, l2] t h Q := en_if_eq mm16 dX2_ticksToFinish_30 rfl
theorem i16_33 {d l0 l2 t x h Q} : Ev d 16 33 [l0, some (.int x), l2] t h Q = Ev d 16 34 [l0, some (.int x), l2] (.int x :: t) h Q := en_iload_n mm16 dX2_ticksToFinish_33 rfl
theorem i16_34 {d l0 l1 l2 t h Q} : Ev d 16 34 [l0, l1, l2] t h Q = Ev d 16 38 [l0, l1, l2] t h Q := en_goto mm16 dX2_ticksToFinish_34 rfl
theorem i16_37 {d l0 l1 l2 t h Q} : Ev d 16 37 [l0, l1, l2] t h Q = Ev d 16 38 [l0, l1, l2] (.int (-1) :: t) h Q := en_iconst mm16 dX2_ticksToFinish_37 (by decide)
theorem i16_38 {d l0 l1 l2 x h Q} : Ev d 16 38 [l0, l1, l2] [.int x] h Q = Q (.inl (some (.int x))) h := en_ireturnI mm16 dX2_ticksToFinish_38 rfl
abbrev em17 : MI := (yX2_tick, cX2_tick, 3, none, 2, [])
theorem mm17 : mtab[17]? = some em17 := rfl
theorem in17 {d : Nat} {h : AH} {K : AO → AH → Prop} {v0 : Nat} : EvM d 17 [(.ref v0)] h K = Ev d 17 0 [some (.ref v0), none, none] [] h K := evm_in mm17 (of_decide_eq_true rfl) rfl
theorem i17_0 {d a l1 l2 t h Q} : Ev d 17 0 [some (.ref a), l1, l2] t h Q = Ev d 17 1 [some (.ref a), l1, l2] (.ref a :: t) h Q := en_aload_n mm17 dX2_tick_0 rfl
theorem i17_1 {d a l0 l1 l2 h Q} : Ev (d + 1) 17 1 [l0, l1, l2] [.ref a] h Q = (hk h a = 3 ∧ EvM d 18 [.ref a] h (konN (d + 1) 17 4 [l0, l1, l2] [] Q)) := en_virtualN mm17 dX2_tick_1 (by decide +kernel : ml _ _ = some (2, 18)) (by decide) (rfl : mtab[18]? = some _) (by decide +kernel : npar _ = 0) rfl (by decide) rfl (of_decide_eq_true rfl) (len_cat (of_decide_eq_true rfl)) rfl rfl rfl
theorem i17_4 {d l0 l1 l2 t h Q} : Ev d 17 4 [l0, l1, l2] t h Q = Ev d 17 5 [l0, l1, l2] (.int 0 :: t) h Q := en_iconst mm17 dX2_tick_4 (by decide)
theorem i17_5 {d l0 l1 l2 t x h Q} : Ev d 17 5 [l0, l1, l2] (.int x :: t) h Q = Ev d 17 6 [nl l0, some (.int x), l2] t h Q := en_istore_n mm17 dX2_tick_5 (of_decide_eq_true rfl) rfl
theorem i17_6 {d l0 l2 t x h Q} : Ev d 17 6 [l0, some (.int x), l2] t h Q = Ev d 17 7 [l0, some (.int x), l2] (.int x :: t) h Q := en_iload_n mm17 dX2_tick_6 rfl
theorem i17_7 {d a l1 l2 t h Q} : Ev d 17 7 [some (.ref a), l1, l2] t h Q = Ev d 17 8 [some (.ref a), l1, l2] (.ref a :: t) h Q := en_aload_n mm17 dX2_tick_7 rfl
theorem i17_8 {d a l0 l1 l2 t h Q} : Ev d 17 8 [l0, l1, l2] (.ref a :: t) h Q = (hk h a = 3 ∧ Ev d 17 11 [l0, l1, l2] (hF h a 0 :: t) h Q) := en_getfield (cj := 2) mm17 dX2_tick_8 (by decide +kernel)
theorem i17_11 {d a l0 l1 l2 t h Q} : Ev d 17 11 [l0, l1, l2] (.ref a :: t) h Q = (hk h a = 4 ∧ Ev d 17 14 [l0, l1, l2] (hF h a 0 :: t) h Q) := en_getfield (cj := 3) mm17 dX2_tick_11 (by decide +kernel)
theorem i17_14 {d l0 l1 l2 t x y h Q} : Ev d 17 14 [l0, l1, l2] (.int y :: .int x :: t) h Q = if y ≤ x then Ev d 17 28 [l0, l1, l2] t h Q else Ev d 17 17 [l0, l1, l2] t h Q := en_ic_ge mm17 dX2_tick_14 rfl
theorem i17_17 {d a l1 l2 t h Q} : Ev d 17 17 [some (.ref a), l1, l2] t h Q = Ev d 17 18 [some (.ref a), l1, l2] (.ref a :: t) h Q := en_aload_n mm17 dX2_tick_17 rfl
theorem i17_18 {d l0 l2 t x h Q} : Ev d 17 18 [l0, some (.int x), l2] t h Q = Ev d 17 19 [l0, some (.int x), l2] (.int x :: t) h Q := en_iload_n mm17 dX2_tick_18 rfl
theorem i17_19 {d a l0 l1 l2 x0 h Q} : Ev (d + 1) 17 19 [l0, l1, l2] [x0, .ref a] h Q = (hk h a = 3 ∧ EvM d 19 [.ref a, x0] h (konN (d + 1) 17 22 [l0, l1, l2] [] Q)) := en_virtualN mm17 dX2_tick_19 (by decide +kernel : ml _ _ = some (2, 19)) (by decide) (rfl : mtab[19]? = some _) (by decide +kernel : npar _ = 1) rfl (by decide) rfl (of_decide_eq_true rfl) (len_cat (of_decide_eq_true rfl)) rfl rfl rfl
theorem i17_22 {d l0 l2 t x h Q} : Ev d 17 22 [l0, some (.int x), l2] t h Q = Ev d 17 25 [nl l0, some (.int (x + 1)), l2] t h Q := en_iinc mm17 dX2_tick_22 rfl (by decide) rfl
theorem i17_25 {d l0 l1 l2 t h Q} : Ev d 17 25 [l0, l1, l2] t h Q = Ev d 17 6 [l0, l1, l2] t h Q := en_goto mm17 dX2_tick_25 rfl
theorem i17_28 {d a l1 l2 t h Q} : Ev d 17 28 [some (.ref a), l1, l2] t h Q = Ev d 17 29 [some (.ref a), l1, l2] (.ref a :: t) h Q := en_aload_n mm17 dX2_tick_28 rfl
theorem i17_29 {d a l0 l1 l2 h Q} : Ev (d + 1) 17 29 [l0, l1, l2] [.ref a] h Q = (hk h a = 3 ∧ EvM d 20 [.ref a] h (konN (d + 1) 17 32 [l0, l1, l2] [] Q)) := en_virtualN mm17 dX2_tick_29 (by decide +kernel : ml _ _ = some (2, 20)) (by decide) (rfl : mtab[20]? = some _) (by decide +kernel : npar _ = 0) rfl (by decide) rfl (of_decide_eq_true rfl) (len_cat (of_decide_eq_true rfl)) rfl rfl rfl
theorem i17_32 {d l0 l1 l2 t x h Q} : Ev d 17 32 [l0, l1, l2] (.int x :: t) h Q = Ev d 17 33 [nl l0, some (.int x), l2] t h Q := en_istore_n mm17 dX2_tick_32 (of_decide_eq_true rfl) rfl
theorem i17_33 {d l0 l2 t x h Q} : Ev d 17 33 [l0, some (.int x), l2] t h Q = Ev d 17 34 [l0, some (.int x), l2] (.int x :: t) h Q := en_iload_n mm17 dX2_tick_33 rfl
theorem i17_34 {d l0 l1 l2 t h Q} : Ev d 17 34 [l0, l1, l2] t h Q = Ev d 17 35 [l0, l1, l2] (.int (-1) :: t) h Q := en_iconst mm17 dX2_tick_34 (by decide)
theorem i17_35 {d l0 l1 l2 t x y h Q} : Ev d 17 35 [l0, l1, l2] (.int y :: .int x :: t) h Q = if x = y then Ev d 17 43 [l0, l1, l2] t h Q else Ev d 17 38 [l0, l1, l2] t h Q := en_ic_eq mm17 dX2_tick_35 rfl
theorem i17_38 {d a l1 l2 t h Q} : Ev d 17 38 [some (.ref a), l1, l2] t h Q = Ev d 17 39 [some (.ref a), l1, l2] (.ref a :: t) h Q := en_aload_n mm17 dX2_tick_38 rfl
theorem i17_39 {d l0 l2 t x h Q} : Ev d 17 39 [l0, some (.int x), l2] t h Q = Ev d 17 40 [l0, some (.int x), l2] (.int x :: t) h Q := en_iload_n mm17 dX2_tick_39 rfl
theorem i17_40 {d a l0 l1 l2 x0 h Q} : Ev (d + 1) 17 40 [l0, l1, l2] [x0, .ref a] h Q = (hk h a = 3 ∧ EvM d 21 [.ref a, x0] h (konN (d + 1) 17 43 [l0, l1, l2] [] Q)) := en_virtualN mm17 dX2_tick_40 (by decide +kernel : ml _ _ = some (2, 21)) (by decide) (rfl : mtab[21]? = some _) (by decide +kernel : npar _ = 1) rfl (by decide) rfl (of_decide_eq_true rfl) (len_cat (of_decide_eq_true rfl)) rfl rfl rfl
theorem i17_43 {d a l1 l2 t h Q} : Ev d 17 43 [some (.ref a), l1, l2] t h Q = Ev d 17 44 [some (.ref a), l1, l2] (.ref a :: t) h Q := en_aload_n mm17 dX2_tick_43 rfl
theorem i17_44 {d a l0 l1 l2 t h Q} : Ev d 17 44 [l0, l1, l2] (.ref a :: t) h Q = (hk h a = 3 ∧ Ev d 17 47 [l0, l1, l2] (hF h a 0 :: t) h Q) := en_getfield (cj := 2) mm17 dX2_tick_44 (by decide +kernel)
theorem i17_47 {d a l0 l1 l2 t h Q} : Ev d 17 47 [l0, l1, l2] (.ref a :: t) h Q = (hk h a = 4 ∧ Ev d 17 50 [l0, l1, l2] (hF h a 0 :: t) h Q) := en_getfield (cj := 3) mm17 dX2_tick_47 (by decide +kernel)
theorem i17_50 {d l0 l1 l2 t h Q} : Ev d 17 50 [l0, l1, l2] t h Q = Ev d 17 51 [l0, l1, l2] (.int 1 :: t) h Q := en_iconst mm17 dX2_tick_50 (by decide)
theorem i17_51 {d l0 l1 l2 t x y h Q} : Ev d 17 51 [l0, l1, l2] (.int y :: .int x :: t) h Q = Ev d 17 52 [l0, l1, l2] (.int (x - y) :: t) h Q := en_isub mm17 dX2_tick_51
theorem i17_52 {d l0 l1 l2 t x h Q} : Ev d 17 52 [l0, l1, l2] (.int x :: t) h Q = Ev d 17 53 [l0, nl l1, some (.int x)] t h Q := en_istore_n mm17 dX2_tick_52 (of_decide_eq_true rfl) rfl
theorem i17_53 {d l0 l1 t x h Q} : Ev d 17 53 [l0, l1, some (.int x)] t h Q = Ev d 17 54 [l0, l1, some (.int x)] (.int x :: t) h Q := en_iload_n mm17 dX2_tick_53 rfl
theorem i17_54 {d l0 l1 l2 t x h Q} : Ev d 17 54 [l0, l1, l2] (.int x :: t) h Q = if x < 0 then Ev d 17 68 [l0, l1, l2] t h Q else Ev d 17 57 [l0, l1, l2] t h Q := en_if_lt mm17 dX2_tick_54 rfl
theorem i17_57 {d a l1 l2 t h Q} : Ev d 17 57 [some (.ref a), l1, l2] t h Q = Ev d 17 58 [some (.ref a), l1, l2] (.ref a :: t) h Q := en_aload_n mm17 dX2_tick_57 rfl
theorem i17_58 {d l0 l1 t x h Q} : Ev d 17 58 [l0, l1, some (.int x)] t h Q = Ev d 17 59 [l0, l1, some (.int x)] (.int x :: t) h Q := en_iload_n mm17 dX2_tick_58 rfl
theorem i17_59 {d a l0 l1 l2 x0 h Q} : Ev (d + 1) 17 59 [l0, l1, l2] [x0, .ref a] h Q = (hk h a = 3 ∧ EvM d 23 [.ref a, x0] h (konN (d + 1) 17 62 [l0, l1, l2] [] Q)) := en_virtualN mm17 dX2_tick_59 (by decide +kernel : ml _ _ = some (2, 23)) (by decide) (rfl : mtab[23]? = some _) (by decide +kernel : npar _ = 1) rfl (by decide) rfl (of_decide_eq_true rfl) (len_cat (of_decide_eq_true rfl)) rfl rfl rfl
theorem i17_62 {d l0 l1 t x h Q} : Ev d 17 62 [l0, l1, some (.int x)] t h Q = Ev d 17 65 [l0, nl l1, some (.int (x + (-1)))] t h Q := en_iinc mm17 dX2_tick_62 rfl (by decide) rfl
theorem i17_65 {d l0 l1 l2 t h Q} : Ev d 17 65 [l0, l1, l2] t h Q = Ev d 17 53 [l0, l1, l2] t h Q := en_goto mm17 dX2_tick_65 rfl
theorem i17_68 {d a l1 l2 t h Q} : Ev d 17 68 [some (.ref a), l1, l2] t h Q = Ev d 17 69 [some (.ref a), l1, l2] (.ref a :: t) h Q := en_aload_n mm17 dX2_tick_68 rfl
theorem i17_69 {d a l0 l1 l2 h Q} : Ev (d + 1) 17 69 [l0, l1, l2] [.ref a] h Q = (hk h a = 3 ∧ EvM d 27 [.ref a] h (konN (d + 1) 17 72 [l0, l1, l2] [] Q)) := en_virtualN mm17 dX2_tick_69 (by decide +kernel : ml _ _ = some (2, 27)) (by decide) (rfl : mtab[27]? = some _) (by decide +kernel : npar _ = 0) rfl (by decide) rfl (of_decide_eq_true rfl) (len_cat (of_decide_eq_true rfl)) rfl rfl rfl
theorem i17_72 {d a l1 l2 t h Q} : Ev d 17 72 [some (.ref a), l1, l2] t h Q = Ev d 17 73 [some (.ref a), l1, l2] (.ref a :: t) h Q := en_aload_n mm17 dX2_tick_72 rfl
theorem i17_73 {d a l0 l1 l2 t h Q} : Ev d 17 73 [l0, l1, l2] (.ref a :: t) h Q = Ev d 17 74 [l0, l1, l2] (.ref a :: .ref a :: t) h Q := en_dup mm17 dX2_tick_73
theorem i17_74 {d a l0 l1 l2 t h Q} : Ev d 17 74 [l0, l1, l2] (.ref a :: t) h Q = (hk h a = 3 ∧ Ev d 17 77 [l0, l1, l2] (hF h a 1 :: t) h Q) := en_getfield (cj := 2) mm17 dX2_tick_74 (by decide +kernel)
theorem i17_77 {d l0 l1 l2 t h Q} : Ev d 17 77 [l0, l1, l2] t h Q = Ev d 17 78 [l0, l1, l2] (.int 1 :: t) h Q := en_iconst mm17 dX2_tick_77 (by decide)
theorem i17_78 {d l0 l1 l2 t x y h Q} : Ev d 17 78 [l0, l1, l2] (.int y :: .int x :: t) h Q = Ev d 17 79 [l0, l1, l2] (.int (x + y) :: t) h Q := en_iadd mm17 dX2_tick_78
theorem i17_79 {d a l0 l1 l2 t x h Q} : Ev d 17 79 [l0, l1, l2] (.int x :: .ref a :: t) h Q = (hk h a = 3 ∧ Ev d 17 82 [l0, l1, l2] t (wF h a 1 (.int x)) Q) := en_putfield (cj := 2) mm17 dX2_tick_79 (by decide +kernel) rfl
theorem i17_82 {d l0 l1 l2 h Q} : Ev d 17 82 [l0, l1, l2] [] h Q = Q (.inl none) h := en_return mm17 dX2_tick_82 rfl
abbrev em18 : MI := (yX2_heatZones, cX2_heatZones, 3, none, 2, [])
theorem mm18 : mtab[18]? = some em18 := rfl
theorem in18 {d : Nat} {h : AH} {K : AO → AH → Prop} {v0 : Nat} : EvM d 18 [(.ref v0)] h K = Ev d 18 0 [some (.ref v0), none, none] [] h K := evm_in mm18 (of_decide_eq_true rfl) rfl
theorem i18_0 {d l0 l1 l2 t h Q} : Ev d 18 0 [l0, l1, l2] t h Q = Ev d 18 1 [l0, l1, l2] (.int 0 :: t) h Q := en_iconst mm18 dX2_heatZones_0 (by decide)
theorem i18_1 {d l0 l1 l2 t x h Q} : Ev d 18 1 [l0, l1, l2] (.int x :: t) h Q = Ev d 18 2 [nl l0, some (.int x), l2] t h Q := en_istore_n mm18 dX2_heatZones_1 (of_decide_eq_true rfl) rfl
theorem i18_2 {d l0 l2 t x h Q} : Ev d 18 2 [l0, some (.int x), l2] t h Q = Ev d 18 3 [l0, some (.int x), l2] (.int x :: t) h Q := en_iload_n mm18 dX2_heatZones_2 rfl
theorem i18_3 {d a l1 l2 t h Q} : Ev d 18 3 [some (.ref a), l1, l2] t h Q = Ev d 18 4 [some (.ref a), l1, l2] (.ref a :: t) h Q := en_aload_n mm18 dX2_heatZones_3 rfl
theorem i18_4 {d a l0 l1 l2 t h Q} : Ev d 18 4 [l0, l1, l2] (.ref a :: t) h Q = (hk h a = 3 ∧ Ev d 18 7 [l0, l1, l2] (hF h a 0 :: t) h Q) := en_getfield (cj := 2) mm18 dX2_heatZones_4 (by decide +kernel)
theorem i18_7 {d a l0 l1 l2 t h Q} : Ev d 18 7 [l0, l1, l2] (.ref a :: t) h Q = (hk h a = 4 ∧ Ev d 18 10 [l0, l1, l2] (hF h a 0 :: t) h Q) := en_getfield (cj := 3) mm18 dX2_heatZones_7 (by decide +kernel)
theorem i18_10 {d l0 l1 l2 t x y h Q} : Ev d 18 10 [l0, l1, l2] (.int y :: .int x :: t) h Q = if y ≤ x then Ev d 18 67 [l0, l1, l2] t h Q else Ev d 18 13 [l0, l1, l2] t h Q := en_ic_ge mm18 dX2_heatZones_10 rfl
theorem i18_13 {d a l1 l2 t h Q} : Ev d 18 13 [some (.ref a), l1, l2] t h Q = Ev d 18 14 [some (.ref a), l1, l2] (.ref a :: t) h Q := en_aload_n mm18 dX2_heatZones_13 rfl
theorem i18_14 {d a l0 l1 l2 t h Q} : Ev d 18 14 [l0, l1, l2] (.ref a :: t) h Q = (hk h a = 3 ∧ Ev d 18 17 [l0, l1, l2] (hF h a 6 :: t) h Q) := en_getfield (cj := 2) mm18 dX2_heatZones_14 (by decide +kernel)
theorem i18_17 {d l0 l2 t x h Q} : Ev d 18 17 [l0, some (.int x), l2] t h Q = Ev d 18 18 [l0, some (.int x), l2] (.int x :: t) h Q := en_iload_n mm18 dX2_heatZones_17 rfl
theorem i18_18 {d a j l0 l1 l2 t h Q} : Ev d 18 18 [l0, l1, l2] (.int j :: .ref a :: t) h Q = (hk h a = 10 ∧ inb j (hl h a) ∧ Ev d 18 19 [l0, l1, l2] (.int (hA h a j.toNatClampNeg) :: t) h Q) := en_iaload mm18 dX2_heatZones_18
theorem i18_19 {d a l1 l2 t h Q} : Ev d 18 19 [some (.ref a), l1, l2] t h Q = Ev d 18 20 [some (.ref a), l1, l2] (.ref a :: t) h Q := en_aload_n mm18 dX2_heatZones_19 rfl
theorem i18_20 {d a l0 l1 l2 t h Q} : Ev d 18 20 [l0, l1, l2] (.ref a :: t) h Q = (hk h a = 3 ∧ Ev d 18 23 [l0, l1, l2] (hF h a 5 :: t) h Q) := en_getfield (cj := 2) mm18 dX2_heatZones_20 (by decide +kernel)
theorem i18_23 {d l0 l2 t x h Q} : Ev d 18 23 [l0, some (.int x), l2] t h Q = Ev d 18 24 [l0, some (.int x), l2] (.int x :: t) h Q := en_iload_n mm18 dX2_heatZones_23 rfl
theorem i18_24 {d a j l0 l1 l2 t h Q} : Ev d 18 24 [l0, l1, l2] (.int j :: .ref a :: t) h Q = (hk h a = 10 ∧ inb j (hl h a) ∧ Ev d 18 25 [l0, l1, l2] (.int (hA h a j.toNatClampNeg) :: t) h Q) := en_iaload mm18 dX2_heatZones_24
theorem i18_25 {d l0 l1 l2 t x y h Q} : Ev d 18 25 [l0, l1, l2] (.int y :: .int x :: t) h Q = if y ≤ x then Ev d 18 61 [l0, l1, l2] t h Q else Ev d 18 28 [l0, l1, l2] t h Q := en_ic_ge mm18 dX2_heatZones_25 rfl
theorem i18_28 {d a l1 l2 t h Q} : Ev d 18 28 [some (.ref a), l1, l2] t h Q = Ev d 18 29 [some (.ref a), l1, l2] (.ref a :: t) h Q := en_aload_n mm18 dX2_heatZones_28 rfl
theorem i18_29 {d a l0 l1 l2 t h Q} : Ev d 18 29 [l0, l1, l2] (.ref a :: t) h Q = (hk h a = 3 ∧ Ev d 18 32 [l0, l1, l2] (hF h a 6 :: t) h Q) := en_getfield (cj := 2) mm18 dX2_heatZones_29 (by decide +kernel)
theorem i18_32 {d l0 l2 t x h Q} : Ev d 18 32 [l0, some (.int x), l2] t h Q = Ev d 18 33 [l0, some (.int x), l2] (.int x :: t) h Q := en_iload_n mm18 dX2_heatZones_32 rfl
theorem i18_33 {d a j l0 l1 l2 t h Q} : Ev d 18 33 [l0, l1, l2] (.int j :: .ref a :: t) h Q = (hk h a = 10 ∧ inb j (hl h a) ∧ Ev d 18 34 [l0, l1, l2] (.int (hA h a j.toNatClampNeg) :: t) h Q) := en_iaload mm18 dX2_heatZones_33
theorem i18_34 {d a l1 l2 t h Q} : Ev d 18 34 [some (.ref a), l1, l2] t h Q = Ev d 18 35 [some (.ref a), l1, l2] (.ref a :: t) h Q := en_aload_n mm18 dX2_heatZones_34 rfl
theorem i18_35 {d a l0 l1 l2 t h Q} : Ev d 18 35 [l0, l1, l2] (.ref a :: t) h Q = (hk h a = 3 ∧ Ev d 18 38 [l0, l1, l2] (hF h a 0 :: t) h Q) := en_getfield (cj := 2) mm18 dX2_heatZones_35 (by decide +kernel)
theorem i18_38 {d a l0 l1 l2 t h Q} : Ev d 18 38 [l0, l1, l2] (.ref a :: t) h Q = (hk h a = 4 ∧ Ev d 18 41 [l0, l1, l2] (hF h a 4 :: t) h Q) := en_getfield (cj := 3) mm18 dX2_heatZones_38 (by decide +kernel)
theorem i18_41 {d l0 l2 t x h Q} : Ev d 18 41 [l0, some (.int x), l2] t h Q = Ev d 18 42 [l0, some (.int x), l2] (.int x :: t) h Q := en_iload_n mm18 dX2_heatZones_41 rfl
theorem i18_42 {d a j l0 l1 l2 t h Q} : Ev d 18 42 [l0, l1, l2] (.int j :: .ref a :: t) h Q = (hk h a = 10 ∧ inb j (hl h a) ∧ Ev d 18 43 [l0, l1, l2] (.int (hA h a j.toNatClampNeg) :: t) h Q) := en_iaload mm18 dX2_heatZones_42
theorem i18_43 {d l0 l1 l2 t x y h Q} : Ev d 18 43 [l0, l1, l2] (.int y :: .int x :: t) h Q = Ev d 18 44 [l0, l1, l2] (.int (x + y) :: t) h Q := en_iadd mm18 dX2_heatZones_43
theorem i18_44 {d l0 l1 l2 t x h Q} : Ev d 18 44 [l0, l1, l2] (.int x :: t) h Q = Ev d 18 45 [l0, nl l1, some (.int x)] t h Q := en_istore_n mm18 dX2_heatZones_44 (of_decide_eq_true rfl) rfl
theorem i18_45 {d a l1 l2 t h Q} : Ev d 18 45 [some (.ref a), l1, l2] t h Q = Ev d 18 46 [some (.ref a), l1, l2] (.ref a :: t) h Q := en_aload_n mm18 dX2_heatZones_45 rfl
theorem i18_46 {d a l0 l1 l2 t h Q} : Ev d 18 46 [l0, l1, l2] (.ref a :: t) h Q = (hk h a = 3 ∧ Ev d 18 49 [l0, l1, l2] (hF h a 6 :: t) h Q) := en_getfield (cj := 2) mm18 dX2_heatZones_46 (by decide +kernel)
theorem i18_49 {d l0 l2 t x h Q} : Ev d 18 49 [l0, some (.int x), l2] t h Q = Ev d 18 50 [l0, some (.int x), l2] (.int x :: t) h Q := en_iload_n mm18 dX2_heatZones_49 rfl
theorem i18_50 {d l0 l1 t x h Q} : Ev d 18 50 [l0, l1, some (.int x)] t h Q = Ev d 18 51 [l0, l1, some (.int x)] (.int x :: t) h Q := en_iload_n mm18 dX2_heatZones_50 rfl
theorem i18_51 {d a l1 l2 t h Q} : Ev d 18 51 [some (.ref a), l1, l2] t h Q = Ev d 18 52 [some (.ref a), l1, l2] (.ref a :: t) h Q := en_aload_n mm18 dX2_heatZones_51 rfl
theorem i18_52 {d a l0 l1 l2 t h Q} : Ev d 18 52 [l0, l1, l2] (.ref a :: t) h Q = (hk h a = 3 ∧ Ev d 18 55 [l0, l1, l2] (hF h a 5 :: t) h Q) := en_getfield (cj := 2) mm18 dX2_heatZones_52 (by decide +kernel)
theorem i18_55 {d l0 l2 t x h Q} : Ev d 18 55 [l0, some (.int x), l2] t h Q = Ev d 18 56 [l0, some (.int x), l2] (.int x :: t) h Q := en_iload_n mm18 dX2_heatZones_55 rfl
theorem i18_56 {d a j l0 l1 l2 t h Q} : Ev d 18 56 [l0, l1, l2] (.int j :: .ref a :: t) h Q = (hk h a = 10 ∧ inb j (hl h a) ∧ Ev d 18 57 [l0, l1, l2] (.int (hA h a j.toNatClampNeg) :: t) h Q) := en_iaload mm18 dX2_heatZones_56
theorem i18_57 {d l0 l1 l2 x x0 x1 y h Q} : Ev (d + 1) 18 57 [l0, l1, l2] [.int y, .int x, x0, x1] h Q = Ev (d + 1) 18 60 [l0, l1, l2] [.int (if y < x then y else x), x0, x1] h Q := en_min mm18 dX2_heatZones_57 (by decide +kernel) (of_decide_eq_true rfl)
theorem i18_60 {d a j l0 l1 l2 t x h Q} : Ev d 18 60 [l0, l1, l2] (.int x :: .int j :: .ref a :: t) h Q = (hk h a = 10 ∧ inb j (hl h a) ∧ Ev d 18 61 [l0, l1, l2] t (wA h a (upd (hA h a) j.toNatClampNeg x)) Q) := en_iastore mm18 dX2_heatZones_60
theorem i18_61 {d l0 l2 t x h Q} : Ev d 18 61 [l0, some (.int x), l2] t h Q = Ev d 18 64 [nl l0, some (.int (x + 1)), l2] t h Q := en_iinc mm18 dX2_heatZones_61 rfl (by decide) rfl
theorem i18_64 {d l0 l1 l2 t h Q} : Ev d 18 64 [l0, l1, l2] t h Q = Ev d 18 2 [l0, l1, l2] t h Q := en_goto mm18 dX2_heatZones_64 rfl
theorem i18_67 {d l0 l1 l2 h Q} : Ev d 18 67 [l0, l1, l2] [] h Q = Q (.inl none) h := en_return mm18 dX2_heatZones_67 rfl
abbrev em19 : MI := (yX2_heatSheetIn, cX2_heatSheetIn, 9, none, 2, [])
theorem mm19 : mtab[19]? = some em19 := rfl
theorem in19 {d : Nat} {h : AH} {K : AO → AH → Prop} {v0 : Nat} {v1 : Int32} : EvM d 19 [(.ref v0), (.int v1)] h K = Ev d 19 0 [some (.ref v0), some (.int v1), none, none, none, none, none, none, none] [] h K := evm_in mm19 (of_decide_eq_true rfl) rfl
theorem i19_0 {d a l1 l2 l3 l4 l5 l6 l7 l8 t h Q} : Ev d 19 0 [some (.ref a), l1, l2, l3, l4, l5, l6, l7, l8] t h Q = Ev d 19 1 [some (.ref a), l1, l2, l3, l4, l5, l6, l7, l8] (.ref a :: t) h Q := en_aload_n mm19 dX2_heatSheetIn_0 rfl
theorem i19_1 {d a l0 l1 l2 l3 l4 l5 l6 l7 l8 t h Q} : Ev d 19 1 [l0, l1, l2, l3, l4, l5, l6, l7, l8] (.ref a :: t) h Q = (hk h a = 3 ∧ Ev d 19 4 [l0, l1, l2, l3, l4, l5, l6, l7, l8] (hF h a 7 :: t) h Q) := en_getfield (cj := 2) mm19 dX2_heatSheetIn_1 (by decide +kernel)
theorem i19_4 {d l0 l2 l3 l4 l5 l6 l7 l8 t x h Q} : Ev d 19 4 [l0, some (.int x), l2, l3, l4, l5, l6, l7, l8] t h Q = Ev d 19 5 [l0, some (.int x), l2, l3, l4, l5, l6, l7, l8] (.int x :: t) h Q := en_iload_n mm19 dX2_heatSheetIn_4 rfl
theorem i19_5 {d a j l0 l1 l2 l3 l4 l5 l6 l7 l8 t h Q} : Ev d 19 5 [l0, l1, l2, l3, l4, l5, l6, l7, l8] (.int j :: .ref a :: t) h Q = (hk h a = 10 ∧ inb j (hl h a) ∧ Ev d 19 6 [l0, l1, l2, l3, l4, l5, l6, l7, l8] (.int (hA h a j.toNatClampNeg) :: t) h Q) := en_iaload mm19 dX2_heatSheetIn_5
theorem i19_6 {d l0 l1 l2 l3 l4 l5 l6 l7 l8 t x h Q} : Ev d 19 6 [l0, l1, l2, l3, l4, l5, l6, l7, l8] (.int x :: t) h Q = Ev d 19 7 [l0, nl l1, some (.int x), l3, l4, l5, l6, l7, l8] t h Q := en_istore_n mm19 dX2_heatSheetIn_6 (of_decide_eq_true rfl) rfl
theorem i19_7 {d a l1 l2 l3 l4 l5 l6 l7 l8 t h Q} : Ev d 19 7 [some (.ref a), l1, l2, l3, l4, l5, l6, l7, l8] t h Q = Ev d 19 8 [some (.ref a), l1, l2, l3, l4, l5, l6, l7, l8] (.ref a :: t) h Q := en_aload_n mm19 dX2_heatSheetIn_7 rfl
theorem i19_8 {d l0 l1 l3 l4 l5 l6 l7 l8 t x h Q} : Ev d 19 8 [l0, l1, some (.int x), l3, l4, l5, l6, l7, l8] t h Q = Ev d 19 9 [l0, l1, some (.int x), l3, l4, l5, l6, l7, l8] (.int x :: t) h Q := en_iload_n mm19 dX2_heatSheetIn_8 rfl
theorem i19_9 {d a l0 l1 l2 l3 l4 l5 l6 l7 l8 x0 h Q} : Ev (d + 1) 19 9 [l0, l1, l2, l3, l4, l5, l6, l7, l8] [x0, .ref a] h Q = (hk h a = 3 ∧ EvM d 8 [.ref a, x0] h (konN (d + 1) 19 12 [l0, l1, l2, l3, l4, l5, l6, l7, l8] [] Q)) := en_virtualN mm19 dX2_heatSheetIn_9 (by decide +kernel : ml _ _ = some (2, 8)) (by decide) (rfl : mtab[8]? = some _) (by decide +kernel : npar _ = 1) rfl (by decide) rfl (of_decide_eq_true rfl) (len_cat (of_decide_eq_true rfl)) rfl rfl rfl
theorem i19_12 {d l0 l1 l2 l3 l4 l5 l6 l7 l8 t x h Q} : Ev d 19 12 [l0, l1, l2, l3, l4, l5, l6, l7, l8] (.int x :: t) h Q = if x = 0 then Ev d 19 15 [l0, l1, l2, l3, l4, l5, l6, l7, l8] t h Q else Ev d 19 16 [l0, l1, l2, l3, l4, l5, l6, l7, l8] t h Q := en_if_ne mm19 dX2_heatSheetIn_12 rfl
theorem i19_15 {d l0 l1 l2 l3 l4 l5 l6 l7 l8 h Q} : Ev d 19 15 [l0, l1, l2, l3, l4, l5, l6, l7, l8] [] h Q = Q (.inl none) h := en_return mm19 dX2_heatSheetIn_15 rfl
theorem i19_16 {d a l1 l2 l3 l4 l5 l6 l7 l8 t h Q} : Ev d 19 16 [some (.ref a), l1, l2, l3, l4, l5, l6, l7, l8] t h Q = Ev d 19 17 [some (.ref a), l1, l2, l3, l4, l5, l6, l7, l8] (.ref a :: t) h Q := en_aload_n mm19 dX2_heatSheetIn_16 rfl
theorem i19_17 {d a l0 l1 l2 l3 l4 l5 l6 l7 l8 t h Q} : Ev d 19 17 [l0, l1, l2, l3, l4, l5, l6, l7, l8] (.ref a :: t) h Q = (hk h a = 3 ∧ Ev d 19 20 [l0, l1, l2, l3, l4, l5, l6, l7, l8] (hF h a 6 :: t) h Q) := en_getfield (cj := 2) mm19 dX2_heatSheetIn_17 (by decide +kernel)
theorem i19_20 {d l0 l2 l3 l4 l5 l6 l7 l8 t x h Q} : Ev d 19 20 [l0, some (.int x), l2, l3, l4, l5, l6, l7, l8] t h Q = Ev d 19 21 [l0, some (.int x), l2, l3, l4, l5, l6, l7, l8] (.int x :: t) h Q := en_iload_n mm19 dX2_heatSheetIn_20 rfl
theorem i19_21 {d a j l0 l1 l2 l3 l4 l5 l6 l7 l8 t h Q} : Ev d 19 21 [l0, l1, l2, l3, l4, l5, l6, l7, l8] (.int j :: .ref a :: t) h Q = (hk h a = 10 ∧ inb j (hl h a) ∧ Ev d 19 22 [l0, l1, l2, l3, l4, l5, l6, l7, l8] (.int (hA h a j.toNatClampNeg) :: t) h Q) := en_iaload mm19 dX2_heatSheetIn_21
theorem i19_22 {d a l1 l2 l3 l4 l5 l6 l7 l8 t h Q} : Ev d 19 22 [some (.ref a), l1, l2, l3, l4, l5, l6, l7, l8] t h Q = Ev d 19 23 [some (.ref a), l1, l2, l3, l4, l5, l6, l7, l8] (.ref a :: t) h Q := en_aload_n mm19 dX2_heatSheetIn_22 rfl
theorem i19_23 {d a l0 l1 l2 l3 l4 l5 l6 l7 l8 t h Q} : Ev d 19 23 [l0, l1, l2, l3, l4, l5, l6, l7, l8] (.ref a :: t) h Q = (hk h a = 3 ∧ Ev d 19 26 [l0, l1, l2, l3, l4, l5, l6, l7, l8] (hF h a 9 :: t) h Q) := en_getfield (cj := 2) mm19 dX2_heatSheetIn_23 (by decide +kernel)
theorem i19_26 {d l0 l1 l3 l4 l5 l6 l7 l8 t x h Q} : Ev d 19 26 [l0, l1, some (.int x), l3, l4, l5, l6, l7, l8] t h Q = Ev d 19 27 [l0, l1, some (.int x), l3, l4, l5, l6, l7, l8] (.int x :: t) h Q := en_iload_n mm19 dX2_heatSheetIn_26 rfl
theorem i19_27 {d a j l0 l1 l2 l3 l4 l5 l6 l7 l8 t h Q} : Ev d 19 27 [l0, l1, l2, l3, l4, l5, l6, l7, l8] (.int j :: .ref a :: t) h Q = (hk h a = 10 ∧ inb j (hl h a) ∧ Ev d 19 28 [l0, l1, l2, l3, l4, l5, l6, l7, l8] (.int (hA h a j.toNatClampNeg) :: t) h Q) := en_iaload mm19 dX2_heatSheetIn_27
theorem i19_28 {d l0 l1 l2 l3 l4 l5 l6 l7 l8 t x y h Q} : Ev d 19 28 [l0, l1, l2, l3, l4, l5, l6, l7, l8] (.int y :: .int x :: t) h Q = Ev d 19 29 [l0, l1, l2, l3, l4, l5, l6, l7, l8] (.int (x - y) :: t) h Q := en_isub mm19 dX2_heatSheetIn_28
theorem i19_29 {d l0 l1 l2 l3 l4 l5 l6 l7 l8 t x h Q} : Ev d 19 29 [l0, l1, l2, l3, l4, l5, l6, l7, l8] (.int x :: t) h Q = Ev d 19 30 [l0, l1, nl l2, some (.int x), l4, l5, l6, l7, l8] t h Q := en_istore_n mm19 dX2_heatSheetIn_29 (of_decide_eq_true rfl) rfl
theorem i19_30 {d l0 l1 l2 l4 l5 l6 l7 l8 t x h Q} : Ev d 19 30 [l0, l1, l2, some (.int x), l4, l5, l6, l7, l8] t h Q = Ev d 19 31 [l0, l1, l2, some (.int x), l4, l5, l6, l7, l8] (.int x :: t) h Q := en_iload_n mm19 dX2_heatSheetIn_30 rfl
theorem i19_31 {d l0 l1 l2 l3 l4 l5 l6 l7 l8 t x h Q} : Ev d 19 31 [l0, l1, l2, l3, l4, l5, l6, l7, l8] (.int x :: t) h Q = if 0 < x then Ev d 19 35 [l0, l1, l2, l3, l4, l5, l6, l7, l8] t h Q else Ev d 19 34 [l0, l1, l2, l3, l4, l5, l6, l7, l8] t h Q := en_if_gt mm19 dX2_heatSheetIn_31 rfl
theorem i19_34 {d l0 l1 l2 l3 l4 l5 l6 l7 l8 h Q} : Ev d 19 34 [l0, l1, l2, l3, l4, l5, l6, l7, l8] [] h Q = Q (.inl none) h := en_return mm19 dX2_heatSheetIn_34 rfl
theorem i19_35 {d a l1 l2 l3 l4 l5 l6 l7 l8 t h Q} : Ev d 19 35 [some (.ref a), l1, l2, l3, l4, l5, l6, l7, l8] t h Q = Ev d 19 36 [some (.ref a), l1, l2, l3, l4, l5, l6, l7, l8] (.ref a :: t) h Q := en_aload_n mm19 dX2_heatSheetIn_35 rfl
theorem i19_36 {d a l0 l1 l2 l3 l4 l5 l6 l7 l8 t h Q} : Ev d 19 36 [l0, l1, l2, l3, l4, l5, l6, l7, l8] (.ref a :: t) h Q = (hk h a = 3 ∧ Ev d 19 39 [l0, l1, l2, l3, l4, l5, l6, l7, l8] (hF h a 8 :: t) h Q) := en_getfield (cj := 2) mm19 dX2_heatSheetIn_36 (by decide +kernel)
theorem i19_39 {d l0 l1 l3 l4 l5 l6 l7 l8 t x h Q} : Ev d 19 39 [l0, l1, some (.int x), l3, l4, l5, l6, l7, l8] t h Q = Ev d 19 40 [l0, l1, some (.int x), l3, l4, l5, l6, l7, l8] (.int x :: t) h Q := en_iload_n mm19 dX2_heatSheetIn_39 rfl
theorem i19_40 {d a j l0 l1 l2 l3 l4 l5 l6 l7 l8 t h Q} : Ev d 19 40 [l0, l1, l2, l3, l4, l5, l6, l7, l8] (.int j :: .ref a :: t) h Q = (hk h a = 10 ∧ inb j (hl h a) ∧ Ev d 19 41 [l0, l1, l2, l3, l4, l5, l6, l7, l8] (.int (hA h a j.toNatClampNeg) :: t) h Q) := en_iaload mm19 dX2_heatSheetIn_40
theorem i19_41 {d l0 l1 l2 l3 l4 l5 l6 l7 l8 t x h Q} : Ev d 19 41 [l0, l1, l2, l3, l4, l5, l6, l7, l8] (.int x :: t) h Q = Ev d 19 43 [l0, l1, l2, nl l3, some (.int x), l5, l6, l7, l8] t h Q := en_istore mm19 dX2_heatSheetIn_41 (of_decide_eq_true rfl) rfl
theorem i19_43 {d a l1 l2 l3 l4 l5 l6 l7 l8 t h Q} : Ev d 19 43 [some (.ref a), l1, l2, l3, l4, l5, l6, l7, l8] t h Q = Ev d 19 44 [some (.ref a), l1, l2, l3, l4, l5, l6, l7, l8] (.ref a :: t) h Q := en_aload_n mm19 dX2_heatSheetIn_43 rfl
theorem i19_44 {d a l0 l1 l2 l3 l4 l5 l6 l7 l8 t h Q} : Ev d 19 44 [l0, l1, l2, l3, l4, l5, l6, l7, l8] (.ref a :: t) h Q = (hk h a = 3 ∧ Ev d 19 47 [l0, l1, l2, l3, l4, l5, l6, l7, l8] (hF h a 0 :: t) h Q) := en_getfield (cj := 2) mm19 dX2_heatSheetIn_44 (by decide +kernel)
theorem i19_47 {d a l0 l1 l2 l3 l4 l5 l6 l7 l8 t h Q} : Ev d 19 47 [l0, l1, l2, l3, l4, l5, l6, l7, l8] (.ref a :: t) h Q = (hk h a = 4 ∧ Ev d 19 50 [l0, l1, l2, l3, l4, l5, l6, l7, l8] (hF h a 10 :: t) h Q) := en_getfield (cj := 3) mm19 dX2_heatSheetIn_47 (by decide +kernel)
theorem i19_50 {d l0 l1 l2 l3 l5 l6 l7 l8 t x h Q} : Ev d 19 50 [l0, l1, l2, l3, some (.int x), l5, l6, l7, l8] t h Q = Ev d 19 52 [l0, l1, l2, l3, some (.int x), l5, l6, l7, l8] (.int x :: t) h Q := en_iload mm19 dX2_heatSheetIn_50 rfl
theorem i19_52 {d l0 l2 l3 l4 l5 l6 l7 l8 t x h Q} : Ev d 19 52 [l0, some (.int x), l2, l3, l4, l5, l6, l7, l8] t h Q = Ev d 19 53 [l0, some (.int x), l2, l3, l4, l5, l6, l7, l8] (.int x :: t) h Q := en_iload_n mm19 dX2_heatSheetIn_52 rfl
theorem i19_53 {d l0 l1 l2 l4 l5 l6 l7 l8 t x h Q} : Ev d 19 53 [l0, l1, l2, some (.int x), l4, l5, l6, l7, l8] t h Q = Ev d 19 54 [l0, l1, l2, some (.int x), l4, l5, l6, l7, l8] (.int x :: t) h Q := en_iload_n mm19 dX2_heatSheetIn_53 rfl
theorem i19_54 {d a l0 l1 l2 l3 l4 l5 l6 l7 l8 x0 x1 x2 h Q} : Ev (d + 1) 19 54 [l0, l1, l2, l3, l4, l5, l6, l7, l8] [x0, x1, x2, .ref a] h Q = (hk h a = 1 ∧ EvM d 1 [.ref a, x2, x1, x0] h (konN (d + 1) 19 57 [l0, l1, l2, l3, l4, l5, l6, l7, l8] [] Q)) := en_virtualN mm19 dX2_heatSheetIn_54 (by decide +kernel : ml _ _ = some (3, 1)) (by decide) (rfl : mtab[1]? = some _) (by decide +kernel : npar _ = 3) rfl (by decide) rfl (of_decide_eq_true rfl) (len_cat (of_decide_eq_true rfl)) rfl rfl rfl
theorem i19_57 {d l0 l1 l2 l3 l4 l5 l6 l7 l8 t h Q} : Ev d 19 57 [l0, l1, l2, l3, l4, l5, l6, l7, l8] t h Q = Ev d 19 58 [l0, l1, l2, l3, l4, l5, l6, l7, l8] (.int 0 :: t) h Q := en_iconst mm19 dX2_heatSheetIn_57 (by decide)
theorem i19_58 {d l0 l1 l2 l3 l4 l5 l6 l7 l8 t h Q} : Ev d 19 58 [l0, l1, l2, l3, l4, l5, l6, l7, l8] t h Q = Ev d 19 61 [l0, l1, l2, l3, l4, l5, l6, l7, l8] (.int 1000 :: t) h Q := en_sipush mm19 dX2_heatSheetIn_58 (by decide)
theorem i19_61 {d l0 l1 l2 l3 l4 l5 l6 l7 l8 x0 x1 x2 h Q} : Ev (d + 1) 19 61 [l0, l1, l2, l3, l4, l5, l6, l7, l8] [x0, x1, x2] h Q = EvM d 83 [x2, x1, x0] h (konN (d + 1) 19 64 [l0, l1, l2, l3, l4, l5, l6, l7, l8] [] Q) := en_staticN mm19 dX2_heatSheetIn_61 (by decide +kernel : ml _ _ = some (1, 83)) (by decide) (rfl : mtab[83]? = some _) (by decide +kernel : npar _ = 3) (of_decide_eq_true rfl) (len_cat (of_decide_eq_true rfl)) rfl rfl rfl
theorem i19_64 {d l0 l1 l2 l3 l4 l5 l6 l7 l8 t x h Q} : Ev d 19 64 [l0, l1, l2, l3, l4, l5, l6, l7, l8] (.int x :: t) h Q = Ev d 19 66 [l0, l1, l2, l3, nl l4, some (.int x), l6, l7, l8] t h Q := en_istore mm19 dX2_heatSheetIn_64 (of_decide_eq_true rfl) rfl
theorem i19_66 {d l0 l1 l2 l4 l5 l6 l7 l8 t x h Q} : Ev d 19 66 [l0, l1, l2, some (.int x), l4, l5, l6, l7, l8] t h Q = Ev d 19 67 [l0, l1, l2, some (.int x), l4, l5, l6, l7, l8] (.int x :: t) h Q := en_iload_n mm19 dX2_heatSheetIn_66 rfl
theorem i19_67 {d l0 l1 l2 l3 l4 l6 l7 l8 t x h Q} : Ev d 19 67 [l0, l1, l2, l3, l4, some (.int x), l6, l7, l8] t h Q = Ev d 19 69 [l0, l1, l2, l3, l4, some (.int x), l6, l7, l8] (.int x :: t) h Q := en_iload mm19 dX2_heatSheetIn_67 rfl
theorem i19_69 {d l0 l1 l2 l3 l4 l5 l6 l7 l8 t x y h Q} : Ev d 19 69 [l0, l1, l2, l3, l4, l5, l6, l7, l8] (.int y :: .int x :: t) h Q = Ev d 19 70 [l0, l1, l2, l3, l4, l5, l6, l7, l8] (.int (x * y) :: t) h Q := en_imul mm19 dX2_heatSheetIn_69
theorem i19_70 {d l0 l1 l2 l3 l4 l5 l6 l7 l8 t h Q} : Ev d 19 70 [l0, l1, l2, l3, l4, l5, l6, l7, l8] t h Q = Ev d 19 73 [l0, l1, l2, l3, l4, l5, l6, l7, l8] (.int 1000 :: t) h Q := en_sipush mm19 dX2_heatSheetIn_70 (by decide)
theorem i19_73 {d l0 l1 l2 l3 l4 l5 l6 l7 l8 t x y h Q} : Ev d 19 73 [l0, l1, l2, l3, l4, l5, l6, l7, l8] (.int y :: .int x :: t) h Q = (¬ y = 0 ∧ Ev d 19 74 [l0, l1, l2, l3, l4, l5, l6, l7, l8] (.int (x / y) :: t) h Q) := en_idiv mm19 dX2_heatSheetIn_73
theorem i19_74 {d l0 l1 l2 l3 l4 l5 l6 l7 l8 t x h Q} : Ev d 19 74 [l0, l1, l2, l3, l4, l5, l6, l7, l8] (.int x :: t) h Q = Ev d 19 76 [l0, l1, l2, l3, l4, nl l5, some (.int x), l7, l8] t h Q := en_istore mm19 dX2_heatSheetIn_74 (of_decide_eq_true rfl) rfl
theorem i19_76 {d a l1 l2 l3 l4 l5 l6 l7 l8 t h Q} : Ev d 19 76 [some (.ref a), l1, l2, l3, l4, l5, l6, l7, l8] t h Q = Ev d 19 77 [some (.ref a), l1, l2, l3, l4, l5, l6, l7, l8] (.ref a :: t) h Q := en_aload_n mm19 dX2_heatSheetIn_76 rfl
theorem i19_77 {d a l0 l1 l2 l3 l4 l5 l6 l7 l8 t h Q} : Ev d 19 77 [l0, l1, l2, l3, l4, l5, l6, l7, l8] (.ref a :: t) h Q = (hk h a = 3 ∧ Ev d 19 80 [l0, l1, l2, l3, l4, l5, l6, l7, l8] (hF h a 0 :: t) h Q) := en_getfield (cj := 2) mm19 dX2_heatSheetIn_77 (by decide +kernel)
theorem i19_80 {d a l0 l1 l2 l3 l4 l5 l6 l7 l8 t h Q} : Ev d 19 80 [l0, l1, l2, l3, l4, l5, l6, l7, l8] (.ref a :: t) h Q = (hk h a = 4 ∧ Ev d 19 83 [l0, l1, l2, l3, l4, l5, l6, l7, l8] (hF h a 5 :: t) h Q) := en_getfield (cj := 3) mm19 dX2_heatSheetIn_80 (by decide +kernel)
theorem i19_83 {d l0 l2 l3 l4 l5 l6 l7 l8 t x h Q} : Ev d 19 83 [l0, some (.int x), l2, l3, l4, l5, l6, l7, l8] t h Q = Ev d 19 84 [l0, some (.int x), l2, l3, l4, l5, l6, l7, l8] (.int x :: t) h Q := en_iload_n mm19 dX2_heatSheetIn_83 rfl
theorem i19_84 {d a j l0 l1 l2 l3 l4 l5 l6 l7 l8 t h Q} : Ev d 19 84 [l0, l1, l2, l3, l4, l5, l6, l7, l8] (.int j :: .ref a :: t) h Q = (hk h a = 10 ∧ inb j (hl h a) ∧ Ev d 19 85 [l0, l1, l2, l3, l4, l5, l6, l7, l8] (.int (hA h a j.toNatClampNeg) :: t) h Q) := en_iaload mm19 dX2_heatSheetIn_84
theorem i19_85 {d l0 l1 l2 l3 l4 l5 l6 l7 l8 t x h Q} : Ev d 19 85 [l0, l1, l2, l3, l4, l5, l6, l7, l8] (.int x :: t) h Q = Ev d 19 87 [l0, l1, l2, l3, l4, l5, nl l6, some (.int x), l8] t h Q := en_istore mm19 dX2_heatSheetIn_85 (of_decide_eq_true rfl) rfl
theorem i19_87 {d l0 l1 l2 l3 l4 l5 l6 l8 t x h Q} : Ev d 19 87 [l0, l1, l2, l3, l4, l5, l6, some (.int x), l8] t h Q = Ev d 19 89 [l0, l1, l2, l3, l4, l5, l6, some (.int x), l8] (.int x :: t) h Q := en_iload mm19 dX2_heatSheetIn_87 rfl
theorem i19_89 {d l0 l1 l2 l3 l4 l5 l6 l7 l8 t x h Q} : Ev d 19 89 [l0, l1, l2, l3, l4, l5, l6, l7, l8] (.int x :: t) h Q = if x ≤ 0 then Ev d 19 103 [l0, l1, l2, l3, l4, l5, l6, l7, l8] t h Q else Ev d 19 92 [l0, l1, l2, l3, l4, l5, l6, l7, l8] t h Q := en_if_le mm19 dX2_heatSheetIn_89 rfl
theorem i19_92 {d l0 l1 l2 l3 l4 l5 l7 l8 t x h Q} : Ev d 19 92 [l0, l1, l2, l3, l4, l5, some (.int x), l7, l8] t h Q = Ev d 19 94 [l0, l1, l2, l3, l4, l5, some (.int x), l7, l8] (.int x :: t) h Q := en_iload mm19 dX2_heatSheetIn_92 rfl
theorem i19_94 {d l0 l1 l2 l3 l5 l6 l7 l8 t x h Q} : Ev d 19 94 [l0, l1, l2, l3, some (.int x), l5, l6, l7, l8] t h Q = Ev d 19 96 [l0, l1, l2, l3, some (.int x), l5, l6, l7, l8] (.int x :: t) h Q := en_iload mm19 dX2_heatSheetIn_94 rfl
theorem i19_96 {d l0 l1 l2 l3 l4 l5 l6 l7 l8 t x y h Q} : Ev d 19 96 [l0, l1, l2, l3, l4, l5, l6, l7, l8] (.int y :: .int x :: t) h Q = Ev d 19 97 [l0, l1, l2, l3, l4, l5, l6, l7, l8] (.int (x * y) :: t) h Q := en_imul mm19 dX2_heatSheetIn_96
theorem i19_97 {d l0 l1 l2 l3 l4 l5 l6 l8 t x h Q} : Ev d 19 97 [l0, l1, l2, l3, l4, l5, l6, some (.int x), l8] t h Q = Ev d 19 99 [l0, l1, l2, l3, l4, l5, l6, some (.int x), l8] (.int x :: t) h Q := en_iload mm19 dX2_heatSheetIn_97 rfl
theorem i19_99 {d l0 l1 l2 l3 l4 l5 l6 l7 l8 t x y h Q} : Ev d 19 99 [l0, l1, l2, l3, l4, l5, l6, l7, l8] (.int y :: .int x :: t) h Q = (¬ y = 0 ∧ Ev d 19 100 [l0, l1, l2, l3, l4, l5, l6, l7, l8] (.int (x / y) :: t) h Q) := en_idiv mm19 dX2_heatSheetIn_99
theorem i19_100 {d l0 l1 l2 l3 l4 l5 l6 l7 l8 t h Q} : Ev d 19 100 [l0, l1, l2, l3, l4, l5, l6, l7, l8] t h Q = Ev d 19 104 [l0, l1, l2, l3, l4, l5, l6, l7, l8] t h Q := en_goto mm19 dX2_heatSheetIn_100 rfl
theorem i19_103 {d l0 l1 l2 l3 l4 l5 l6 l7 l8 t h Q} : Ev d 19 103 [l0, l1, l2, l3, l4, l5, l6, l7, l8] t h Q = Ev d 19 104 [l0, l1, l2, l3, l4, l5, l6, l7, l8] (.int 0 :: t) h Q := en_iconst mm19 dX2_heatSheetIn_103 (by decide)
theorem i19_104 {d l0 l1 l2 l3 l4 l5 l6 l7 l8 t x h Q} : Ev d 19 104 [l0, l1, l2, l3, l4, l5, l6, l7, l8] (.int x :: t) h Q = Ev d 19 106 [l0, l1, l2, l3, l4, l5, l6, nl l7, some (.int x)] t h Q := en_istore mm19 dX2_heatSheetIn_104 (of_decide_eq_true rfl) rfl
theorem i19_106 {d a l1 l2 l3 l4 l5 l6 l7 l8 t h Q} : Ev d 19 106 [some (.ref a), l1, l2, l3, l4, l5, l6, l7, l8] t h Q = Ev d 19 107 [some (.ref a), l1, l2, l3, l4, l5, l6, l7, l8] (.ref a :: t) h Q := en_aload_n mm19 dX2_heatSheetIn_106 rfl
theorem i19_107 {d a l0 l1 l2 l3 l4 l5 l6 l7 l8 t h Q} : Ev d 19 107 [l0, l1, l2, l3, l4, l5, l6, l7, l8] (.ref a :: t) h Q = (hk h a = 3 ∧ Ev d 19 110 [l0, l1, l2, l3, l4, l5, l6, l7, l8] (hF h a 9 :: t) h Q) := en_getfield (cj := 2) mm19 dX2_heatSheetIn_107 (by decide +kernel)
theorem i19_110 {d l0 l1 l3 l4 l5 l6 l7 l8 t x h Q} : Ev d 19 110 [l0, l1, some (.int x), l3, l4, l5, l6, l7, l8] t h Q = Ev d 19 111 [l0, l1, some (.int x), l3, l4, l5, l6, l7, l8] (.int x :: t) h Q := en_iload_n mm19 dX2_heatSheetIn_110 rfl
theorem i19_111 {d a l0 l1 l2 l3 l4 l5 l6 l7 l8 t x h Q} : Ev d 19 111 [l0, l1, l2, l3, l4, l5, l6, l7, l8] (.int x :: .ref a :: t) h Q = Ev d 19 112 [l0, l1, l2, l3, l4, l5, l6, l7, l8] (.int x :: .ref a :: .int x :: .ref a :: t) h Q := en_dup2 mm19 dX2_heatSheetIn_111
theorem i19_112 {d a j l0 l1 l2 l3 l4 l5 l6 l7 l8 t h Q} : Ev d 19 112 [l0, l1, l2, l3, l4, l5, l6, l7, l8] (.int j :: .ref a :: t) h Q = (hk h a = 10 ∧ inb j (hl h a) ∧ Ev d 19 113 [l0, l1, l2, l3, l4, l5, l6, l7, l8] (.int (hA h a j.toNatClampNeg) :: t) h Q) := en_iaload mm19 dX2_heatSheetIn_112
theorem i19_113 {d l0 l1 l2 l3 l4 l5 l7 l8 t x h Q} : Ev d 19 113 [l0, l1, l2, l3, l4, l5, some (.int x), l7, l8] t h Q = Ev d 19 115 [l0, l1, l2, l3, l4, l5, some (.int x), l7, l8] (.int x :: t) h Q := en_iload mm19 dX2_heatSheetIn_113 rfl
theorem i19_115 {d l0 l1 l2 l3 l4 l5 l6 l7 l8 t x y h Q} : Ev d 19 115 [l0, l1, l2, l3, l4, l5, l6, l7, l8] (.int y :: .int x :: t) h Q = Ev d 19 116 [l0, l1, l2, l3, l4, l5, l6, l7, l8] (.int (x + y) :: t) h Q := en_iadd mm19 dX2_heatSheetIn_115
theorem i19_116 {d a j l0 l1 l2 l3 l4 l5 l6 l7 l8 t x h Q} : Ev d 19 116 [l0, l1, l2, l3, l4, l5, l6, l7, l8] (.int x :: .int j :: .ref a :: t) h Q = (hk h a = 10 ∧ inb j (hl h a) ∧ Ev d 19 117 [l0, l1, l2, l3, l4, l5, l6, l7, l8] t (wA h a (upd (hA h a) j.toNatClampNeg x)) Q) := en_iastore mm19 dX2_heatSheetIn_116
theorem i19_117 {d a l1 l2 l3 l4 l5 l6 l7 l8 t h Q} : Ev d 19 117 [some (.ref a), l1, l2, l3, l4, l5, l6, l7, l8] t h Q = Ev d 19 118 [some (.ref a), l1, l2, l3, l4, l5, l6, l7, l8] (.ref a :: t) h Q := en_aload_n mm19 dX2_heatSheetIn_117 rfl
theorem i19_118 {d a l0 l1 l2 l3 l4 l5 l6 l7 l8 t h Q} : Ev d 19 118 [l0, l1, l2, l3, l4, l5, l6, l7, l8] (.ref a :: t) h Q = (hk h a = 3 ∧ Ev d 19 121 [l0, l1, l2, l3, l4, l5, l6, l7, l8] (hF h a 6 :: t) h Q) := en_getfield (cj := 2) mm19 dX2_heatSheetIn_118 (by decide +kernel)
theorem i19_121 {d l0 l2 l3 l4 l5 l6 l7 l8 t x h Q} : Ev d 19 121 [l0, some (.int x), l2, l3, l4, l5, l6, l7, l8] t h Q = Ev d 19 122 [l0, some (.int x), l2, l3, l4, l5, l6, l7, l8] (.int x :: t) h Q := en_iload_n mm19 dX2_heatSheetIn_121 rfl
theorem i19_122 {d l0 l1 l2 l3 l4 l5 l6 l7 l8 t h Q} : Ev d 19 122 [l0, l1, l2, l3, l4, l5, l6, l7, l8] t h Q = Ev d 19 124 [l0, l1, l2, l3, l4, l5, l6, l7, l8] (.int 20 :: t) h Q := en_bipush mm19 dX2_heatSheetIn_122 (by decide)
theorem i19_124 {d a l1 l2 l3 l4 l5 l6 l7 l8 t h Q} : Ev d 19 124 [some (.ref a), l1, l2, l3, l4, l5, l6, l7, l8] t h Q = Ev d 19 125 [some (.ref a), l1, l2, l3, l4, l5, l6, l7, l8] (.ref a :: t) h Q := en_aload_n mm19 dX2_heatSheetIn_124 rfl
theorem i19_125 {d a l0 l1 l2 l3 l4 l5 l6 l7 l8 t h Q} : Ev d 19 125 [l0, l1, l2, l3, l4, l5, l6, l7, l8] (.ref a :: t) h Q = (hk h a = 3 ∧ Ev d 19 128 [l0, l1, l2, l3, l4, l5, l6, l7, l8] (hF h a 6 :: t) h Q) := en_getfield (cj := 2) mm19 dX2_heatSheetIn_125 (by decide +kernel)
theorem i19_128 {d l0 l2 l3 l4 l5 l6 l7 l8 t x h Q} : Ev d 19 128 [l0, some (.int x), l2, l3, l4, l5, l6, l7, l8] t h Q = Ev d 19 129 [l0, some (.int x), l2, l3, l4, l5, l6, l7, l8] (.int x :: t) h Q := en_iload_n mm19 dX2_heatSheetIn_128 rfl
theorem i19_129 {d a j l0 l1 l2 l3 l4 l5 l6 l7 l8 t h Q} : Ev d 19 129 [l0, l1, l2, l3, l4, l5, l6, l7, l8] (.int j :: .ref a :: t) h Q = (hk h a = 10 ∧ inb j (hl h a) ∧ Ev d 19 130 [l0, l1, l2, l3, l4, l5, l6, l7, l8] (.int (hA h a j.toNatClampNeg) :: t) h Q) := en_iaload mm19 dX2_heatSheetIn_129
theorem i19_130 {d l0 l1 l2 l3 l4 l5 l6 l7 t x h Q} : Ev d 19 130 [l0, l1, l2, l3, l4, l5, l6, l7, some (.int x)] t h Q = Ev d 19 132 [l0, l1, l2, l3, l4, l5, l6, l7, some (.int x)] (.int x :: t) h Q := en_iload mm19 dX2_heatSheetIn_130 rfl
theorem i19_132 {d l0 l1 l2 l3 l4 l5 l6 l7 l8 t x y h Q} : Ev d 19 132 [l0, l1, l2, l3, l4, l5, l6, l7, l8] (.int y :: .int x :: t) h Q = Ev d 19 133 [l0, l1, l2, l3, l4, l5, l6, l7, l8] (.int (x - y) :: t) h Q := en_isub mm19 dX2_heatSheetIn_132
theorem i19_133 {d l0 l1 l2 l3 l4 l5 l6 l7 l8 x x0 x1 y h Q} : Ev (d + 1) 19 133 [l0, l1, l2, l3, l4, l5, l6, l7, l8] [.int y, .int x, x0, x1] h Q = Ev (d + 1) 19 136 [l0, l1, l2, l3, l4, l5, l6, l7, l8] [.int (if x < y then y else x), x0, x1] h Q := en_max mm19 dX2_heatSheetIn_133 (by decide +kernel) (of_decide_eq_true rfl)
theorem i19_136 {d a j l0 l1 l2 l3 l4 l5 l6 l7 l8 t x h Q} : Ev d 19 136 [l0, l1, l2, l3, l4, l5, l6, l7, l8] (.int x :: .int j :: .ref a :: t) h Q = (hk h a = 10 ∧ inb j (hl h a) ∧ Ev d 19 137 [l0, l1, l2, l3, l4, l5, l6, l7, l8] t (wA h a (upd (hA h a) j.toNatClampNeg x)) Q) := en_iastore mm19 dX2_heatSheetIn_136
theorem i19_137 {d l0 l1 l2 l3 l4 l5 l6 l7 l8 h Q} : Ev d 19 137 [l0, l1, l2, l3, l4, l5, l6, l7, l8] [] h Q = Q (.inl none) h := en_return mm19 dX2_heatSheetIn_137 rfl
abbrev em20 : MI := (yX2_quench, cX2_quench, 2, some .int, 2, [])
theorem mm20 : mtab[20]? = some em20 := rfl
theorem in20 {d : Nat} {h : AH} {K : AO → AH → Prop} {v0 : Nat} : EvM d 20 [(.ref v0)] h K = Ev d 20 0 [some (.ref v0), none] [] h K := evm_in mm20 (of_decide_eq_true rfl) rfl
theorem i20_0 {d a l1 t h Q} : Ev d 20 0 [some (.ref a), l1] t h Q = Ev d 20 1 [some (.ref a), l1] (.ref a :: t) h Q := en_aload_n mm20 dX2_quench_0 rfl
theorem i20_1 {d a l1 t h Q} : Ev d 20 1 [some (.ref a), l1] t h Q = Ev d 20 2 [some (.ref a), l1] (.ref a :: t) h Q := en_aload_n mm20 dX2_quench_1 rfl
theorem i20_2 {d a l0 l1 t h Q} : Ev d 20 2 [l0, l1] (.ref a :: t) h Q = (hk h a = 3 ∧ Ev d 20 5 [l0, l1] (hF h a 3 :: t) h Q) := en_getfield (cj := 2) mm20 dX2_quench_2 (by decide +kernel)
theorem i20_5 {d a l0 l1 x0 h Q} : Ev (d + 1) 20 5 [l0, l1] [x0, .ref a] h Q = (hk h a = 3 ∧ EvM d 8 [.ref a, x0] h (konN (d + 1) 20 8 [l0, l1] [] Q)) := en_virtualN mm20 dX2_quench_5 (by decide +kernel : ml _ _ = some (2, 8)) (by decide) (rfl : mtab[8]? = some _) (by decide +kernel : npar _ = 1) rfl (by decide) rfl (of_decide_eq_true rfl) (len_cat (of_decide_eq_true rfl)) rfl rfl rfl
theorem i20_8 {d l0 l1 t x h Q} : Ev d 20 8 [l0, l1] (.int x :: t) h Q = if x = 0 then Ev d 20 11 [l0, l1] t h Q else Ev d 20 13 [l0, l1] t h Q := en_if_ne mm20 dX2_quench_8 rfl
theorem i20_11 {d l0 l1 t h Q} : Ev d 20 11 [l0, l1] t h Q = Ev d 20 12 [l0, l1] (.int (-1) :: t) h Q := en_iconst mm20 dX2_quench_11 (by decide)
theorem i20_12 {d l0 l1 x h Q} : Ev d 20 12 [l0, l1] [.int x] h Q = Q (.inl (some (.int x))) h := en_ireturnI mm20 dX2_quench_12 rfl
theorem i20_13 {d a l1 t h Q} : Ev d 20 13 [some (.ref a), l1] t h Q = Ev d 20 14 [some (.ref a), l1] (.ref a :: t) h Q := en_aload_n mm20 dX2_quench_13 rfl
theorem i20_14 {d a l0 l1 t h Q} : Ev d 20 14 [l0, l1] (.ref a :: t) h Q = Ev d 20 15 [l0, l1] (.ref a :: .ref a :: t) h Q := en_dup mm20 dX2_quench_14
theorem i20_15 {d a l0 l1 t h Q} : Ev d 20 15 [l0, l1] (.ref a :: t) h Q = (hk h a = 3 ∧ Ev d 20 18 [l0, l1] (hF h a 4 :: t) h Q) := en_getfield (cj := 2) mm20 dX2_quench_15 (by decide +kernel)
theorem i20_18 {d l0 l1 t h Q} : Ev d 20 18 [l0, l1] t h Q = Ev d 20 19 [l0, l1] (.int 1 :: t) h Q := en_iconst mm20 dX2_quench_18 (by decide)
theorem i20_19 {d l0 l1 t x y h Q} : Ev d 20 19 [l0, l1] (.int y :: .int x :: t) h Q = Ev d 20 20 [l0, l1] (.int (x - y) :: t) h Q := en_isub mm20 dX2_quench_19
theorem i20_20 {d a l0 l1 t x h Q} : Ev d 20 20 [l0, l1] (.int x :: .ref a :: t) h Q = (hk h a = 3 ∧ Ev d 20 23 [l0, l1] t (wF h a 4 (.int x)) Q) := en_putfield (cj := 2) mm20 dX2_quench_20 (by decide +kernel) rfl
theorem i20_23 {d a l1 t h Q} : Ev d 20 23 [some (.ref a), l1] t h Q = Ev d 20 24 [some (.ref a), l1] (.ref a :: t) h Q := en_aload_n mm20 dX2_quench_23 rfl
theorem i20_24 {d a l0 l1 t h Q} : Ev d 20 24 [l0, l1] (.ref a :: t) h Q = (hk h a = 3 ∧ Ev d 20 27 [l0, l1] (hF h a 4 :: t) h Q) := en_getfield (cj := 2) mm20 dX2_quench_24 (by decide +kernel)
theorem i20_27 {d l0 l1 t x h Q} : Ev d 20 27 [l0, l1] (.int x :: t) h Q = if x ≤ 0 then Ev d 20 32 [l0, l1] t h Q else Ev d 20 30 [l0, l1] t h Q := en_if_le mm20 dX2_quench_27 rfl
theorem i20_30 {d l0 l1 t h Q} : Ev d 20 30 [l0, l1] t h Q = Ev d 20 31 [l0, l1] (.int (-1) :: t) h Q := en_iconst mm20 dX2_quench_30 (by decide)
theorem i20_31 {d l0 l1 x h Q} : Ev d 20 31 [l0, l1] [.int x] h Q = Q (.inl (some (.int x))) h := en_ireturnI mm20 dX2_quench_31 rfl
theorem i20_32 {d a l1 t h Q} : Ev d 20 32 [some (.ref a), l1] t h Q = Ev d 20 33 [some (.ref a), l1] (.ref a :: t) h Q := en_aload_n mm20 dX2_quench_32 rfl
theorem i20_33 {d a l0 l1 t h Q} : Ev d 20 33 [l0, l1] (.ref a :: t) h Q = (hk h a = 3 ∧ Ev d 20 36 [l0, l1] (hF h a 3 :: t) h Q) := en_getfield (cj := 2) mm20 dX2_quench_33 (by decide +kernel)
theorem i20_36 {d l0 l1 t x h Q} : Ev d 20 36 [l0, l1] (.int x :: t) h Q = Ev d 20 37 [nl l0, some (.int x)] t h Q := en_istore_n mm20 dX2_quench_36 (of_decide_eq_true rfl) rfl
theorem i20_37 {d a l1 t h Q} : Ev d 20 37 [some (.ref a), l1] t h Q = Ev d 20 38 [some (.ref a), l1] (.ref a :: t) h Q := en_aload_n mm20 dX2_quench_37 rfl
theorem i20_38 {d l0 l1 t h Q} : Ev d 20 38 [l0, l1] t h Q = Ev d 20 39 [l0, l1] (.int (-1) :: t) h Q := en_iconst mm20 dX2_quench_38 (by decide)
theorem i20_39 {d a l0 l1 t x h Q} : Ev d 20 39 [l0, l1] (.int x :: .ref a :: t) h Q = (hk h a = 3 ∧ Ev d 20 42 [l0, l1] t (wF h a 3 (.int x)) Q) := en_putfield (cj := 2) mm20 dX2_quench_39 (by decide +kernel) rfl
theorem i20_42 {d l0 t x h Q} : Ev d 20 42 [l0, some (.int x)] t h Q = Ev d 20 43 [l0, some (.int x)] (.int x :: t) h Q := en_iload_n mm20 dX2_quench_42 rfl
theorem i20_43 {d l0 l1 x h Q} : Ev d 20 43 [l0, l1] [.int x] h Q = Q (.inl (some (.int x))) h := en_ireturnI mm20 dX2_quench_43 rfl
abbrev em21 : MI := (yX2_judge, cX2_judge, 6, none, 2, [])
theorem mm21 : mtab[21]? = some em21 := rfl
theorem in21 {d : Nat} {h : AH} {K : AO → AH → Prop} {v0 : Nat} {v1 : Int32} : EvM d 21 [(.ref v0), (.int v1)] h K = Ev d 21 0 [some (.ref v0), some (.int v1), none, none, none, none] [] h K := evm_in mm21 (of_decide_eq_true rfl) rfl
theorem i21_0 {d a l1 l2 l3 l4 l5 t h Q} : Ev d 21 0 [some (.ref a), l1, l2, l3, l4, l5] t h Q = Ev d 21 1 [some (.ref a), l1, l2, l3, l4, l5] (.ref a :: t) h Q := en_aload_n mm21 dX2_judge_0 rfl
theorem i21_1 {d a l0 l1 l2 l3 l4 l5 t h Q} : Ev d 21 1 [l0, l1, l2, l3, l4, l5] (.ref a :: t) h Q = (hk h a = 3 ∧ Ev d 21 4 [l0, l1, l2, l3, l4, l5] (hF h a 8 :: t) h Q) := en_getfield (cj := 2) mm21 dX2_judge_1 (by decide +kernel)
theorem i21_4 {d l0 l2 l3 l4 l5 t x h Q} : Ev d 21 4 [l0, some (.int x), l2, l3, l4, l5] t h Q = Ev d 21 5 [l0, some (.int x), l2, l3, l4, l5] (.int x :: t) h Q := en_iload_n mm21 dX2_judge_4 rfl
theorem i21_5 {d a j l0 l1 l2 l3 l4 l5 t h Q} : Ev d 21 5 [l0, l1, l2, l3, l4, l5] (.int j :: .ref a :: t) h Q = (hk h a = 10 ∧ inb j (hl h a) ∧ Ev d 21 6 [l0, l1, l2, l3, l4, l5] (.int (hA h a j.toNatClampNeg) :: t) h Q) := en_iaload mm21 dX2_judge_5
theorem i21_6 {d l0 l1 l2 l3 l4 l5 t x h Q} : Ev d 21 6 [l0, l1, l2, l3, l4, l5] (.int x :: t) h Q = Ev d 21 7 [l0, nl l1, some (.int x), l3, l4, l5] t h Q := en_istore_n mm21 dX2_judge_6 (of_decide_eq_true rfl) rfl
theorem i21_7 {d l0 l1 l3 l4 l5 t x h Q} : Ev d 21 7 [l0, l1, some (.int x), l3, l4, l5] t h Q = Ev d 21 8 [l0, l1, some (.int x), l3, l4, l5] (.int x :: t) h Q := en_iload_n mm21 dX2_judge_7 rfl
theorem i21_8 {d l0 l1 l2 l3 l4 l5 x0 h Q} : Ev (d + 1) 21 8 [l0, l1, l2, l3, l4, l5] [x0] h Q = EvM d 82 [x0] h (konN (d + 1) 21 11 [l0, l1, l2, l3, l4, l5] [] Q) := en_staticN mm21 dX2_judge_8 (by decide +kernel : ml _ _ = some (1, 82)) (by decide) (rfl : mtab[82]? = some _) (by decide +kernel : npar _ = 1) (of_decide_eq_true rfl) (len_cat (of_decide_eq_true rfl)) rfl rfl rfl
theorem i21_11 {d l0 l1 l2 l3 l4 l5 t x h Q} : Ev d 21 11 [l0, l1, l2, l3, l4, l5] (.int x :: t) h Q = if x = 0 then Ev d 21 14 [l0, l1, l2, l3, l4, l5] t h Q else Ev d 21 15 [l0, l1, l2, l3, l4, l5] t h Q := en_if_ne mm21 dX2_judge_11 rfl
theorem i21_14 {d l0 l1 l2 l3 l4 l5 h Q} : Ev d 21 14 [l0, l1, l2, l3, l4, l5] [] h Q = Q (.inl none) h := en_return mm21 dX2_judge_14 rfl
theorem i21_15 {d a l1 l2 l3 l4 l5 t h Q} : Ev d 21 15 [some (.ref a), l1, l2, l3, l4, l5] t h Q = Ev d 21 16 [some (.ref a), l1, l2, l3, l4, l5] (.ref a :: t) h Q := en_aload_n mm21 dX2_judge_15 rfl
theorem i21_16 {d a l0 l1 l2 l3 l4 l5 t h Q} : Ev d 21 16 [l0, l1, l2, l3, l4, l5] (.ref a :: t) h Q = (hk h a = 3 ∧ Ev d 21 19 [l0, l1, l2, l3, l4, l5] (hF h a 0 :: t) h Q) := en_getfield (cj := 2) mm21 dX2_judge_16 (by decide +kernel)
theorem i21_19 {d a l0 l1 l2 l3 l4 l5 t h Q} : Ev d 21 19 [l0, l1, l2, l3, l4, l5] (.ref a :: t) h Q = (hk h a = 4 ∧ Ev d 21 22 [l0, l1, l2, l3, l4, l5] (hF h a 8 :: t) h Q) := en_getfield (cj := 3) mm21 dX2_judge_19 (by decide +kernel)
theorem i21_22 {d l0 l1 l3 l4 l5 t x h Q} : Ev d 21 22 [l0, l1, some (.int x), l3, l4, l5] t h Q = Ev d 21 23 [l0, l1, some (.int x), l3, l4, l5] (.int x :: t) h Q := en_iload_n mm21 dX2_judge_22 rfl
theorem i21_23 {d a j l0 l1 l2 l3 l4 l5 t h Q} : Ev d 21 23 [l0, l1, l2, l3, l4, l5] (.int j :: .ref a :: t) h Q = (hk h a = 10 ∧ inb j (hl h a) ∧ Ev d 21 24 [l0, l1, l2, l3, l4, l5] (.int (hA h a j.toNatClampNeg) :: t) h Q) := en_iaload mm21 dX2_judge_23
theorem i21_24 {d l0 l1 l2 l3 l4 l5 t x h Q} : Ev d 21 24 [l0, l1, l2, l3, l4, l5] (.int x :: t) h Q = Ev d 21 25 [l0, l1, nl l2, some (.int x), l4, l5] t h Q := en_istore_n mm21 dX2_judge_24 (of_decide_eq_true rfl) rfl
theorem i21_25 {d a l1 l2 l3 l4 l5 t h Q} : Ev d 21 25 [some (.ref a), l1, l2, l3, l4, l5] t h Q = Ev d 21 26 [some (.ref a), l1, l2, l3, l4, l5] (.ref a :: t) h Q := en_aload_n mm21 dX2_judge_25 rfl
theorem i21_26 {d a l0 l1 l2 l3 l4 l5 t h Q} : Ev d 21 26 [l0, l1, l2, l3, l4, l5] (.ref a :: t) h Q = (hk h a = 3 ∧ Ev d 21 29 [l0, l1, l2, l3, l4, l5] (hF h a 0 :: t) h Q) := en_getfield (cj := 2) mm21 dX2_judge_26 (by decide +kernel)
theorem i21_29 {d a l0 l1 l2 l3 l4 l5 t h Q} : Ev d 21 29 [l0, l1, l2, l3, l4, l5] (.ref a :: t) h Q = (hk h a = 4 ∧ Ev d 21 32 [l0, l1, l2, l3, l4, l5] (hF h a 9 :: t) h Q) := en_getfield (cj := 3) mm21 dX2_judge_29 (by decide +kernel)
theorem i21_32 {d l0 l1 l3 l4 l5 t x h Q} : Ev d 21 32 [l0, l1, some (.int x), l3, l4, l5] t h Q = Ev d 21 33 [l0, l1, some (.int x), l3, l4, l5] (.int x :: t) h Q := en_iload_n mm21 dX2_judge_32 rfl
theorem i21_33 {d a j l0 l1 l2 l3 l4 l5 t h Q} : Ev d 21 33 [l0, l1, l2, l3, l4, l5] (.int j :: .ref a :: t) h Q = (hk h a = 10 ∧ inb j (hl h a) ∧ Ev d 21 34 [l0, l1, l2, l3, l4, l5] (.int (hA h a j.toNatClampNeg) :: t) h Q) := en_iaload mm21 dX2_judge_33
theorem i21_34 {d l0 l1 l2 l3 l4 l5 t x h Q} : Ev d 21 34 [l0, l1, l2, l3, l4, l5] (.int x :: t) h Q = Ev d 21 36 [l0, l1, l2, nl l3, some (.int x), l5] t h Q := en_istore mm21 dX2_judge_34 (of_decide_eq_true rfl) rfl
theorem i21_36 {d a l1 l2 l3 l4 l5 t h Q} : Ev d 21 36 [some (.ref a), l1, l2, l3, l4, l5] t h Q = Ev d 21 37 [some (.ref a), l1, l2, l3, l4, l5] (.ref a :: t) h Q := en_aload_n mm21 dX2_judge_36 rfl
theorem i21_37 {d a l0 l1 l2 l3 l4 l5 t h Q} : Ev d 21 37 [l0, l1, l2, l3, l4, l5] (.ref a :: t) h Q = (hk h a = 3 ∧ Ev d 21 40 [l0, l1, l2, l3, l4, l5] (hF h a 9 :: t) h Q) := en_getfield (cj := 2) mm21 dX2_judge_37 (by decide +kernel)
theorem i21_40 {d l0 l2 l3 l4 l5 t x h Q} : Ev d 21 40 [l0, some (.int x), l2, l3, l4, l5] t h Q = Ev d 21 41 [l0, some (.int x), l2, l3, l4, l5] (.int x :: t) h Q := en_iload_n mm21 dX2_judge_40 rfl
theorem i21_41 {d a j l0 l1 l2 l3 l4 l5 t h Q} : Ev d 21 41 [l0, l1, l2, l3, l4, l5] (.int j :: .ref a :: t) h Q = (hk h a = 10 ∧ inb j (hl h a) ∧ Ev d 21 42 [l0, l1, l2, l3, l4, l5] (.int (hA h a j.toNatClampNeg) :: t) h Q) := en_iaload mm21 dX2_judge_41
theorem i21_42 {d l0 l1 l2 l3 l4 l5 t x h Q} : Ev d 21 42 [l0, l1, l2, l3, l4, l5] (.int x :: t) h Q = Ev d 21 44 [l0, l1, l2, l3, nl l4, some (.int x)] t h Q := en_istore mm21 dX2_judge_42 (of_decide_eq_true rfl) rfl
theorem i21_44 {d l0 l1 l2 l4 l5 t x h Q} : Ev d 21 44 [l0, l1, l2, some (.int x), l4, l5] t h Q = Ev d 21 45 [l0, l1, l2, some (.int x), l4, l5] (.int x :: t) h Q := en_iload_n mm21 dX2_judge_44 rfl
theorem i21_45 {d l0 l1 l2 l3 l4 l5 t h Q} : Ev d 21 45 [l0, l1, l2, l3, l4, l5] t h Q = Ev d 21 46 [l0, l1, l2, l3, l4, l5] (.int (-1) :: t) h Q := en_iconst mm21 dX2_judge_45 (by decide)
theorem i21_46 {d l0 l1 l2 l3 l4 l5 t x y h Q} : Ev d 21 46 [l0, l1, l2, l3, l4, l5] (.int y :: .int x :: t) h Q = if x = y then Ev d 21 87 [l0, l1, l2, l3, l4, l5] t h Q else Ev d 21 49 [l0, l1, l2, l3, l4, l5] t h Q := en_ic_eq mm21 dX2_judge_46 rfl
theorem i21_49 {d l0 l1 l2 l3 l4 t x h Q} : Ev d 21 49 [l0, l1, l2, l3, l4, some (.int x)] t h Q = Ev d 21 51 [l0, l1, l2, l3, l4, some (.int x)] (.int x :: t) h Q := en_iload mm21 dX2_judge_49 rfl
theorem i21_51 {d l0 l1 l2 l4 l5 t x h Q} : Ev d 21 51 [l0, l1, l2, some (.int x), l4, l5] t h Q = Ev d 21 52 [l0, l1, l2, some (.int x), l4, l5] (.int x :: t) h Q := en_iload_n mm21 dX2_judge_51 rfl
theorem i21_52 {d l0 l1 l2 l3 l4 l5 t x y h Q} : Ev d 21 52 [l0, l1, l2, l3, l4, l5] (.int y :: .int x :: t) h Q = if y ≤ x then Ev d 21 87 [l0, l1, l2, l3, l4, l5] t h Q else Ev d 21 55 [l0, l1, l2, l3, l4, l5] t h Q := en_ic_ge mm21 dX2_judge_52 rfl
theorem i21_55 {d a l1 l2 l3 l4 l5 t h Q} : Ev d 21 55 [some (.ref a), l1, l2, l3, l4, l5] t h Q = Ev d 21 56 [some (.ref a), l1, l2, l3, l4, l5] (.ref a :: t) h Q := en_aload_n mm21 dX2_judge_55 rfl
theorem i21_56 {d a l0 l1 l2 l3 l4 l5 t h Q} : Ev d 21 56 [l0, l1, l2, l3, l4, l5] (.ref a :: t) h Q = (hk h a = 3 ∧ Ev d 21 59 [l0, l1, l2, l3, l4, l5] (hF h a 10 :: t) h Q) := en_getfield (cj := 2) mm21 dX2_judge_56 (by decide +kernel)
theorem i21_59 {d l0 l2 l3 l4 l5 t x h Q} : Ev d 21 59 [l0, some (.int x), l2, l3, l4, l5] t h Q = Ev d 21 60 [l0, some (.int x), l2, l3, l4, l5] (.int x :: t) h Q := en_iload_n mm21 dX2_judge_59 rfl
theorem i21_60 {d l0 l1 l2 l3 l4 l5 t h Q} : Ev d 21 60 [l0, l1, l2, l3, l4, l5] t h Q = Ev d 21 61 [l0, l1, l2, l3, l4, l5] (.int 4 :: t) h Q := en_iconst mm21 dX2_judge_60 (by decide)
theorem i21_61 {d a j l0 l1 l2 l3 l4 l5 t x h Q} : Ev d 21 61 [l0, l1, l2, l3, l4, l5] (.int x :: .int j :: .ref a :: t) h Q = (hk h a = 10 ∧ inb j (hl h a) ∧ Ev d 21 62 [l0, l1, l2, l3, l4, l5] t (wA h a (upd (hA h a) j.toNatClampNeg x)) Q) := en_iastore mm21 dX2_judge_61
theorem i21_62 {d a l1 l2 l3 l4 l5 t h Q} : Ev d 21 62 [some (.ref a), l1, l2, l3, l4, l5] t h Q = Ev d 21 63 [some (.ref a), l1, l2, l3, l4, l5] (.ref a :: t) h Q := en_aload_n mm21 dX2_judge_62 rfl
theorem i21_63 {d a l0 l1 l2 l3 l4 l5 t h Q} : Ev d 21 63 [l0, l1, l2, l3, l4, l5] (.ref a :: t) h Q = (hk h a = 3 ∧ Ev d 21 66 [l0, l1, l2, l3, l4, l5] (hF h a 12 :: t) h Q) := en_getfield (cj := 2) mm21 dX2_judge_63 (by decide +kernel)
theorem i21_66 {d l0 l1 l3 l4 l5 t x h Q} : Ev d 21 66 [l0, l1, some (.int x), l3, l4, l5] t h Q = Ev d 21 67 [l0, l1, some (.int x), l3, l4, l5] (.int x :: t) h Q := en_iload_n mm21 dX2_judge_66 rfl
theorem i21_67 {d a l0 l1 l2 l3 l4 l5 t x h Q} : Ev d 21 67 [l0, l1, l2, l3, l4, l5] (.int x :: .ref a :: t) h Q = Ev d 21 68 [l0, l1, l2, l3, l4, l5] (.int x :: .ref a :: .int x :: .ref a :: t) h Q := en_dup2 mm21 dX2_judge_67
theorem i21_68 {d a j l0 l1 l2 l3 l4 l5 t h Q} : Ev d 21 68 [l0, l1, l2, l3, l4, l5] (.int j :: .ref a :: t) h Q = (hk h a = 10 ∧ inb j (hl h a) ∧ Ev d 21 69 [l0, l1, l2, l3, l4, l5] (.int (hA h a j.toNatClampNeg) :: t) h Q) := en_iaload mm21 dX2_judge_68
theorem i21_69 {d l0 l1 l2 l3 l4 l5 t h Q} : Ev d 21 69 [l0, l1, l2, l3, l4, l5] t h Q = Ev d 21 70 [l0, l1, l2, l3, l4, l5] (.int 1 :: t) h Q := en_iconst mm21 dX2_judge_69 (by decide)
theorem i21_70 {d l0 l1 l2 l3 l4 l5 t x y h Q} : Ev d 21 70 [l0, l1, l2, l3, l4, l5] (.int y :: .int x :: t) h Q = Ev d 21 71 [l0, l1, l2, l3, l4, l5] (.int (x + y) :: t) h Q := en_iadd mm21 dX2_judge_70
theorem i21_71 {d a j l0 l1 l2 l3 l4 l5 t x h Q} : Ev d 21 71 [l0, l1, l2, l3, l4, l5] (.int x :: .int j :: .ref a :: t) h Q = (hk h a = 10 ∧ inb j (hl h a) ∧ Ev d 21 72 [l0, l1, l2, l3, l4, l5] t (wA h a (upd (hA h a) j.toNatClampNeg x)) Q) := en_iastore mm21 dX2_judge_71
theorem i21_72 {d a l1 l2 l3 l4 l5 t h Q} : Ev d 21 72 [some (.ref a), l1, l2, l3, l4, l5] t h Q = Ev d 21 73 [some (.ref a), l1, l2, l3, l4, l5] (.ref a :: t) h Q := en_aload_n mm21 dX2_judge_72 rfl
theorem i21_73 {d l0 l1 l3 l4 l5 t x h Q} : Ev d 21 73 [l0, l1, some (.int x), l3, l4, l5] t h Q = Ev d 21 74 [l0, l1, some (.int x), l3, l4, l5] (.int x :: t) h Q := en_iload_n mm21 dX2_judge_73 rfl
theorem i21_74 {d a l1 l2 l3 l4 l5 t h Q} : Ev d 21 74 [some (.ref a), l1, l2, l3, l4, l5] t h Q = Ev d 21 75 [some (.ref a), l1, l2, l3, l4, l5] (.ref a :: t) h Q := en_aload_n mm21 dX2_judge_74 rfl
theorem i21_75 {d a l0 l1 l2 l3 l4 l5 t h Q} : Ev d 21 75 [l0, l1, l2, l3, l4, l5] (.ref a :: t) h Q = (hk h a = 3 ∧ Ev d 21 78 [l0, l1, l2, l3, l4, l5] (hF h a 0 :: t) h Q) := en_getfield (cj := 2) mm21 dX2_judge_75 (by decide +kernel)
theorem i21_78 {d a l0 l1 l2 l3 l4 l5 t h Q} : Ev d 21 78 [l0, l1, l2, l3, l4, l5] (.ref a :: t) h Q = (hk h a = 4 ∧ Ev d 21 81 [l0, l1, l2, l3, l4, l5] (hF h a 2 :: t) h Q) := en_getfield (cj := 3) mm21 dX2_judge_78 (by decide +kernel)
theorem i21_81 {d a l0 l1 l2 l3 l4 l5 x0 x1 h Q} : Ev (d + 1) 21 81 [l0, l1, l2, l3, l4, l5] [x0, x1, .ref a] h Q = (hk h a = 3 ∧ EvM d 22 [.ref a, x1, x0] h (konN (d + 1) 21 84 [l0, l1, l2, l3, l4, l5] [] Q)) := en_virtualN mm21 dX2_judge_81 (by decide +kernel : ml _ _ = some (2, 22)) (by decide) (rfl : mtab[22]? = some _) (by decide +kernel : npar _ = 2) rfl (by decide) rfl (of_decide_eq_true rfl) (len_cat (of_decide_eq_true rfl)) rfl rfl rfl
theorem i21_84 {d l0 l1 l2 l3 l4 l5 t h Q} : Ev d 21 84 [l0, l1, l2, l3, l4, l5] t h Q = Ev d 21 150 [l0, l1, l2, l3, l4, l5] t h Q := en_goto mm21 dX2_judge_84 rfl
theorem i21_87 {d l0 l1 l2 l3 l5 t x h Q} : Ev d 21 87 [l0, l1, l2, l3, some (.int x), l5] t h Q = Ev d 21 89 [l0, l1, l2, l3, some (.int x), l5] (.int x :: t) h Q := en_iload mm21 dX2_judge_87 rfl
theorem i21_89 {d l0 l1 l2 l3 l4 l5 t h Q} : Ev d 21 89 [l0, l1, l2, l3, l4, l5] t h Q = Ev d 21 90 [l0, l1, l2, l3, l4, l5] (.int (-1) :: t) h Q := en_iconst mm21 dX2_judge_89 (by decide)
theorem i21_90 {d l0 l1 l2 l3 l4 l5 t x y h Q} : Ev d 21 90 [l0, l1, l2, l3, l4, l5] (.int y :: .int x :: t) h Q = if x = y then Ev d 21 133 [l0, l1, l2, l3, l4, l5] t h Q else Ev d 21 93 [l0, l1, l2, l3, l4, l5] t h Q := en_ic_eq mm21 dX2_judge_90 rfl
theorem i21_93 {d l0 l1 l2 l3 l4 t x h Q} : Ev d 21 93 [l0, l1, l2, l3, l4, some (.int x)] t h Q = Ev d 21 95 [l0, l1, l2, l3, l4, some (.int x)] (.int x :: t) h Q := en_iload mm21 dX2_judge_93 rfl
theorem i21_95 {d l0 l1 l2 l3 l5 t x h Q} : Ev d 21 95 [l0, l1, l2, l3, some (.int x), l5] t h Q = Ev d 21 97 [l0, l1, l2, l3, some (.int x), l5] (.int x :: t) h Q := en_iload mm21 dX2_judge_95 rfl
theorem i21_97 {d l0 l1 l2 l3 l4 l5 t x y h Q} : Ev d 21 97 [l0, l1, l2, l3, l4, l5] (.int y :: .int x :: t) h Q = if x ≤ y then Ev d 21 133 [l0, l1, l2, l3, l4, l5] t h Q else Ev d 21 100 [l0, l1, l2, l3, l4, l5] t h Q := en_ic_le mm21 dX2_judge_97 rfl
theorem i21_100 {d a l1 l2 l3 l4 l5 t h Q} : Ev d 21 100 [some (.ref a), l1, l2, l3, l4, l5] t h Q = Ev d 21 101 [some (.ref a), l1, l2, l3, l4, l5] (.ref a :: t) h Q := en_aload_n mm21 dX2_judge_100 rfl
theorem i21_101 {d a l0 l1 l2 l3 l4 l5 t h Q} : Ev d 21 101 [l0, l1, l2, l3, l4, l5] (.ref a :: t) h Q = (hk h a = 3 ∧ Ev d 21 104 [l0, l1, l2, l3, l4, l5] (hF h a 10 :: t) h Q) := en_getfield (cj := 2) mm21 dX2_judge_101 (by decide +kernel)
theorem i21_104 {d l0 l2 l3 l4 l5 t x h Q} : Ev d 21 104 [l0, some (.int x), l2, l3, l4, l5] t h Q = Ev d 21 105 [l0, some (.int x), l2, l3, l4, l5] (.int x :: t) h Q := en_iload_n mm21 dX2_judge_104 rfl
theorem i21_105 {d l0 l1 l2 l3 l4 l5 t h Q} : Ev d 21 105 [l0, l1, l2, l3, l4, l5] t h Q = Ev d 21 106 [l0, l1, l2, l3, l4, l5] (.int 4 :: t) h Q := en_iconst mm21 dX2_judge_105 (by decide)
theorem i21_106 {d a j l0 l1 l2 l3 l4 l5 t x h Q} : Ev d 21 106 [l0, l1, l2, l3, l4, l5] (.int x :: .int j :: .ref a :: t) h Q = (hk h a = 10 ∧ inb j (hl h a) ∧ Ev d 21 107 [l0, l1, l2, l3, l4, l5] t (wA h a (upd (hA h a) j.toNatClampNeg x)) Q) := en_iastore mm21 dX2_judge_106
theorem i21_107 {d a l1 l2 l3 l4 l5 t h Q} : Ev d 21 107 [some (.ref a), l1, l2, l3, l4, l5] t h Q = Ev d 21 108 [some (.ref a), l1, l2, l3, l4, l5] (.ref a :: t) h Q := en_aload_n mm21 dX2_judge_107 rfl
theorem i21_108 {d a l0 l1 l2 l3 l4 l5 t h Q} : Ev d 21 108 [l0, l1, l2, l3, l4, l5] (.ref a :: t) h Q = (hk h a = 3 ∧ Ev d 21 111 [l0, l1, l2, l3, l4, l5] (hF h a 13 :: t) h Q) := en_getfield (cj := 2) mm21 dX2_judge_108 (by decide +kernel)
theorem i21_111 {d l0 l1 l3 l4 l5 t x h Q} : Ev d 21 111 [l0, l1, some (.int x), l3, l4, l5] t h Q = Ev d 21 112 [l0, l1, some (.int x), l3, l4, l5] (.int x :: t) h Q := en_iload_n mm21 dX2_judge_111 rfl
theorem i21_112 {d a l0 l1 l2 l3 l4 l5 t x h Q} : Ev d 21 112 [l0, l1, l2, l3, l4, l5] (.int x :: .ref a :: t) h Q = Ev d 21 113 [l0, l1, l2, l3, l4, l5] (.int x :: .ref a :: .int x :: .ref a :: t) h Q := en_dup2 mm21 dX2_judge_112
theorem i21_113 {d a j l0 l1 l2 l3 l4 l5 t h Q} : Ev d 21 113 [l0, l1, l2, l3, l4, l5] (.int j :: .ref a :: t) h Q = (hk h a = 10 ∧ inb j (hl h a) ∧ Ev d 21 114 [l0, l1, l2, l3, l4, l5] (.int (hA h a j.toNatClampNeg) :: t) h Q) := en_iaload mm21 dX2_judge_113
theorem i21_114 {d l0 l1 l2 l3 l4 l5 t h Q} : Ev d 21 114 [l0, l1, l2, l3, l4, l5] t h Q = Ev d 21 115 [l0, l1, l2, l3, l4, l5] (.int 1 :: t) h Q := en_iconst mm21 dX2_judge_114 (by decide)
theorem i21_115 {d l0 l1 l2 l3 l4 l5 t x y h Q} : Ev d 21 115 [l0, l1, l2, l3, l4, l5] (.int y :: .int x :: t) h Q = Ev d 21 116 [l0, l1, l2, l3, l4, l5] (.int (x + y) :: t) h Q := en_iadd mm21 dX2_judge_115
theorem i21_116 {d a j l0 l1 l2 l3 l4 l5 t x h Q} : Ev d 21 116 [l0, l1, l2, l3, l4, l5] (.int x :: .int j :: .ref a :: t) h Q = (hk h a = 10 ∧ inb j (hl h a) ∧ Ev d 21 117 [l0, l1, l2, l3, l4, l5] t (wA h a (upd (hA h a) j.toNatClampNeg x)) Q) := en_iastore mm21 dX2_judge_116
theorem i21_117 {d a l1 l2 l3 l4 l5 t h Q} : Ev d 21 117 [some (.ref a), l1, l2, l3, l4, l5] t h Q = Ev d 21 118 [some (.ref a), l1, l2, l3, l4, l5] (.ref a :: t) h Q := en_aload_n mm21 dX2_judge_117 rfl
theorem i21_118 {d l0 l1 l3 l4 l5 t x h Q} : Ev d 21 118 [l0, l1, some (.int x), l3, l4, l5] t h Q = Ev d 21 119 [l0, l1, some (.int x), l3, l4, l5] (.int x :: t) h Q := en_iload_n mm21 dX2_judge_118 rfl
theorem i21_119 {d a l1 l2 l3 l4 l5 t h Q} : Ev d 21 119 [some (.ref a), l1, l2, l3, l4, l5] t h Q = Ev d 21 120 [some (.ref a), l1, l2, l3, l4, l5] (.ref a :: t) h Q := en_aload_n mm21 dX2_judge_119 rfl
theorem i21_120 {d a l0 l1 l2 l3 l4 l5 t h Q} : Ev d 21 120 [l0, l1, l2, l3, l4, l5] (.ref a :: t) h Q = (hk h a = 3 ∧ Ev d 21 123 [l0, l1, l2, l3, l4, l5] (hF h a 0 :: t) h Q) := en_getfield (cj := 2) mm21 dX2_judge_120 (by decide +kernel)
theorem i21_123 {d a l0 l1 l2 l3 l4 l5 t h Q} : Ev d 21 123 [l0, l1, l2, l3, l4, l5] (.ref a :: t) h Q = (hk h a = 4 ∧ Ev d 21 126 [l0, l1, l2, l3, l4, l5] (hF h a 2 :: t) h Q) := en_getfield (cj := 3) mm21 dX2_judge_123 (by decide +kernel)
theorem i21_126 {d l0 l1 l2 l3 l4 l5 t x h Q} : Ev d 21 126 [l0, l1, l2, l3, l4, l5] (.int x :: t) h Q = Ev d 21 127 [l0, l1, l2, l3, l4, l5] (.int (-x) :: t) h Q := en_ineg mm21 dX2_judge_126
theorem i21_127 {d a l0 l1 l2 l3 l4 l5 x0 x1 h Q} : Ev (d + 1) 21 127 [l0, l1, l2, l3, l4, l5] [x0, x1, .ref a] h Q = (hk h a = 3 ∧ EvM d 22 [.ref a, x1, x0] h (konN (d + 1) 21 130 [l0, l1, l2, l3, l4, l5] [] Q)) := en_virtualN mm21 dX2_judge_127 (by decide +kernel : ml _ _ = some (2, 22)) (by decide) (rfl : mtab[22]? = some _) (by decide +kernel : npar _ = 2) rfl (by decide) rfl (of_decide_eq_true rfl) (len_cat (of_decide_eq_true rfl)) rfl rfl rfl
theorem i21_130 {d l0 l1 l2 l3 l4 l5 t h Q} : Ev d 21 130 [l0, l1, l2, l3, l4, l5] t h Q = Ev d 21 150 [l0, l1, l2, l3, l4, l5] t h Q := en_goto mm21 dX2_judge_130 rfl
theorem i21_133 {d a l1 l2 l3 l4 l5 t h Q} : Ev d 21 133 [some (.ref a), l1, l2, l3, l4, l5] t h Q = Ev d 21 134 [some (.ref a), l1, l2, l3, l4, l5] (.ref a :: t) h Q := en_aload_n mm21 dX2_judge_133 rfl
theorem i21_134 {d a l0 l1 l2 l3 l4 l5 t h Q} : Ev d 21 134 [l0, l1, l2, l3, l4, l5] (.ref a :: t) h Q = (hk h a = 3 ∧ Ev d 21 137 [l0, l1, l2, l3, l4, l5] (hF h a 10 :: t) h Q) := en_getfield (cj := 2) mm21 dX2_judge_134 (by decide +kernel)
theorem i21_137 {d l0 l2 l3 l4 l5 t x h Q} : Ev d 21 137 [l0, some (.int x), l2, l3, l4, l5] t h Q = Ev d 21 138 [l0, some (.int x), l2, l3, l4, l5] (.int x :: t) h Q := en_iload_n mm21 dX2_judge_137 rfl
theorem i21_138 {d l0 l1 l2 l3 l4 l5 t h Q} : Ev d 21 138 [l0, l1, l2, l3, l4, l5] t h Q = Ev d 21 139 [l0, l1, l2, l3, l4, l5] (.int 3 :: t) h Q := en_iconst mm21 dX2_judge_138 (by decide)
theorem i21_139 {d a j l0 l1 l2 l3 l4 l5 t x h Q} : Ev d 21 139 [l0, l1, l2, l3, l4, l5] (.int x :: .int j :: .ref a :: t) h Q = (hk h a = 10 ∧ inb j (hl h a) ∧ Ev d 21 140 [l0, l1, l2, l3, l4, l5] t (wA h a (upd (hA h a) j.toNatClampNeg x)) Q) := en_iastore mm21 dX2_judge_139
theorem i21_140 {d a l1 l2 l3 l4 l5 t h Q} : Ev d 21 140 [some (.ref a), l1, l2, l3, l4, l5] t h Q = Ev d 21 141 [some (.ref a), l1, l2, l3, l4, l5] (.ref a :: t) h Q := en_aload_n mm21 dX2_judge_140 rfl
theorem i21_141 {d a l0 l1 l2 l3 l4 l5 t h Q} : Ev d 21 141 [l0, l1, l2, l3, l4, l5] (.ref a :: t) h Q = (hk h a = 3 ∧ Ev d 21 144 [l0, l1, l2, l3, l4, l5] (hF h a 11 :: t) h Q) := en_getfield (cj := 2) mm21 dX2_judge_141 (by decide +kernel)
theorem i21_144 {d l0 l1 l3 l4 l5 t x h Q} : Ev d 21 144 [l0, l1, some (.int x), l3, l4, l5] t h Q = Ev d 21 145 [l0, l1, some (.int x), l3, l4, l5] (.int x :: t) h Q := en_iload_n mm21 dX2_judge_144 rfl
theorem i21_145 {d a l0 l1 l2 l3 l4 l5 t x h Q} : Ev d 21 145 [l0, l1, l2, l3, l4, l5] (.int x :: .ref a :: t) h Q = Ev d 21 146 [l0, l1, l2, l3, l4, l5] (.int x :: .ref a :: .int x :: .ref a :: t) h Q := en_dup2 mm21 dX2_judge_145
theorem i21_146 {d a j l0 l1 l2 l3 l4 l5 t h Q} : Ev d 21 146 [l0, l1, l2, l3, l4, l5] (.int j :: .ref a :: t) h Q = (hk h a = 10 ∧ inb j (hl h a) ∧ Ev d 21 147 [l0, l1, l2, l3, l4, l5] (.int (hA h a j.toNatClampNeg) :: t) h Q) := en_iaload mm21 dX2_judge_146
theorem i21_147 {d l0 l1 l2 l3 l4 l5 t h Q} : Ev d 21 147 [l0, l1, l2, l3, l4, l5] t h Q = Ev d 21 148 [l0, l1, l2, l3, l4, l5] (.int 1 :: t) h Q := en_iconst mm21 dX2_judge_147 (by decide)
theorem i21_148 {d l0 l1 l2 l3 l4 l5 t x y h Q} : Ev d 21 148 [l0, l1, l2, l3, l4, l5] (.int y :: .int x :: t) h Q = Ev d 21 149 [l0, l1, l2, l3, l4, l5] (.int (x + y) :: t) h Q := en_iadd mm21 dX2_judge_148
theorem i21_149 {d a j l0 l1 l2 l3 l4 l5 t x h Q} : Ev d 21 149 [l0, l1, l2, l3, l4, l5] (.int x :: .int j :: .ref a :: t) h Q = (hk h a = 10 ∧ inb j (hl h a) ∧ Ev d 21 150 [l0, l1, l2, l3, l4, l5] t (wA h a (upd (hA h a) j.toNatClampNeg x)) Q) := en_iastore mm21 dX2_judge_149
theorem i21_150 {d l0 l1 l2 l3 l4 l5 h Q} : Ev d 21 150 [l0, l1, l2, l3, l4, l5] [] h Q = Q (.inl none) h := en_return mm21 dX2_judge_150 rfl
