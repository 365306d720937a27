/-! AN EQUATION FOR EACH INSTRUCTION -/
abbrev em183 : MI := (yJ0_length_8abf5, cJ0_length_8abf5, 1, some .int, 8, [])
theorem mm183 : mtab[183]? = some em183 := rfl
theorem in183 {d : Nat} {h : AH} {K : AO → AH → Prop} {v0 : Nat} : EvM d 183 [(litV v0)] h K = Ev d 183 0 [some (litV v0)] [] h K := evm_in mm183 (of_decide_eq_true rfl) rfl
theorem i183_0 {d t x h Q} : Ev d 183 0 [some x] t h Q = (isR x = true ∧ Ev d 183 1 [some x] (x :: t) h Q) := en_aload_nV mm183 dJ0_length_8abf5_0 rfl
theorem i183_1 {d l0 t h Q} {k : Nat} (hk6 : k < 6) : Ev d 183 1 [l0] (litV k :: t) h Q = Ev d 183 4 [l0] (litB k :: t) h Q := en_getfieldL0 mm183 dJ0_length_8abf5_1 (by decide +kernel) hk6
theorem i183_4 {d l0 t h Q} {k : Nat} (hk6 : k < 6) : Ev d 183 4 [l0] (litB k :: t) h Q = Ev d 183 5 [l0] (.int (nI (lenJ.getD k 0)) :: t) h Q := en_arraylengthL mm183 dJ0_length_8abf5_4 hk6
theorem i183_5 {d t x h Q} : Ev d 183 5 [some x] t h Q = (isR x = true ∧ Ev d 183 6 [some x] (x :: t) h Q) := en_aload_nV mm183 dJ0_length_8abf5_5 rfl
theorem i183_6 {d l0 x0 x1 h Q} : Ev (d + 1) 183 6 [l0] [x0, x1] h Q = (recv h 8 (some x0) = true ∧ EvM d 185 [x0] h (konN (d + 1) 183 9 [l0] [x1] Q)) := en_virtualV mm183 dJ0_length_8abf5_6 (by decide +kernel : ml _ _ = some (2, 185)) (by decide) (rfl : mtab[185]? = some _) (by decide +kernel : npar _ = 0) rfl rfl (of_decide_eq_true rfl) (len_cat (of_decide_eq_true rfl)) rfl rfl rfl
theorem i183_9 {d l0 t x y h Q} : Ev d 183 9 [l0] (.int y :: .int x :: t) h Q = Ev d 183 10 [l0] (.int (x >>> (y &&& 31)) :: t) h Q := en_ishr mm183 dJ0_length_8abf5_9
theorem i183_10 {d l0 x h Q} : Ev d 183 10 [l0] [.int x] h Q = Q (.inl (some (.int x))) h := en_ireturnI mm183 dJ0_length_8abf5_10 rfl
abbrev em184 : MI := (yJ0_charAt_5068e, cJ0_charAt_5068e, 2, some .char, 8, [])
theorem mm184 : mtab[184]? = some em184 := rfl
theorem in184 {d : Nat} {h : AH} {K : AO → AH → Prop} {v0 : Nat} {v1 : Int32} : EvM d 184 [(litV v0), (.int v1)] h K = Ev d 184 0 [some (litV v0), some (.int v1)] [] h K := evm_in mm184 (of_decide_eq_true rfl) rfl
theorem i184_0 {d l1 t x h Q} : Ev d 184 0 [some x, l1] t h Q = (isR x = true ∧ Ev d 184 1 [some x, l1] (x :: t) h Q) := en_aload_nV mm184 dJ0_charAt_5068e_0 rfl
theorem i184_1 {d l0 l1 x0 h Q} : Ev (d + 1) 184 1 [l0, l1] [x0] h Q = (recv h 8 (some x0) = true ∧ EvM d 186 [x0] h (konN (d + 1) 184 4 [l0, l1] [] Q)) := en_virtualV mm184 dJ0_charAt_5068e_1 (by decide +kernel : ml _ _ = some (2, 186)) (by decide) (rfl : mtab[186]? = some _) (by decide +kernel : npar _ = 0) rfl rfl (of_decide_eq_true rfl) (len_cat (of_decide_eq_true rfl)) rfl rfl rfl
theorem i184_4 {d l0 l1 t x h Q} : Ev d 184 4 [l0, l1] (.int x :: t) h Q = if x = 0 then Ev d 184 16 [l0, l1] t h Q else Ev d 184 7 [l0, l1] t h Q := en_if_eq mm184 dJ0_charAt_5068e_4 rfl
theorem i184_7 {d l1 t x h Q} : Ev d 184 7 [some x, l1] t h Q = (isR x = true ∧ Ev d 184 8 [some x, l1] (x :: t) h Q) := en_aload_nV mm184 dJ0_charAt_5068e_7 rfl
theorem i184_8 {d l0 l1 t h Q} {k : Nat} (hk6 : k < 6) : Ev d 184 8 [l0, l1] (litV k :: t) h Q = Ev d 184 11 [l0, l1] (litB k :: t) h Q := en_getfieldL0 mm184 dJ0_charAt_5068e_8 (by decide +kernel) hk6
theorem i184_11 {d l0 t x h Q} : Ev d 184 11 [l0, some (.int x)] t h Q = Ev d 184 12 [l0, some (.int x)] (.int x :: t) h Q := en_iload_n mm184 dJ0_charAt_5068e_11 rfl
theorem i184_12 {d l0 l1 x0 x1 h Q} : Ev (d + 1) 184 12 [l0, l1] [x0, x1] h Q = EvM d 188 [x1, x0] h (konN (d + 1) 184 15 [l0, l1] [] Q) := en_staticN mm184 dJ0_charAt_5068e_12 (by decide +kernel : ml _ _ = some (0, 188)) (by decide) (rfl : mtab[188]? = some _) (by decide +kernel : npar _ = 2) (of_decide_eq_true rfl) (len_cat (of_decide_eq_true rfl)) rfl rfl rfl
theorem i184_15 {d l0 l1 x h Q} : Ev d 184 15 [l0, l1] [.int x] h Q = (narrow .char (.int x) = .int x ∧ Q (.inl (some (.int x))) h) := en_ireturn mm184 dJ0_charAt_5068e_15 rfl
theorem i184_16 {d l1 t x h Q} : Ev d 184 16 [some x, l1] t h Q = (isR x = true ∧ Ev d 184 17 [some x, l1] (x :: t) h Q) := en_aload_nV mm184 dJ0_charAt_5068e_16 rfl
theorem i184_17 {d l0 l1 t h Q} {k : Nat} (hk6 : k < 6) : Ev d 184 17 [l0, l1] (litV k :: t) h Q = Ev d 184 20 [l0, l1] (litB k :: t) h Q := en_getfieldL0 mm184 dJ0_charAt_5068e_17 (by decide +kernel) hk6
theorem i184_20 {d l0 t x h Q} : Ev d 184 20 [l0, some (.int x)] t h Q = Ev d 184 21 [l0, some (.int x)] (.int x :: t) h Q := en_iload_n mm184 dJ0_charAt_5068e_20 rfl
abbrev em185 : MI := (yJ0_coder_7d493, cJ0_coder_7d493, 1, some .byte, 8, [])
theorem mm185 : mtab[185]? = some em185 := rfl
theorem in185 {d : Nat} {h : AH} {K : AO → AH → Prop} {v0 : Nat} : EvM d 185 [(litV v0)] h K = Ev d 185 0 [some (litV v0)] [] h K := evm_in mm185 (of_decide_eq_true rfl) rfl
theorem i185_0 {d l0 t h Q} : Ev d 185 0 [l0] t h Q = Ev d 185 3 [l0] (.int 1 :: t) h Q := en_getstatic0 mm185 dJ0_coder_7d493_0 (by decide +kernel)
theorem i185_3 {d l0 t x h Q} : Ev d 185 3 [l0] (.int x :: t) h Q = if x = 0 then Ev d 185 13 [l0] t h Q else Ev d 185 6 [l0] t h Q := en_if_eq mm185 dJ0_coder_7d493_3 rfl
theorem i185_6 {d t x h Q} : Ev d 185 6 [some x] t h Q = (isR x = true ∧ Ev d 185 7 [some x] (x :: t) h Q) := en_aload_nV mm185 dJ0_coder_7d493_6 rfl
theorem i185_7 {d l0 t h Q} {k : Nat} (hk6 : k < 6) : Ev d 185 7 [l0] (litV k :: t) h Q = Ev d 185 10 [l0] (.int 0 :: t) h Q := en_getfieldL1 mm185 dJ0_coder_7d493_7 (by decide +kernel) hk6
theorem i185_10 {d l0 t h Q} : Ev d 185 10 [l0] t h Q = Ev d 185 14 [l0] t h Q := en_goto mm185 dJ0_coder_7d493_10 rfl
theorem i185_13 {d l0 t h Q} : Ev d 185 13 [l0] t h Q = Ev d 185 14 [l0] (.int 1 :: t) h Q := en_iconst mm185 dJ0_coder_7d493_13 (by decide)
theorem i185_14 {d l0 x h Q} : Ev d 185 14 [l0] [.int x] h Q = (narrow .byte (.int x) = .int x ∧ Q (.inl (some (.int x))) h) := en_ireturn mm185 dJ0_coder_7d493_14 rfl
abbrev em186 : MI := (yJ0_isLatin1_aae02, cJ0_isLatin1_aae02, 1, some .boolean, 8, [])
theorem mm186 : mtab[186]? = some em186 := rfl
theorem in186 {d : Nat} {h : AH} {K : AO → AH → Prop} {v0 : Nat} : EvM d 186 [(litV v0)] h K = Ev d 186 0 [some (litV v0)] [] h K := evm_in mm186 (of_decide_eq_true rfl) rfl
theorem i186_0 {d l0 t h Q} : Ev d 186 0 [l0] t h Q = Ev d 186 3 [l0] (.int 1 :: t) h Q := en_getstatic0 mm186 dJ0_isLatin1_aae02_0 (by decide +kernel)
theorem i186_3 {d l0 t x h Q} : Ev d 186 3 [l0] (.int x :: t) h Q = if x = 0 then Ev d 186 17 [l0] t h Q else Ev d 186 6 [l0] t h Q := en_if_eq mm186 dJ0_isLatin1_aae02_3 rfl
theorem i186_6 {d t x h Q} : Ev d 186 6 [some x] t h Q = (isR x = true ∧ Ev d 186 7 [some x] (x :: t) h Q) := en_aload_nV mm186 dJ0_isLatin1_aae02_6 rfl
theorem i186_7 {d l0 t h Q} {k : Nat} (hk6 : k < 6) : Ev d 186 7 [l0] (litV k :: t) h Q = Ev d 186 10 [l0] (.int 0 :: t) h Q := en_getfieldL1 mm186 dJ0_isLatin1_aae02_7 (by decide +kernel) hk6
theorem i186_10 {d l0 t x h Q} : Ev d 186 10 [l0] (.int x :: t) h Q = if x = 0 then Ev d 186 13 [l0] t h Q else Ev d 186 17 [l0] t h Q := en_if_ne mm186 dJ0_isLatin1_aae02_10 rfl
theorem i186_13 {d l0 t h Q} : Ev d 186 13 [l0] t h Q = Ev d 186 14 [l0] (.int 1 :: t) h Q := en_iconst mm186 dJ0_isLatin1_aae02_13 (by decide)
theorem i186_14 {d l0 t h Q} : Ev d 186 14 [l0] t h Q = Ev d 186 18 [l0] t h Q := en_goto mm186 dJ0_isLatin1_aae02_14 rfl
theorem i186_17 {d l0 t h Q} : Ev d 186 17 [l0] t h Q = Ev d 186 18 [l0] (.int 0 :: t) h Q := en_iconst mm186 dJ0_isLatin1_aae02_17 (by decide)
theorem i186_18 {d l0 x h Q} : Ev d 186 18 [l0] [.int x] h Q = (narrow .boolean (.int x) = .int x ∧ Q (.inl (some (.int x))) h) := en_ireturn mm186 dJ0_isLatin1_aae02_18 rfl
abbrev em187 : MI := (yJ0_checkIndex_df160, cJ0_checkIndex_df160, 2, none, 8, [])
theorem mm187 : mtab[187]? = some em187 := rfl
theorem in187 {d : Nat} {h : AH} {K : AO → AH → Prop} {v0 : Int32} {v1 : Int32} : EvM d 187 [(.int v0), (.int v1)] h K = Ev d 187 0 [some (.int v0), some (.int v1)] [] h K := evm_in mm187 (of_decide_eq_true rfl) rfl
theorem i187_0 {d l1 t x h Q} : Ev d 187 0 [some (.int x), l1] t h Q = Ev d 187 1 [some (.int x), l1] (.int x :: t) h Q := en_iload_n mm187 dJ0_checkIndex_df160_0 rfl
theorem i187_1 {d l0 t x h Q} : Ev d 187 1 [l0, some (.int x)] t h Q = Ev d 187 2 [l0, some (.int x)] (.int x :: t) h Q := en_iload_n mm187 dJ0_checkIndex_df160_1 rfl
theorem i187_2 {d l0 l1 t h Q} : Ev d 187 2 [l0, l1] t h Q = Ev d 187 5 [l0, l1] (fmtV :: t) h Q := en_getstatic1 mm187 dJ0_checkIndex_df160_2 (by decide +kernel)
theorem i187_5 {d l0 l1 x0 x1 x2 h Q} : Ev (d + 1) 187 5 [l0, l1] [x0, x1, x2] h Q = EvM d 189 [x2, x1, x0] h (konN (d + 1) 187 8 [l0, l1] [] Q) := en_staticN mm187 dJ0_checkIndex_df160_5 (by decide +kernel : ml _ _ = some (0, 189)) (by decide) (rfl : mtab[189]? = some _) (by decide +kernel : npar _ = 3) (of_decide_eq_true rfl) (len_cat (of_decide_eq_true rfl)) rfl rfl rfl
theorem i187_8 {d l0 l1 t x h Q} : Ev d 187 8 [l0, l1] (.int x :: t) h Q = Ev d 187 9 [l0, l1] t h Q := en_popI mm187 dJ0_checkIndex_df160_8
theorem i187_9 {d l0 l1 h Q} : Ev d 187 9 [l0, l1] [] h Q = Q (.inl none) h := en_return mm187 dJ0_checkIndex_df160_9 rfl
abbrev em188 : MI := (yJ1_charAt_3b067, cJ1_charAt_3b067, 2, some .char, 9, [])
theorem mm188 : mtab[188]? = some em188 := rfl
theorem in188 {d : Nat} {h : AH} {K : AO → AH → Prop} {v0 : Nat} {v1 : Int32} : EvM d 188 [(litB v0), (.int v1)] h K = Ev d 188 0 [some (litB v0), some (.int v1)] [] h K := evm_in mm188 (of_decide_eq_true rfl) rfl
theorem i188_0 {d l0 t x h Q} : Ev d 188 0 [l0, some (.int x)] t h Q = Ev d 188 1 [l0, some (.int x)] (.int x :: t) h Q := en_iload_n mm188 dJ1_charAt_3b067_0 rfl
theorem i188_1 {d l1 t x h Q} : Ev d 188 1 [some x, l1] t h Q = (isR x = true ∧ Ev d 188 2 [some x, l1] (x :: t) h Q) := en_aload_nV mm188 dJ1_charAt_3b067_1 rfl
theorem i188_2 {d l0 l1 t h Q} {k : Nat} (hk6 : k < 6) : Ev d 188 2 [l0, l1] (litB k :: t) h Q = Ev d 188 3 [l0, l1] (.int (nI (lenJ.getD k 0)) :: t) h Q := en_arraylengthL mm188 dJ1_charAt_3b067_2 hk6
theorem i188_3 {d l0 l1 x0 x1 h Q} : Ev (d + 1) 188 3 [l0, l1] [x0, x1] h Q = EvM d 187 [x1, x0] h (konN (d + 1) 188 6 [l0, l1] [] Q) := en_staticN mm188 dJ1_charAt_3b067_3 (by decide +kernel : ml _ _ = some (0, 187)) (by decide) (rfl : mtab[187]? = some _) (by decide +kernel : npar _ = 2) (of_decide_eq_true rfl) (len_cat (of_decide_eq_true rfl)) rfl rfl rfl
theorem i188_6 {d l1 t x h Q} : Ev d 188 6 [some x, l1] t h Q = (isR x = true ∧ Ev d 188 7 [some x, l1] (x :: t) h Q) := en_aload_nV mm188 dJ1_charAt_3b067_6 rfl
theorem i188_7 {d l0 t x h Q} : Ev d 188 7 [l0, some (.int x)] t h Q = Ev d 188 8 [l0, some (.int x)] (.int x :: t) h Q := en_iload_n mm188 dJ1_charAt_3b067_7 rfl
theorem i188_8 {d l0 l1 t h Q j} {k : Nat} (hk6 : k < 6) (hj : inb j (lenJ.getD k 0)) : Ev d 188 8 [l0, l1] (.int j :: litB k :: t) h Q = Ev d 188 9 [l0, l1] (.int ((bytJ.getD k []).getD j.toNatClampNeg 0) :: t) h Q := en_baloadL mm188 dJ1_charAt_3b067_8 hk6 hj
theorem i188_9 {d l0 l1 t h Q} : Ev d 188 9 [l0, l1] t h Q = Ev d 188 12 [l0, l1] (.int 255 :: t) h Q := en_sipush mm188 dJ1_charAt_3b067_9 (by decide)
theorem i188_12 {d l0 l1 t x y h Q} : Ev d 188 12 [l0, l1] (.int y :: .int x :: t) h Q = Ev d 188 13 [l0, l1] (.int (x &&& y) :: t) h Q := en_iand mm188 dJ1_charAt_3b067_12
theorem i188_13 {d l0 l1 t x h Q} : Ev d 188 13 [l0, l1] (.int x :: t) h Q = Ev d 188 14 [l0, l1] (.int (x.toUInt32 % 65536).toInt32 :: t) h Q := en_i2c mm188 dJ1_charAt_3b067_13
theorem i188_14 {d l0 l1 x h Q} : Ev d 188 14 [l0, l1] [.int x] h Q = (narrow .char (.int x) = .int x ∧ Q (.inl (some (.int x))) h) := en_ireturn mm188 dJ1_charAt_3b067_14 rfl
abbrev em189 : MI := (yJ3_checkIndex_8e157, cJ3_checkIndex_8e157, 3, some .int, 10, [])
theorem mm189 : mtab[189]? = some em189 := rfl
theorem in189 {d : Nat} {h : AH} {K : AO → AH → Prop} {v0 : Int32} {v1 : Int32} : EvM d 189 [(.int v0), (.int v1), fmtV] h K = Ev d 189 0 [some (.int v0), some (.int v1), some fmtV] [] h K := evm_in mm189 (of_decide_eq_true rfl) rfl
theorem i189_0 {d l1 l2 t x h Q} : Ev d 189 0 [some (.int x), l1, l2] t h Q = Ev d 189 1 [some (.int x), l1, l2] (.int x :: t) h Q := en_iload_n mm189 dJ3_checkIndex_8e157_0 rfl
theorem i189_1 {d l0 l1 l2 t x h Q} : Ev d 189 1 [l0, l1, l2] (.int x :: t) h Q = if x < 0 then Ev d 189 9 [l0, l1, l2] t h Q else Ev d 189 4 [l0, l1, l2] t h Q := en_if_lt mm189 dJ3_checkIndex_8e157_1 rfl
theorem i189_4 {d l1 l2 t x h Q} : Ev d 189 4 [some (.int x), l1, l2] t h Q = Ev d 189 5 [some (.int x), l1, l2] (.int x :: t) h Q := en_iload_n mm189 dJ3_checkIndex_8e157_4 rfl
theorem i189_5 {d l0 l2 t x h Q} : Ev d 189 5 [l0, some (.int x), l2] t h Q = Ev d 189 6 [l0, some (.int x), l2] (.int x :: t) h Q := en_iload_n mm189 dJ3_checkIndex_8e157_5 rfl
theorem i189_6 {d l0 l1 l2 t x y h Q} : Ev d 189 6 [l0, l1, l2] (.int y :: .int x :: t) h Q = if x < y then Ev d 189 16 [l0, l1, l2] t h Q else Ev d 189 9 [l0, l1, l2] t h Q := en_ic_lt mm189 dJ3_checkIndex_8e157_6 rfl
theorem i189_9 {d l0 l1 t x h Q} : Ev d 189 9 [l0, l1, some x] t h Q = (isR x = true ∧ Ev d 189 10 [l0, l1, some x] (x :: t) h Q) := en_aload_nV mm189 dJ3_checkIndex_8e157_9 rfl
theorem i189_10 {d l1 l2 t x h Q} : Ev d 189 10 [some (.int x), l1, l2] t h Q = Ev d 189 11 [some (.int x), l1, l2] (.int x :: t) h Q := en_iload_n mm189 dJ3_checkIndex_8e157_10 rfl
theorem i189_11 {d l0 l2 t x h Q} : Ev d 189 11 [l0, some (.int x), l2] t h Q = Ev d 189 12 [l0, some (.int x), l2] (.int x :: t) h Q := en_iload_n mm189 dJ3_checkIndex_8e157_11 rfl
theorem i189_16 {d l1 l2 t x h Q} : Ev d 189 16 [some (.int x), l1, l2] t h Q = Ev d 189 17 [some (.int x), l1, l2] (.int x :: t) h Q := en_iload_n mm189 dJ3_checkIndex_8e157_16 rfl
theorem i189_17 {d l0 l1 l2 x h Q} : Ev d 189 17 [l0, l1, l2] [.int x] h Q = Q (.inl (some (.int x))) h := en_ireturnI mm189 dJ3_checkIndex_8e157_17 rfl
