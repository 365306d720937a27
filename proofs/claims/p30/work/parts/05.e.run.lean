/-! THE RUN of the abstract machine -/
abbrev AO : Type := Option Value ⊕ Nat
abbrev AS : Type := (Nat × aLS × List Value × AH) ⊕ (Option Value ⊕ ((Nat × List Value × List Value) ⊕ Nat))
def nx (pc : Nat) (ls : aLS) (st : List Value) (h : AH) : Option AS := some (.inl (pc, ls, st, h))
def npar (E : MI) : Nat := ((parseMethodDescriptor E.1.desc).map (fun d => d.parameters.length)).getD 0
/-- a call of method t with n arguments off the stack -/
def acall (t n : Nat) (st : List Value) : Option AS := if n ≤ st.length ∧ ((st.drop n).map fun v => v.category).sum ≤ 8 then some (.inr (.inr (.inl (t, (st.take n).reverse, st.drop n)))) else none
/-- may this value receive a call of a method of class number c? -/
def recv (h : AH) (c : Nat) (v : Option Value) : Bool := match v with
  | some (.ref a) => (decide (hk h a = kc c) && decide (c < 12)) || (decide (c = 15) && decide (hk h a = 21))
  | some (.float u) => decide (c = 11) && (decide (u.toNat % 2 = 0) && (decide (2 ≤ u.toNat) && decide (u.toNat < 36)))
  | _ => false
/-- an inherited method of a string builder -/
def recvU (h : AH) (v : Option Value) : Bool := match v with
  | some (.ref a) => decide (hk h a = 21)
  | _ => false
def tgt? (pc : Nat) (off : Int) : Option Nat := if 0 ≤ (pc : Int) + off then some ((pc : Int) + off).toNat else none
/-- 'throw new E("text")' stands at pc -/
def athr (E : MI) (d pc i : Nat) (st : List Value) : Option AS := match look (E.2.2.2.2.1, i) exT with
  | none => none
  | some (_, e) => match decode E.2.1 (pc + 3), decode E.2.1 (pc + 4), decode E.2.1 (pc + 6), decode E.2.1 (pc + 9) with
    | .ok (.dup, 1), .ok (.ldc is, 2), .ok (.invokespecial ic, 3), .ok (.athrow, 1) => match look (E.2.2.2.2.1, is) strT, look (E.2.2.2.2.1, ic) exI with
      | some _, some (_, e2) => if e2 = e ∧ 10 ≤ d ∧ st.length ≤ 4 ∧ E.2.2.2.2.2 = [] then some (.inr (.inr (.inr e))) else none
      | _, _ => none
    | _, _, _, _ => none
abbrev inb (i : Int32) (n : Nat) : Prop := 0 ≤ i ∧ i.toNatClampNeg < n
theorem inb_vp {i : Int32} {n : Nat} (h : inb i n) : vp_in i n := fun q => by
  rcases q with q | q
  · exact absurd h.1 (Int32.not_le.mpr q)
  · exact absurd h.2 (Nat.not_lt.mpr q)
def ilen : Instr → Nat
  | .iconst _ => 1
  | .bipush _ => 2
  | .sipush _ => 3
  | .lconst _ => 1
  | .iload_n _ => 1
  | .iload _ => 2
  | .lload_n _ => 1
  | .lload _ => 2
  | .aload_n _ => 1
  | .aload _ => 2
  | .istore_n _ => 1
  | .istore _ => 2
  | .lstore_n _ => 1
  | .lstore _ => 2
  | .astore_n _ => 1
  | .astore _ => 2
  | .iinc _ _ => 3
  | .iadd => 1
  | .isub => 1
  | .imul => 1
  | .idiv => 1
  | .irem => 1
  | .ineg => 1
  | .iand => 1
  | .ior => 1
  | .ishl => 1
  | .ishr => 1
  | .iushr => 1
  | .ladd => 1
  | .lsub => 1
  | .lmul => 1
  | .ldiv => 1
  | .lcmp => 1
  | .i2l => 1
  | .l2i => 1
  | .i2b => 1
  | .i2c => 1
  | .dup => 1
  | .pop => 1
  | .dup2 => 1
  | .goto _ => 3
  | .ifCond _ _ => 3
  | .if_icmp _ _ => 3
  | .tableswitch _ _ _ _ => 100
  | .getfield _ => 3
  | .putfield _ => 3
  | .getstatic _ => 3
  | .iaload => 1
  | .baload => 1
  | .laload => 1
  | .aaload => 1
  | .iastore => 1
  | .bastore => 1
  | .lastore => 1
  | .aastore => 1
  | .arraylength => 1
  | .new _ => 3
  | .newarray _ => 2
  | .anewarray _ => 3
  | .multianewarray _ _ => 4
  | .ldc _ => 2
  | .ldc2_w _ => 3
  | .invokestatic _ => 3
  | .invokevirtual _ => 3
  | .invokespecial _ => 3
  | .ireturn => 1
  | .lreturn => 1
  | .return_ => 1
  | .areturn => 1
  | .aconst_null => 1
  | .checkcast _ => 3
  | .ifnonnull _ => 3
  | _ => 0
def aex (E : MI) (d pc : Nat) (ls : aLS) (st : List Value) (h : AH) (i : Instr) : Option AS := match i with
  | .iconst n => nx (pc + 1) ls (.int (Int32.ofInt n) :: st) h
  | .bipush n => nx (pc + 2) ls (.int (Int8.ofInt n).toInt32 :: st) h
  | .sipush n => nx (pc + 3) ls (.int (Int16.ofInt n).toInt32 :: st) h
  | .lconst n => nx (pc + 1) ls (.long (Int64.ofNat n) :: st) h
  | .iload_n n => match ls[(n : Nat)]? with | some (some (.int x)) => nx (pc + 1) ls (.int x :: st) h | _ => none
  | .iload n => match ls[n]? with | some (some (.int x)) => nx (pc + 2) ls (.int x :: st) h | _ => none
  | .lload_n n => match ls[(n : Nat)]? with | some (some (.long x)) => nx (pc + 1) ls (.long x :: st) h | _ => none
  | .lload n => match ls[n]? with | some (some (.long x)) => nx (pc + 2) ls (.long x :: st) h | _ => none
  | .aload_n n => match ls[(n : Nat)]? with | some (some x) => if isR x = true then nx (pc + 1) ls (x :: st) h else none | _ => none
  | .aload n => match ls[n]? with | some (some x) => if isR x = true then nx (pc + 2) ls (x :: st) h else none | _ => none
  | .istore_n n => match st with | .int x :: t => if (n : Nat) < ls.length then nx (pc + 1) (lst1 ls n (some (.int x))) t h else none | _ => none
  | .istore n => match st with | .int x :: t => if n < ls.length then nx (pc + 2) (lst1 ls n (some (.int x))) t h else none | _ => none
  | .lstore_n n => match st with | .long x :: t => if (n : Nat) + 1 < ls.length then nx (pc + 1) (lst2 ls n (some (.long x))) t h else none | _ => none
  | .lstore n => match st with | .long x :: t => if n + 1 < ls.length then nx (pc + 2) (lst2 ls n (some (.long x))) t h else none | _ => none
  | .astore_n n => match st with | x :: t => if isR x = true ∧ (n : Nat) < ls.length then nx (pc + 1) (lst1 ls n (some x)) t h else none | _ => none
  | .astore n => match st with | x :: t => if isR x = true ∧ n < ls.length then nx (pc + 2) (lst1 ls n (some x)) t h else none | _ => none
  | .iinc n k => match ls[n]? with | some (some (.int x)) => nx (pc + 3) (lst1 ls n (some (.int (x + Int32.ofInt k)))) st h | _ => none
  | .iadd => match st with | .int y :: .int x :: t => nx (pc + 1) ls (.int (x + y) :: t) h | _ => none
  | .isub => match st with | .int y :: .int x :: t => nx (pc + 1) ls (.int (x - y) :: t) h | _ => none
  | .imul => match st with | .int y :: .int x :: t => nx (pc + 1) ls (.int (x * y) :: t) h | _ => none
  | .idiv => match st with | .int y :: .int x :: t => if y = 0 then none else nx (pc + 1) ls (.int (x / y) :: t) h | _ => none
  | .irem => match st with | .int y :: .int x :: t => if y = 0 then none else nx (pc + 1) ls (.int (x - x / y * y) :: t) h | _ => none
  | .ineg => match st with | .int x :: t => nx (pc + 1) ls (.int (-x) :: t) h | _ => none
  | .iand => match st with | .int y :: .int x :: t => nx (pc + 1) ls (.int (x &&& y) :: t) h | _ => none
  | .ior => match st with | .int y :: .int x :: t => nx (pc + 1) ls (.int (x ||| y) :: t) h | _ => none
  | .ishl => match st with | .int y :: .int x :: t => nx (pc + 1) ls (.int (x <<< (y &&& 31)) :: t) h | _ => none
  | .ishr => match st with | .int y :: .int x :: t => nx (pc + 1) ls (.int (x >>> (y &&& 31)) :: t) h | _ => none
  | .iushr => match st with | .int y :: .int x :: t => nx (pc + 1) ls (.int (x.toUInt32 >>> (y.toUInt32 &&& Int32.toUInt32 31)).toInt32 :: t) h | _ => none
  | .ladd => match st with | .long y :: .long x :: t => nx (pc + 1) ls (.long (x + y) :: t) h | _ => none
  | .lsub => match st with | .long y :: .long x :: t => nx (pc + 1) ls (.long (x - y) :: t) h | _ => none
  | .lmul => match st with | .long y :: .long x :: t => nx (pc + 1) ls (.long (x * y) :: t) h | _ => none
  | .ldiv => match st with | .long y :: .long x :: t => if y = 0 then none else nx (pc + 1) ls (.long (x / y) :: t) h | _ => none
  | .lcmp => match st with | .long y :: .long x :: t => nx (pc + 1) ls (.int (lg_cmp x y) :: t) h | _ => none
  | .i2l => match st with | .int x :: t => nx (pc + 1) ls (.long x.toInt64 :: t) h | _ => none
  | .l2i => match st with | .long x :: t => nx (pc + 1) ls (.int x.toInt32 :: t) h | _ => none
  | .i2b => match st with | .int x :: t => nx (pc + 1) ls (.int x.toInt8.toInt32 :: t) h | _ => none
  | .i2c => match st with | .int x :: t => nx (pc + 1) ls (.int (x.toUInt32 % 65536).toInt32 :: t) h | _ => none
  | .dup => match st with | v :: t => if v.category = 1 then nx (pc + 1) ls (v :: v :: t) h else none | _ => none
  | .pop => match st with | v :: t => if v.category = 1 then nx (pc + 1) ls t h else none | _ => none
  | .dup2 => match st with | v :: w :: t => if v.category = 1 ∧ w.category = 1 then nx (pc + 1) ls (v :: w :: v :: w :: t) h else none | _ => none
  | .goto off => match tgt? pc off with | some t => nx t ls st h | none => none
  | .ifCond c off => match st, tgt? pc off with | .int x :: t, some g => nx (if cnd1 c x = true then g else pc + 3) ls t h | _, _ => none
  | .if_icmp c off => match st, tgt? pc off with | .int y :: .int x :: t, some g => nx (if cnd2 c x y = true then g else pc + 3) ls t h | _, _ => none
  | .tableswitch df lo hi offs => match st with
    | .int x :: t => match (if x.toInt < lo ∨ hi < x.toInt then tgt? pc df else (offs[(x.toInt - lo).toNat]?).bind (tgt? pc)) with | some g => nx g ls t h | none => none
    | _ => none
  | .getfield i => match st with
    | .ref a :: t => match look (E.2.2.2.2.1, i) fldT with | some (_, _, cj, k, _) => if hk h a = kc cj then nx (pc + 3) ls (hF h a k :: t) h else none | none => none
    | .float u :: t => match look (E.2.2.2.2.1, i) litF with | some (_, fk) => if u.toNat % 2 = 0 ∧ 2 ≤ u.toNat ∧ u.toNat < 36 then nx (pc + 3) ls ((if fk = 0 then litB (u.toNat / 2 - 1) else .int 0) :: t) h else none | none => none
    | _ => none
  | .putfield i => match st with
    | v :: .ref a :: t => match look (E.2.2.2.2.1, i) fldT with
      | some (_, nest, cj, k, _) => if hk h a = kc cj ∧ okv (cY cj k) v = true ∧ ((cT cj k).2.2.2 = false ∨ (nest = false ∧ E.1.name = "<init>" ∧ cj = E.2.2.2.2.1)) then nx (pc + 3) ls t (wF h a k v) else none
      | none => none
    | _ => none
  | .getstatic i => match look (E.2.2.2.2.1, i) stT with | some (_, k, _, _) => nx (pc + 3) ls (stV k :: st) h | none => none
  | .iaload => match st with
    | .int j :: .ref a :: t => if hk h a = 10 ∧ inb j (hl h a) then nx (pc + 1) ls (.int (hA h a j.toNatClampNeg) :: t) h else none
    | .int j :: .float u :: t => if u = 0 ∧ inb j (hX h).1 then nx (pc + 1) ls (.int ((hX h).2 j.toNatClampNeg) :: t) h else none
    | _ => none
  | .baload => match st with
    | .int j :: .ref a :: t => if hk h a = 11 ∧ inb j (hl h a) then nx (pc + 1) ls (.int (hA h a j.toNatClampNeg) :: t) h else none
    | .int j :: .float u :: t => if u.toNat % 2 = 1 ∧ 3 ≤ u.toNat ∧ u.toNat < 37 ∧ inb j (lenJ.getD (u.toNat / 2 - 1) 0) then nx (pc + 1) ls (.int ((bytJ.getD (u.toNat / 2 - 1) []).getD j.toNatClampNeg 0) :: t) h else if (u.toNat = 101 ∨ u.toNat = 102) ∧ inb j 100 then nx (pc + 1) ls (.int (dgt u.toNat j.toNatClampNeg) :: t) h else none
    | _ => none
  | .laload => match st with | .int j :: .ref a :: t => if hk h a = 12 ∧ inb j (hl h a) then nx (pc + 1) ls (.long (hJ h a j.toNatClampNeg) :: t) h else none | _ => none
  | .aaload => match st with
    | .int j :: .ref a :: t => if (13 ≤ hk h a ∧ hk h a ≤ 16) ∧ inb j (hl h a) then nx (pc + 1) ls (orv (hR h a j.toNatClampNeg) :: t) h else none
    | .int j :: .float u :: t => if u = 100 ∧ inb j 3 then nx (pc + 1) ls (litV (vrN j.toNatClampNeg) :: t) h else none
    | _ => none
  | .iastore => match st with | .int x :: .int j :: .ref a :: t => if hk h a = 10 ∧ inb j (hl h a) then nx (pc + 1) ls t (wA h a (upd (hA h a) j.toNatClampNeg x)) else none | _ => none
  | .bastore => match st with | .int x :: .int j :: .ref a :: t => if hk h a = 11 ∧ inb j (hl h a) then nx (pc + 1) ls t (wA h a (upd (hA h a) j.toNatClampNeg x.toInt8.toInt32)) else none | _ => none
  | .lastore => match st with | .long x :: .int j :: .ref a :: t => if hk h a = 12 ∧ inb j (hl h a) then nx (pc + 1) ls t (wJ h a (vp_updL (hJ h a) j.toNatClampNeg x)) else none | _ => none
  | .aastore => match st with
    | .ref v :: .int j :: .ref a :: t => if (hk h a = 13 ∨ hk h a = 15 ∨ hk h a = 16) ∧ hk h v = kc (elc (hk h a)) ∧ inb j (hl h a) then nx (pc + 1) ls t (wR h a (va_up (hR h a) j.toNatClampNeg (some v))) else if hk h a = 14 ∧ hk h v = 10 ∧ inb j (hl h a) then nx (pc + 1) ls t (wR h a (va_up (hR h a) j.toNatClampNeg (some v))) else none
    | .null :: .int j :: .ref a :: t => if (hk h a = 13 ∨ hk h a = 15 ∨ hk h a = 16) ∧ inb j (hl h a) then nx (pc + 1) ls t (wR h a (va_up (hR h a) j.toNatClampNeg none)) else none
    | _ => none
  | .arraylength => match st with
    | .ref a :: t => if 10 ≤ hk h a ∧ hk h a ≤ 16 then nx (pc + 1) ls (.int (nI (hl h a)) :: t) h else none
    | .float u :: t => if u = 0 then nx (pc + 1) ls (.int (nI (hX h).1) :: t) h else if u.toNat % 2 = 1 ∧ 3 ≤ u.toNat ∧ u.toNat < 37 then nx (pc + 1) ls (.int (nI (lenJ.getD (u.toNat / 2 - 1) 0)) :: t) h else none
    | _ => none
  | .new i => match look (E.2.2.2.2.1, i) clsT with
    | some (_, cj) => nx (pc + 3) ls (.ref (hN h) :: st) (alO h (kc cj) (cNf cj) (fun k => defaultValue (cY cj k)))
    | none => athr E d pc i st
  | .newarray a => match st with
    | .int n :: t => if n < 0 ∨ 60000000 < n.toNatClampNeg then none else match a with
      | .int => nx (pc + 2) ls (.ref (hN h) :: t) (alA h 10 n.toNatClampNeg)
      | .byte => nx (pc + 2) ls (.ref (hN h) :: t) (alA h 11 n.toNatClampNeg)
      | .long => nx (pc + 2) ls (.ref (hN h) :: t) (alA h 12 n.toNatClampNeg)
      | _ => none
    | _ => none
  | .anewarray i => match st with
    | .int n :: t => if n < 0 ∨ 60000000 < n.toNatClampNeg then none else match look (E.2.2.2.2.1, i) clsT with
      | some (_, cj) => if cj = 2 ∨ cj = 9 ∨ cj = 6 then nx (pc + 3) ls (.ref (hN h) :: t) (alA h (rowK cj) n.toNatClampNeg) else none
      | none => match look (E.2.2.2.2.1, i) ckT with | some (_, kd) => if kd = 10 then nx (pc + 3) ls (.ref (hN h) :: t) (alA h 14 n.toNatClampNeg) else none | none => none
    | _ => none
  | .multianewarray i m => if m = 2 then (match st with
    | .int k :: .int n :: t => match look (E.2.2.2.2.1, i) mnaT with | some _ => if n < 0 ∨ k < 0 ∨ 60000000 < n.toNatClampNeg ∨ 60000000 < k.toNatClampNeg then none else nx (pc + 4) ls (.ref (hN h) :: t) (alM h n.toNatClampNeg k.toNatClampNeg) | none => none
    | _ => none) else none
  | .ldc i => match look (E.2.2.2.2.1, i) cstT with
    | some (_, v) => nx (pc + 2) ls (.int v :: st) h
    | none => match look (E.2.2.2.2.1, i) strT with | some (_, k) => nx (pc + 2) ls (litV k :: st) h | none => none
  | .ldc2_w i => match look (E.2.2.2.2.1, i) cstLT with | some (_, v) => nx (pc + 3) ls (.long v :: st) h | none => none
  | .invokestatic i => if d = 0 then none else match look (E.2.2.2.2.1, i) mthT with
    | some (7, _, _, _) => match st with | .int y :: .int x :: t => if t.length ≤ 4 then nx (pc + 3) ls (.int (if x < y then y else x) :: t) h else none | _ => none
    | some (8, _, _, _) => match st with | .int y :: .int x :: t => if t.length ≤ 4 then nx (pc + 3) ls (.int (if y < x then y else x) :: t) h else none | _ => none
    | some (9, _, _, _) => match st with
      | .int n :: .int dp :: .ref b :: .int sp :: .ref a :: t => if t.length ≤ 4 ∧ sp = 0 ∧ dp = 0 ∧ hk h a = 10 ∧ hk h b = 10 ∧ ¬ n < 0 ∧ n.toNatClampNeg = hl h b ∧ hl h b ≤ hl h a then nx (pc + 3) ls t (wA h b (hA h a)) else if t.length ≤ 4 ∧ hk h a = 11 ∧ hk h b = 11 ∧ ¬ sp < 0 ∧ ¬ dp < 0 ∧ ¬ n < 0 ∧ sp.toNatClampNeg + n.toNatClampNeg ≤ hl h a ∧ dp.toNatClampNeg + n.toNatClampNeg ≤ hl h b ∧ byOK (hA h a) sp.toNatClampNeg n.toNatClampNeg then nx (pc + 3) ls t (wA h b (va_cpy (hA h a) (hA h b) sp.toNatClampNeg dp.toNatClampNeg n.toNatClampNeg)) else none
      | .int n :: .int dp :: .ref b :: .int sp :: .float u :: t => if t.length ≤ 4 ∧ (u.toNat % 2 = 1 ∧ 3 ≤ u.toNat ∧ u.toNat < 37) ∧ hk h b = 11 ∧ ¬ sp < 0 ∧ ¬ dp < 0 ∧ ¬ n < 0 ∧ sp.toNatClampNeg + n.toNatClampNeg ≤ lenJ.getD (u.toNat / 2 - 1) 0 ∧ dp.toNatClampNeg + n.toNatClampNeg ≤ hl h b ∧ byOK (fun j => (bytJ.getD (u.toNat / 2 - 1) []).getD j 0) sp.toNatClampNeg n.toNatClampNeg then nx (pc + 3) ls t (wA h b (va_cpy (fun j => (bytJ.getD (u.toNat / 2 - 1) []).getD j 0) (hA h b) sp.toNatClampNeg dp.toNatClampNeg n.toNatClampNeg)) else none
      | _ => none
    | some (13, _, _, _) => match st with | .long y :: .long x :: t => if t.length ≤ 4 then nx (pc + 3) ls (.long (if y < x then x else y) :: t) h else none | _ => none
    | some (14, _, _, _) => match st with | .long y :: .long x :: t => if t.length ≤ 4 then nx (pc + 3) ls (.long (if y < x then y else x) :: t) h else none | _ => none
    | some (0, _, t, _) => match mtab[t]? with | some Et => acall t (npar Et) st | none => none
    | some (1, _, t, _) => match mtab[t]? with | some Et => acall t (npar Et) st | none => none
    | _ => none
  | .invokevirtual i => match look (E.2.2.2.2.1, i) mthT with
    | some (2, _, t, _) => match mtab[t]? with | some Et => if recv h Et.2.2.2.2.1 st[npar Et]? = true then acall t (npar Et + 1) st else none | none => none
    | some (3, _, t, _) => match mtab[t]? with | some Et => if recv h Et.2.2.2.2.1 st[npar Et]? = true then acall t (npar Et + 1) st else none | none => none
    | some (10, _, t, _) => match mtab[t]? with | some Et => if recvU h st[npar Et]? = true then acall t (npar Et + 1) st else none | none => none
    | some (15, _, _, _) => if d = 0 then none else match st with | .ref a :: t => if t.length ≤ 4 ∧ hk h a = 10 then nx (pc + 3) ls (.ref (hN h) :: t) (wA (alA h 10 (hl h a)) (hN h) (hA h a)) else none | _ => none
    | some (16, _, _, _) => if d = 0 then none else match st with | .ref a :: t => if t.length ≤ 4 ∧ hk h a = 11 ∧ byOK (hA h a) 0 (hl h a) then nx (pc + 3) ls (.ref (hN h) :: t) (wA (alA h 11 (hl h a)) (hN h) (hA h a)) else none | _ => none
    | _ => none
  | .invokespecial i => match look (E.2.2.2.2.1, i) mthT with
    | some (6, _, _, _) => if d = 0 then none else match st with | .ref a :: t => if t.length ≤ 4 then nx (pc + 3) ls t h else none | _ => none
    | some (4, _, t, _) => match mtab[t]? with | some Et => if recv h Et.2.2.2.2.1 st[npar Et]? = true then acall t (npar Et + 1) st else none | none => none
    | some (5, _, t, _) => match mtab[t]? with | some Et => if recv h Et.2.2.2.2.1 st[npar Et]? = true then acall t (npar Et + 1) st else none | none => none
    | some (11, _, t, _) => match mtab[t]? with | some Et => if recvU h st[npar Et]? = true then acall t (npar Et + 1) st else none | none => none
    | _ => none
  | .ireturn => match st, E.2.2.2.1 with | [.int v], some ty => if narrow ty (.int v) = .int v then some (.inr (.inl (some (.int v)))) else none | _, _ => none
  | .lreturn => match st, E.2.2.2.1 with | [.long v], some .long => some (.inr (.inl (some (.long v)))) | _, _ => none
  | .return_ => match st, E.2.2.2.1 with | [], none => some (.inr (.inl none)) | _, _ => none
  | .areturn => match st, E.2.2.2.1 with | [v], some ty => if isR v = true ∧ ty.isReference = true then some (.inr (.inl (some v))) else none | _, _ => none
  | .aconst_null => nx (pc + 1) ls (.null :: st) h
  | .checkcast i => match st with | .ref a :: t => (match look (E.2.2.2.2.1, i) ckT with | some (_, kd) => if hk h a = kd then nx (pc + 3) ls (.ref a :: t) h else none | none => none) | _ => none
  | .ifnonnull off => match st, tgt? pc off with | v :: t, some g => if isR v = true then nx (if v = .null then pc + 3 else g) ls t h else none | _, _ => none
  | _ => none
def astep (d mi pc : Nat) (ls : aLS) (st : List Value) (h : AH) : Option AS := match mtab[mi]? with
  | none => none
  | some E => match decode E.2.1 pc with
    | .error _ => none
    | .ok (i, len) => if len = ilen i ∨ ilen i = 100 then aex E d pc ls st h i else none
/-- where an exception e that comes out of the call at pc goes on: no (some none) or which handler -/
def hsel (E : MI) (pc e : Nat) : List (Nat × Nat × Nat × Nat) → Option (Option (Nat × Nat × Nat))
  | [] => some none
  | x :: t => if x.1 ≤ pc ∧ pc < x.2.1 then match look (E.2.2.2.2.1, x.2.2.2) exT with
      | none => none
      | some (_, e2) => if e2 = e then (match decode E.2.1 x.2.2.1 with
          | .ok (.astore_n k, 1) => if (k : Nat) < E.2.2.1 then some (some (x.2.2.1, (k : Nat), 1)) else none
          | .ok (.astore k, 2) => if k < E.2.2.1 then some (some (x.2.2.1, k, 2)) else none
          | _ => none)
        else match hsel E pc e t with | some (some r) => some (some r) | _ => none
    else hsel E pc e t
def hnd (mi pc e : Nat) : Option (Option (Nat × Nat × Nat)) := match mtab[mi]? with
  | none => none
  | some E => hsel E pc e E.2.2.2.2.2
def arun : Nat → Nat → Nat → Nat → aLS → List Value → AH → Option (AO × AH)
  | 0, _, _, _, _, _, _ => none
  | n + 1, d, mi, pc, ls, st, h => match astep d mi pc ls st h with
    | none => none
    | some (.inl (pc', ls', st', h')) => arun n d mi pc' ls' st' h'
    | some (.inr (.inl v)) => some (.inl v, h)
    | some (.inr (.inr (.inl (t, args, rest)))) => match d with
      | 0 => none
      | d1 + 1 => match mtab[t]? with
        | none => none
        | some Et => if (aenl args).length ≤ Et.2.2.1 then (match arun n d1 t 0 (aent args Et.2.2.1) [] h with
          | none => none
          | some (.inl v, h1) => arun n (d1 + 1) mi (pc + 3) ls (v.toList ++ rest) h1
          | some (.inr e, h1) => match hnd mi pc e with
            | none => none
            | some none => some (.inr e, h1)
            | some (some (hp, k, len)) => arun n (d1 + 1) mi (hp + len) (lst1 ls k none) [] h1) else none
    | some (.inr (.inr (.inr e))) => some (.inr e, alH h)
