/-! THE ABSTRACT MACHINE: cells are numbered as they are made; a heap is two functions of cell and place (ints, longs); references are numbers of cells, from 1000 on texts, static tables, the script -/
abbrev am_H : Type := (Nat → Nat → Int32) × (Nat → Nat → Int64)
abbrev am_LV : Type := List (Nat × Value)
abbrev am_C : Type := Nat × am_LV × List Value × (Nat × Nat) × am_H
def am_wr (h : am_H) (c k : Nat) (v : Int32) : am_H := (fun c' k' => if c' = c ∧ k' = k then v else h.1 c' k', h.2)
def am_wl (h : am_H) (c k : Nat) (v : Int64) : am_H := (h.1, fun c' k' => if c' = c ∧ k' = k then v else h.2 c' k')
def am_z (h : am_H) (c : Nat) : am_H := (fun c' k' => if c' = c then 0 else h.1 c' k', fun c' k' => if c' = c then 0 else h.2 c' k')
def am_get : am_LV → Nat → Option Value
  | [], _ => none
  | (j, v) :: t, i => bif Nat.beq j i then some v else am_get t i
def am_ins (i : Nat) (v : Value) : am_LV → am_LV
  | [] => [(i, v)]
  | (j, w) :: t => bif Nat.blt i j then (i, v) :: (j, w) :: t else (j, w) :: am_ins i v t
def am_f1 (i : Nat) : am_LV → am_LV
  | [] => []
  | (j, w) :: t => bif Nat.beq j i || (Nat.beq (j + 1) i && Nat.beq w.category 2) then am_f1 i t else (j, w) :: am_f1 i t
def am_f2 (i : Nat) : am_LV → am_LV
  | [] => []
  | (j, w) :: t => bif Nat.beq j i || (Nat.beq j (i + 1) || (Nat.beq (j + 1) i && Nat.beq w.category 2)) then am_f2 i t else (j, w) :: am_f2 i t
def am_set1 (l : am_LV) (i : Nat) (v : Value) : am_LV := am_ins i v (am_f1 i l)
def am_set2 (l : am_LV) (i : Nat) (v : Value) : am_LV := am_ins i v (am_f2 i l)
def am_in (i : Int32) (n : Nat) : Bool := !decide (i < 0) && Nat.blt i.toNatClampNeg n
/-- ints that may be read: how many, which -/
def am_ar (kr : Nat × Nat) (h : am_H) (c : Nat) : Option (Nat × (Nat → Int32)) :=
  bif Nat.blt c 1000 then (bif Nat.blt c kr.1 && Nat.beq (am_shp c).1 1 then some ((am_shp c).2, h.1 c) else none)
  else bif Nat.beq c 1040 then some (6, am_F6) else bif Nat.beq c 1041 then some (6, am_M6) else bif Nat.beq c 1050 then some ((h.1 1051 0).toNatClampNeg, h.1 1050) else none
def am_ln (kr : Nat × Nat) (h : am_H) (c : Nat) : Option Int :=
  bif Nat.blt c 1000 then (bif Nat.blt c kr.1 && (Nat.blt 0 (am_shp c).1 && Nat.blt (am_shp c).1 4) then some (Int.ofNat (am_shp c).2) else none)
  else bif Nat.beq c 1040 then some 6 else bif Nat.beq c 1041 then some 6 else bif Nat.beq c 1050 then some (h.1 1051 0).toInt
  else bif Nat.blt 1019 c && Nat.blt c 1032 then some (Int.ofNat (am_by (c - 1020)).length) else none
section DEFS
variable (pc : Nat) (l : am_LV) (st : List Value) (kr : Nat × Nat) (h : am_H)
def am_ldi (v : Option Value) : Option am_C := match v with | some (.int x) => some (pc, l, .int x :: st, kr, h) | _ => none
def am_ldl (v : Option Value) : Option am_C := match v with | some (.long x) => some (pc, l, .long x :: st, kr, h) | _ => none
def am_lda (v : Option Value) : Option am_C := match v with | some (.ref x) => some (pc, l, .ref x :: st, kr, h) | _ => none
def am_sti (n i : Nat) : Option am_C := match st with | .int x :: r => bif Nat.blt i n then some (pc, am_set1 l i (.int x), r, kr, h) else none | _ => none
def am_sta (n i : Nat) : Option am_C := match st with | .ref x :: r => bif Nat.blt i n then some (pc, am_set1 l i (.ref x), r, kr, h) else none | _ => none
def am_stl (n i : Nat) : Option am_C := match st with | .long x :: r => bif Nat.blt (i + 1) n then some (pc, am_set2 l i (.long x), r, kr, h) else none | _ => none
def am_b2 (f : Int32 → Int32 → Int32) : Option am_C := match st with | .int y :: .int x :: r => some (pc, l, .int (f x y) :: r, kr, h) | _ => none
def am_d2 (f : Int32 → Int32 → Int32) : Option am_C := match st with | .int y :: .int x :: r => bif decide (y = 0) then none else some (pc, l, .int (f x y) :: r, kr, h) | _ => none
def am_l2 (f : Int64 → Int64 → Int64) : Option am_C := match st with | .long y :: .long x :: r => some (pc, l, .long (f x y) :: r, kr, h) | _ => none
def am_bz (g : Int32 → Bool) (t : Nat) : Option am_C := match st with | .int x :: r => some (bif g x then t else pc, l, r, kr, h) | _ => none
def am_bi (g : Int32 → Int32 → Bool) (t : Nat) : Option am_C := match st with | .int y :: .int x :: r => some (bif g x y then t else pc, l, r, kr, h) | _ => none
def am_inc (v : Option Value) (i n : Nat) (k : Int) : Option am_C := match v with | some (.int x) => bif Nat.blt i n then some (pc, am_set1 l i (.int (x + Int32.ofInt k)), st, kr, h) else none | _ => none
def am_sw (pc0 : Nat) (d lo hi : Int) (o : Array Int) : Option am_C := match st with
  | .int x :: r => bif decide (x.toInt < lo) || decide (hi < x.toInt) then (bif decide (0 ≤ (pc0 : Int) + d) then some (((pc0 : Int) + d).toNat, l, r, kr, h) else none)
      else match o[(x.toInt - lo).toNat]? with
        | some f => bif decide (0 ≤ (pc0 : Int) + f) then some (((pc0 : Int) + f).toNat, l, r, kr, h) else none
        | none => none
  | _ => none
def am_iald : Option am_C := match st with
  | .int i :: .ref c :: r => match am_ar kr h c with
      | some (n, f) => bif am_in i n then some (pc, l, .int (f i.toNatClampNeg) :: r, kr, h) else none
      | none => none
  | _ => none
def am_cald : Option am_C := match st with
  | .int i :: .ref c :: r => bif (Nat.blt c 1000 && (Nat.blt c kr.1 && Nat.beq (am_shp c).1 2)) && am_in i (am_shp c).2 then some (pc, l, .int (h.1 c i.toNatClampNeg) :: r, kr, h) else none
  | _ => none
def am_lald : Option am_C := match st with
  | .int i :: .ref c :: r => bif (Nat.blt c 1000 && (Nat.blt c kr.1 && Nat.beq (am_shp c).1 3)) && am_in i (am_shp c).2 then some (pc, l, .long (h.2 c i.toNatClampNeg) :: r, kr, h) else none
  | _ => none
def am_bald : Option am_C := match st with
  | .int i :: .ref c :: r => bif (Nat.blt 1019 c && Nat.blt c 1032) && am_in i (am_by (c - 1020)).length then some (pc, l, .int ((am_by (c - 1020)).getD i.toNatClampNeg 0) :: r, kr, h) else none
  | _ => none
def am_iast : Option am_C := match st with
  | .int x :: .int i :: .ref c :: r => bif (Nat.blt c 1000 && (Nat.blt c kr.1 && Nat.beq (am_shp c).1 1)) && am_in i (am_shp c).2 then some (pc, l, r, kr, am_wr h c i.toNatClampNeg x) else none
  | _ => none
def am_cast : Option am_C := match st with
  | .int x :: .int i :: .ref c :: r => bif (Nat.blt c 1000 && (Nat.blt c kr.1 && Nat.beq (am_shp c).1 2)) && am_in i (am_shp c).2 then some (pc, l, r, kr, am_wr h c i.toNatClampNeg x.toUInt32.toUInt16.toUInt32.toInt32) else none
  | _ => none
def am_last : Option am_C := match st with
  | .long x :: .int i :: .ref c :: r => bif (Nat.blt c 1000 && (Nat.blt c kr.1 && Nat.beq (am_shp c).1 3)) && am_in i (am_shp c).2 then some (pc, l, r, kr, am_wl h c i.toNatClampNeg x) else none
  | _ => none
def am_alen : Option am_C := match st with
  | .ref c :: r => match am_ln kr h c with | some n => some (pc, l, .int (Int32.ofInt n) :: r, kr, h) | none => none
  | _ => none
/-- an object of the class ci? -/
def am_ob (k c ci : Nat) : Bool := Nat.blt c 1000 && (Nat.blt c k && (Nat.beq (am_shp c).1 0 && Nat.beq (am_shp c).2 ci))
def am_gf (f : Option (Nat × Nat × Nat × Nat)) : Option am_C := match f, st with
  | some (ci, k, ty, _), .ref c :: r =>
    bif Nat.beq ty 3 then (bif Nat.blt 999 c && Nat.blt c 1012 then some (pc, l, (bif Nat.beq k 0 then .ref (c + 20) else .int 0) :: r, kr, h) else none)
    else bif am_ob kr.1 c ci then
      (bif Nat.beq ty 2 then (bif Nat.blt (am_rt c k).2 kr.2 then some (pc, l, .ref (am_rt c k).1 :: r, kr, h) else none) else some (pc, l, .int (h.1 c k) :: r, kr, h))
    else none
  | _, _ => none
def am_pf (ini : Bool) (o : Nat) (f : Option (Nat × Nat × Nat × Nat)) : Option am_C := match f, st with
  | some (ci, k, ty, _), v :: .ref c :: r =>
    bif am_ob kr.1 c ci then
      (match v with
      | .ref t => bif (Nat.beq ty 2 && (ini && Nat.beq o ci)) && (Nat.beq t (am_rt c k).1 && (Nat.beq kr.2 (am_rt c k).2 && (Nat.blt t 1000 && Nat.blt t kr.1))) then some (pc, l, r, (kr.1, kr.2 + 1), h) else none
      | .int x => bif Nat.beq ty 0 || (Nat.beq ty 1 && (decide (x = 0) || decide (x = 1))) then some (pc, l, r, kr, am_wr h c k x) else none
      | _ => none)
    else none
  | _, _ => none
def am_us (c r : Nat) : Bool := (List.range 40).all fun k => Nat.ble r (am_rt c k).2
def am_new (f : Option (Nat × Nat × Nat × Nat)) : Option am_C := match f with
  | some (ci, _) => bif (Nat.blt kr.1 1000 && (Nat.beq (am_shp kr.1).1 0 && Nat.beq (am_shp kr.1).2 ci)) && am_us kr.1 kr.2 then some (pc, l, .ref kr.1 :: st, (kr.1 + 1, kr.2), am_z h kr.1) else none
  | none => none
def am_nwa (ty : Nat) : Option am_C := match st with
  | .int n :: r => bif ((Nat.blt 0 ty && Nat.blt kr.1 1000) && (Nat.beq (am_shp kr.1).1 ty && Nat.beq (am_shp kr.1).2 n.toNatClampNeg)) && (!decide (n < 0) && Nat.blt n.toNatClampNeg 4000) then some (pc, l, .ref kr.1 :: r, (kr.1 + 1, kr.2), am_z h kr.1) else none
  | _ => none
def am_dup : Option am_C := match st with | v :: r => bif Nat.beq v.category 1 then some (pc, l, v :: v :: r, kr, h) else none | _ => none
def am_dup2 : Option am_C := match st with | v :: w :: r => bif Nat.beq v.category 1 && Nat.beq w.category 1 then some (pc, l, v :: w :: v :: w :: r, kr, h) else none | _ => none
def am_pop : Option am_C := match st with | v :: r => bif Nat.beq v.category 1 then some (pc, l, r, kr, h) else none | _ => none
def am_ldc (o i t : Nat) (k : Int) : Option am_C := bif Nat.beq t 0 then (match am_ic o i with | some _ => some (pc, l, .int (Int32.ofInt k) :: st, kr, h) | none => none) else bif Nat.blt 999 t && Nat.blt t 1012 then some (pc, l, .ref t :: st, kr, h) else none
def am_lc2 (f : Option (Int64 × Nat)) : Option am_C := match f with | some (v, _) => some (pc, l, .long v :: st, kr, h) | none => none
def am_gst (f : Option Value) : Option am_C := match f with | some v => some (pc, l, v :: st, kr, h) | none => none
def am_ng : Option am_C := match st with | .int x :: r => some (pc, l, .int (-x) :: r, kr, h) | _ => none
def am_i2l : Option am_C := match st with | .int x :: r => some (pc, l, .long x.toInt64 :: r, kr, h) | _ => none
def am_l2i : Option am_C := match st with | .long x :: r => some (pc, l, .int x.toInt32 :: r, kr, h) | _ => none
def am_i2c : Option am_C := match st with | .int x :: r => some (pc, l, .int (x.toUInt32 % 65536).toInt32 :: r, kr, h) | _ => none
def am_lsh : Option am_C := match st with | .int y :: .long x :: r => some (pc, l, .long (x <<< (y.toInt64 &&& 63)) :: r, kr, h) | _ => none
def am_cmp : Option am_C := match st with | .long y :: .long x :: r => some (pc, l, .int (lg_cmp x y) :: r, kr, h) | _ => none
end DEFS
def am_c0 : ClassFile.Cond → Int32 → Bool
  | .eq, x => decide (x = 0)
  | .ne, x => !decide (x = 0)
  | .lt, x => decide (x < 0)
  | .ge, x => !decide (x < 0)
  | .gt, x => decide (0 < x)
  | .le, x => decide (x ≤ 0)
def am_c2 : ClassFile.Cond → Int32 → Int32 → Bool
  | .eq, x, y => decide (x = y)
  | .ne, x, y => !decide (x = y)
  | .lt, x, y => decide (x < y)
  | .ge, x, y => !decide (x < y)
  | .gt, x, y => decide (y < x)
  | .le, x, y => decide (x ≤ y)
/-- one instruction that neither calls nor returns -/
def am_stp (md : am_MD) (e : am_E) (pc : Nat) (l : am_LV) (st : List Value) (kr : Nat × Nat) (h : am_H) : Option am_C :=
  match e.1 with
  | .aload_n i => am_lda (pc + 1) l st kr h (am_get l i)
  | .aload i => am_lda (pc + 2) l st kr h (am_get l i)
  | .iload_n i => am_ldi (pc + 1) l st kr h (am_get l i)
  | .iload i => am_ldi (pc + 2) l st kr h (am_get l i)
  | .lload_n i => am_ldl (pc + 1) l st kr h (am_get l i)
  | .lload i => am_ldl (pc + 2) l st kr h (am_get l i)
  | .iconst _ => some (pc + 1, l, .int (Int32.ofInt e.2.2) :: st, kr, h)
  | .bipush _ => some (pc + 2, l, .int (Int32.ofInt e.2.2) :: st, kr, h)
  | .sipush _ => some (pc + 3, l, .int (Int32.ofInt e.2.2) :: st, kr, h)
  | .lconst n => some (pc + 1, l, .long (Int64.ofNat n) :: st, kr, h)
  | .getfield i => am_gf (pc + 3) l st kr h (am_ft (am_O md) i)
  | .putfield i => am_pf (pc + 3) l st kr h (am_N md) (am_O md) (am_ft (am_O md) i)
  | .getstatic i => am_gst (pc + 3) l st kr h (am_gs (am_O md) i)
  | .iadd => am_b2 (pc + 1) l st kr h (· + ·)
  | .isub => am_b2 (pc + 1) l st kr h (· - ·)
  | .imul => am_b2 (pc + 1) l st kr h (· * ·)
  | .iand => am_b2 (pc + 1) l st kr h (· &&& ·)
  | .ior => am_b2 (pc + 1) l st kr h (· ||| ·)
  | .ishl => am_b2 (pc + 1) l st kr h (fun x y => x <<< (y &&& 31))
  | .ishr => am_b2 (pc + 1) l st kr h (fun x y => x >>> (y &&& 31))
  | .idiv => am_d2 (pc + 1) l st kr h (· / ·)
  | .irem => am_d2 (pc + 1) l st kr h (fun x y => x - x / y * y)
  | .ineg => am_ng (pc + 1) l st kr h
  | .land => am_l2 (pc + 1) l st kr h (· &&& ·)
  | .lor => am_l2 (pc + 1) l st kr h (· ||| ·)
  | .lshl => am_lsh (pc + 1) l st kr h
  | .lcmp => am_cmp (pc + 1) l st kr h
  | .i2l => am_i2l (pc + 1) l st kr h
  | .l2i => am_l2i (pc + 1) l st kr h
  | .i2c => am_i2c (pc + 1) l st kr h
  | .dup => am_dup (pc + 1) l st kr h
  | .dup2 => am_dup2 (pc + 1) l st kr h
  | .pop => am_pop (pc + 1) l st kr h
  | .iinc i _ => am_inc (pc + 3) l st kr h (am_get l i) i (am_L md) e.2.2
  | .goto _ => some (e.2.1, l, st, kr, h)
  | .ifCond c _ => am_bz (pc + 3) l st kr h (am_c0 c) e.2.1
  | .if_icmp c _ => am_bi (pc + 3) l st kr h (am_c2 c) e.2.1
  | .tableswitch d lo hi o => am_sw l st kr h pc d lo hi o
  | .istore_n i => am_sti (pc + 1) l st kr h (am_L md) i
  | .istore i => am_sti (pc + 2) l st kr h (am_L md) i
  | .astore_n i => am_sta (pc + 1) l st kr h (am_L md) i
  | .astore i => am_sta (pc + 2) l st kr h (am_L md) i
  | .lstore i => am_stl (pc + 2) l st kr h (am_L md) i
  | .iaload => am_iald (pc + 1) l st kr h
  | .caload => am_cald (pc + 1) l st kr h
  | .laload => am_lald (pc + 1) l st kr h
  | .baload => am_bald (pc + 1) l st kr h
  | .iastore => am_iast (pc + 1) l st kr h
  | .castore => am_cast (pc + 1) l st kr h
  | .lastore => am_last (pc + 1) l st kr h
  | .arraylength => am_alen (pc + 1) l st kr h
  | .new i => am_new (pc + 3) l st kr h (am_nw (am_O md) i)
  | .newarray t => am_nwa (pc + 2) l st kr h (match t with | .int => 1 | .char => 2 | .long => 3 | _ => 0)
  | .ldc i => am_ldc (pc + 2) l st kr h (am_O md) i e.2.1 e.2.2
  | .ldc2_w i => am_lc2 (pc + 3) l st kr h (am_lc (am_O md) i)
  | _ => none
/-- 0 a plain instruction, 1 a return, 2 a call -/
def am_kd : Instr → Nat
  | .ireturn => 1
  | .lreturn => 1
  | .areturn => 1
  | .return_ => 1
  | .invokevirtual _ => 2
  | .invokestatic _ => 2
  | .invokespecial _ => 2
  | _ => 0
def am_fit (ty : FieldType) (x : Int32) : Bool := match ty with
  | .int => true
  | .boolean => decide (x = 0) || decide (x = 1)
  | .byte => decide (x.toInt8.toInt32 = x)
  | .char => decide (x.toUInt32.toUInt16.toUInt32.toInt32 = x)
  | _ => false
def am_isl : Option FieldType → Bool
  | some .long => true
  | _ => false
def am_ret (md : am_MD) (i : Instr) (st : List Value) : Option (Option Value) :=
  match i, st with
  | .ireturn, [.int x] => match am_R md with | some ty => bif am_fit ty x then some (some (.int x)) else none | none => none
  | .lreturn, [.long x] => bif am_isl (am_R md) then some (some (.long x)) else none
  | .areturn, [.ref x] => bif am_isr (am_R md) then some (some (.ref x)) else none
  | .return_, [] => match am_R md with | none => some none | some _ => none
  | _, _ => none
def am_take : Nat → List Value → List Value → Option (List Value × List Value)
  | 0, st, acc => some (acc, st)
  | n + 1, v :: st, acc => am_take n st (v :: acc)
  | _ + 1, [], _ => none
def am_sum : List Value → Nat
  | [] => 0
  | v :: t => v.category + am_sum t
/-- the class of what a call is made on -/
def am_rcv (k c o : Nat) : Bool := am_ob k c o || (Nat.beq o 14 && (Nat.blt 999 c && Nat.blt c 1012))
/-- a call: is it done at once (Object's constructor, Math.min, Math.max), the method, its arguments, what stays on the stack -/
def am_call (md : am_MD) (i : Instr) (k : Nat) (st : List Value) : Option (Bool × am_MD × List Value × List Value) :=
  match i with
  | .invokevirtual x => match am_ca (am_O md) x with
      | some (0, M, n, _) => match am_take n st [] with
          | some (As, .ref c :: rest) => bif am_rcv k c (am_O (am_meth M)) && Nat.ble (am_sum rest) 8 then some (false, am_meth M, .ref c :: As, rest) else none
          | _ => none
      | _ => none
  | .invokestatic x => match am_ca (am_O md) x with
      | some (1, M, n, _) => match am_take n st [] with
          | some (As, rest) => bif Nat.ble (am_sum rest) 8 then some (false, am_meth M, As, rest) else none
          | _ => none
      | some (2, M, n, _) => match am_take n st [] with
          | some (As, rest) => bif Nat.ble (am_sum rest) 8 then some (false, am_meth M, As, rest) else none
          | _ => none
      | some (5, _) => match st with
          | .int y :: .int x :: rest => bif Nat.ble (am_sum rest) 8 then some (true, md, [], .int (if y < x then y else x) :: rest) else none
          | _ => none
      | some (6, _) => match st with
          | .int y :: .int x :: rest => bif Nat.ble (am_sum rest) 8 then some (true, md, [], .int (if x < y then y else x) :: rest) else none
          | _ => none
      | _ => none
  | .invokespecial x => match am_ca (am_O md) x with
      | some (3, M, n, _) => match am_take n st [] with
          | some (As, .ref c :: rest) => bif (Nat.blt c 1000 && Nat.blt c k) && Nat.ble (am_sum rest) 8 then some (false, am_meth M, .ref c :: As, rest) else none
          | _ => none
      | some (4, _) => match st with
          | .ref c :: rest => bif Nat.blt c 1000 && Nat.ble (am_sum rest) 8 then some (true, md, [], rest) else none
          | _ => none
      | _ => none
  | _ => none
def am_exec : Nat → Nat → am_MD → Nat → am_LV → List Value → (Nat × Nat) → am_H → Option (Option Value × (Nat × Nat) × am_H)
  | 0, _, _, _, _, _, _, _ => none
  | n + 1, d, md, pc, l, st, kr, h =>
    match am_T md pc with
    | none => none
    | some e =>
      match am_kd e.1 with
      | 0 => match am_stp md e pc l st kr h with
          | some (pc', l', st', kr', h') => am_exec n d md pc' l' st' kr' h'
          | none => none
      | 1 => match am_ret md e.1 st with
          | some r => some (r, kr, h)
          | none => none
      | _ => match d with
          | 0 => none
          | d' + 1 => match am_call md e.1 kr.1 st with
              | some (true, _, _, rest) => am_exec n (d' + 1) md (pc + 3) l rest kr h
              | some (false, md', As, rest) => bif Nat.ble (am_sum As) (am_L md') then (match am_exec n d' md' 0 (lv_args 0 As) [] kr h with
                  | some (rv, kr', h') => am_exec n (d' + 1) md (pc + 3) l (rv.toList ++ rest) kr' h'
                  | none => none) else none
              | none => none
