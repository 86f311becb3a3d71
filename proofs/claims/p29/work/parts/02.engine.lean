/-! ===== THE ENGINE: what a method does, as a function on lists. A cell's place k stands for the address B + k; .ref k is such a place, .float 0 the script, .float (k + 1) the text constant k ===== -/
abbrev en_A : Type := List Int32 ⊕ (List Int64 ⊕ List (Option Nat))
abbrev en_E : Type := (Nat × en_A) ⊕ (Nat × List Value)
abbrev en_H : Type := List en_E × Nat
abbrev en_L : Type := List (Nat × Value)
abbrev en_Op : Type := Instr × Nat × Nat × Nat × Nat
abbrev en_C : Type := Nat × en_L × List Value × en_H
abbrev en_X : Type := en_C ⊕ ((en_Op × en_C) ⊕ (Option Value × en_H))
abbrev en_Bs : Type := List (Nat × List en_Op)
/-- the kinds of arrays -/
def en_ty (t : Nat) : FieldType := match t with
  | 0 => .int
  | 1 => .long
  | 2 => .boolean
  | 3 => .object "LeftHands$Law"
  | _ => .object "LeftHands$Bazaar"
/-- the class whose objects an array of references holds -/
def en_acl (t : Nat) : Nat := match t with
  | 3 => 4
  | _ => 0
def en_get (i : Nat) : en_L → Option Value
  | [] => none
  | q :: r => bif Nat.beq q.1 i then some q.2 else en_get i r
def en_put1 (i : Nat) (v : Value) (l : en_L) : en_L := (i, v) :: l.filter (fun q => !(q.1 == i) && !(q.1 + 1 == i && q.2.category == 2))
def en_put2 (i : Nat) (v : Value) (l : en_L) : en_L := (i, v) :: l.filter (fun q => !(q.1 == i) && (!(q.1 == i + 1) && !(q.1 + 1 == i && q.2.category == 2)))
def en_cs (st : List Value) : Nat := (st.map fun v => v.category).sum
def en_fit (ty : FieldType) (v : Value) : Bool := match ty, v with
  | .int, .int _ => true
  | .long, .long _ => true
  | .boolean, .int x => decide (x = 0) || decide (x = 1)
  | .object _, .ref _ => true
  | .object _, .null => true
  | .array _, .ref _ => true
  | .array _, .null => true
  | _, _ => false
def en_cpy {α : Type} (f g : List α) (sp dp n : Nat) : List α := g.take dp ++ ((f.drop sp).take n ++ g.drop (dp + n))
def en_ldi (i : Nat) (l : en_L) (st : List Value) (h : en_H) : Option (en_L × List Value × en_H) := match en_get i l with
  | some (.int x) => some (l, .int x :: st, h)
  | _ => none
def en_ldl (i : Nat) (l : en_L) (st : List Value) (h : en_H) : Option (en_L × List Value × en_H) := match en_get i l with
  | some (.long x) => some (l, .long x :: st, h)
  | _ => none
def en_lda (i : Nat) (l : en_L) (st : List Value) (h : en_H) : Option (en_L × List Value × en_H) := match en_get i l with
  | some (.ref x) => some (l, .ref x :: st, h)
  | some (.float x) => some (l, .float x :: st, h)
  | some .null => some (l, .null :: st, h)
  | _ => none
def en_sti (i : Nat) (l : en_L) (st : List Value) (h : en_H) : Option (en_L × List Value × en_H) := match st with
  | .int x :: r => some (en_put1 i (.int x) l, r, h)
  | _ => none
def en_stl (i : Nat) (l : en_L) (st : List Value) (h : en_H) : Option (en_L × List Value × en_H) := match st with
  | .long x :: r => some (en_put2 i (.long x) l, r, h)
  | _ => none
def en_sta (i : Nat) (l : en_L) (st : List Value) (h : en_H) : Option (en_L × List Value × en_H) := match st with
  | .ref x :: r => some (en_put1 i (.ref x) l, r, h)
  | .null :: r => some (en_put1 i .null l, r, h)
  | _ => none
def en_i2 (f : Int32 → Int32 → Int32) (l : en_L) (st : List Value) (h : en_H) : Option (en_L × List Value × en_H) := match st with
  | .int y :: .int x :: r => some (l, .int (f x y) :: r, h)
  | _ => none
def en_i2d (f : Int32 → Int32 → Int32) (l : en_L) (st : List Value) (h : en_H) : Option (en_L × List Value × en_H) := match st with
  | .int y :: .int x :: r => if y = 0 then none else some (l, .int (f x y) :: r, h)
  | _ => none
def en_l2 (f : Int64 → Int64 → Int64) (l : en_L) (st : List Value) (h : en_H) : Option (en_L × List Value × en_H) := match st with
  | .long y :: .long x :: r => some (l, .long (f x y) :: r, h)
  | _ => none
def en_l2d (f : Int64 → Int64 → Int64) (l : en_L) (st : List Value) (h : en_H) : Option (en_L × List Value × en_H) := match st with
  | .long y :: .long x :: r => if y = 0 then none else some (l, .long (f x y) :: r, h)
  | _ => none
/-- getfield of field b of an object of class a -/
def en_gf (a b : Nat) (l : en_L) (st : List Value) (h : en_H) : Option (en_L × List Value × en_H) := match st with
  | .ref p :: r => match h.1[p]? with
    | some (.inr (ci, fs)) => if ci = a then match fs[b]? with
      | some v => some (l, v :: r, h)
      | none => none
      else none
    | _ => none
  | _ => none
def en_pf (a b : Nat) (ty : FieldType) (l : en_L) (st : List Value) (h : en_H) : Option (en_L × List Value × en_H) := match st with
  | v :: .ref p :: r => match h.1[p]? with
    | some (.inr (ci, fs)) => if ci = a ∧ b < fs.length ∧ en_fit ty v = true then some (l, r, (h.1.set p (.inr (ci, fs.set b v)), h.2)) else none
    | _ => none
  | _ => none
def en_ias (t : Nat) (xs : Option (List Int32)) (l : en_L) (st : List Value) (h : en_H) : Option (en_L × List Value × en_H) := match st with
  | .int i :: .ref p :: r => match h.1[p]? with
    | some (.inl (t', .inl ys)) => if t' = t ∧ ¬ i < 0 then match ys[i.toNatClampNeg]? with
      | some x => some (l, .int x :: r, h)
      | none => none
      else none
    | _ => none
  | .int i :: .float z :: r => match xs with
    | some ys => if t = 0 ∧ z = 0 ∧ ¬ i < 0 then match ys[i.toNatClampNeg]? with
      | some x => some (l, .int x :: r, h)
      | none => none
      else none
    | none => none
  | _ => none
def en_lal (l : en_L) (st : List Value) (h : en_H) : Option (en_L × List Value × en_H) := match st with
  | .int i :: .ref p :: r => match h.1[p]? with
    | some (.inl (t', .inr (.inl ys))) => if t' = 1 ∧ ¬ i < 0 then match ys[i.toNatClampNeg]? with
      | some x => some (l, .long x :: r, h)
      | none => none
      else none
    | _ => none
  | _ => none
def en_rf (r : Option Nat) : Value := match r with
  | none => .null
  | some a => .ref a
def en_aal (l : en_L) (st : List Value) (h : en_H) : Option (en_L × List Value × en_H) := match st with
  | .int i :: .ref p :: r => match h.1[p]? with
    | some (.inl (t', .inr (.inr ys))) => if (t' = 3 ∨ t' = 4) ∧ ¬ i < 0 then match ys[i.toNatClampNeg]? with
      | some x => some (l, en_rf x :: r, h)
      | none => none
      else none
    | _ => none
  | _ => none
def en_iast (t : Nat) (l : en_L) (st : List Value) (h : en_H) : Option (en_L × List Value × en_H) := match st with
  | .int x :: .int i :: .ref p :: r => match h.1[p]? with
    | some (.inl (t', .inl ys)) => if t' = t ∧ ¬ i < 0 ∧ i.toNatClampNeg < ys.length then some (l, r, (h.1.set p (.inl (t', .inl (ys.set i.toNatClampNeg (if t = 2 then x &&& 1 else x)))), h.2)) else none
    | _ => none
  | _ => none
def en_last (l : en_L) (st : List Value) (h : en_H) : Option (en_L × List Value × en_H) := match st with
  | .long x :: .int i :: .ref p :: r => match h.1[p]? with
    | some (.inl (t', .inr (.inl ys))) => if t' = 1 ∧ ¬ i < 0 ∧ i.toNatClampNeg < ys.length then some (l, r, (h.1.set p (.inl (t', .inr (.inl (ys.set i.toNatClampNeg x)))), h.2)) else none
    | _ => none
  | _ => none
def en_aast (l : en_L) (st : List Value) (h : en_H) : Option (en_L × List Value × en_H) := match st with
  | .ref v :: .int i :: .ref p :: r => match h.1[p]?, h.1[v]? with
    | some (.inl (t', .inr (.inr ys))), some (.inr (ci, _)) => if (t' = 3 ∨ t' = 4) ∧ ci = en_acl t' ∧ ¬ i < 0 ∧ i.toNatClampNeg < ys.length then some (l, r, (h.1.set p (.inl (t', .inr (.inr (ys.set i.toNatClampNeg (some v))))), h.2)) else none
    | _, _ => none
  | _ => none
def en_sz (x : en_A) : Nat := match x with
  | .inl ys => ys.length
  | .inr (.inl ys) => ys.length
  | .inr (.inr ys) => ys.length
def en_alen (xs : Option (List Int32)) (l : en_L) (st : List Value) (h : en_H) : Option (en_L × List Value × en_H) := match st with
  | .ref p :: r => match h.1[p]? with
    | some (.inl (t, x)) => if t < 5 then some (l, .int (Int32.ofNat (en_sz x)) :: r, h) else none
    | _ => none
  | .float z :: r => match xs with
    | some ys => if z = 0 then some (l, .int (Int32.ofNat ys.length) :: r, h) else none
    | none => none
  | _ => none
def en_newa (t : Nat) (x : Nat → en_A) (l : en_L) (st : List Value) (h : en_H) : Option (en_L × List Value × en_H) := match st with
  | .int n :: r => if ¬ n < 0 ∧ n.toNatClampNeg ≤ 100000 then some (l, .ref h.1.length :: r, (h.1 ++ [.inl (t, x n.toNatClampNeg)], h.2 + n.toNatClampNeg)) else none
  | _ => none
def en_acpy (l : en_L) (st : List Value) (h : en_H) : Option (en_L × List Value × en_H) := match st with
  | .int n :: .int dp :: .ref p1 :: .int sp :: .ref p0 :: r => match h.1[p0]?, h.1[p1]? with
    | some (.inl (t0, .inl f)), some (.inl (t1, .inl g)) => if (t0 = 0 ∧ t1 = 0 ∧ en_cs r ≤ 8) ∧ (¬ sp < 0 ∧ ¬ dp < 0 ∧ ¬ n < 0) ∧ sp.toNatClampNeg + n.toNatClampNeg ≤ f.length ∧ dp.toNatClampNeg + n.toNatClampNeg ≤ g.length then
        some (l, r, (h.1.set p1 (.inl (t1, .inl (en_cpy f g sp.toNatClampNeg dp.toNatClampNeg n.toNatClampNeg))), h.2)) else none
    | _, _ => none
  | _ => none
/-- a text constant: its length, its letters -/
def en_slen (l : en_L) (st : List Value) (h : en_H) : Option (en_L × List Value × en_H) := match st with
  | .float z :: r => if en_cs r ≤ 8 ∧ 1 ≤ z.toNat ∧ z.toNat ≤ 17 then some (l, .int (Int32.ofNat (en_tl.getD (z.toNat - 1) 0)) :: r, h) else none
  | _ => none
def en_scha (l : en_L) (st : List Value) (h : en_H) : Option (en_L × List Value × en_H) := match st with
  | .int i :: .float z :: r => if (en_cs r ≤ 8 ∧ 1 ≤ z.toNat ∧ z.toNat ≤ 17) ∧ ¬ i < 0 ∧ i.toNatClampNeg < en_tl.getD (z.toNat - 1) 0 then some (l, .int ((en_txt.getD (z.toNat - 1) []).getD i.toNatClampNeg 0) :: r, h) else none
  | _ => none
/-- what System, Math, Object do -/
def en_nat (a : Nat) (l : en_L) (st : List Value) (h : en_H) : Option (en_L × List Value × en_H) :=
  if a = 900 then match st with
    | .ref _ :: r => if en_cs r ≤ 8 then some (l, r, h) else none
    | _ => none
  else if a = 901 then en_acpy l st h
  else if a = 902 then match st with
    | .int y :: .int x :: r => if en_cs r ≤ 8 then some (l, .int (if x < y then y else x) :: r, h) else none
    | _ => none
  else if a = 903 then match st with
    | .int y :: .int x :: r => if en_cs r ≤ 8 then some (l, .int (if y < x then y else x) :: r, h) else none
    | _ => none
  else if a = 904 then match st with
    | .long y :: .long x :: r => if en_cs r ≤ 8 then some (l, .long (if y < x then x else y) :: r, h) else none
    | _ => none
  else if a = 905 then match st with
    | .long y :: .long x :: r => if en_cs r ≤ 8 then some (l, .long (if y < x then y else x) :: r, h) else none
    | _ => none
  else if a = 906 then en_slen l st h
  else if a = 907 then en_scha l st h
  else none
/-- an instruction that goes on behind itself -/
def en_st (xs : Option (List Int32)) (i : Instr) (a b : Nat) (l : en_L) (st : List Value) (h : en_H) : Option (en_L × List Value × en_H) := match i with
  | .iconst n => some (l, .int (Int32.ofInt n) :: st, h)
  | .bipush n => some (l, .int (Int8.ofInt n).toInt32 :: st, h)
  | .sipush n => some (l, .int (Int16.ofInt n).toInt32 :: st, h)
  | .lconst n => some (l, .long (Int64.ofNat n.val) :: st, h)
  | .aconst_null => some (l, .null :: st, h)
  | .ldc _ => if a = 1 then some (l, .int (Int32.ofNat b) :: st, h) else some (l, .float (UInt32.ofNat (b + 1)) :: st, h)
  | .ldc_w _ => some (l, .int (Int32.ofNat b) :: st, h)
  | .ldc2_w _ => some (l, .long (Int64.ofNat b) :: st, h)
  | .iload_n k => en_ldi k.val l st h
  | .iload k => en_ldi k l st h
  | .lload_n k => en_ldl k.val l st h
  | .lload k => en_ldl k l st h
  | .aload_n k => en_lda k.val l st h
  | .aload k => en_lda k l st h
  | .istore_n k => en_sti k.val l st h
  | .istore k => en_sti k l st h
  | .lstore_n k => en_stl k.val l st h
  | .lstore k => en_stl k l st h
  | .astore_n k => en_sta k.val l st h
  | .astore k => en_sta k l st h
  | .iinc k n => match en_get k l with
    | some (.int x) => some (en_put1 k (.int (x + Int32.ofInt n)) l, st, h)
    | _ => none
  | .iadd => en_i2 (fun x y => x + y) l st h
  | .isub => en_i2 (fun x y => x - y) l st h
  | .imul => en_i2 (fun x y => x * y) l st h
  | .iand => en_i2 (fun x y => x &&& y) l st h
  | .ior => en_i2 (fun x y => x ||| y) l st h
  | .ishl => en_i2 (fun x y => x <<< (y &&& 31)) l st h
  | .ishr => en_i2 (fun x y => x >>> (y &&& 31)) l st h
  | .iushr => en_i2 (fun x y => (x.toUInt32 >>> (y.toUInt32 &&& Int32.toUInt32 31)).toInt32) l st h
  | .idiv => en_i2d (fun x y => x / y) l st h
  | .irem => en_i2d (fun x y => x - x / y * y) l st h
  | .ineg => match st with
    | .int x :: r => some (l, .int (-x) :: r, h)
    | _ => none
  | .ladd => en_l2 (fun x y => x + y) l st h
  | .lsub => en_l2 (fun x y => x - y) l st h
  | .lmul => en_l2 (fun x y => x * y) l st h
  | .ldiv => en_l2d (fun x y => x / y) l st h
  | .lrem => en_l2d (fun x y => x - x / y * y) l st h
  | .i2l => match st with
    | .int x :: r => some (l, .long x.toInt64 :: r, h)
    | _ => none
  | .l2i => match st with
    | .long x :: r => some (l, .int x.toInt32 :: r, h)
    | _ => none
  | .lcmp => match st with
    | .long y :: .long x :: r => some (l, .int (lg_cmp x y) :: r, h)
    | _ => none
  | .dup => match st with
    | v :: r => if v.category = 1 then some (l, v :: v :: r, h) else none
    | _ => none
  | .dup2 => match st with
    | v :: w :: r => if v.category = 1 ∧ w.category = 1 then some (l, v :: w :: v :: w :: r, h) else none
    | _ => none
  | .pop => match st with
    | v :: r => if v.category = 1 then some (l, r, h) else none
    | _ => none
  | .getfield _ => en_gf a b l st h
  | .putfield _ => en_pf a b (en_tyf a b) l st h
  | .iaload => en_ias 0 xs l st h
  | .baload => en_ias 2 none l st h
  | .laload => en_lal l st h
  | .aaload => en_aal l st h
  | .iastore => en_iast 0 l st h
  | .bastore => en_iast 2 l st h
  | .lastore => en_last l st h
  | .aastore => en_aast l st h
  | .arraylength => en_alen xs l st h
  | .new _ => some (l, .ref h.1.length :: st, (h.1 ++ [.inr (a, en_dflt a)], h.2 + (en_dflt a).length))
  | .newarray t => match t with
    | .int => en_newa 0 (fun n => .inl (List.replicate n 0)) l st h
    | .boolean => en_newa 2 (fun n => .inl (List.replicate n 0)) l st h
    | .long => en_newa 1 (fun n => .inr (.inl (List.replicate n 0))) l st h
    | _ => none
  | .anewarray _ => en_newa a (fun n => .inr (.inr (List.replicate n none))) l st h
  | .invokestatic _ => en_nat a l st h
  | .invokespecial _ => en_nat a l st h
  | .invokevirtual _ => en_nat a l st h
  | _ => none
def en_c1 (c : Jvm.ClassFile.Cond) (x : Int32) : Bool := match c with
  | .eq => decide (x = 0)
  | .ne => decide (¬ x = 0)
  | .lt => decide (x < 0)
  | .ge => decide (0 ≤ x)
  | .gt => decide (0 < x)
  | .le => decide (x ≤ 0)
def en_c2 (c : Jvm.ClassFile.Cond) (x y : Int32) : Bool := match c with
  | .eq => decide (x = y)
  | .ne => decide (¬ x = y)
  | .lt => decide (x < y)
  | .ge => decide (y ≤ x)
  | .gt => decide (y < x)
  | .le => decide (x ≤ y)
def en_sw (pc : Nat) (d lo hi : Int) (offs : Array Int) (x : Int) : Option Nat :=
  if x < lo ∨ hi < x then some ((pc : Int) + d).toNat else match offs[(x - lo).toNat]? with
    | some o => some ((pc : Int) + o).toNat
    | none => none
/-- an instruction that goes elsewhere, returns or calls; none: it is not of these -/
def en_ctl (ret : Option FieldType) (op : en_Op) (pc : Nat) (l : en_L) (st : List Value) (h : en_H) : Option (Option en_X) := match op.1 with
  | .goto _ => some (some (.inl (op.2.2.1, l, st, h)))
  | .ifCond c _ => some (match st with
    | .int x :: r => some (.inl (bif en_c1 c x then op.2.2.1 else pc + 3, l, r, h))
    | _ => none)
  | .if_icmp c _ => some (match st with
    | .int y :: .int x :: r => some (.inl (bif en_c2 c x y then op.2.2.1 else pc + 3, l, r, h))
    | _ => none)
  | .ifnonnull _ => some (match st with
    | .ref _ :: r => some (.inl (op.2.2.1, l, r, h))
    | .null :: r => some (.inl (pc + 3, l, r, h))
    | _ => none)
  | .ifnull _ => some (match st with
    | .ref _ :: r => some (.inl (pc + 3, l, r, h))
    | .null :: r => some (.inl (op.2.2.1, l, r, h))
    | _ => none)
  | .tableswitch d lo hi offs => some (match st with
    | .int x :: r => match en_sw pc d lo hi offs x.toInt with
      | some t => some (.inl (t, l, r, h))
      | none => none
    | _ => none)
  | .ireturn => some (match st with
    | [.int v] => match ret with
      | some .int => some (.inr (.inr (some (.int v), h)))
      | some .boolean => if v = 0 ∨ v = 1 then some (.inr (.inr (some (.int v), h))) else none
      | _ => none
    | _ => none)
  | .lreturn => some (match st with
    | [.long v] => match ret with
      | some .long => some (.inr (.inr (some (.long v), h)))
      | _ => none
    | _ => none)
  | .areturn => some (match ret with
    | some (.object _) => match st with
      | [.ref v] => some (.inr (.inr (some (.ref v), h)))
      | [.null] => some (.inr (.inr (some .null, h)))
      | [.float v] => some (.inr (.inr (some (.float v), h)))
      | _ => none
    | _ => none)
  | .return_ => some (match ret with
    | none => match st with
      | [] => some (.inr (.inr (none, h)))
      | _ => none
    | _ => none)
  | .invokevirtual _ => if op.2.2.1 < 900 then some (some (.inr (.inl (op, pc, l, st, h)))) else none
  | .invokestatic _ => if op.2.2.1 < 900 then some (some (.inr (.inl (op, pc, l, st, h)))) else none
  | .invokespecial _ => if op.2.2.1 < 900 then some (some (.inr (.inl (op, pc, l, st, h)))) else none
  | _ => none
/-- a block -/
def en_rb (xs : Option (List Int32)) (ret : Option FieldType) : List en_Op → en_C → Option en_X
  | [], c => some (.inl c)
  | op :: r, c => match en_ctl ret op c.1 c.2.1 c.2.2.1 c.2.2.2 with
    | some x => x
    | none => match en_st xs op.1 op.2.2.1 op.2.2.2.1 c.2.1 c.2.2.1 c.2.2.2 with
      | some q => en_rb xs ret r (c.1 + op.2.1, q.1, q.2.1, q.2.2)
      | none => none
def en_lk (pc : Nat) : en_Bs → Option (List en_Op)
  | [] => none
  | q :: r => bif Nat.beq q.1 pc then some q.2 else en_lk pc r
/-- a method's own facts: its name, code, room of locals, answer, class, and 1 if it is static -/
abbrev en_I : Type := MethodName × ByteArray × Nat × Option FieldType × Nat × Nat
def en_take (op : en_Op) (st : List Value) : Option (List Value × List Value) :=
  if op.2.2.2.1 ≤ st.length ∧ en_cs (st.drop op.2.2.2.1) ≤ 8 then some ((st.take op.2.2.2.1).reverse, st.drop op.2.2.2.1) else none
/-- the receiver is an object of the method's class -/
def en_rc (I : en_I) (as : List Value) (h : en_H) : Bool := match as with
  | .ref p :: _ => match h.1[p]? with
    | some (.inr (ci, _)) => Nat.beq ci I.2.2.2.2.1
    | _ => false
  | _ => false
def en_go (IS : List en_I) (BS : List en_Bs) (cf : Nat → List Value → en_H → Option (Option Value × en_H)) (xs : Option (List Int32)) (ret : Option FieldType) (bs : en_Bs) : Nat → en_C → Option (Option Value × en_H)
  | 0, _ => none
  | f + 1, c => match en_lk c.1 bs with
    | none => none
    | some ops => match en_rb xs ret ops c with
      | none => none
      | some (.inl c') => en_go IS BS cf xs ret bs f c'
      | some (.inr (.inl (op, c'))) => match en_take op c'.2.2.1 with
        | none => none
        | some q => match cf op.2.2.1 q.1 c'.2.2.2 with
          | none => none
          | some w => en_go IS BS cf xs ret bs f (c'.1 + 3, c'.2.1, w.1.toList ++ q.2, w.2)
      | some (.inr (.inr w)) => some w
def en_run (IS : List en_I) (BS : List en_Bs) : Nat → Nat → Nat → List Value → en_H → Option (Option Value × en_H)
  | 0, _, _, _, _ => none
  | d + 1, F, i, as, h => match IS[i]?, BS[i]? with
    | some I, some bs => if (lg_sl as).length ≤ I.2.2.1 ∧ (I.2.2.2.2.2 = 1 ∨ en_rc I as h = true) then en_go IS BS (en_run IS BS d F) none I.2.2.2.1 bs F (0, lv_args 0 as, [], h) else none
    | _, _ => none
/-! ===== what a program decides of the tables ===== -/
def en_w (c : Nat) : Option Jvm.Cond := tables_1[c]?
def en_len (i : Instr) : Nat := match i with
  | .bipush _ | .ldc _ | .iload _ | .lload _ | .aload _ | .istore _ | .lstore _ | .astore _ | .newarray _ => 2
  | .sipush _ | .ldc_w _ | .ldc2_w _ | .iinc _ _ | .getfield _ | .putfield _ | .new _ | .anewarray _ | .invokevirtual _ | .invokestatic _ | .invokespecial _ | .goto _ | .ifCond _ _ | .if_icmp _ _ | .ifnull _ | .ifnonnull _ => 3
  | _ => 1
/-- a call's own facts: the callee's number of parameters, the link -/
def en_okc (I : en_I) (idx a b c : Nat) (k : Nat) : Bool := match en_IS[a]? with
  | some J => decide ((parseMethodDescriptor J.1.desc).map (fun d => d.parameters.length) = some (b - k)) && decide (k ≤ b) && decide (J.2.2.1 ≤ 45) && decide (J.2.2.2.2.2 + k = 1) && (if c < 5000 then decide (en_w c = some (.methodLink I.1.cls idx J.1)) else decide (en_nest[c - 5000]? = some (I.1.cls, idx, J.1, "LeftHands")))
  | none => false
def en_okw (I : en_I) (i : Instr) (pc a b c : Nat) : Bool := match i with
  | .istore_n k => decide (k.val < I.2.2.1)
  | .astore_n k => decide (k.val < I.2.2.1)
  | .lstore_n k => decide (k.val + 1 < I.2.2.1)
  | .istore k => decide (k < I.2.2.1)
  | .astore k => decide (k < I.2.2.1)
  | .lstore k => decide (k + 1 < I.2.2.1)
  | .iinc k _ => decide (k < I.2.2.1)
  | .ldc idx => if a = 1 then decide (en_w c = some (.constant I.1.cls idx (Int32.ofNat b))) else decide (b < 1000) && decide ((en_str[b]?).map (fun q => (q.1, q.2.1)) = some (I.1.cls, idx))
  | .ldc_w idx => decide (en_w c = some (.constant I.1.cls idx (Int32.ofNat b)))
  | .ldc2_w idx => decide (en_w c = some (.constantLong I.1.cls idx (Int64.ofNat b)))
  | .getfield idx => match en_cl[a]? with
    | some q => decide (b < q.2.2) && decide ((q.2.1 b).1 = q.1) && decide (en_w c = some (.fieldLink I.1.cls idx q.1 (q.2.1 b).2.1 (q.2.1 b).2.2.1))
    | none => false
  | .putfield idx => match en_cl[a]? with
    | some q => decide (b < q.2.2) && decide ((q.2.1 b).1 = q.1) && decide (en_w c = some (.fieldLink I.1.cls idx q.1 (q.2.1 b).2.1 (q.2.1 b).2.2.1)) && (if (q.2.1 b).2.2.2 = true then decide (I.1.name = "<init>") && decide (q.1 = I.1.cls) else true)
    | none => false
  | .new idx => match en_cl[a]? with
    | some q => decide (en_w c = some (.classLink I.1.cls idx q.1))
    | none => false
  | .anewarray idx => if a = 3 then decide (en_w c = some (.classLink I.1.cls idx "LeftHands$Law")) else decide (a = 4) && decide (en_w c = some (.classLink I.1.cls idx "LeftHands$Bazaar"))
  | .goto off => decide ((pc : Int) + off = (a : Int))
  | .ifCond _ off => decide ((pc : Int) + off = (a : Int))
  | .if_icmp _ off => decide ((pc : Int) + off = (a : Int))
  | .ifnull off => decide ((pc : Int) + off = (a : Int))
  | .ifnonnull off => decide ((pc : Int) + off = (a : Int))
  | .tableswitch d _ _ offs => decide (0 ≤ (pc : Int) + d) && offs.toList.all (fun o => decide (0 ≤ (pc : Int) + o))
  | .invokevirtual idx => if a < 900 then decide (a < 900) && en_okc I idx a b c 1 && decide ((en_IS[a]?).map (fun J => decide (J.1.name = "<init>")) = some false) else
      if a = 906 then decide (en_w c = some (.methodLink I.1.cls idx sn_le)) else
      if a = 907 then decide (en_w c = some (.methodLink I.1.cls idx sn_ca)) else false
  | .invokestatic idx => if a < 900 then en_okc I idx a b c 0 else
      if a = 901 then decide (en_w c = some (.methodLink I.1.cls idx arraycopyName)) else
      if a = 902 then decide (en_w c = some (.methodLink I.1.cls idx Lib.Math.max.name)) else
      if a = 903 then decide (en_w c = some (.methodLink I.1.cls idx Lib.Math.min.name)) else
      if a = 904 then decide (en_w c = some (.methodLink I.1.cls idx Lib.MathLoose.max_long.x)) else
      if a = 905 then decide (en_w c = some (.methodLink I.1.cls idx Lib.MathLoose.min_long.x)) else false
  | .invokespecial idx => if a < 900 then en_okc I idx a b c 1 && decide ((en_IS[a]?).map (fun J => (J.1.name, J.2.2.2.1)) = some ("<init>", none)) else decide (a = 900) && decide (en_w c = some (.methodLink I.1.cls idx Lib.objectInit))
  | _ => true
def en_lnok (i : Instr) (n : Nat) : Bool := match i with
  | .tableswitch _ _ _ _ => true
  | i => decide (n = en_len i)
def en_okop (I : en_I) (pc : Nat) (op : en_Op) : Bool := decide (decode I.2.1 pc = .ok (op.1, op.2.1)) && en_lnok op.1 op.2.1 && en_okw I op.1 pc op.2.2.1 op.2.2.2.1 op.2.2.2.2
def en_okb (I : en_I) : Nat → List en_Op → Bool
  | _, [] => true
  | pc, op :: r => en_okop I pc op && en_okb I (pc + op.2.1) r
def en_okB (I : en_I) (bs : en_Bs) : Bool := bs.all (fun q => en_okb I q.1 q.2)
/-- a method's own words, by their places -/
def en_okJ (J : en_I) (q : Nat × Nat × Nat × Nat) : Bool := plainName J.1.cls && decide (J.1.cls ≠ "java/lang/invoke/MethodHandle") && decide (J.1.cls ≠ "java/lang/invoke/VarHandle") && decide (en_w q.1 = some (.code J.1 J.2.1 J.2.2.1 J.2.2.2.1)) && decide (en_w q.2.2.2 = some (.initialized J.1.cls)) &&
  (if J.2.2.2.2.2 = 1 then decide (en_w q.2.1 = some (.static J.1)) else decide (J.2.2.2.2.2 = 0) && decide (en_w q.2.1 = some (.instanceMethod J.1)) && decide ((en_cl[J.2.2.2.2.1]?).map (fun r => r.1) = some J.1.cls) && (if J.1.name = "<init>" then true else decide (lw_tbl[q.2.2.1]? = some (.selects J.1.cls J.1 J.1))))
