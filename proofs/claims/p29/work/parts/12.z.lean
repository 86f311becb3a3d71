/-! ===== rows of runs, an instruction each ===== -/
def en_gr (IS : List en_I) (BS : List en_Bs) (cf : Nat → List Value → en_H → Option (Option Value × en_H)) (xs : Option (List Int32)) (rt : Option FieldType) (bs : en_Bs) (ops : List en_Op) (f : Nat) (c : en_C) : Option (Option Value × en_H) := match en_rb xs rt ops c with
  | none => none
  | some (.inl c') => en_go IS BS cf xs rt bs f c'
  | some (.inr (.inl (op, c'))) => match en_take op c'.2.2.1 with
    | none => none
    | some q => match cf op.2.2.1 q.1 c'.2.2.2 with
      | none => none
      | some w => en_go IS BS cf xs rt bs f (c'.1 + 3, c'.2.1, w.1.toList ++ q.2, w.2)
  | some (.inr (.inr w)) => some w
/-- behind the instructions ahead in a block -/
def Ar (d : Nat) (xs : Option (List Int32)) (rt : Option FieldType) (bs : en_Bs) (ops : List en_Op) (c : en_C) (Ph : Option Value → en_H → Prop) : Prop := ∃ (F f : Nat) (w : Option Value × en_H), en_gr en_IS en_BS (en_run en_IS en_BS d F) xs rt bs ops f c = some w ∧ Ph w.1 w.2
section RW
variable {d : Nat} {xs : Option (List Int32)} {rt : Option FieldType} {bs : en_Bs} {r : List en_Op} {n a b c pc : Nat} {l : en_L} {st : List Value} {h : en_H} {Ph : Option Value → en_H → Prop}
theorem At.enter {ops : List en_Op} (hl : en_lk pc bs = some ops) (k : Ar d xs rt bs ops (pc, l, st, h) Ph) : At d xs rt bs (pc, l, st, h) Ph := by
  obtain ⟨F, f, w, h1, h2⟩ := k
  refine ⟨F, f + 1, w, ?_, h2⟩
  unfold en_go
  dsimp only
  rw [hl]
  exact h1
theorem Ar.fall (pc' : Nat) (hp : pc = pc') (k : At d xs rt bs (pc', l, st, h) Ph) : Ar d xs rt bs [] (pc, l, st, h) Ph := by
  subst hp
  obtain ⟨F, f, w, h1, h2⟩ := k
  exact ⟨F, f, w, h1, h2⟩
theorem Ar.plain {i : Instr} {q : en_L × List Value × en_H} (hc : en_ctl rt (i, n, a, b, c) pc l st h = none) (hs : en_st xs i a b l st h = some q) (k : Ar d xs rt bs r (pc + n, q.1, q.2.1, q.2.2) Ph) : Ar d xs rt bs ((i, n, a, b, c) :: r) (pc, l, st, h) Ph := by
  obtain ⟨F, f, w, h1, h2⟩ := k
  refine ⟨F, f, w, ?_, h2⟩
  unfold en_gr at h1 ⊢
  unfold en_rb
  dsimp only
  rw [hc]
  dsimp only
  rw [hs]
  exact h1
theorem Ar.jump {i : Instr} {c' : en_C} (hc : en_ctl rt (i, n, a, b, c) pc l st h = some (some (.inl c'))) (k : At d xs rt bs c' Ph) : Ar d xs rt bs ((i, n, a, b, c) :: r) (pc, l, st, h) Ph := by
  obtain ⟨F, f, w, h1, h2⟩ := k
  refine ⟨F, f, w, ?_, h2⟩
  unfold en_gr
  unfold en_rb
  dsimp only
  rw [hc]
  exact h1
theorem Ar.leave {i : Instr} {w : Option Value × en_H} (hc : en_ctl rt (i, n, a, b, c) pc l st h = some (some (.inr (.inr w)))) (k : Ph w.1 w.2) : Ar d xs rt bs ((i, n, a, b, c) :: r) (pc, l, st, h) Ph := by
  refine ⟨0, 0, w, ?_, k⟩
  unfold en_gr
  unfold en_rb
  dsimp only
  rw [hc]
theorem Ar.callK {i : Instr} {Ps : Option Value → en_H → Prop} (pc' : Nat) (hp : pc + 3 = pc') (as rest : List Value) (hc : en_ctl rt (i, n, a, b, c) pc l st h = some (some (.inr (.inl ((i, n, a, b, c), pc, l, st, h))))) (hq : en_take (i, n, a, b, c) st = some (as, rest)) (hE : Ev d a as h Ps) (k : ∀ (v : Option Value) (h' : en_H), Ps v h' → At d xs rt bs (pc', l, v.toList ++ rest, h') Ph) : Ar d xs rt bs ((i, n, a, b, c) :: r) (pc, l, st, h) Ph := by
  subst hp
  obtain ⟨F1, w1, e1, p1⟩ := hE
  obtain ⟨F2, f2, w2, e2, p2⟩ := k w1.1 w1.2 p1
  refine ⟨max F1 F2, f2, w2, ?_, p2⟩
  unfold en_gr
  unfold en_rb
  dsimp only
  rw [hc]
  dsimp only
  rw [hq]
  dsimp only
  rw [en_run_up (Nat.le_max_left F1 F2) e1]
  exact en_go_up (fun i as h w hw => en_run_up (Nat.le_max_right F1 F2) hw) (Nat.le_refl _) e2
theorem r_iconst {z : Int} (v : Int32) (hv : Int32.ofInt z = v) (k : Ar d xs rt bs r (pc + n, l, .int v :: st, h) Ph) : Ar d xs rt bs ((.iconst z, n, a, b, c) :: r) (pc, l, st, h) Ph := by subst hv; exact Ar.plain (q := (l, .int _ :: st, h)) rfl rfl k
theorem r_bipush {z : Int} (v : Int32) (hv : (Int8.ofInt z).toInt32 = v) (k : Ar d xs rt bs r (pc + n, l, .int v :: st, h) Ph) : Ar d xs rt bs ((.bipush z, n, a, b, c) :: r) (pc, l, st, h) Ph := by subst hv; exact Ar.plain (q := (l, .int _ :: st, h)) rfl rfl k
theorem r_sipush {z : Int} (v : Int32) (hv : (Int16.ofInt z).toInt32 = v) (k : Ar d xs rt bs r (pc + n, l, .int v :: st, h) Ph) : Ar d xs rt bs ((.sipush z, n, a, b, c) :: r) (pc, l, st, h) Ph := by subst hv; exact Ar.plain (q := (l, .int _ :: st, h)) rfl rfl k
theorem r_lconst {z : Fin 2} (v : Int64) (hv : Int64.ofNat z.val = v) (k : Ar d xs rt bs r (pc + n, l, .long v :: st, h) Ph) : Ar d xs rt bs ((.lconst z, n, a, b, c) :: r) (pc, l, st, h) Ph := by subst hv; exact Ar.plain (q := (l, .long _ :: st, h)) rfl rfl k
theorem r_null  (k : Ar d xs rt bs r (pc + n, l, .null :: st, h) Ph) : Ar d xs rt bs ((.aconst_null, n, a, b, c) :: r) (pc, l, st, h) Ph := Ar.plain (q := (l, .null :: st, h)) rfl rfl k
theorem r_ldcS {z : Nat} (ha : a ≠ 1) (v : UInt32) (hv : UInt32.ofNat (b + 1) = v) (k : Ar d xs rt bs r (pc + n, l, .float v :: st, h) Ph) : Ar d xs rt bs ((.ldc z, n, a, b, c) :: r) (pc, l, st, h) Ph := by subst hv; exact Ar.plain (q := (l, .float _ :: st, h)) rfl (by simp only [en_st]; rw [if_neg ha]) k
theorem r_ldcI {z : Nat} (ha : a = 1) (v : Int32) (hv : Int32.ofNat b = v) (k : Ar d xs rt bs r (pc + n, l, .int v :: st, h) Ph) : Ar d xs rt bs ((.ldc z, n, a, b, c) :: r) (pc, l, st, h) Ph := by subst hv; exact Ar.plain (q := (l, .int _ :: st, h)) rfl (by simp only [en_st]; rw [if_pos ha]) k
theorem r_ldcw {z : Nat} (v : Int32) (hv : Int32.ofNat b = v) (k : Ar d xs rt bs r (pc + n, l, .int v :: st, h) Ph) : Ar d xs rt bs ((.ldc_w z, n, a, b, c) :: r) (pc, l, st, h) Ph := by subst hv; exact Ar.plain (q := (l, .int _ :: st, h)) rfl rfl k
theorem r_ldc2 {z : Nat} (v : Int64) (hv : Int64.ofNat b = v) (k : Ar d xs rt bs r (pc + n, l, .long v :: st, h) Ph) : Ar d xs rt bs ((.ldc2_w z, n, a, b, c) :: r) (pc, l, st, h) Ph := by subst hv; exact Ar.plain (q := (l, .long _ :: st, h)) rfl rfl k
theorem r_iload_n {z : Fin 4} {v : Int32} (hg : en_get z.val l = some (.int v)) (k : Ar d xs rt bs r (pc + n, l, .int v :: st, h) Ph) : Ar d xs rt bs ((.iload_n z, n, a, b, c) :: r) (pc, l, st, h) Ph := Ar.plain (q := (l, .int v :: st, h)) rfl (by show en_ldi z.val l st h = _; unfold en_ldi; rw [hg]) k
theorem r_iload {z : Nat} {v : Int32} (hg : en_get z l = some (.int v)) (k : Ar d xs rt bs r (pc + n, l, .int v :: st, h) Ph) : Ar d xs rt bs ((.iload z, n, a, b, c) :: r) (pc, l, st, h) Ph := Ar.plain (q := (l, .int v :: st, h)) rfl (by show en_ldi z l st h = _; unfold en_ldi; rw [hg]) k
theorem r_lload_n {z : Fin 4} {v : Int64} (hg : en_get z.val l = some (.long v)) (k : Ar d xs rt bs r (pc + n, l, .long v :: st, h) Ph) : Ar d xs rt bs ((.lload_n z, n, a, b, c) :: r) (pc, l, st, h) Ph := Ar.plain (q := (l, .long v :: st, h)) rfl (by show en_ldl z.val l st h = _; unfold en_ldl; rw [hg]) k
theorem r_lload {z : Nat} {v : Int64} (hg : en_get z l = some (.long v)) (k : Ar d xs rt bs r (pc + n, l, .long v :: st, h) Ph) : Ar d xs rt bs ((.lload z, n, a, b, c) :: r) (pc, l, st, h) Ph := Ar.plain (q := (l, .long v :: st, h)) rfl (by show en_ldl z l st h = _; unfold en_ldl; rw [hg]) k
theorem r_aload_n {z : Fin 4} {v : Nat} (hg : en_get z.val l = some (.ref v)) (k : Ar d xs rt bs r (pc + n, l, .ref v :: st, h) Ph) : Ar d xs rt bs ((.aload_n z, n, a, b, c) :: r) (pc, l, st, h) Ph := Ar.plain (q := (l, .ref v :: st, h)) rfl (by show en_lda z.val l st h = _; unfold en_lda; rw [hg]) k
theorem r_aload {z : Nat} {v : Nat} (hg : en_get z l = some (.ref v)) (k : Ar d xs rt bs r (pc + n, l, .ref v :: st, h) Ph) : Ar d xs rt bs ((.aload z, n, a, b, c) :: r) (pc, l, st, h) Ph := Ar.plain (q := (l, .ref v :: st, h)) rfl (by show en_lda z l st h = _; unfold en_lda; rw [hg]) k
theorem r_sload_n {z : Fin 4} {v : UInt32} (hg : en_get z.val l = some (.float v)) (k : Ar d xs rt bs r (pc + n, l, .float v :: st, h) Ph) : Ar d xs rt bs ((.aload_n z, n, a, b, c) :: r) (pc, l, st, h) Ph := Ar.plain (q := (l, .float v :: st, h)) rfl (by show en_lda z.val l st h = _; unfold en_lda; rw [hg]) k
theorem r_sload {z : Nat} {v : UInt32} (hg : en_get z l = some (.float v)) (k : Ar d xs rt bs r (pc + n, l, .float v :: st, h) Ph) : Ar d xs rt bs ((.aload z, n, a, b, c) :: r) (pc, l, st, h) Ph := Ar.plain (q := (l, .float v :: st, h)) rfl (by show en_lda z l st h = _; unfold en_lda; rw [hg]) k
theorem r_zload_n {z : Fin 4}  (hg : en_get z.val l = some (.null)) (k : Ar d xs rt bs r (pc + n, l, .null :: st, h) Ph) : Ar d xs rt bs ((.aload_n z, n, a, b, c) :: r) (pc, l, st, h) Ph := Ar.plain (q := (l, .null :: st, h)) rfl (by show en_lda z.val l st h = _; unfold en_lda; rw [hg]) k
theorem r_zload {z : Nat}  (hg : en_get z l = some (.null)) (k : Ar d xs rt bs r (pc + n, l, .null :: st, h) Ph) : Ar d xs rt bs ((.aload z, n, a, b, c) :: r) (pc, l, st, h) Ph := Ar.plain (q := (l, .null :: st, h)) rfl (by show en_lda z l st h = _; unfold en_lda; rw [hg]) k
theorem r_istore_n {z : Fin 4} {v : Int32} (l' : en_L) (hl : en_put1 z.val (.int v) l = l') (k : Ar d xs rt bs r (pc + n, l', st, h) Ph) : Ar d xs rt bs ((.istore_n z, n, a, b, c) :: r) (pc, l, (.int v :: st), h) Ph := by subst hl; exact Ar.plain (q := (_, st, h)) rfl rfl k
theorem r_istore {z : Nat} {v : Int32} (l' : en_L) (hl : en_put1 z (.int v) l = l') (k : Ar d xs rt bs r (pc + n, l', st, h) Ph) : Ar d xs rt bs ((.istore z, n, a, b, c) :: r) (pc, l, (.int v :: st), h) Ph := by subst hl; exact Ar.plain (q := (_, st, h)) rfl rfl k
theorem r_lstore_n {z : Fin 4} {v : Int64} (l' : en_L) (hl : en_put2 z.val (.long v) l = l') (k : Ar d xs rt bs r (pc + n, l', st, h) Ph) : Ar d xs rt bs ((.lstore_n z, n, a, b, c) :: r) (pc, l, (.long v :: st), h) Ph := by subst hl; exact Ar.plain (q := (_, st, h)) rfl rfl k
theorem r_lstore {z : Nat} {v : Int64} (l' : en_L) (hl : en_put2 z (.long v) l = l') (k : Ar d xs rt bs r (pc + n, l', st, h) Ph) : Ar d xs rt bs ((.lstore z, n, a, b, c) :: r) (pc, l, (.long v :: st), h) Ph := by subst hl; exact Ar.plain (q := (_, st, h)) rfl rfl k
theorem r_astore_n {z : Fin 4} {v : Nat} (l' : en_L) (hl : en_put1 z.val (.ref v) l = l') (k : Ar d xs rt bs r (pc + n, l', st, h) Ph) : Ar d xs rt bs ((.astore_n z, n, a, b, c) :: r) (pc, l, (.ref v :: st), h) Ph := by subst hl; exact Ar.plain (q := (_, st, h)) rfl rfl k
theorem r_astore {z : Nat} {v : Nat} (l' : en_L) (hl : en_put1 z (.ref v) l = l') (k : Ar d xs rt bs r (pc + n, l', st, h) Ph) : Ar d xs rt bs ((.astore z, n, a, b, c) :: r) (pc, l, (.ref v :: st), h) Ph := by subst hl; exact Ar.plain (q := (_, st, h)) rfl rfl k
theorem r_zstore_n {z : Fin 4} (l' : en_L) (hl : en_put1 z.val .null l = l') (k : Ar d xs rt bs r (pc + n, l', st, h) Ph) : Ar d xs rt bs ((.astore_n z, n, a, b, c) :: r) (pc, l, (.null :: st), h) Ph := by subst hl; exact Ar.plain (q := (_, st, h)) rfl rfl k
theorem r_zstore {z : Nat} (l' : en_L) (hl : en_put1 z .null l = l') (k : Ar d xs rt bs r (pc + n, l', st, h) Ph) : Ar d xs rt bs ((.astore z, n, a, b, c) :: r) (pc, l, (.null :: st), h) Ph := by subst hl; exact Ar.plain (q := (_, st, h)) rfl rfl k
theorem r_iinc {z : Nat} {m : Int} {x : Int32} (hg : en_get z l = some (.int x)) (v : Int32) (hv : x + Int32.ofInt m = v) (l' : en_L) (hl : en_put1 z (.int v) l = l') (k : Ar d xs rt bs r (pc + n, l', st, h) Ph) : Ar d xs rt bs ((.iinc z m, n, a, b, c) :: r) (pc, l, st, h) Ph := by subst hv; subst hl; exact Ar.plain (q := (_, st, h)) rfl (by simp only [en_st, hg]; rfl) k
theorem r_iadd {x y : Int32} (v : Int32) (hv : x + y = v) (k : Ar d xs rt bs r (pc + n, l, .int v :: st, h) Ph) : Ar d xs rt bs ((.iadd, n, a, b, c) :: r) (pc, l, (.int y :: .int x :: st), h) Ph := by subst hv; exact Ar.plain (q := (l, .int _ :: st, h)) rfl rfl k
theorem r_isub {x y : Int32} (v : Int32) (hv : x - y = v) (k : Ar d xs rt bs r (pc + n, l, .int v :: st, h) Ph) : Ar d xs rt bs ((.isub, n, a, b, c) :: r) (pc, l, (.int y :: .int x :: st), h) Ph := by subst hv; exact Ar.plain (q := (l, .int _ :: st, h)) rfl rfl k
theorem r_imul {x y : Int32} (v : Int32) (hv : x * y = v) (k : Ar d xs rt bs r (pc + n, l, .int v :: st, h) Ph) : Ar d xs rt bs ((.imul, n, a, b, c) :: r) (pc, l, (.int y :: .int x :: st), h) Ph := by subst hv; exact Ar.plain (q := (l, .int _ :: st, h)) rfl rfl k
theorem r_iand {x y : Int32} (v : Int32) (hv : x &&& y = v) (k : Ar d xs rt bs r (pc + n, l, .int v :: st, h) Ph) : Ar d xs rt bs ((.iand, n, a, b, c) :: r) (pc, l, (.int y :: .int x :: st), h) Ph := by subst hv; exact Ar.plain (q := (l, .int _ :: st, h)) rfl rfl k
theorem r_ior {x y : Int32} (v : Int32) (hv : x ||| y = v) (k : Ar d xs rt bs r (pc + n, l, .int v :: st, h) Ph) : Ar d xs rt bs ((.ior, n, a, b, c) :: r) (pc, l, (.int y :: .int x :: st), h) Ph := by subst hv; exact Ar.plain (q := (l, .int _ :: st, h)) rfl rfl k
theorem r_ishl {x y : Int32} (v : Int32) (hv : x <<< (y &&& 31) = v) (k : Ar d xs rt bs r (pc + n, l, .int v :: st, h) Ph) : Ar d xs rt bs ((.ishl, n, a, b, c) :: r) (pc, l, (.int y :: .int x :: st), h) Ph := by subst hv; exact Ar.plain (q := (l, .int _ :: st, h)) rfl rfl k
theorem r_ishr {x y : Int32} (v : Int32) (hv : x >>> (y &&& 31) = v) (k : Ar d xs rt bs r (pc + n, l, .int v :: st, h) Ph) : Ar d xs rt bs ((.ishr, n, a, b, c) :: r) (pc, l, (.int y :: .int x :: st), h) Ph := by subst hv; exact Ar.plain (q := (l, .int _ :: st, h)) rfl rfl k
theorem r_iushr {x y : Int32} (v : Int32) (hv : (x.toUInt32 >>> (y.toUInt32 &&& Int32.toUInt32 31)).toInt32 = v) (k : Ar d xs rt bs r (pc + n, l, .int v :: st, h) Ph) : Ar d xs rt bs ((.iushr, n, a, b, c) :: r) (pc, l, (.int y :: .int x :: st), h) Ph := by subst hv; exact Ar.plain (q := (l, .int _ :: st, h)) rfl rfl k
theorem r_idiv {x y : Int32} (hy : ¬ y = 0) (v : Int32) (hv : x / y = v) (k : Ar d xs rt bs r (pc + n, l, .int v :: st, h) Ph) : Ar d xs rt bs ((.idiv, n, a, b, c) :: r) (pc, l, (.int y :: .int x :: st), h) Ph := by subst hv; exact Ar.plain (q := (l, .int _ :: st, h)) rfl (by simp only [en_st, en_i2d]; rw [if_neg hy]) k
theorem r_irem {x y : Int32} (hy : ¬ y = 0) (v : Int32) (hv : x - x / y * y = v) (k : Ar d xs rt bs r (pc + n, l, .int v :: st, h) Ph) : Ar d xs rt bs ((.irem, n, a, b, c) :: r) (pc, l, (.int y :: .int x :: st), h) Ph := by subst hv; exact Ar.plain (q := (l, .int _ :: st, h)) rfl (by simp only [en_st, en_i2d]; rw [if_neg hy]) k
theorem r_ladd {x y : Int64} (v : Int64) (hv : x + y = v) (k : Ar d xs rt bs r (pc + n, l, .long v :: st, h) Ph) : Ar d xs rt bs ((.ladd, n, a, b, c) :: r) (pc, l, (.long y :: .long x :: st), h) Ph := by subst hv; exact Ar.plain (q := (l, .long _ :: st, h)) rfl rfl k
theorem r_lsub {x y : Int64} (v : Int64) (hv : x - y = v) (k : Ar d xs rt bs r (pc + n, l, .long v :: st, h) Ph) : Ar d xs rt bs ((.lsub, n, a, b, c) :: r) (pc, l, (.long y :: .long x :: st), h) Ph := by subst hv; exact Ar.plain (q := (l, .long _ :: st, h)) rfl rfl k
theorem r_lmul {x y : Int64} (v : Int64) (hv : x * y = v) (k : Ar d xs rt bs r (pc + n, l, .long v :: st, h) Ph) : Ar d xs rt bs ((.lmul, n, a, b, c) :: r) (pc, l, (.long y :: .long x :: st), h) Ph := by subst hv; exact Ar.plain (q := (l, .long _ :: st, h)) rfl rfl k
theorem r_ldiv {x y : Int64} (hy : ¬ y = 0) (v : Int64) (hv : x / y = v) (k : Ar d xs rt bs r (pc + n, l, .long v :: st, h) Ph) : Ar d xs rt bs ((.ldiv, n, a, b, c) :: r) (pc, l, (.long y :: .long x :: st), h) Ph := by subst hv; exact Ar.plain (q := (l, .long _ :: st, h)) rfl (by simp only [en_st, en_l2d]; rw [if_neg hy]) k
theorem r_lrem {x y : Int64} (hy : ¬ y = 0) (v : Int64) (hv : x - x / y * y = v) (k : Ar d xs rt bs r (pc + n, l, .long v :: st, h) Ph) : Ar d xs rt bs ((.lrem, n, a, b, c) :: r) (pc, l, (.long y :: .long x :: st), h) Ph := by subst hv; exact Ar.plain (q := (l, .long _ :: st, h)) rfl (by simp only [en_st, en_l2d]; rw [if_neg hy]) k
theorem r_ineg {x : Int32} (v : Int32) (hv : -x = v) (k : Ar d xs rt bs r (pc + n, l, .int v :: st, h) Ph) : Ar d xs rt bs ((.ineg, n, a, b, c) :: r) (pc, l, (.int x :: st), h) Ph := by subst hv; exact Ar.plain (q := (l, .int _ :: st, h)) rfl rfl k
theorem r_i2l {x : Int32} (v : Int64) (hv : x.toInt64 = v) (k : Ar d xs rt bs r (pc + n, l, .long v :: st, h) Ph) : Ar d xs rt bs ((.i2l, n, a, b, c) :: r) (pc, l, (.int x :: st), h) Ph := by subst hv; exact Ar.plain (q := (l, .long _ :: st, h)) rfl rfl k
theorem r_l2i {x : Int64} (v : Int32) (hv : x.toInt32 = v) (k : Ar d xs rt bs r (pc + n, l, .int v :: st, h) Ph) : Ar d xs rt bs ((.l2i, n, a, b, c) :: r) (pc, l, (.long x :: st), h) Ph := by subst hv; exact Ar.plain (q := (l, .int _ :: st, h)) rfl rfl k
theorem r_lcmp {x y : Int64} (v : Int32) (hv : lg_cmp x y = v) (k : Ar d xs rt bs r (pc + n, l, .int v :: st, h) Ph) : Ar d xs rt bs ((.lcmp, n, a, b, c) :: r) (pc, l, (.long y :: .long x :: st), h) Ph := by subst hv; exact Ar.plain (q := (l, .int _ :: st, h)) rfl rfl k
theorem r_dup {v : Value} (hc : v.category = 1) (k : Ar d xs rt bs r (pc + n, l, v :: v :: st, h) Ph) : Ar d xs rt bs ((.dup, n, a, b, c) :: r) (pc, l, (v :: st), h) Ph := Ar.plain (q := (l, v :: v :: st, h)) rfl (by simp only [en_st]; rw [if_pos hc]) k
theorem r_dup2 {v w : Value} (hc : v.category = 1 ∧ w.category = 1) (k : Ar d xs rt bs r (pc + n, l, v :: w :: v :: w :: st, h) Ph) : Ar d xs rt bs ((.dup2, n, a, b, c) :: r) (pc, l, (v :: w :: st), h) Ph := Ar.plain (q := (l, v :: w :: v :: w :: st, h)) rfl (by simp only [en_st]; rw [if_pos hc]) k
theorem r_pop {v : Value} (hc : v.category = 1) (k : Ar d xs rt bs r (pc + n, l, st, h) Ph) : Ar d xs rt bs ((.pop, n, a, b, c) :: r) (pc, l, (v :: st), h) Ph := Ar.plain (q := (l, st, h)) rfl (by simp only [en_st]; rw [if_pos hc]) k
theorem r_get {g : List en_E} {N : Nat} {z p : Nat} {fs : List Value} {v : Value} (hp : g[p]? = some (.inr (a, fs))) (hv : fs[b]? = some v) (k : Ar d xs rt bs r (pc + n, l, v :: st, (g, N)) Ph) : Ar d xs rt bs ((.getfield z, n, a, b, c) :: r) (pc, l, (.ref p :: st), (g, N)) Ph := Ar.plain (q := (l, v :: st, (g, N))) rfl (by show en_gf a b l (.ref p :: st) (g, N) = _; simp only [en_gf, hp, if_true, hv]) k
theorem r_putf {g : List en_E} {N : Nat} {z p : Nat} {fs : List Value} {v : Value} (hp : g[p]? = some (.inr (a, fs))) (hb : b < fs.length) (hf : en_fit (en_tyf a b) v = true) (fs' : List Value) (hv : fs.set b v = fs') (k : Ar d xs rt bs r (pc + n, l, st, (g.set p (.inr (a, fs')), N)) Ph) : Ar d xs rt bs ((.putfield z, n, a, b, c) :: r) (pc, l, (v :: .ref p :: st), (g, N)) Ph := by subst hv; exact Ar.plain (q := (l, st, (g.set p (.inr (a, _)), N))) rfl (by show en_pf a b (en_tyf a b) l (v :: .ref p :: st) (g, N) = _; simp only [en_pf, hp]; rw [if_pos ⟨trivial, hb, hf⟩]) k
theorem r_iald {g : List en_E} {N : Nat} {p : Nat} {ys : List Int32} {i v : Int32} (hp : g[p]? = some (.inl (0, .inl ys))) (hi : ¬ i < 0) (hv : ys[i.toNatClampNeg]? = some v) (k : Ar d xs rt bs r (pc + n, l, .int v :: st, (g, N)) Ph) : Ar d xs rt bs ((.iaload, n, a, b, c) :: r) (pc, l, (.int i :: .ref p :: st), (g, N)) Ph := Ar.plain (q := (l, .int v :: st, (g, N))) rfl (by show en_ias 0 xs l (.int i :: .ref p :: st) (g, N) = _; simp only [en_ias, hp]; rw [if_pos ⟨trivial, hi⟩]; simp only [hv]) k
theorem r_bald {g : List en_E} {N : Nat} {p : Nat} {ys : List Int32} {i v : Int32} (hp : g[p]? = some (.inl (2, .inl ys))) (hi : ¬ i < 0) (hv : ys[i.toNatClampNeg]? = some v) (k : Ar d xs rt bs r (pc + n, l, .int v :: st, (g, N)) Ph) : Ar d xs rt bs ((.baload, n, a, b, c) :: r) (pc, l, (.int i :: .ref p :: st), (g, N)) Ph := Ar.plain (q := (l, .int v :: st, (g, N))) rfl (by show en_ias 2 none l (.int i :: .ref p :: st) (g, N) = _; simp only [en_ias, hp]; rw [if_pos ⟨trivial, hi⟩]; simp only [hv]) k
theorem r_scald {ys : List Int32} {i v : Int32} (hi : ¬ i < 0) (hv : ys[i.toNatClampNeg]? = some v) (k : Ar d (some ys) rt bs r (pc + n, l, .int v :: st, h) Ph) : Ar d (some ys) rt bs ((.iaload, n, a, b, c) :: r) (pc, l, (.int i :: .float 0 :: st), h) Ph := Ar.plain (q := (l, .int v :: st, h)) rfl (by show en_ias 0 (some ys) l (.int i :: .float 0 :: st) h = _; simp only [en_ias]; rw [if_pos ⟨trivial, trivial, hi⟩]; simp only [hv]) k
theorem r_sclen {ys : List Int32} (v : Int32) (hv : Int32.ofNat ys.length = v) (k : Ar d (some ys) rt bs r (pc + n, l, .int v :: st, h) Ph) : Ar d (some ys) rt bs ((.arraylength, n, a, b, c) :: r) (pc, l, (.float 0 :: st), h) Ph := by subst hv; exact Ar.plain (q := (l, .int _ :: st, h)) rfl (by show en_alen (some ys) l (.float 0 :: st) h = _; simp only [en_alen]; rw [if_pos trivial]) k
theorem r_lald {g : List en_E} {N : Nat} {p : Nat} {ys : List Int64} {i : Int32} {v : Int64} (hp : g[p]? = some (.inl (1, .inr (.inl ys)))) (hi : ¬ i < 0) (hv : ys[i.toNatClampNeg]? = some v) (k : Ar d xs rt bs r (pc + n, l, .long v :: st, (g, N)) Ph) : Ar d xs rt bs ((.laload, n, a, b, c) :: r) (pc, l, (.int i :: .ref p :: st), (g, N)) Ph := Ar.plain (q := (l, .long v :: st, (g, N))) rfl (by show en_lal l (.int i :: .ref p :: st) (g, N) = _; simp only [en_lal, hp]; rw [if_pos ⟨trivial, hi⟩]; simp only [hv]) k
theorem r_aald {g : List en_E} {N : Nat} {p t : Nat} {ys : List (Option Nat)} {i : Int32} {v : Option Nat} (hp : g[p]? = some (.inl (t, .inr (.inr ys)))) (ht : t = 3 ∨ t = 4) (hi : ¬ i < 0) (hv : ys[i.toNatClampNeg]? = some v) (k : Ar d xs rt bs r (pc + n, l, en_rf v :: st, (g, N)) Ph) : Ar d xs rt bs ((.aaload, n, a, b, c) :: r) (pc, l, (.int i :: .ref p :: st), (g, N)) Ph := Ar.plain (q := (l, en_rf v :: st, (g, N))) rfl (by show en_aal l (.int i :: .ref p :: st) (g, N) = _; simp only [en_aal, hp]; rw [if_pos ⟨ht, hi⟩]; simp only [hv]) k
theorem r_iast {g : List en_E} {N : Nat} {p : Nat} {ys : List Int32} {i v : Int32} (hp : g[p]? = some (.inl (0, .inl ys))) (hi : ¬ i < 0) (hb : i.toNatClampNeg < ys.length) (ys' : List Int32) (hv : ys.set i.toNatClampNeg v = ys') (k : Ar d xs rt bs r (pc + n, l, st, (g.set p (.inl (0, .inl ys')), N)) Ph) : Ar d xs rt bs ((.iastore, n, a, b, c) :: r) (pc, l, (.int v :: .int i :: .ref p :: st), (g, N)) Ph := by subst hv; exact Ar.plain (q := (l, st, (g.set p (.inl (0, .inl _)), N))) rfl (by show en_iast 0 l (.int v :: .int i :: .ref p :: st) (g, N) = _; simp only [en_iast, hp]; rw [if_pos ⟨trivial, hi, hb⟩, if_neg (by decide)]) k
theorem r_bast {g : List en_E} {N : Nat} {p : Nat} {ys : List Int32} {i v : Int32} (hp : g[p]? = some (.inl (2, .inl ys))) (hi : ¬ i < 0) (hb : i.toNatClampNeg < ys.length) (ys' : List Int32) (hv : ys.set i.toNatClampNeg (v &&& 1) = ys') (k : Ar d xs rt bs r (pc + n, l, st, (g.set p (.inl (2, .inl ys')), N)) Ph) : Ar d xs rt bs ((.bastore, n, a, b, c) :: r) (pc, l, (.int v :: .int i :: .ref p :: st), (g, N)) Ph := by subst hv; exact Ar.plain (q := (l, st, (g.set p (.inl (2, .inl _)), N))) rfl (by show en_iast 2 l (.int v :: .int i :: .ref p :: st) (g, N) = _; simp only [en_iast, hp]; rw [if_pos ⟨trivial, hi, hb⟩, if_pos trivial]) k
theorem r_last {g : List en_E} {N : Nat} {p : Nat} {ys : List Int64} {i : Int32} {v : Int64} (hp : g[p]? = some (.inl (1, .inr (.inl ys)))) (hi : ¬ i < 0) (hb : i.toNatClampNeg < ys.length) (ys' : List Int64) (hv : ys.set i.toNatClampNeg v = ys') (k : Ar d xs rt bs r (pc + n, l, st, (g.set p (.inl (1, .inr (.inl ys'))), N)) Ph) : Ar d xs rt bs ((.lastore, n, a, b, c) :: r) (pc, l, (.long v :: .int i :: .ref p :: st), (g, N)) Ph := by subst hv; exact Ar.plain (q := (l, st, (g.set p (.inl (1, .inr (.inl _))), N))) rfl (by show en_last l (.long v :: .int i :: .ref p :: st) (g, N) = _; simp only [en_last, hp]; rw [if_pos ⟨trivial, hi, hb⟩]) k
theorem r_cpy {g : List en_E} {N : Nat} {z p0 p1 : Nat} {f g2 : List Int32} {sp dp m : Int32} (ha : a = 901) (hp0 : g[p0]? = some (.inl (0, .inl f))) (hp1 : g[p1]? = some (.inl (0, .inl g2))) (hc : (((0 : Nat) = 0 ∧ (0 : Nat) = 0 ∧ en_cs st ≤ 8) ∧ (¬ sp < 0 ∧ ¬ dp < 0 ∧ ¬ m < 0) ∧ sp.toNatClampNeg + m.toNatClampNeg ≤ f.length ∧ dp.toNatClampNeg + m.toNatClampNeg ≤ g2.length)) (g' : List Int32) (hv : en_cpy f g2 sp.toNatClampNeg dp.toNatClampNeg m.toNatClampNeg = g') (k : Ar d xs rt bs r (pc + n, l, st, (g.set p1 (.inl (0, .inl g')), N)) Ph) : Ar d xs rt bs ((.invokestatic z, n, a, b, c) :: r) (pc, l, (.int m :: .int dp :: .ref p1 :: .int sp :: .ref p0 :: st), (g, N)) Ph := by subst hv; subst ha; exact Ar.plain (q := (l, st, (g.set p1 (.inl (0, .inl _)), N))) rfl (by show en_nat 901 l (.int m :: .int dp :: .ref p1 :: .int sp :: .ref p0 :: st) (g, N) = _; unfold en_nat; rw [if_neg (by decide), if_pos rfl]; unfold en_acpy; simp only [hp0, hp1]; rw [if_pos ⟨⟨trivial, trivial, hc.1.2.2⟩, hc.2⟩]) k
theorem r_mmax {g : List en_E} {N : Nat} {z : Nat} {x y : Int32} (ha : a = 902) (hc : en_cs st ≤ 8) (v : Int32) (hv : (if x < y then y else x) = v) (k : Ar d xs rt bs r (pc + n, l, .int v :: st, (g, N)) Ph) : Ar d xs rt bs ((.invokestatic z, n, a, b, c) :: r) (pc, l, (.int y :: .int x :: st), (g, N)) Ph := by subst hv; subst ha; exact Ar.plain (q := (l, .int _ :: st, (g, N))) rfl (by show en_nat 902 l (.int y :: .int x :: st) (g, N) = _; unfold en_nat; rw [if_neg (by decide), if_neg (by decide), if_pos rfl]; simp only; rw [if_pos hc]) k
theorem r_mmin {g : List en_E} {N : Nat} {z : Nat} {x y : Int32} (ha : a = 903) (hc : en_cs st ≤ 8) (v : Int32) (hv : (if y < x then y else x) = v) (k : Ar d xs rt bs r (pc + n, l, .int v :: st, (g, N)) Ph) : Ar d xs rt bs ((.invokestatic z, n, a, b, c) :: r) (pc, l, (.int y :: .int x :: st), (g, N)) Ph := by subst hv; subst ha; exact Ar.plain (q := (l, .int _ :: st, (g, N))) rfl (by show en_nat 903 l (.int y :: .int x :: st) (g, N) = _; unfold en_nat; rw [if_neg (by decide), if_neg (by decide), if_neg (by decide), if_pos rfl]; simp only; rw [if_pos hc]) k
theorem r_goto {z : Int} (k : At d xs rt bs (a, l, st, h) Ph) : Ar d xs rt bs ((.goto z, n, a, b, c) :: r) (pc, l, st, h) Ph := Ar.jump (c' := (a, l, st, h)) rfl k
theorem r_ift {z : Int} {x : Int32} {cd : Jvm.ClassFile.Cond} (hb : en_c1 cd x = true) (k : At d xs rt bs (a, l, st, h) Ph) : Ar d xs rt bs ((.ifCond cd z, n, a, b, c) :: r) (pc, l, (.int x :: st), h) Ph := Ar.jump (c' := (bif en_c1 cd x then a else pc + 3, l, st, h)) rfl (by rw [hb]; exact k)
theorem r_iff (pc' : Nat) (hp : pc + 3 = pc') {z : Int} {x : Int32} {cd : Jvm.ClassFile.Cond} (hb : en_c1 cd x = false) (k : At d xs rt bs (pc', l, st, h) Ph) : Ar d xs rt bs ((.ifCond cd z, n, a, b, c) :: r) (pc, l, (.int x :: st), h) Ph := by subst hp; exact Ar.jump (c' := (bif en_c1 cd x then a else pc + 3, l, st, h)) rfl (by rw [hb]; exact k)
theorem r_ifs (pc' : Nat) (hp : pc + 3 = pc') {z : Int} {x : Int32} {cd : Jvm.ClassFile.Cond} (k1 : en_c1 cd x = true → At d xs rt bs (a, l, st, h) Ph) (k2 : en_c1 cd x = false → At d xs rt bs (pc', l, st, h) Ph) : Ar d xs rt bs ((.ifCond cd z, n, a, b, c) :: r) (pc, l, (.int x :: st), h) Ph := by
  cases hb : en_c1 cd x with
  | true => exact r_ift hb (k1 hb)
  | false => exact r_iff pc' hp hb (k2 hb)
theorem r_ict {z : Int} {x y : Int32} {cd : Jvm.ClassFile.Cond} (hb : en_c2 cd x y = true) (k : At d xs rt bs (a, l, st, h) Ph) : Ar d xs rt bs ((.if_icmp cd z, n, a, b, c) :: r) (pc, l, (.int y :: .int x :: st), h) Ph := Ar.jump (c' := (bif en_c2 cd x y then a else pc + 3, l, st, h)) rfl (by rw [hb]; exact k)
theorem r_icf (pc' : Nat) (hp : pc + 3 = pc') {z : Int} {x y : Int32} {cd : Jvm.ClassFile.Cond} (hb : en_c2 cd x y = false) (k : At d xs rt bs (pc', l, st, h) Ph) : Ar d xs rt bs ((.if_icmp cd z, n, a, b, c) :: r) (pc, l, (.int y :: .int x :: st), h) Ph := by subst hp; exact Ar.jump (c' := (bif en_c2 cd x y then a else pc + 3, l, st, h)) rfl (by rw [hb]; exact k)
theorem r_ics (pc' : Nat) (hp : pc + 3 = pc') {z : Int} {x y : Int32} {cd : Jvm.ClassFile.Cond} (k1 : en_c2 cd x y = true → At d xs rt bs (a, l, st, h) Ph) (k2 : en_c2 cd x y = false → At d xs rt bs (pc', l, st, h) Ph) : Ar d xs rt bs ((.if_icmp cd z, n, a, b, c) :: r) (pc, l, (.int y :: .int x :: st), h) Ph := by
  cases hb : en_c2 cd x y with
  | true => exact r_ict hb (k1 hb)
  | false => exact r_icf pc' hp hb (k2 hb)
theorem r_nnr {z : Int} {v : Nat} (k : At d xs rt bs (a, l, st, h) Ph) : Ar d xs rt bs ((.ifnonnull z, n, a, b, c) :: r) (pc, l, (.ref v :: st), h) Ph := Ar.jump (c' := (a, l, st, h)) rfl k
theorem r_nnz (pc' : Nat) (hp : pc + 3 = pc') {z : Int} (k : At d xs rt bs (pc', l, st, h) Ph) : Ar d xs rt bs ((.ifnonnull z, n, a, b, c) :: r) (pc, l, (.null :: st), h) Ph := by subst hp; exact Ar.jump (c' := (pc + 3, l, st, h)) rfl k
theorem r_nlr (pc' : Nat) (hp : pc + 3 = pc') {z : Int} {v : Nat} (k : At d xs rt bs (pc', l, st, h) Ph) : Ar d xs rt bs ((.ifnull z, n, a, b, c) :: r) (pc, l, (.ref v :: st), h) Ph := by subst hp; exact Ar.jump (c' := (pc + 3, l, st, h)) rfl k
theorem r_nlz {z : Int} (k : At d xs rt bs (a, l, st, h) Ph) : Ar d xs rt bs ((.ifnull z, n, a, b, c) :: r) (pc, l, (.null :: st), h) Ph := Ar.jump (c' := (a, l, st, h)) rfl k
theorem r_tsw (t : Nat) {df lo hi : Int} {offs : Array Int} {x : Int32} (ht : en_sw pc df lo hi offs x.toInt = some t) (k : At d xs rt bs (t, l, st, h) Ph) : Ar d xs rt bs ((.tableswitch df lo hi offs, n, a, b, c) :: r) (pc, l, (.int x :: st), h) Ph := Ar.jump (c' := (t, l, st, h)) (by unfold en_ctl; simp only [ht]) k
theorem r_ireti {v : Int32} (k : Ph (some (.int v)) h) : Ar d xs (some .int) bs ((.ireturn, n, a, b, c) :: r) (pc, l, [.int v], h) Ph := Ar.leave (w := (some (.int v), h)) rfl k
theorem r_iretz {v : Int32} (hv : v = 0 ∨ v = 1) (k : Ph (some (.int v)) h) : Ar d xs (some .boolean) bs ((.ireturn, n, a, b, c) :: r) (pc, l, [.int v], h) Ph := Ar.leave (w := (some (.int v), h)) (by unfold en_ctl; simp only; rw [if_pos hv]) k
theorem r_lret {v : Int64} (k : Ph (some (.long v)) h) : Ar d xs (some .long) bs ((.lreturn, n, a, b, c) :: r) (pc, l, [.long v], h) Ph := Ar.leave (w := (some (.long v), h)) rfl k
theorem r_aret {v : Nat} {C : String} (k : Ph (some (.ref v)) h) : Ar d xs (some (.object C)) bs ((.areturn, n, a, b, c) :: r) (pc, l, [.ref v], h) Ph := Ar.leave (w := (some (.ref v), h)) rfl k
theorem r_zret {C : String} (k : Ph (some .null) h) : Ar d xs (some (.object C)) bs ((.areturn, n, a, b, c) :: r) (pc, l, [.null], h) Ph := Ar.leave (w := (some .null, h)) rfl k
theorem r_vret (k : Ph none h) : Ar d xs none bs ((.return_, n, a, b, c) :: r) (pc, l, [], h) Ph := Ar.leave (w := (none, h)) rfl k
theorem r_callV {z : Nat} {Ps : Option Value → en_H → Prop} (pc' : Nat) (hp : pc + 3 = pc') (as rest : List Value) (ha : a < 900) (hq : en_take (.invokevirtual z, n, a, b, c) st = some (as, rest)) (hE : Ev d a as h Ps) (k : ∀ (v : Option Value) (h' : en_H), Ps v h' → At d xs rt bs (pc', l, v.toList ++ rest, h') Ph) : Ar d xs rt bs ((.invokevirtual z, n, a, b, c) :: r) (pc, l, st, h) Ph := Ar.callK pc' hp as rest (by unfold en_ctl; simp only; rw [if_pos ha]) hq hE k
theorem r_callS {z : Nat} {Ps : Option Value → en_H → Prop} (pc' : Nat) (hp : pc + 3 = pc') (as rest : List Value) (ha : a < 900) (hq : en_take (.invokestatic z, n, a, b, c) st = some (as, rest)) (hE : Ev d a as h Ps) (k : ∀ (v : Option Value) (h' : en_H), Ps v h' → At d xs rt bs (pc', l, v.toList ++ rest, h') Ph) : Ar d xs rt bs ((.invokestatic z, n, a, b, c) :: r) (pc, l, st, h) Ph := Ar.callK pc' hp as rest (by unfold en_ctl; simp only; rw [if_pos ha]) hq hE k
theorem r_callI {z : Nat} {Ps : Option Value → en_H → Prop} (pc' : Nat) (hp : pc + 3 = pc') (as rest : List Value) (ha : a < 900) (hq : en_take (.invokespecial z, n, a, b, c) st = some (as, rest)) (hE : Ev d a as h Ps) (k : ∀ (v : Option Value) (h' : en_H), Ps v h' → At d xs rt bs (pc', l, v.toList ++ rest, h') Ph) : Ar d xs rt bs ((.invokespecial z, n, a, b, c) :: r) (pc, l, st, h) Ph := Ar.callK pc' hp as rest (by unfold en_ctl; simp only; rw [if_pos ha]) hq hE k
theorem r_callV1s {z : Nat} (C0 : Prop) (R0 : Value) (H0 : en_H) (pc' : Nat) (hp : pc + 3 = pc') (as rest : List Value) (ha : a < 900) (hq : en_take (.invokevirtual z, n, a, b, c) st = some (as, rest)) (hE : Ev d a as h (fun v h' => (C0 ∧ v = some R0 ∧ h' = H0))) (k0 : C0 → At d xs rt bs (pc', l, R0 :: rest, H0) Ph) : Ar d xs rt bs ((.invokevirtual z, n, a, b, c) :: r) (pc, l, st, h) Ph := by
  refine r_callV pc' hp as rest ha hq hE ?_
  intro v h' hv
  obtain ⟨q1, q2, q3⟩ := hv
  rw [q2, q3]
  exact k0 q1
theorem r_callV1v {z : Nat} (C0 : Prop)  (H0 : en_H) (pc' : Nat) (hp : pc + 3 = pc') (as rest : List Value) (ha : a < 900) (hq : en_take (.invokevirtual z, n, a, b, c) st = some (as, rest)) (hE : Ev d a as h (fun v h' => (C0 ∧ v = none ∧ h' = H0))) (k0 : C0 → At d xs rt bs (pc', l, rest, H0) Ph) : Ar d xs rt bs ((.invokevirtual z, n, a, b, c) :: r) (pc, l, st, h) Ph := by
  refine r_callV pc' hp as rest ha hq hE ?_
  intro v h' hv
  obtain ⟨q1, q2, q3⟩ := hv
  rw [q2, q3]
  exact k0 q1
theorem r_callV2s {z : Nat} (C0 C1 : Prop) (R0 R1 : Value) (H0 H1 : en_H) (pc' : Nat) (hp : pc + 3 = pc') (as rest : List Value) (ha : a < 900) (hq : en_take (.invokevirtual z, n, a, b, c) st = some (as, rest)) (hE : Ev d a as h (fun v h' => (C0 ∧ v = some R0 ∧ h' = H0) ∨ (C1 ∧ v = some R1 ∧ h' = H1))) (k0 : C0 → At d xs rt bs (pc', l, R0 :: rest, H0) Ph) (k1 : C1 → At d xs rt bs (pc', l, R1 :: rest, H1) Ph) : Ar d xs rt bs ((.invokevirtual z, n, a, b, c) :: r) (pc, l, st, h) Ph := by
  refine r_callV pc' hp as rest ha hq hE ?_
  intro v h' hv
  rcases hv with ⟨q1, q2, q3⟩ | ⟨q1, q2, q3⟩
  · rw [q2, q3]; exact k0 q1
  · rw [q2, q3]; exact k1 q1
theorem r_callV2v {z : Nat} (C0 C1 : Prop)  (H0 H1 : en_H) (pc' : Nat) (hp : pc + 3 = pc') (as rest : List Value) (ha : a < 900) (hq : en_take (.invokevirtual z, n, a, b, c) st = some (as, rest)) (hE : Ev d a as h (fun v h' => (C0 ∧ v = none ∧ h' = H0) ∨ (C1 ∧ v = none ∧ h' = H1))) (k0 : C0 → At d xs rt bs (pc', l, rest, H0) Ph) (k1 : C1 → At d xs rt bs (pc', l, rest, H1) Ph) : Ar d xs rt bs ((.invokevirtual z, n, a, b, c) :: r) (pc, l, st, h) Ph := by
  refine r_callV pc' hp as rest ha hq hE ?_
  intro v h' hv
  rcases hv with ⟨q1, q2, q3⟩ | ⟨q1, q2, q3⟩
  · rw [q2, q3]; exact k0 q1
  · rw [q2, q3]; exact k1 q1
theorem r_callV3s {z : Nat} (C0 C1 C2 : Prop) (R0 R1 R2 : Value) (H0 H1 H2 : en_H) (pc' : Nat) (hp : pc + 3 = pc') (as rest : List Value) (ha : a < 900) (hq : en_take (.invokevirtual z, n, a, b, c) st = some (as, rest)) (hE : Ev d a as h (fun v h' => (C0 ∧ v = some R0 ∧ h' = H0) ∨ (C1 ∧ v = some R1 ∧ h' = H1) ∨ (C2 ∧ v = some R2 ∧ h' = H2))) (k0 : C0 → At d xs rt bs (pc', l, R0 :: rest, H0) Ph) (k1 : C1 → At d xs rt bs (pc', l, R1 :: rest, H1) Ph) (k2 : C2 → At d xs rt bs (pc', l, R2 :: rest, H2) Ph) : Ar d xs rt bs ((.invokevirtual z, n, a, b, c) :: r) (pc, l, st, h) Ph := by
  refine r_callV pc' hp as rest ha hq hE ?_
  intro v h' hv
  rcases hv with ⟨q1, q2, q3⟩ | ⟨q1, q2, q3⟩ | ⟨q1, q2, q3⟩
  · rw [q2, q3]; exact k0 q1
  · rw [q2, q3]; exact k1 q1
  · rw [q2, q3]; exact k2 q1
theorem r_callV3v {z : Nat} (C0 C1 C2 : Prop)  (H0 H1 H2 : en_H) (pc' : Nat) (hp : pc + 3 = pc') (as rest : List Value) (ha : a < 900) (hq : en_take (.invokevirtual z, n, a, b, c) st = some (as, rest)) (hE : Ev d a as h (fun v h' => (C0 ∧ v = none ∧ h' = H0) ∨ (C1 ∧ v = none ∧ h' = H1) ∨ (C2 ∧ v = none ∧ h' = H2))) (k0 : C0 → At d xs rt bs (pc', l, rest, H0) Ph) (k1 : C1 → At d xs rt bs (pc', l, rest, H1) Ph) (k2 : C2 → At d xs rt bs (pc', l, rest, H2) Ph) : Ar d xs rt bs ((.invokevirtual z, n, a, b, c) :: r) (pc, l, st, h) Ph := by
  refine r_callV pc' hp as rest ha hq hE ?_
  intro v h' hv
  rcases hv with ⟨q1, q2, q3⟩ | ⟨q1, q2, q3⟩ | ⟨q1, q2, q3⟩
  · rw [q2, q3]; exact k0 q1
  · rw [q2, q3]; exact k1 q1
  · rw [q2, q3]; exact k2 q1
theorem r_callV4s {z : Nat} (C0 C1 C2 C3 : Prop) (R0 R1 R2 R3 : Value) (H0 H1 H2 H3 : en_H) (pc' : Nat) (hp : pc + 3 = pc') (as rest : List Value) (ha : a < 900) (hq : en_take (.invokevirtual z, n, a, b, c) st = some (as, rest)) (hE : Ev d a as h (fun v h' => (C0 ∧ v = some R0 ∧ h' = H0) ∨ (C1 ∧ v = some R1 ∧ h' = H1) ∨ (C2 ∧ v = some R2 ∧ h' = H2) ∨ (C3 ∧ v = some R3 ∧ h' = H3))) (k0 : C0 → At d xs rt bs (pc', l, R0 :: rest, H0) Ph) (k1 : C1 → At d xs rt bs (pc', l, R1 :: rest, H1) Ph) (k2 : C2 → At d xs rt bs (pc', l, R2 :: rest, H2) Ph) (k3 : C3 → At d xs rt bs (pc', l, R3 :: rest, H3) Ph) : Ar d xs rt bs ((.invokevirtual z, n, a, b, c) :: r) (pc, l, st, h) Ph := by
  refine r_callV pc' hp as rest ha hq hE ?_
  intro v h' hv
  rcases hv with ⟨q1, q2, q3⟩ | ⟨q1, q2, q3⟩ | ⟨q1, q2, q3⟩ | ⟨q1, q2, q3⟩
  · rw [q2, q3]; exact k0 q1
  · rw [q2, q3]; exact k1 q1
  · rw [q2, q3]; exact k2 q1
  · rw [q2, q3]; exact k3 q1
theorem r_callV4v {z : Nat} (C0 C1 C2 C3 : Prop)  (H0 H1 H2 H3 : en_H) (pc' : Nat) (hp : pc + 3 = pc') (as rest : List Value) (ha : a < 900) (hq : en_take (.invokevirtual z, n, a, b, c) st = some (as, rest)) (hE : Ev d a as h (fun v h' => (C0 ∧ v = none ∧ h' = H0) ∨ (C1 ∧ v = none ∧ h' = H1) ∨ (C2 ∧ v = none ∧ h' = H2) ∨ (C3 ∧ v = none ∧ h' = H3))) (k0 : C0 → At d xs rt bs (pc', l, rest, H0) Ph) (k1 : C1 → At d xs rt bs (pc', l, rest, H1) Ph) (k2 : C2 → At d xs rt bs (pc', l, rest, H2) Ph) (k3 : C3 → At d xs rt bs (pc', l, rest, H3) Ph) : Ar d xs rt bs ((.invokevirtual z, n, a, b, c) :: r) (pc, l, st, h) Ph := by
  refine r_callV pc' hp as rest ha hq hE ?_
  intro v h' hv
  rcases hv with ⟨q1, q2, q3⟩ | ⟨q1, q2, q3⟩ | ⟨q1, q2, q3⟩ | ⟨q1, q2, q3⟩
  · rw [q2, q3]; exact k0 q1
  · rw [q2, q3]; exact k1 q1
  · rw [q2, q3]; exact k2 q1
  · rw [q2, q3]; exact k3 q1
theorem r_callV5s {z : Nat} (C0 C1 C2 C3 C4 : Prop) (R0 R1 R2 R3 R4 : Value) (H0 H1 H2 H3 H4 : en_H) (pc' : Nat) (hp : pc + 3 = pc') (as rest : List Value) (ha : a < 900) (hq : en_take (.invokevirtual z, n, a, b, c) st = some (as, rest)) (hE : Ev d a as h (fun v h' => (C0 ∧ v = some R0 ∧ h' = H0) ∨ (C1 ∧ v = some R1 ∧ h' = H1) ∨ (C2 ∧ v = some R2 ∧ h' = H2) ∨ (C3 ∧ v = some R3 ∧ h' = H3) ∨ (C4 ∧ v = some R4 ∧ h' = H4))) (k0 : C0 → At d xs rt bs (pc', l, R0 :: rest, H0) Ph) (k1 : C1 → At d xs rt bs (pc', l, R1 :: rest, H1) Ph) (k2 : C2 → At d xs rt bs (pc', l, R2 :: rest, H2) Ph) (k3 : C3 → At d xs rt bs (pc', l, R3 :: rest, H3) Ph) (k4 : C4 → At d xs rt bs (pc', l, R4 :: rest, H4) Ph) : Ar d xs rt bs ((.invokevirtual z, n, a, b, c) :: r) (pc, l, st, h) Ph := by
  refine r_callV pc' hp as rest ha hq hE ?_
  intro v h' hv
  rcases hv with ⟨q1, q2, q3⟩ | ⟨q1, q2, q3⟩ | ⟨q1, q2, q3⟩ | ⟨q1, q2, q3⟩ | ⟨q1, q2, q3⟩
  · rw [q2, q3]; exact k0 q1
  · rw [q2, q3]; exact k1 q1
  · rw [q2, q3]; exact k2 q1
  · rw [q2, q3]; exact k3 q1
  · rw [q2, q3]; exact k4 q1
theorem r_callV5v {z : Nat} (C0 C1 C2 C3 C4 : Prop)  (H0 H1 H2 H3 H4 : en_H) (pc' : Nat) (hp : pc + 3 = pc') (as rest : List Value) (ha : a < 900) (hq : en_take (.invokevirtual z, n, a, b, c) st = some (as, rest)) (hE : Ev d a as h (fun v h' => (C0 ∧ v = none ∧ h' = H0) ∨ (C1 ∧ v = none ∧ h' = H1) ∨ (C2 ∧ v = none ∧ h' = H2) ∨ (C3 ∧ v = none ∧ h' = H3) ∨ (C4 ∧ v = none ∧ h' = H4))) (k0 : C0 → At d xs rt bs (pc', l, rest, H0) Ph) (k1 : C1 → At d xs rt bs (pc', l, rest, H1) Ph) (k2 : C2 → At d xs rt bs (pc', l, rest, H2) Ph) (k3 : C3 → At d xs rt bs (pc', l, rest, H3) Ph) (k4 : C4 → At d xs rt bs (pc', l, rest, H4) Ph) : Ar d xs rt bs ((.invokevirtual z, n, a, b, c) :: r) (pc, l, st, h) Ph := by
  refine r_callV pc' hp as rest ha hq hE ?_
  intro v h' hv
  rcases hv with ⟨q1, q2, q3⟩ | ⟨q1, q2, q3⟩ | ⟨q1, q2, q3⟩ | ⟨q1, q2, q3⟩ | ⟨q1, q2, q3⟩
  · rw [q2, q3]; exact k0 q1
  · rw [q2, q3]; exact k1 q1
  · rw [q2, q3]; exact k2 q1
  · rw [q2, q3]; exact k3 q1
  · rw [q2, q3]; exact k4 q1
theorem r_callV6s {z : Nat} (C0 C1 C2 C3 C4 C5 : Prop) (R0 R1 R2 R3 R4 R5 : Value) (H0 H1 H2 H3 H4 H5 : en_H) (pc' : Nat) (hp : pc + 3 = pc') (as rest : List Value) (ha : a < 900) (hq : en_take (.invokevirtual z, n, a, b, c) st = some (as, rest)) (hE : Ev d a as h (fun v h' => (C0 ∧ v = some R0 ∧ h' = H0) ∨ (C1 ∧ v = some R1 ∧ h' = H1) ∨ (C2 ∧ v = some R2 ∧ h' = H2) ∨ (C3 ∧ v = some R3 ∧ h' = H3) ∨ (C4 ∧ v = some R4 ∧ h' = H4) ∨ (C5 ∧ v = some R5 ∧ h' = H5))) (k0 : C0 → At d xs rt bs (pc', l, R0 :: rest, H0) Ph) (k1 : C1 → At d xs rt bs (pc', l, R1 :: rest, H1) Ph) (k2 : C2 → At d xs rt bs (pc', l, R2 :: rest, H2) Ph) (k3 : C3 → At d xs rt bs (pc', l, R3 :: rest, H3) Ph) (k4 : C4 → At d xs rt bs (pc', l, R4 :: rest, H4) Ph) (k5 : C5 → At d xs rt bs (pc', l, R5 :: rest, H5) Ph) : Ar d xs rt bs ((.invokevirtual z, n, a, b, c) :: r) (pc, l, st, h) Ph := by
  refine r_callV pc' hp as rest ha hq hE ?_
  intro v h' hv
  rcases hv with ⟨q1, q2, q3⟩ | ⟨q1, q2, q3⟩ | ⟨q1, q2, q3⟩ | ⟨q1, q2, q3⟩ | ⟨q1, q2, q3⟩ | ⟨q1, q2, q3⟩
  · rw [q2, q3]; exact k0 q1
  · rw [q2, q3]; exact k1 q1
  · rw [q2, q3]; exact k2 q1
  · rw [q2, q3]; exact k3 q1
  · rw [q2, q3]; exact k4 q1
  · rw [q2, q3]; exact k5 q1
theorem r_callV6v {z : Nat} (C0 C1 C2 C3 C4 C5 : Prop)  (H0 H1 H2 H3 H4 H5 : en_H) (pc' : Nat) (hp : pc + 3 = pc') (as rest : List Value) (ha : a < 900) (hq : en_take (.invokevirtual z, n, a, b, c) st = some (as, rest)) (hE : Ev d a as h (fun v h' => (C0 ∧ v = none ∧ h' = H0) ∨ (C1 ∧ v = none ∧ h' = H1) ∨ (C2 ∧ v = none ∧ h' = H2) ∨ (C3 ∧ v = none ∧ h' = H3) ∨ (C4 ∧ v = none ∧ h' = H4) ∨ (C5 ∧ v = none ∧ h' = H5))) (k0 : C0 → At d xs rt bs (pc', l, rest, H0) Ph) (k1 : C1 → At d xs rt bs (pc', l, rest, H1) Ph) (k2 : C2 → At d xs rt bs (pc', l, rest, H2) Ph) (k3 : C3 → At d xs rt bs (pc', l, rest, H3) Ph) (k4 : C4 → At d xs rt bs (pc', l, rest, H4) Ph) (k5 : C5 → At d xs rt bs (pc', l, rest, H5) Ph) : Ar d xs rt bs ((.invokevirtual z, n, a, b, c) :: r) (pc, l, st, h) Ph := by
  refine r_callV pc' hp as rest ha hq hE ?_
  intro v h' hv
  rcases hv with ⟨q1, q2, q3⟩ | ⟨q1, q2, q3⟩ | ⟨q1, q2, q3⟩ | ⟨q1, q2, q3⟩ | ⟨q1, q2, q3⟩ | ⟨q1, q2, q3⟩
  · rw [q2, q3]; exact k0 q1
  · rw [q2, q3]; exact k1 q1
  · rw [q2, q3]; exact k2 q1
  · rw [q2, q3]; exact k3 q1
  · rw [q2, q3]; exact k4 q1
  · rw [q2, q3]; exact k5 q1
theorem r_callV7s {z : Nat} (C0 C1 C2 C3 C4 C5 C6 : Prop) (R0 R1 R2 R3 R4 R5 R6 : Value) (H0 H1 H2 H3 H4 H5 H6 : en_H) (pc' : Nat) (hp : pc + 3 = pc') (as rest : List Value) (ha : a < 900) (hq : en_take (.invokevirtual z, n, a, b, c) st = some (as, rest)) (hE : Ev d a as h (fun v h' => (C0 ∧ v = some R0 ∧ h' = H0) ∨ (C1 ∧ v = some R1 ∧ h' = H1) ∨ (C2 ∧ v = some R2 ∧ h' = H2) ∨ (C3 ∧ v = some R3 ∧ h' = H3) ∨ (C4 ∧ v = some R4 ∧ h' = H4) ∨ (C5 ∧ v = some R5 ∧ h' = H5) ∨ (C6 ∧ v = some R6 ∧ h' = H6))) (k0 : C0 → At d xs rt bs (pc', l, R0 :: rest, H0) Ph) (k1 : C1 → At d xs rt bs (pc', l, R1 :: rest, H1) Ph) (k2 : C2 → At d xs rt bs (pc', l, R2 :: rest, H2) Ph) (k3 : C3 → At d xs rt bs (pc', l, R3 :: rest, H3) Ph) (k4 : C4 → At d xs rt bs (pc', l, R4 :: rest, H4) Ph) (k5 : C5 → At d xs rt bs (pc', l, R5 :: rest, H5) Ph) (k6 : C6 → At d xs rt bs (pc', l, R6 :: rest, H6) Ph) : Ar d xs rt bs ((.invokevirtual z, n, a, b, c) :: r) (pc, l, st, h) Ph := by
  refine r_callV pc' hp as rest ha hq hE ?_
  intro v h' hv
  rcases hv with ⟨q1, q2, q3⟩ | ⟨q1, q2, q3⟩ | ⟨q1, q2, q3⟩ | ⟨q1, q2, q3⟩ | ⟨q1, q2, q3⟩ | ⟨q1, q2, q3⟩ | ⟨q1, q2, q3⟩
  · rw [q2, q3]; exact k0 q1
  · rw [q2, q3]; exact k1 q1
  · rw [q2, q3]; exact k2 q1
  · rw [q2, q3]; exact k3 q1
  · rw [q2, q3]; exact k4 q1
  · rw [q2, q3]; exact k5 q1
  · rw [q2, q3]; exact k6 q1
theorem r_callV7v {z : Nat} (C0 C1 C2 C3 C4 C5 C6 : Prop)  (H0 H1 H2 H3 H4 H5 H6 : en_H) (pc' : Nat) (hp : pc + 3 = pc') (as rest : List Value) (ha : a < 900) (hq : en_take (.invokevirtual z, n, a, b, c) st = some (as, rest)) (hE : Ev d a as h (fun v h' => (C0 ∧ v = none ∧ h' = H0) ∨ (C1 ∧ v = none ∧ h' = H1) ∨ (C2 ∧ v = none ∧ h' = H2) ∨ (C3 ∧ v = none ∧ h' = H3) ∨ (C4 ∧ v = none ∧ h' = H4) ∨ (C5 ∧ v = none ∧ h' = H5) ∨ (C6 ∧ v = none ∧ h' = H6))) (k0 : C0 → At d xs rt bs (pc', l, rest, H0) Ph) (k1 : C1 → At d xs rt bs (pc', l, rest, H1) Ph) (k2 : C2 → At d xs rt bs (pc', l, rest, H2) Ph) (k3 : C3 → At d xs rt bs (pc', l, rest, H3) Ph) (k4 : C4 → At d xs rt bs (pc', l, rest, H4) Ph) (k5 : C5 → At d xs rt bs (pc', l, rest, H5) Ph) (k6 : C6 → At d xs rt bs (pc', l, rest, H6) Ph) : Ar d xs rt bs ((.invokevirtual z, n, a, b, c) :: r) (pc, l, st, h) Ph := by
  refine r_callV pc' hp as rest ha hq hE ?_
  intro v h' hv
  rcases hv with ⟨q1, q2, q3⟩ | ⟨q1, q2, q3⟩ | ⟨q1, q2, q3⟩ | ⟨q1, q2, q3⟩ | ⟨q1, q2, q3⟩ | ⟨q1, q2, q3⟩ | ⟨q1, q2, q3⟩
  · rw [q2, q3]; exact k0 q1
  · rw [q2, q3]; exact k1 q1
  · rw [q2, q3]; exact k2 q1
  · rw [q2, q3]; exact k3 q1
  · rw [q2, q3]; exact k4 q1
  · rw [q2, q3]; exact k5 q1
  · rw [q2, q3]; exact k6 q1
theorem r_callV8s {z : Nat} (C0 C1 C2 C3 C4 C5 C6 C7 : Prop) (R0 R1 R2 R3 R4 R5 R6 R7 : Value) (H0 H1 H2 H3 H4 H5 H6 H7 : en_H) (pc' : Nat) (hp : pc + 3 = pc') (as rest : List Value) (ha : a < 900) (hq : en_take (.invokevirtual z, n, a, b, c) st = some (as, rest)) (hE : Ev d a as h (fun v h' => (C0 ∧ v = some R0 ∧ h' = H0) ∨ (C1 ∧ v = some R1 ∧ h' = H1) ∨ (C2 ∧ v = some R2 ∧ h' = H2) ∨ (C3 ∧ v = some R3 ∧ h' = H3) ∨ (C4 ∧ v = some R4 ∧ h' = H4) ∨ (C5 ∧ v = some R5 ∧ h' = H5) ∨ (C6 ∧ v = some R6 ∧ h' = H6) ∨ (C7 ∧ v = some R7 ∧ h' = H7))) (k0 : C0 → At d xs rt bs (pc', l, R0 :: rest, H0) Ph) (k1 : C1 → At d xs rt bs (pc', l, R1 :: rest, H1) Ph) (k2 : C2 → At d xs rt bs (pc', l, R2 :: rest, H2) Ph) (k3 : C3 → At d xs rt bs (pc', l, R3 :: rest, H3) Ph) (k4 : C4 → At d xs rt bs (pc', l, R4 :: rest, H4) Ph) (k5 : C5 → At d xs rt bs (pc', l, R5 :: rest, H5) Ph) (k6 : C6 → At d xs rt bs (pc', l, R6 :: rest, H6) Ph) (k7 : C7 → At d xs rt bs (pc', l, R7 :: rest, H7) Ph) : Ar d xs rt bs ((.invokevirtual z, n, a, b, c) :: r) (pc, l, st, h) Ph := by
  refine r_callV pc' hp as rest ha hq hE ?_
  intro v h' hv
  rcases hv with ⟨q1, q2, q3⟩ | ⟨q1, q2, q3⟩ | ⟨q1, q2, q3⟩ | ⟨q1, q2, q3⟩ | ⟨q1, q2, q3⟩ | ⟨q1, q2, q3⟩ | ⟨q1, q2, q3⟩ | ⟨q1, q2, q3⟩
  · rw [q2, q3]; exact k0 q1
  · rw [q2, q3]; exact k1 q1
  · rw [q2, q3]; exact k2 q1
  · rw [q2, q3]; exact k3 q1
  · rw [q2, q3]; exact k4 q1
  · rw [q2, q3]; exact k5 q1
  · rw [q2, q3]; exact k6 q1
  · rw [q2, q3]; exact k7 q1
theorem r_callV8v {z : Nat} (C0 C1 C2 C3 C4 C5 C6 C7 : Prop)  (H0 H1 H2 H3 H4 H5 H6 H7 : en_H) (pc' : Nat) (hp : pc + 3 = pc') (as rest : List Value) (ha : a < 900) (hq : en_take (.invokevirtual z, n, a, b, c) st = some (as, rest)) (hE : Ev d a as h (fun v h' => (C0 ∧ v = none ∧ h' = H0) ∨ (C1 ∧ v = none ∧ h' = H1) ∨ (C2 ∧ v = none ∧ h' = H2) ∨ (C3 ∧ v = none ∧ h' = H3) ∨ (C4 ∧ v = none ∧ h' = H4) ∨ (C5 ∧ v = none ∧ h' = H5) ∨ (C6 ∧ v = none ∧ h' = H6) ∨ (C7 ∧ v = none ∧ h' = H7))) (k0 : C0 → At d xs rt bs (pc', l, rest, H0) Ph) (k1 : C1 → At d xs rt bs (pc', l, rest, H1) Ph) (k2 : C2 → At d xs rt bs (pc', l, rest, H2) Ph) (k3 : C3 → At d xs rt bs (pc', l, rest, H3) Ph) (k4 : C4 → At d xs rt bs (pc', l, rest, H4) Ph) (k5 : C5 → At d xs rt bs (pc', l, rest, H5) Ph) (k6 : C6 → At d xs rt bs (pc', l, rest, H6) Ph) (k7 : C7 → At d xs rt bs (pc', l, rest, H7) Ph) : Ar d xs rt bs ((.invokevirtual z, n, a, b, c) :: r) (pc, l, st, h) Ph := by
  refine r_callV pc' hp as rest ha hq hE ?_
  intro v h' hv
  rcases hv with ⟨q1, q2, q3⟩ | ⟨q1, q2, q3⟩ | ⟨q1, q2, q3⟩ | ⟨q1, q2, q3⟩ | ⟨q1, q2, q3⟩ | ⟨q1, q2, q3⟩ | ⟨q1, q2, q3⟩ | ⟨q1, q2, q3⟩
  · rw [q2, q3]; exact k0 q1
  · rw [q2, q3]; exact k1 q1
  · rw [q2, q3]; exact k2 q1
  · rw [q2, q3]; exact k3 q1
  · rw [q2, q3]; exact k4 q1
  · rw [q2, q3]; exact k5 q1
  · rw [q2, q3]; exact k6 q1
  · rw [q2, q3]; exact k7 q1
theorem r_callV9s {z : Nat} (C0 C1 C2 C3 C4 C5 C6 C7 C8 : Prop) (R0 R1 R2 R3 R4 R5 R6 R7 R8 : Value) (H0 H1 H2 H3 H4 H5 H6 H7 H8 : en_H) (pc' : Nat) (hp : pc + 3 = pc') (as rest : List Value) (ha : a < 900) (hq : en_take (.invokevirtual z, n, a, b, c) st = some (as, rest)) (hE : Ev d a as h (fun v h' => (C0 ∧ v = some R0 ∧ h' = H0) ∨ (C1 ∧ v = some R1 ∧ h' = H1) ∨ (C2 ∧ v = some R2 ∧ h' = H2) ∨ (C3 ∧ v = some R3 ∧ h' = H3) ∨ (C4 ∧ v = some R4 ∧ h' = H4) ∨ (C5 ∧ v = some R5 ∧ h' = H5) ∨ (C6 ∧ v = some R6 ∧ h' = H6) ∨ (C7 ∧ v = some R7 ∧ h' = H7) ∨ (C8 ∧ v = some R8 ∧ h' = H8))) (k0 : C0 → At d xs rt bs (pc', l, R0 :: rest, H0) Ph) (k1 : C1 → At d xs rt bs (pc', l, R1 :: rest, H1) Ph) (k2 : C2 → At d xs rt bs (pc', l, R2 :: rest, H2) Ph) (k3 : C3 → At d xs rt bs (pc', l, R3 :: rest, H3) Ph) (k4 : C4 → At d xs rt bs (pc', l, R4 :: rest, H4) Ph) (k5 : C5 → At d xs rt bs (pc', l, R5 :: rest, H5) Ph) (k6 : C6 → At d xs rt bs (pc', l, R6 :: rest, H6) Ph) (k7 : C7 → At d xs rt bs (pc', l, R7 :: rest, H7) Ph) (k8 : C8 → At d xs rt bs (pc', l, R8 :: rest, H8) Ph) : Ar d xs rt bs ((.invokevirtual z, n, a, b, c) :: r) (pc, l, st, h) Ph := by
  refine r_callV pc' hp as rest ha hq hE ?_
  intro v h' hv
  rcases hv with ⟨q1, q2, q3⟩ | ⟨q1, q2, q3⟩ | ⟨q1, q2, q3⟩ | ⟨q1, q2, q3⟩ | ⟨q1, q2, q3⟩ | ⟨q1, q2, q3⟩ | ⟨q1, q2, q3⟩ | ⟨q1, q2, q3⟩ | ⟨q1, q2, q3⟩
  · rw [q2, q3]; exact k0 q1
  · rw [q2, q3]; exact k1 q1
  · rw [q2, q3]; exact k2 q1
  · rw [q2, q3]; exact k3 q1
  · rw [q2, q3]; exact k4 q1
  · rw [q2, q3]; exact k5 q1
  · rw [q2, q3]; exact k6 q1
  · rw [q2, q3]; exact k7 q1
  · rw [q2, q3]; exact k8 q1
theorem r_callV9v {z : Nat} (C0 C1 C2 C3 C4 C5 C6 C7 C8 : Prop)  (H0 H1 H2 H3 H4 H5 H6 H7 H8 : en_H) (pc' : Nat) (hp : pc + 3 = pc') (as rest : List Value) (ha : a < 900) (hq : en_take (.invokevirtual z, n, a, b, c) st = some (as, rest)) (hE : Ev d a as h (fun v h' => (C0 ∧ v = none ∧ h' = H0) ∨ (C1 ∧ v = none ∧ h' = H1) ∨ (C2 ∧ v = none ∧ h' = H2) ∨ (C3 ∧ v = none ∧ h' = H3) ∨ (C4 ∧ v = none ∧ h' = H4) ∨ (C5 ∧ v = none ∧ h' = H5) ∨ (C6 ∧ v = none ∧ h' = H6) ∨ (C7 ∧ v = none ∧ h' = H7) ∨ (C8 ∧ v = none ∧ h' = H8))) (k0 : C0 → At d xs rt bs (pc', l, rest, H0) Ph) (k1 : C1 → At d xs rt bs (pc', l, rest, H1) Ph) (k2 : C2 → At d xs rt bs (pc', l, rest, H2) Ph) (k3 : C3 → At d xs rt bs (pc', l, rest, H3) Ph) (k4 : C4 → At d xs rt bs (pc', l, rest, H4) Ph) (k5 : C5 → At d xs rt bs (pc', l, rest, H5) Ph) (k6 : C6 → At d xs rt bs (pc', l, rest, H6) Ph) (k7 : C7 → At d xs rt bs (pc', l, rest, H7) Ph) (k8 : C8 → At d xs rt bs (pc', l, rest, H8) Ph) : Ar d xs rt bs ((.invokevirtual z, n, a, b, c) :: r) (pc, l, st, h) Ph := by
  refine r_callV pc' hp as rest ha hq hE ?_
  intro v h' hv
  rcases hv with ⟨q1, q2, q3⟩ | ⟨q1, q2, q3⟩ | ⟨q1, q2, q3⟩ | ⟨q1, q2, q3⟩ | ⟨q1, q2, q3⟩ | ⟨q1, q2, q3⟩ | ⟨q1, q2, q3⟩ | ⟨q1, q2, q3⟩ | ⟨q1, q2, q3⟩
  · rw [q2, q3]; exact k0 q1
  · rw [q2, q3]; exact k1 q1
  · rw [q2, q3]; exact k2 q1
  · rw [q2, q3]; exact k3 q1
  · rw [q2, q3]; exact k4 q1
  · rw [q2, q3]; exact k5 q1
  · rw [q2, q3]; exact k6 q1
  · rw [q2, q3]; exact k7 q1
  · rw [q2, q3]; exact k8 q1
theorem r_callV10s {z : Nat} (C0 C1 C2 C3 C4 C5 C6 C7 C8 C9 : Prop) (R0 R1 R2 R3 R4 R5 R6 R7 R8 R9 : Value) (H0 H1 H2 H3 H4 H5 H6 H7 H8 H9 : en_H) (pc' : Nat) (hp : pc + 3 = pc') (as rest : List Value) (ha : a < 900) (hq : en_take (.invokevirtual z, n, a, b, c) st = some (as, rest)) (hE : Ev d a as h (fun v h' => (C0 ∧ v = some R0 ∧ h' = H0) ∨ (C1 ∧ v = some R1 ∧ h' = H1) ∨ (C2 ∧ v = some R2 ∧ h' = H2) ∨ (C3 ∧ v = some R3 ∧ h' = H3) ∨ (C4 ∧ v = some R4 ∧ h' = H4) ∨ (C5 ∧ v = some R5 ∧ h' = H5) ∨ (C6 ∧ v = some R6 ∧ h' = H6) ∨ (C7 ∧ v = some R7 ∧ h' = H7) ∨ (C8 ∧ v = some R8 ∧ h' = H8) ∨ (C9 ∧ v = some R9 ∧ h' = H9))) (k0 : C0 → At d xs rt bs (pc', l, R0 :: rest, H0) Ph) (k1 : C1 → At d xs rt bs (pc', l, R1 :: rest, H1) Ph) (k2 : C2 → At d xs rt bs (pc', l, R2 :: rest, H2) Ph) (k3 : C3 → At d xs rt bs (pc', l, R3 :: rest, H3) Ph) (k4 : C4 → At d xs rt bs (pc', l, R4 :: rest, H4) Ph) (k5 : C5 → At d xs rt bs (pc', l, R5 :: rest, H5) Ph) (k6 : C6 → At d xs rt bs (pc', l, R6 :: rest, H6) Ph) (k7 : C7 → At d xs rt bs (pc', l, R7 :: rest, H7) Ph) (k8 : C8 → At d xs rt bs (pc', l, R8 :: rest, H8) Ph) (k9 : C9 → At d xs rt bs (pc', l, R9 :: rest, H9) Ph) : Ar d xs rt bs ((.invokevirtual z, n, a, b, c) :: r) (pc, l, st, h) Ph := by
  refine r_callV pc' hp as rest ha hq hE ?_
  intro v h' hv
  rcases hv with ⟨q1, q2, q3⟩ | ⟨q1, q2, q3⟩ | ⟨q1, q2, q3⟩ | ⟨q1, q2, q3⟩ | ⟨q1, q2, q3⟩ | ⟨q1, q2, q3⟩ | ⟨q1, q2, q3⟩ | ⟨q1, q2, q3⟩ | ⟨q1, q2, q3⟩ | ⟨q1, q2, q3⟩
  · rw [q2, q3]; exact k0 q1
  · rw [q2, q3]; exact k1 q1
  · rw [q2, q3]; exact k2 q1
  · rw [q2, q3]; exact k3 q1
  · rw [q2, q3]; exact k4 q1
  · rw [q2, q3]; exact k5 q1
  · rw [q2, q3]; exact k6 q1
  · rw [q2, q3]; exact k7 q1
  · rw [q2, q3]; exact k8 q1
  · rw [q2, q3]; exact k9 q1
theorem r_callV10v {z : Nat} (C0 C1 C2 C3 C4 C5 C6 C7 C8 C9 : Prop)  (H0 H1 H2 H3 H4 H5 H6 H7 H8 H9 : en_H) (pc' : Nat) (hp : pc + 3 = pc') (as rest : List Value) (ha : a < 900) (hq : en_take (.invokevirtual z, n, a, b, c) st = some (as, rest)) (hE : Ev d a as h (fun v h' => (C0 ∧ v = none ∧ h' = H0) ∨ (C1 ∧ v = none ∧ h' = H1) ∨ (C2 ∧ v = none ∧ h' = H2) ∨ (C3 ∧ v = none ∧ h' = H3) ∨ (C4 ∧ v = none ∧ h' = H4) ∨ (C5 ∧ v = none ∧ h' = H5) ∨ (C6 ∧ v = none ∧ h' = H6) ∨ (C7 ∧ v = none ∧ h' = H7) ∨ (C8 ∧ v = none ∧ h' = H8) ∨ (C9 ∧ v = none ∧ h' = H9))) (k0 : C0 → At d xs rt bs (pc', l, rest, H0) Ph) (k1 : C1 → At d xs rt bs (pc', l, rest, H1) Ph) (k2 : C2 → At d xs rt bs (pc', l, rest, H2) Ph) (k3 : C3 → At d xs rt bs (pc', l, rest, H3) Ph) (k4 : C4 → At d xs rt bs (pc', l, rest, H4) Ph) (k5 : C5 → At d xs rt bs (pc', l, rest, H5) Ph) (k6 : C6 → At d xs rt bs (pc', l, rest, H6) Ph) (k7 : C7 → At d xs rt bs (pc', l, rest, H7) Ph) (k8 : C8 → At d xs rt bs (pc', l, rest, H8) Ph) (k9 : C9 → At d xs rt bs (pc', l, rest, H9) Ph) : Ar d xs rt bs ((.invokevirtual z, n, a, b, c) :: r) (pc, l, st, h) Ph := by
  refine r_callV pc' hp as rest ha hq hE ?_
  intro v h' hv
  rcases hv with ⟨q1, q2, q3⟩ | ⟨q1, q2, q3⟩ | ⟨q1, q2, q3⟩ | ⟨q1, q2, q3⟩ | ⟨q1, q2, q3⟩ | ⟨q1, q2, q3⟩ | ⟨q1, q2, q3⟩ | ⟨q1, q2, q3⟩ | ⟨q1, q2, q3⟩ | ⟨q1, q2, q3⟩
  · rw [q2, q3]; exact k0 q1
  · rw [q2, q3]; exact k1 q1
  · rw [q2, q3]; exact k2 q1
  · rw [q2, q3]; exact k3 q1
  · rw [q2, q3]; exact k4 q1
  · rw [q2, q3]; exact k5 q1
  · rw [q2, q3]; exact k6 q1
  · rw [q2, q3]; exact k7 q1
  · rw [q2, q3]; exact k8 q1
  · rw [q2, q3]; exact k9 q1
theorem r_callV11s {z : Nat} (C0 C1 C2 C3 C4 C5 C6 C7 C8 C9 C10 : Prop) (R0 R1 R2 R3 R4 R5 R6 R7 R8 R9 R10 : Value) (H0 H1 H2 H3 H4 H5 H6 H7 H8 H9 H10 : en_H) (pc' : Nat) (hp : pc + 3 = pc') (as rest : List Value) (ha : a < 900) (hq : en_take (.invokevirtual z, n, a, b, c) st = some (as, rest)) (hE : Ev d a as h (fun v h' => (C0 ∧ v = some R0 ∧ h' = H0) ∨ (C1 ∧ v = some R1 ∧ h' = H1) ∨ (C2 ∧ v = some R2 ∧ h' = H2) ∨ (C3 ∧ v = some R3 ∧ h' = H3) ∨ (C4 ∧ v = some R4 ∧ h' = H4) ∨ (C5 ∧ v = some R5 ∧ h' = H5) ∨ (C6 ∧ v = some R6 ∧ h' = H6) ∨ (C7 ∧ v = some R7 ∧ h' = H7) ∨ (C8 ∧ v = some R8 ∧ h' = H8) ∨ (C9 ∧ v = some R9 ∧ h' = H9) ∨ (C10 ∧ v = some R10 ∧ h' = H10))) (k0 : C0 → At d xs rt bs (pc', l, R0 :: rest, H0) Ph) (k1 : C1 → At d xs rt bs (pc', l, R1 :: rest, H1) Ph) (k2 : C2 → At d xs rt bs (pc', l, R2 :: rest, H2) Ph) (k3 : C3 → At d xs rt bs (pc', l, R3 :: rest, H3) Ph) (k4 : C4 → At d xs rt bs (pc', l, R4 :: rest, H4) Ph) (k5 : C5 → At d xs rt bs (pc', l, R5 :: rest, H5) Ph) (k6 : C6 → At d xs rt bs (pc', l, R6 :: rest, H6) Ph) (k7 : C7 → At d xs rt bs (pc', l, R7 :: rest, H7) Ph) (k8 : C8 → At d xs rt bs (pc', l, R8 :: rest, H8) Ph) (k9 : C9 → At d xs rt bs (pc', l, R9 :: rest, H9) Ph) (k10 : C10 → At d xs rt bs (pc', l, R10 :: rest, H10) Ph) : Ar d xs rt bs ((.invokevirtual z, n, a, b, c) :: r) (pc, l, st, h) Ph := by
  refine r_callV pc' hp as rest ha hq hE ?_
  intro v h' hv
  rcases hv with ⟨q1, q2, q3⟩ | ⟨q1, q2, q3⟩ | ⟨q1, q2, q3⟩ | ⟨q1, q2, q3⟩ | ⟨q1, q2, q3⟩ | ⟨q1, q2, q3⟩ | ⟨q1, q2, q3⟩ | ⟨q1, q2, q3⟩ | ⟨q1, q2, q3⟩ | ⟨q1, q2, q3⟩ | ⟨q1, q2, q3⟩
  · rw [q2, q3]; exact k0 q1
  · rw [q2, q3]; exact k1 q1
  · rw [q2, q3]; exact k2 q1
  · rw [q2, q3]; exact k3 q1
  · rw [q2, q3]; exact k4 q1
  · rw [q2, q3]; exact k5 q1
  · rw [q2, q3]; exact k6 q1
  · rw [q2, q3]; exact k7 q1
  · rw [q2, q3]; exact k8 q1
  · rw [q2, q3]; exact k9 q1
  · rw [q2, q3]; exact k10 q1
theorem r_callV11v {z : Nat} (C0 C1 C2 C3 C4 C5 C6 C7 C8 C9 C10 : Prop)  (H0 H1 H2 H3 H4 H5 H6 H7 H8 H9 H10 : en_H) (pc' : Nat) (hp : pc + 3 = pc') (as rest : List Value) (ha : a < 900) (hq : en_take (.invokevirtual z, n, a, b, c) st = some (as, rest)) (hE : Ev d a as h (fun v h' => (C0 ∧ v = none ∧ h' = H0) ∨ (C1 ∧ v = none ∧ h' = H1) ∨ (C2 ∧ v = none ∧ h' = H2) ∨ (C3 ∧ v = none ∧ h' = H3) ∨ (C4 ∧ v = none ∧ h' = H4) ∨ (C5 ∧ v = none ∧ h' = H5) ∨ (C6 ∧ v = none ∧ h' = H6) ∨ (C7 ∧ v = none ∧ h' = H7) ∨ (C8 ∧ v = none ∧ h' = H8) ∨ (C9 ∧ v = none ∧ h' = H9) ∨ (C10 ∧ v = none ∧ h' = H10))) (k0 : C0 → At d xs rt bs (pc', l, rest, H0) Ph) (k1 : C1 → At d xs rt bs (pc', l, rest, H1) Ph) (k2 : C2 → At d xs rt bs (pc', l, rest, H2) Ph) (k3 : C3 → At d xs rt bs (pc', l, rest, H3) Ph) (k4 : C4 → At d xs rt bs (pc', l, rest, H4) Ph) (k5 : C5 → At d xs rt bs (pc', l, rest, H5) Ph) (k6 : C6 → At d xs rt bs (pc', l, rest, H6) Ph) (k7 : C7 → At d xs rt bs (pc', l, rest, H7) Ph) (k8 : C8 → At d xs rt bs (pc', l, rest, H8) Ph) (k9 : C9 → At d xs rt bs (pc', l, rest, H9) Ph) (k10 : C10 → At d xs rt bs (pc', l, rest, H10) Ph) : Ar d xs rt bs ((.invokevirtual z, n, a, b, c) :: r) (pc, l, st, h) Ph := by
  refine r_callV pc' hp as rest ha hq hE ?_
  intro v h' hv
  rcases hv with ⟨q1, q2, q3⟩ | ⟨q1, q2, q3⟩ | ⟨q1, q2, q3⟩ | ⟨q1, q2, q3⟩ | ⟨q1, q2, q3⟩ | ⟨q1, q2, q3⟩ | ⟨q1, q2, q3⟩ | ⟨q1, q2, q3⟩ | ⟨q1, q2, q3⟩ | ⟨q1, q2, q3⟩ | ⟨q1, q2, q3⟩
  · rw [q2, q3]; exact k0 q1
  · rw [q2, q3]; exact k1 q1
  · rw [q2, q3]; exact k2 q1
  · rw [q2, q3]; exact k3 q1
  · rw [q2, q3]; exact k4 q1
  · rw [q2, q3]; exact k5 q1
  · rw [q2, q3]; exact k6 q1
  · rw [q2, q3]; exact k7 q1
  · rw [q2, q3]; exact k8 q1
  · rw [q2, q3]; exact k9 q1
  · rw [q2, q3]; exact k10 q1
theorem r_callV12s {z : Nat} (C0 C1 C2 C3 C4 C5 C6 C7 C8 C9 C10 C11 : Prop) (R0 R1 R2 R3 R4 R5 R6 R7 R8 R9 R10 R11 : Value) (H0 H1 H2 H3 H4 H5 H6 H7 H8 H9 H10 H11 : en_H) (pc' : Nat) (hp : pc + 3 = pc') (as rest : List Value) (ha : a < 900) (hq : en_take (.invokevirtual z, n, a, b, c) st = some (as, rest)) (hE : Ev d a as h (fun v h' => (C0 ∧ v = some R0 ∧ h' = H0) ∨ (C1 ∧ v = some R1 ∧ h' = H1) ∨ (C2 ∧ v = some R2 ∧ h' = H2) ∨ (C3 ∧ v = some R3 ∧ h' = H3) ∨ (C4 ∧ v = some R4 ∧ h' = H4) ∨ (C5 ∧ v = some R5 ∧ h' = H5) ∨ (C6 ∧ v = some R6 ∧ h' = H6) ∨ (C7 ∧ v = some R7 ∧ h' = H7) ∨ (C8 ∧ v = some R8 ∧ h' = H8) ∨ (C9 ∧ v = some R9 ∧ h' = H9) ∨ (C10 ∧ v = some R10 ∧ h' = H10) ∨ (C11 ∧ v = some R11 ∧ h' = H11))) (k0 : C0 → At d xs rt bs (pc', l, R0 :: rest, H0) Ph) (k1 : C1 → At d xs rt bs (pc', l, R1 :: rest, H1) Ph) (k2 : C2 → At d xs rt bs (pc', l, R2 :: rest, H2) Ph) (k3 : C3 → At d xs rt bs (pc', l, R3 :: rest, H3) Ph) (k4 : C4 → At d xs rt bs (pc', l, R4 :: rest, H4) Ph) (k5 : C5 → At d xs rt bs (pc', l, R5 :: rest, H5) Ph) (k6 : C6 → At d xs rt bs (pc', l, R6 :: rest, H6) Ph) (k7 : C7 → At d xs rt bs (pc', l, R7 :: rest, H7) Ph) (k8 : C8 → At d xs rt bs (pc', l, R8 :: rest, H8) Ph) (k9 : C9 → At d xs rt bs (pc', l, R9 :: rest, H9) Ph) (k10 : C10 → At d xs rt bs (pc', l, R10 :: rest, H10) Ph) (k11 : C11 → At d xs rt bs (pc', l, R11 :: rest, H11) Ph) : Ar d xs rt bs ((.invokevirtual z, n, a, b, c) :: r) (pc, l, st, h) Ph := by
  refine r_callV pc' hp as rest ha hq hE ?_
  intro v h' hv
  rcases hv with ⟨q1, q2, q3⟩ | ⟨q1, q2, q3⟩ | ⟨q1, q2, q3⟩ | ⟨q1, q2, q3⟩ | ⟨q1, q2, q3⟩ | ⟨q1, q2, q3⟩ | ⟨q1, q2, q3⟩ | ⟨q1, q2, q3⟩ | ⟨q1, q2, q3⟩ | ⟨q1, q2, q3⟩ | ⟨q1, q2, q3⟩ | ⟨q1, q2, q3⟩
  · rw [q2, q3]; exact k0 q1
  · rw [q2, q3]; exact k1 q1
  · rw [q2, q3]; exact k2 q1
  · rw [q2, q3]; exact k3 q1
  · rw [q2, q3]; exact k4 q1
  · rw [q2, q3]; exact k5 q1
  · rw [q2, q3]; exact k6 q1
  · rw [q2, q3]; exact k7 q1
  · rw [q2, q3]; exact k8 q1
  · rw [q2, q3]; exact k9 q1
  · rw [q2, q3]; exact k10 q1
  · rw [q2, q3]; exact k11 q1
theorem r_callV12v {z : Nat} (C0 C1 C2 C3 C4 C5 C6 C7 C8 C9 C10 C11 : Prop)  (H0 H1 H2 H3 H4 H5 H6 H7 H8 H9 H10 H11 : en_H) (pc' : Nat) (hp : pc + 3 = pc') (as rest : List Value) (ha : a < 900) (hq : en_take (.invokevirtual z, n, a, b, c) st = some (as, rest)) (hE : Ev d a as h (fun v h' => (C0 ∧ v = none ∧ h' = H0) ∨ (C1 ∧ v = none ∧ h' = H1) ∨ (C2 ∧ v = none ∧ h' = H2) ∨ (C3 ∧ v = none ∧ h' = H3) ∨ (C4 ∧ v = none ∧ h' = H4) ∨ (C5 ∧ v = none ∧ h' = H5) ∨ (C6 ∧ v = none ∧ h' = H6) ∨ (C7 ∧ v = none ∧ h' = H7) ∨ (C8 ∧ v = none ∧ h' = H8) ∨ (C9 ∧ v = none ∧ h' = H9) ∨ (C10 ∧ v = none ∧ h' = H10) ∨ (C11 ∧ v = none ∧ h' = H11))) (k0 : C0 → At d xs rt bs (pc', l, rest, H0) Ph) (k1 : C1 → At d xs rt bs (pc', l, rest, H1) Ph) (k2 : C2 → At d xs rt bs (pc', l, rest, H2) Ph) (k3 : C3 → At d xs rt bs (pc', l, rest, H3) Ph) (k4 : C4 → At d xs rt bs (pc', l, rest, H4) Ph) (k5 : C5 → At d xs rt bs (pc', l, rest, H5) Ph) (k6 : C6 → At d xs rt bs (pc', l, rest, H6) Ph) (k7 : C7 → At d xs rt bs (pc', l, rest, H7) Ph) (k8 : C8 → At d xs rt bs (pc', l, rest, H8) Ph) (k9 : C9 → At d xs rt bs (pc', l, rest, H9) Ph) (k10 : C10 → At d xs rt bs (pc', l, rest, H10) Ph) (k11 : C11 → At d xs rt bs (pc', l, rest, H11) Ph) : Ar d xs rt bs ((.invokevirtual z, n, a, b, c) :: r) (pc, l, st, h) Ph := by
  refine r_callV pc' hp as rest ha hq hE ?_
  intro v h' hv
  rcases hv with ⟨q1, q2, q3⟩ | ⟨q1, q2, q3⟩ | ⟨q1, q2, q3⟩ | ⟨q1, q2, q3⟩ | ⟨q1, q2, q3⟩ | ⟨q1, q2, q3⟩ | ⟨q1, q2, q3⟩ | ⟨q1, q2, q3⟩ | ⟨q1, q2, q3⟩ | ⟨q1, q2, q3⟩ | ⟨q1, q2, q3⟩ | ⟨q1, q2, q3⟩
  · rw [q2, q3]; exact k0 q1
  · rw [q2, q3]; exact k1 q1
  · rw [q2, q3]; exact k2 q1
  · rw [q2, q3]; exact k3 q1
  · rw [q2, q3]; exact k4 q1
  · rw [q2, q3]; exact k5 q1
  · rw [q2, q3]; exact k6 q1
  · rw [q2, q3]; exact k7 q1
  · rw [q2, q3]; exact k8 q1
  · rw [q2, q3]; exact k9 q1
  · rw [q2, q3]; exact k10 q1
  · rw [q2, q3]; exact k11 q1
theorem r_callS1s {z : Nat} (C0 : Prop) (R0 : Value) (H0 : en_H) (pc' : Nat) (hp : pc + 3 = pc') (as rest : List Value) (ha : a < 900) (hq : en_take (.invokestatic z, n, a, b, c) st = some (as, rest)) (hE : Ev d a as h (fun v h' => (C0 ∧ v = some R0 ∧ h' = H0))) (k0 : C0 → At d xs rt bs (pc', l, R0 :: rest, H0) Ph) : Ar d xs rt bs ((.invokestatic z, n, a, b, c) :: r) (pc, l, st, h) Ph := by
  refine r_callS pc' hp as rest ha hq hE ?_
  intro v h' hv
  obtain ⟨q1, q2, q3⟩ := hv
  rw [q2, q3]
  exact k0 q1
theorem r_callS1v {z : Nat} (C0 : Prop)  (H0 : en_H) (pc' : Nat) (hp : pc + 3 = pc') (as rest : List Value) (ha : a < 900) (hq : en_take (.invokestatic z, n, a, b, c) st = some (as, rest)) (hE : Ev d a as h (fun v h' => (C0 ∧ v = none ∧ h' = H0))) (k0 : C0 → At d xs rt bs (pc', l, rest, H0) Ph) : Ar d xs rt bs ((.invokestatic z, n, a, b, c) :: r) (pc, l, st, h) Ph := by
  refine r_callS pc' hp as rest ha hq hE ?_
  intro v h' hv
  obtain ⟨q1, q2, q3⟩ := hv
  rw [q2, q3]
  exact k0 q1
theorem r_callS2s {z : Nat} (C0 C1 : Prop) (R0 R1 : Value) (H0 H1 : en_H) (pc' : Nat) (hp : pc + 3 = pc') (as rest : List Value) (ha : a < 900) (hq : en_take (.invokestatic z, n, a, b, c) st = some (as, rest)) (hE : Ev d a as h (fun v h' => (C0 ∧ v = some R0 ∧ h' = H0) ∨ (C1 ∧ v = some R1 ∧ h' = H1))) (k0 : C0 → At d xs rt bs (pc', l, R0 :: rest, H0) Ph) (k1 : C1 → At d xs rt bs (pc', l, R1 :: rest, H1) Ph) : Ar d xs rt bs ((.invokestatic z, n, a, b, c) :: r) (pc, l, st, h) Ph := by
  refine r_callS pc' hp as rest ha hq hE ?_
  intro v h' hv
  rcases hv with ⟨q1, q2, q3⟩ | ⟨q1, q2, q3⟩
  · rw [q2, q3]; exact k0 q1
  · rw [q2, q3]; exact k1 q1
theorem r_callS2v {z : Nat} (C0 C1 : Prop)  (H0 H1 : en_H) (pc' : Nat) (hp : pc + 3 = pc') (as rest : List Value) (ha : a < 900) (hq : en_take (.invokestatic z, n, a, b, c) st = some (as, rest)) (hE : Ev d a as h (fun v h' => (C0 ∧ v = none ∧ h' = H0) ∨ (C1 ∧ v = none ∧ h' = H1))) (k0 : C0 → At d xs rt bs (pc', l, rest, H0) Ph) (k1 : C1 → At d xs rt bs (pc', l, rest, H1) Ph) : Ar d xs rt bs ((.invokestatic z, n, a, b, c) :: r) (pc, l, st, h) Ph := by
  refine r_callS pc' hp as rest ha hq hE ?_
  intro v h' hv
  rcases hv with ⟨q1, q2, q3⟩ | ⟨q1, q2, q3⟩
  · rw [q2, q3]; exact k0 q1
  · rw [q2, q3]; exact k1 q1
theorem r_callS3s {z : Nat} (C0 C1 C2 : Prop) (R0 R1 R2 : Value) (H0 H1 H2 : en_H) (pc' : Nat) (hp : pc + 3 = pc') (as rest : List Value) (ha : a < 900) (hq : en_take (.invokestatic z, n, a, b, c) st = some (as, rest)) (hE : Ev d a as h (fun v h' => (C0 ∧ v = some R0 ∧ h' = H0) ∨ (C1 ∧ v = some R1 ∧ h' = H1) ∨ (C2 ∧ v = some R2 ∧ h' = H2))) (k0 : C0 → At d xs rt bs (pc', l, R0 :: rest, H0) Ph) (k1 : C1 → At d xs rt bs (pc', l, R1 :: rest, H1) Ph) (k2 : C2 → At d xs rt bs (pc', l, R2 :: rest, H2) Ph) : Ar d xs rt bs ((.invokestatic z, n, a, b, c) :: r) (pc, l, st, h) Ph := by
  refine r_callS pc' hp as rest ha hq hE ?_
  intro v h' hv
  rcases hv with ⟨q1, q2, q3⟩ | ⟨q1, q2, q3⟩ | ⟨q1, q2, q3⟩
  · rw [q2, q3]; exact k0 q1
  · rw [q2, q3]; exact k1 q1
  · rw [q2, q3]; exact k2 q1
theorem r_callS3v {z : Nat} (C0 C1 C2 : Prop)  (H0 H1 H2 : en_H) (pc' : Nat) (hp : pc + 3 = pc') (as rest : List Value) (ha : a < 900) (hq : en_take (.invokestatic z, n, a, b, c) st = some (as, rest)) (hE : Ev d a as h (fun v h' => (C0 ∧ v = none ∧ h' = H0) ∨ (C1 ∧ v = none ∧ h' = H1) ∨ (C2 ∧ v = none ∧ h' = H2))) (k0 : C0 → At d xs rt bs (pc', l, rest, H0) Ph) (k1 : C1 → At d xs rt bs (pc', l, rest, H1) Ph) (k2 : C2 → At d xs rt bs (pc', l, rest, H2) Ph) : Ar d xs rt bs ((.invokestatic z, n, a, b, c) :: r) (pc, l, st, h) Ph := by
  refine r_callS pc' hp as rest ha hq hE ?_
  intro v h' hv
  rcases hv with ⟨q1, q2, q3⟩ | ⟨q1, q2, q3⟩ | ⟨q1, q2, q3⟩
  · rw [q2, q3]; exact k0 q1
  · rw [q2, q3]; exact k1 q1
  · rw [q2, q3]; exact k2 q1
theorem r_callS4s {z : Nat} (C0 C1 C2 C3 : Prop) (R0 R1 R2 R3 : Value) (H0 H1 H2 H3 : en_H) (pc' : Nat) (hp : pc + 3 = pc') (as rest : List Value) (ha : a < 900) (hq : en_take (.invokestatic z, n, a, b, c) st = some (as, rest)) (hE : Ev d a as h (fun v h' => (C0 ∧ v = some R0 ∧ h' = H0) ∨ (C1 ∧ v = some R1 ∧ h' = H1) ∨ (C2 ∧ v = some R2 ∧ h' = H2) ∨ (C3 ∧ v = some R3 ∧ h' = H3))) (k0 : C0 → At d xs rt bs (pc', l, R0 :: rest, H0) Ph) (k1 : C1 → At d xs rt bs (pc', l, R1 :: rest, H1) Ph) (k2 : C2 → At d xs rt bs (pc', l, R2 :: rest, H2) Ph) (k3 : C3 → At d xs rt bs (pc', l, R3 :: rest, H3) Ph) : Ar d xs rt bs ((.invokestatic z, n, a, b, c) :: r) (pc, l, st, h) Ph := by
  refine r_callS pc' hp as rest ha hq hE ?_
  intro v h' hv
  rcases hv with ⟨q1, q2, q3⟩ | ⟨q1, q2, q3⟩ | ⟨q1, q2, q3⟩ | ⟨q1, q2, q3⟩
  · rw [q2, q3]; exact k0 q1
  · rw [q2, q3]; exact k1 q1
  · rw [q2, q3]; exact k2 q1
  · rw [q2, q3]; exact k3 q1
theorem r_callS4v {z : Nat} (C0 C1 C2 C3 : Prop)  (H0 H1 H2 H3 : en_H) (pc' : Nat) (hp : pc + 3 = pc') (as rest : List Value) (ha : a < 900) (hq : en_take (.invokestatic z, n, a, b, c) st = some (as, rest)) (hE : Ev d a as h (fun v h' => (C0 ∧ v = none ∧ h' = H0) ∨ (C1 ∧ v = none ∧ h' = H1) ∨ (C2 ∧ v = none ∧ h' = H2) ∨ (C3 ∧ v = none ∧ h' = H3))) (k0 : C0 → At d xs rt bs (pc', l, rest, H0) Ph) (k1 : C1 → At d xs rt bs (pc', l, rest, H1) Ph) (k2 : C2 → At d xs rt bs (pc', l, rest, H2) Ph) (k3 : C3 → At d xs rt bs (pc', l, rest, H3) Ph) : Ar d xs rt bs ((.invokestatic z, n, a, b, c) :: r) (pc, l, st, h) Ph := by
  refine r_callS pc' hp as rest ha hq hE ?_
  intro v h' hv
  rcases hv with ⟨q1, q2, q3⟩ | ⟨q1, q2, q3⟩ | ⟨q1, q2, q3⟩ | ⟨q1, q2, q3⟩
  · rw [q2, q3]; exact k0 q1
  · rw [q2, q3]; exact k1 q1
  · rw [q2, q3]; exact k2 q1
  · rw [q2, q3]; exact k3 q1
theorem r_callS5s {z : Nat} (C0 C1 C2 C3 C4 : Prop) (R0 R1 R2 R3 R4 : Value) (H0 H1 H2 H3 H4 : en_H) (pc' : Nat) (hp : pc + 3 = pc') (as rest : List Value) (ha : a < 900) (hq : en_take (.invokestatic z, n, a, b, c) st = some (as, rest)) (hE : Ev d a as h (fun v h' => (C0 ∧ v = some R0 ∧ h' = H0) ∨ (C1 ∧ v = some R1 ∧ h' = H1) ∨ (C2 ∧ v = some R2 ∧ h' = H2) ∨ (C3 ∧ v = some R3 ∧ h' = H3) ∨ (C4 ∧ v = some R4 ∧ h' = H4))) (k0 : C0 → At d xs rt bs (pc', l, R0 :: rest, H0) Ph) (k1 : C1 → At d xs rt bs (pc', l, R1 :: rest, H1) Ph) (k2 : C2 → At d xs rt bs (pc', l, R2 :: rest, H2) Ph) (k3 : C3 → At d xs rt bs (pc', l, R3 :: rest, H3) Ph) (k4 : C4 → At d xs rt bs (pc', l, R4 :: rest, H4) Ph) : Ar d xs rt bs ((.invokestatic z, n, a, b, c) :: r) (pc, l, st, h) Ph := by
  refine r_callS pc' hp as rest ha hq hE ?_
  intro v h' hv
  rcases hv with ⟨q1, q2, q3⟩ | ⟨q1, q2, q3⟩ | ⟨q1, q2, q3⟩ | ⟨q1, q2, q3⟩ | ⟨q1, q2, q3⟩
  · rw [q2, q3]; exact k0 q1
  · rw [q2, q3]; exact k1 q1
  · rw [q2, q3]; exact k2 q1
  · rw [q2, q3]; exact k3 q1
  · rw [q2, q3]; exact k4 q1
theorem r_callS5v {z : Nat} (C0 C1 C2 C3 C4 : Prop)  (H0 H1 H2 H3 H4 : en_H) (pc' : Nat) (hp : pc + 3 = pc') (as rest : List Value) (ha : a < 900) (hq : en_take (.invokestatic z, n, a, b, c) st = some (as, rest)) (hE : Ev d a as h (fun v h' => (C0 ∧ v = none ∧ h' = H0) ∨ (C1 ∧ v = none ∧ h' = H1) ∨ (C2 ∧ v = none ∧ h' = H2) ∨ (C3 ∧ v = none ∧ h' = H3) ∨ (C4 ∧ v = none ∧ h' = H4))) (k0 : C0 → At d xs rt bs (pc', l, rest, H0) Ph) (k1 : C1 → At d xs rt bs (pc', l, rest, H1) Ph) (k2 : C2 → At d xs rt bs (pc', l, rest, H2) Ph) (k3 : C3 → At d xs rt bs (pc', l, rest, H3) Ph) (k4 : C4 → At d xs rt bs (pc', l, rest, H4) Ph) : Ar d xs rt bs ((.invokestatic z, n, a, b, c) :: r) (pc, l, st, h) Ph := by
  refine r_callS pc' hp as rest ha hq hE ?_
  intro v h' hv
  rcases hv with ⟨q1, q2, q3⟩ | ⟨q1, q2, q3⟩ | ⟨q1, q2, q3⟩ | ⟨q1, q2, q3⟩ | ⟨q1, q2, q3⟩
  · rw [q2, q3]; exact k0 q1
  · rw [q2, q3]; exact k1 q1
  · rw [q2, q3]; exact k2 q1
  · rw [q2, q3]; exact k3 q1
  · rw [q2, q3]; exact k4 q1
theorem r_callS6s {z : Nat} (C0 C1 C2 C3 C4 C5 : Prop) (R0 R1 R2 R3 R4 R5 : Value) (H0 H1 H2 H3 H4 H5 : en_H) (pc' : Nat) (hp : pc + 3 = pc') (as rest : List Value) (ha : a < 900) (hq : en_take (.invokestatic z, n, a, b, c) st = some (as, rest)) (hE : Ev d a as h (fun v h' => (C0 ∧ v = some R0 ∧ h' = H0) ∨ (C1 ∧ v = some R1 ∧ h' = H1) ∨ (C2 ∧ v = some R2 ∧ h' = H2) ∨ (C3 ∧ v = some R3 ∧ h' = H3) ∨ (C4 ∧ v = some R4 ∧ h' = H4) ∨ (C5 ∧ v = some R5 ∧ h' = H5))) (k0 : C0 → At d xs rt bs (pc', l, R0 :: rest, H0) Ph) (k1 : C1 → At d xs rt bs (pc', l, R1 :: rest, H1) Ph) (k2 : C2 → At d xs rt bs (pc', l, R2 :: rest, H2) Ph) (k3 : C3 → At d xs rt bs (pc', l, R3 :: rest, H3) Ph) (k4 : C4 → At d xs rt bs (pc', l, R4 :: rest, H4) Ph) (k5 : C5 → At d xs rt bs (pc', l, R5 :: rest, H5) Ph) : Ar d xs rt bs ((.invokestatic z, n, a, b, c) :: r) (pc, l, st, h) Ph := by
  refine r_callS pc' hp as rest ha hq hE ?_
  intro v h' hv
  rcases hv with ⟨q1, q2, q3⟩ | ⟨q1, q2, q3⟩ | ⟨q1, q2, q3⟩ | ⟨q1, q2, q3⟩ | ⟨q1, q2, q3⟩ | ⟨q1, q2, q3⟩
  · rw [q2, q3]; exact k0 q1
  · rw [q2, q3]; exact k1 q1
  · rw [q2, q3]; exact k2 q1
  · rw [q2, q3]; exact k3 q1
  · rw [q2, q3]; exact k4 q1
  · rw [q2, q3]; exact k5 q1
theorem r_callS6v {z : Nat} (C0 C1 C2 C3 C4 C5 : Prop)  (H0 H1 H2 H3 H4 H5 : en_H) (pc' : Nat) (hp : pc + 3 = pc') (as rest : List Value) (ha : a < 900) (hq : en_take (.invokestatic z, n, a, b, c) st = some (as, rest)) (hE : Ev d a as h (fun v h' => (C0 ∧ v = none ∧ h' = H0) ∨ (C1 ∧ v = none ∧ h' = H1) ∨ (C2 ∧ v = none ∧ h' = H2) ∨ (C3 ∧ v = none ∧ h' = H3) ∨ (C4 ∧ v = none ∧ h' = H4) ∨ (C5 ∧ v = none ∧ h' = H5))) (k0 : C0 → At d xs rt bs (pc', l, rest, H0) Ph) (k1 : C1 → At d xs rt bs (pc', l, rest, H1) Ph) (k2 : C2 → At d xs rt bs (pc', l, rest, H2) Ph) (k3 : C3 → At d xs rt bs (pc', l, rest, H3) Ph) (k4 : C4 → At d xs rt bs (pc', l, rest, H4) Ph) (k5 : C5 → At d xs rt bs (pc', l, rest, H5) Ph) : Ar d xs rt bs ((.invokestatic z, n, a, b, c) :: r) (pc, l, st, h) Ph := by
  refine r_callS pc' hp as rest ha hq hE ?_
  intro v h' hv
  rcases hv with ⟨q1, q2, q3⟩ | ⟨q1, q2, q3⟩ | ⟨q1, q2, q3⟩ | ⟨q1, q2, q3⟩ | ⟨q1, q2, q3⟩ | ⟨q1, q2, q3⟩
  · rw [q2, q3]; exact k0 q1
  · rw [q2, q3]; exact k1 q1
  · rw [q2, q3]; exact k2 q1
  · rw [q2, q3]; exact k3 q1
  · rw [q2, q3]; exact k4 q1
  · rw [q2, q3]; exact k5 q1
theorem r_callS7s {z : Nat} (C0 C1 C2 C3 C4 C5 C6 : Prop) (R0 R1 R2 R3 R4 R5 R6 : Value) (H0 H1 H2 H3 H4 H5 H6 : en_H) (pc' : Nat) (hp : pc + 3 = pc') (as rest : List Value) (ha : a < 900) (hq : en_take (.invokestatic z, n, a, b, c) st = some (as, rest)) (hE : Ev d a as h (fun v h' => (C0 ∧ v = some R0 ∧ h' = H0) ∨ (C1 ∧ v = some R1 ∧ h' = H1) ∨ (C2 ∧ v = some R2 ∧ h' = H2) ∨ (C3 ∧ v = some R3 ∧ h' = H3) ∨ (C4 ∧ v = some R4 ∧ h' = H4) ∨ (C5 ∧ v = some R5 ∧ h' = H5) ∨ (C6 ∧ v = some R6 ∧ h' = H6))) (k0 : C0 → At d xs rt bs (pc', l, R0 :: rest, H0) Ph) (k1 : C1 → At d xs rt bs (pc', l, R1 :: rest, H1) Ph) (k2 : C2 → At d xs rt bs (pc', l, R2 :: rest, H2) Ph) (k3 : C3 → At d xs rt bs (pc', l, R3 :: rest, H3) Ph) (k4 : C4 → At d xs rt bs (pc', l, R4 :: rest, H4) Ph) (k5 : C5 → At d xs rt bs (pc', l, R5 :: rest, H5) Ph) (k6 : C6 → At d xs rt bs (pc', l, R6 :: rest, H6) Ph) : Ar d xs rt bs ((.invokestatic z, n, a, b, c) :: r) (pc, l, st, h) Ph := by
  refine r_callS pc' hp as rest ha hq hE ?_
  intro v h' hv
  rcases hv with ⟨q1, q2, q3⟩ | ⟨q1, q2, q3⟩ | ⟨q1, q2, q3⟩ | ⟨q1, q2, q3⟩ | ⟨q1, q2, q3⟩ | ⟨q1, q2, q3⟩ | ⟨q1, q2, q3⟩
  · rw [q2, q3]; exact k0 q1
  · rw [q2, q3]; exact k1 q1
  · rw [q2, q3]; exact k2 q1
  · rw [q2, q3]; exact k3 q1
  · rw [q2, q3]; exact k4 q1
  · rw [q2, q3]; exact k5 q1
  · rw [q2, q3]; exact k6 q1
theorem r_callS7v {z : Nat} (C0 C1 C2 C3 C4 C5 C6 : Prop)  (H0 H1 H2 H3 H4 H5 H6 : en_H) (pc' : Nat) (hp : pc + 3 = pc') (as rest : List Value) (ha : a < 900) (hq : en_take (.invokestatic z, n, a, b, c) st = some (as, rest)) (hE : Ev d a as h (fun v h' => (C0 ∧ v = none ∧ h' = H0) ∨ (C1 ∧ v = none ∧ h' = H1) ∨ (C2 ∧ v = none ∧ h' = H2) ∨ (C3 ∧ v = none ∧ h' = H3) ∨ (C4 ∧ v = none ∧ h' = H4) ∨ (C5 ∧ v = none ∧ h' = H5) ∨ (C6 ∧ v = none ∧ h' = H6))) (k0 : C0 → At d xs rt bs (pc', l, rest, H0) Ph) (k1 : C1 → At d xs rt bs (pc', l, rest, H1) Ph) (k2 : C2 → At d xs rt bs (pc', l, rest, H2) Ph) (k3 : C3 → At d xs rt bs (pc', l, rest, H3) Ph) (k4 : C4 → At d xs rt bs (pc', l, rest, H4) Ph) (k5 : C5 → At d xs rt bs (pc', l, rest, H5) Ph) (k6 : C6 → At d xs rt bs (pc', l, rest, H6) Ph) : Ar d xs rt bs ((.invokestatic z, n, a, b, c) :: r) (pc, l, st, h) Ph := by
  refine r_callS pc' hp as rest ha hq hE ?_
  intro v h' hv
  rcases hv with ⟨q1, q2, q3⟩ | ⟨q1, q2, q3⟩ | ⟨q1, q2, q3⟩ | ⟨q1, q2, q3⟩ | ⟨q1, q2, q3⟩ | ⟨q1, q2, q3⟩ | ⟨q1, q2, q3⟩
  · rw [q2, q3]; exact k0 q1
  · rw [q2, q3]; exact k1 q1
  · rw [q2, q3]; exact k2 q1
  · rw [q2, q3]; exact k3 q1
  · rw [q2, q3]; exact k4 q1
  · rw [q2, q3]; exact k5 q1
  · rw [q2, q3]; exact k6 q1
theorem r_callS8s {z : Nat} (C0 C1 C2 C3 C4 C5 C6 C7 : Prop) (R0 R1 R2 R3 R4 R5 R6 R7 : Value) (H0 H1 H2 H3 H4 H5 H6 H7 : en_H) (pc' : Nat) (hp : pc + 3 = pc') (as rest : List Value) (ha : a < 900) (hq : en_take (.invokestatic z, n, a, b, c) st = some (as, rest)) (hE : Ev d a as h (fun v h' => (C0 ∧ v = some R0 ∧ h' = H0) ∨ (C1 ∧ v = some R1 ∧ h' = H1) ∨ (C2 ∧ v = some R2 ∧ h' = H2) ∨ (C3 ∧ v = some R3 ∧ h' = H3) ∨ (C4 ∧ v = some R4 ∧ h' = H4) ∨ (C5 ∧ v = some R5 ∧ h' = H5) ∨ (C6 ∧ v = some R6 ∧ h' = H6) ∨ (C7 ∧ v = some R7 ∧ h' = H7))) (k0 : C0 → At d xs rt bs (pc', l, R0 :: rest, H0) Ph) (k1 : C1 → At d xs rt bs (pc', l, R1 :: rest, H1) Ph) (k2 : C2 → At d xs rt bs (pc', l, R2 :: rest, H2) Ph) (k3 : C3 → At d xs rt bs (pc', l, R3 :: rest, H3) Ph) (k4 : C4 → At d xs rt bs (pc', l, R4 :: rest, H4) Ph) (k5 : C5 → At d xs rt bs (pc', l, R5 :: rest, H5) Ph) (k6 : C6 → At d xs rt bs (pc', l, R6 :: rest, H6) Ph) (k7 : C7 → At d xs rt bs (pc', l, R7 :: rest, H7) Ph) : Ar d xs rt bs ((.invokestatic z, n, a, b, c) :: r) (pc, l, st, h) Ph := by
  refine r_callS pc' hp as rest ha hq hE ?_
  intro v h' hv
  rcases hv with ⟨q1, q2, q3⟩ | ⟨q1, q2, q3⟩ | ⟨q1, q2, q3⟩ | ⟨q1, q2, q3⟩ | ⟨q1, q2, q3⟩ | ⟨q1, q2, q3⟩ | ⟨q1, q2, q3⟩ | ⟨q1, q2, q3⟩
  · rw [q2, q3]; exact k0 q1
  · rw [q2, q3]; exact k1 q1
  · rw [q2, q3]; exact k2 q1
  · rw [q2, q3]; exact k3 q1
  · rw [q2, q3]; exact k4 q1
  · rw [q2, q3]; exact k5 q1
  · rw [q2, q3]; exact k6 q1
  · rw [q2, q3]; exact k7 q1
theorem r_callS8v {z : Nat} (C0 C1 C2 C3 C4 C5 C6 C7 : Prop)  (H0 H1 H2 H3 H4 H5 H6 H7 : en_H) (pc' : Nat) (hp : pc + 3 = pc') (as rest : List Value) (ha : a < 900) (hq : en_take (.invokestatic z, n, a, b, c) st = some (as, rest)) (hE : Ev d a as h (fun v h' => (C0 ∧ v = none ∧ h' = H0) ∨ (C1 ∧ v = none ∧ h' = H1) ∨ (C2 ∧ v = none ∧ h' = H2) ∨ (C3 ∧ v = none ∧ h' = H3) ∨ (C4 ∧ v = none ∧ h' = H4) ∨ (C5 ∧ v = none ∧ h' = H5) ∨ (C6 ∧ v = none ∧ h' = H6) ∨ (C7 ∧ v = none ∧ h' = H7))) (k0 : C0 → At d xs rt bs (pc', l, rest, H0) Ph) (k1 : C1 → At d xs rt bs (pc', l, rest, H1) Ph) (k2 : C2 → At d xs rt bs (pc', l, rest, H2) Ph) (k3 : C3 → At d xs rt bs (pc', l, rest, H3) Ph) (k4 : C4 → At d xs rt bs (pc', l, rest, H4) Ph) (k5 : C5 → At d xs rt bs (pc', l, rest, H5) Ph) (k6 : C6 → At d xs rt bs (pc', l, rest, H6) Ph) (k7 : C7 → At d xs rt bs (pc', l, rest, H7) Ph) : Ar d xs rt bs ((.invokestatic z, n, a, b, c) :: r) (pc, l, st, h) Ph := by
  refine r_callS pc' hp as rest ha hq hE ?_
  intro v h' hv
  rcases hv with ⟨q1, q2, q3⟩ | ⟨q1, q2, q3⟩ | ⟨q1, q2, q3⟩ | ⟨q1, q2, q3⟩ | ⟨q1, q2, q3⟩ | ⟨q1, q2, q3⟩ | ⟨q1, q2, q3⟩ | ⟨q1, q2, q3⟩
  · rw [q2, q3]; exact k0 q1
  · rw [q2, q3]; exact k1 q1
  · rw [q2, q3]; exact k2 q1
  · rw [q2, q3]; exact k3 q1
  · rw [q2, q3]; exact k4 q1
  · rw [q2, q3]; exact k5 q1
  · rw [q2, q3]; exact k6 q1
  · rw [q2, q3]; exact k7 q1
theorem r_callS9s {z : Nat} (C0 C1 C2 C3 C4 C5 C6 C7 C8 : Prop) (R0 R1 R2 R3 R4 R5 R6 R7 R8 : Value) (H0 H1 H2 H3 H4 H5 H6 H7 H8 : en_H) (pc' : Nat) (hp : pc + 3 = pc') (as rest : List Value) (ha : a < 900) (hq : en_take (.invokestatic z, n, a, b, c) st = some (as, rest)) (hE : Ev d a as h (fun v h' => (C0 ∧ v = some R0 ∧ h' = H0) ∨ (C1 ∧ v = some R1 ∧ h' = H1) ∨ (C2 ∧ v = some R2 ∧ h' = H2) ∨ (C3 ∧ v = some R3 ∧ h' = H3) ∨ (C4 ∧ v = some R4 ∧ h' = H4) ∨ (C5 ∧ v = some R5 ∧ h' = H5) ∨ (C6 ∧ v = some R6 ∧ h' = H6) ∨ (C7 ∧ v = some R7 ∧ h' = H7) ∨ (C8 ∧ v = some R8 ∧ h' = H8))) (k0 : C0 → At d xs rt bs (pc', l, R0 :: rest, H0) Ph) (k1 : C1 → At d xs rt bs (pc', l, R1 :: rest, H1) Ph) (k2 : C2 → At d xs rt bs (pc', l, R2 :: rest, H2) Ph) (k3 : C3 → At d xs rt bs (pc', l, R3 :: rest, H3) Ph) (k4 : C4 → At d xs rt bs (pc', l, R4 :: rest, H4) Ph) (k5 : C5 → At d xs rt bs (pc', l, R5 :: rest, H5) Ph) (k6 : C6 → At d xs rt bs (pc', l, R6 :: rest, H6) Ph) (k7 : C7 → At d xs rt bs (pc', l, R7 :: rest, H7) Ph) (k8 : C8 → At d xs rt bs (pc', l, R8 :: rest, H8) Ph) : Ar d xs rt bs ((.invokestatic z, n, a, b, c) :: r) (pc, l, st, h) Ph := by
  refine r_callS pc' hp as rest ha hq hE ?_
  intro v h' hv
  rcases hv with ⟨q1, q2, q3⟩ | ⟨q1, q2, q3⟩ | ⟨q1, q2, q3⟩ | ⟨q1, q2, q3⟩ | ⟨q1, q2, q3⟩ | ⟨q1, q2, q3⟩ | ⟨q1, q2, q3⟩ | ⟨q1, q2, q3⟩ | ⟨q1, q2, q3⟩
  · rw [q2, q3]; exact k0 q1
  · rw [q2, q3]; exact k1 q1
  · rw [q2, q3]; exact k2 q1
  · rw [q2, q3]; exact k3 q1
  · rw [q2, q3]; exact k4 q1
  · rw [q2, q3]; exact k5 q1
  · rw [q2, q3]; exact k6 q1
  · rw [q2, q3]; exact k7 q1
  · rw [q2, q3]; exact k8 q1
theorem r_callS9v {z : Nat} (C0 C1 C2 C3 C4 C5 C6 C7 C8 : Prop)  (H0 H1 H2 H3 H4 H5 H6 H7 H8 : en_H) (pc' : Nat) (hp : pc + 3 = pc') (as rest : List Value) (ha : a < 900) (hq : en_take (.invokestatic z, n, a, b, c) st = some (as, rest)) (hE : Ev d a as h (fun v h' => (C0 ∧ v = none ∧ h' = H0) ∨ (C1 ∧ v = none ∧ h' = H1) ∨ (C2 ∧ v = none ∧ h' = H2) ∨ (C3 ∧ v = none ∧ h' = H3) ∨ (C4 ∧ v = none ∧ h' = H4) ∨ (C5 ∧ v = none ∧ h' = H5) ∨ (C6 ∧ v = none ∧ h' = H6) ∨ (C7 ∧ v = none ∧ h' = H7) ∨ (C8 ∧ v = none ∧ h' = H8))) (k0 : C0 → At d xs rt bs (pc', l, rest, H0) Ph) (k1 : C1 → At d xs rt bs (pc', l, rest, H1) Ph) (k2 : C2 → At d xs rt bs (pc', l, rest, H2) Ph) (k3 : C3 → At d xs rt bs (pc', l, rest, H3) Ph) (k4 : C4 → At d xs rt bs (pc', l, rest, H4) Ph) (k5 : C5 → At d xs rt bs (pc', l, rest, H5) Ph) (k6 : C6 → At d xs rt bs (pc', l, rest, H6) Ph) (k7 : C7 → At d xs rt bs (pc', l, rest, H7) Ph) (k8 : C8 → At d xs rt bs (pc', l, rest, H8) Ph) : Ar d xs rt bs ((.invokestatic z, n, a, b, c) :: r) (pc, l, st, h) Ph := by
  refine r_callS pc' hp as rest ha hq hE ?_
  intro v h' hv
  rcases hv with ⟨q1, q2, q3⟩ | ⟨q1, q2, q3⟩ | ⟨q1, q2, q3⟩ | ⟨q1, q2, q3⟩ | ⟨q1, q2, q3⟩ | ⟨q1, q2, q3⟩ | ⟨q1, q2, q3⟩ | ⟨q1, q2, q3⟩ | ⟨q1, q2, q3⟩
  · rw [q2, q3]; exact k0 q1
  · rw [q2, q3]; exact k1 q1
  · rw [q2, q3]; exact k2 q1
  · rw [q2, q3]; exact k3 q1
  · rw [q2, q3]; exact k4 q1
  · rw [q2, q3]; exact k5 q1
  · rw [q2, q3]; exact k6 q1
  · rw [q2, q3]; exact k7 q1
  · rw [q2, q3]; exact k8 q1
theorem r_callS10s {z : Nat} (C0 C1 C2 C3 C4 C5 C6 C7 C8 C9 : Prop) (R0 R1 R2 R3 R4 R5 R6 R7 R8 R9 : Value) (H0 H1 H2 H3 H4 H5 H6 H7 H8 H9 : en_H) (pc' : Nat) (hp : pc + 3 = pc') (as rest : List Value) (ha : a < 900) (hq : en_take (.invokestatic z, n, a, b, c) st = some (as, rest)) (hE : Ev d a as h (fun v h' => (C0 ∧ v = some R0 ∧ h' = H0) ∨ (C1 ∧ v = some R1 ∧ h' = H1) ∨ (C2 ∧ v = some R2 ∧ h' = H2) ∨ (C3 ∧ v = some R3 ∧ h' = H3) ∨ (C4 ∧ v = some R4 ∧ h' = H4) ∨ (C5 ∧ v = some R5 ∧ h' = H5) ∨ (C6 ∧ v = some R6 ∧ h' = H6) ∨ (C7 ∧ v = some R7 ∧ h' = H7) ∨ (C8 ∧ v = some R8 ∧ h' = H8) ∨ (C9 ∧ v = some R9 ∧ h' = H9))) (k0 : C0 → At d xs rt bs (pc', l, R0 :: rest, H0) Ph) (k1 : C1 → At d xs rt bs (pc', l, R1 :: rest, H1) Ph) (k2 : C2 → At d xs rt bs (pc', l, R2 :: rest, H2) Ph) (k3 : C3 → At d xs rt bs (pc', l, R3 :: rest, H3) Ph) (k4 : C4 → At d xs rt bs (pc', l, R4 :: rest, H4) Ph) (k5 : C5 → At d xs rt bs (pc', l, R5 :: rest, H5) Ph) (k6 : C6 → At d xs rt bs (pc', l, R6 :: rest, H6) Ph) (k7 : C7 → At d xs rt bs (pc', l, R7 :: rest, H7) Ph) (k8 : C8 → At d xs rt bs (pc', l, R8 :: rest, H8) Ph) (k9 : C9 → At d xs rt bs (pc', l, R9 :: rest, H9) Ph) : Ar d xs rt bs ((.invokestatic z, n, a, b, c) :: r) (pc, l, st, h) Ph := by
  refine r_callS pc' hp as rest ha hq hE ?_
  intro v h' hv
  rcases hv with ⟨q1, q2, q3⟩ | ⟨q1, q2, q3⟩ | ⟨q1, q2, q3⟩ | ⟨q1, q2, q3⟩ | ⟨q1, q2, q3⟩ | ⟨q1, q2, q3⟩ | ⟨q1, q2, q3⟩ | ⟨q1, q2, q3⟩ | ⟨q1, q2, q3⟩ | ⟨q1, q2, q3⟩
  · rw [q2, q3]; exact k0 q1
  · rw [q2, q3]; exact k1 q1
  · rw [q2, q3]; exact k2 q1
  · rw [q2, q3]; exact k3 q1
  · rw [q2, q3]; exact k4 q1
  · rw [q2, q3]; exact k5 q1
  · rw [q2, q3]; exact k6 q1
  · rw [q2, q3]; exact k7 q1
  · rw [q2, q3]; exact k8 q1
  · rw [q2, q3]; exact k9 q1
theorem r_callS10v {z : Nat} (C0 C1 C2 C3 C4 C5 C6 C7 C8 C9 : Prop)  (H0 H1 H2 H3 H4 H5 H6 H7 H8 H9 : en_H) (pc' : Nat) (hp : pc + 3 = pc') (as rest : List Value) (ha : a < 900) (hq : en_take (.invokestatic z, n, a, b, c) st = some (as, rest)) (hE : Ev d a as h (fun v h' => (C0 ∧ v = none ∧ h' = H0) ∨ (C1 ∧ v = none ∧ h' = H1) ∨ (C2 ∧ v = none ∧ h' = H2) ∨ (C3 ∧ v = none ∧ h' = H3) ∨ (C4 ∧ v = none ∧ h' = H4) ∨ (C5 ∧ v = none ∧ h' = H5) ∨ (C6 ∧ v = none ∧ h' = H6) ∨ (C7 ∧ v = none ∧ h' = H7) ∨ (C8 ∧ v = none ∧ h' = H8) ∨ (C9 ∧ v = none ∧ h' = H9))) (k0 : C0 → At d xs rt bs (pc', l, rest, H0) Ph) (k1 : C1 → At d xs rt bs (pc', l, rest, H1) Ph) (k2 : C2 → At d xs rt bs (pc', l, rest, H2) Ph) (k3 : C3 → At d xs rt bs (pc', l, rest, H3) Ph) (k4 : C4 → At d xs rt bs (pc', l, rest, H4) Ph) (k5 : C5 → At d xs rt bs (pc', l, rest, H5) Ph) (k6 : C6 → At d xs rt bs (pc', l, rest, H6) Ph) (k7 : C7 → At d xs rt bs (pc', l, rest, H7) Ph) (k8 : C8 → At d xs rt bs (pc', l, rest, H8) Ph) (k9 : C9 → At d xs rt bs (pc', l, rest, H9) Ph) : Ar d xs rt bs ((.invokestatic z, n, a, b, c) :: r) (pc, l, st, h) Ph := by
  refine r_callS pc' hp as rest ha hq hE ?_
  intro v h' hv
  rcases hv with ⟨q1, q2, q3⟩ | ⟨q1, q2, q3⟩ | ⟨q1, q2, q3⟩ | ⟨q1, q2, q3⟩ | ⟨q1, q2, q3⟩ | ⟨q1, q2, q3⟩ | ⟨q1, q2, q3⟩ | ⟨q1, q2, q3⟩ | ⟨q1, q2, q3⟩ | ⟨q1, q2, q3⟩
  · rw [q2, q3]; exact k0 q1
  · rw [q2, q3]; exact k1 q1
  · rw [q2, q3]; exact k2 q1
  · rw [q2, q3]; exact k3 q1
  · rw [q2, q3]; exact k4 q1
  · rw [q2, q3]; exact k5 q1
  · rw [q2, q3]; exact k6 q1
  · rw [q2, q3]; exact k7 q1
  · rw [q2, q3]; exact k8 q1
  · rw [q2, q3]; exact k9 q1
theorem r_callS11s {z : Nat} (C0 C1 C2 C3 C4 C5 C6 C7 C8 C9 C10 : Prop) (R0 R1 R2 R3 R4 R5 R6 R7 R8 R9 R10 : Value) (H0 H1 H2 H3 H4 H5 H6 H7 H8 H9 H10 : en_H) (pc' : Nat) (hp : pc + 3 = pc') (as rest : List Value) (ha : a < 900) (hq : en_take (.invokestatic z, n, a, b, c) st = some (as, rest)) (hE : Ev d a as h (fun v h' => (C0 ∧ v = some R0 ∧ h' = H0) ∨ (C1 ∧ v = some R1 ∧ h' = H1) ∨ (C2 ∧ v = some R2 ∧ h' = H2) ∨ (C3 ∧ v = some R3 ∧ h' = H3) ∨ (C4 ∧ v = some R4 ∧ h' = H4) ∨ (C5 ∧ v = some R5 ∧ h' = H5) ∨ (C6 ∧ v = some R6 ∧ h' = H6) ∨ (C7 ∧ v = some R7 ∧ h' = H7) ∨ (C8 ∧ v = some R8 ∧ h' = H8) ∨ (C9 ∧ v = some R9 ∧ h' = H9) ∨ (C10 ∧ v = some R10 ∧ h' = H10))) (k0 : C0 → At d xs rt bs (pc', l, R0 :: rest, H0) Ph) (k1 : C1 → At d xs rt bs (pc', l, R1 :: rest, H1) Ph) (k2 : C2 → At d xs rt bs (pc', l, R2 :: rest, H2) Ph) (k3 : C3 → At d xs rt bs (pc', l, R3 :: rest, H3) Ph) (k4 : C4 → At d xs rt bs (pc', l, R4 :: rest, H4) Ph) (k5 : C5 → At d xs rt bs (pc', l, R5 :: rest, H5) Ph) (k6 : C6 → At d xs rt bs (pc', l, R6 :: rest, H6) Ph) (k7 : C7 → At d xs rt bs (pc', l, R7 :: rest, H7) Ph) (k8 : C8 → At d xs rt bs (pc', l, R8 :: rest, H8) Ph) (k9 : C9 → At d xs rt bs (pc', l, R9 :: rest, H9) Ph) (k10 : C10 → At d xs rt bs (pc', l, R10 :: rest, H10) Ph) : Ar d xs rt bs ((.invokestatic z, n, a, b, c) :: r) (pc, l, st, h) Ph := by
  refine r_callS pc' hp as rest ha hq hE ?_
  intro v h' hv
  rcases hv with ⟨q1, q2, q3⟩ | ⟨q1, q2, q3⟩ | ⟨q1, q2, q3⟩ | ⟨q1, q2, q3⟩ | ⟨q1, q2, q3⟩ | ⟨q1, q2, q3⟩ | ⟨q1, q2, q3⟩ | ⟨q1, q2, q3⟩ | ⟨q1, q2, q3⟩ | ⟨q1, q2, q3⟩ | ⟨q1, q2, q3⟩
  · rw [q2, q3]; exact k0 q1
  · rw [q2, q3]; exact k1 q1
  · rw [q2, q3]; exact k2 q1
  · rw [q2, q3]; exact k3 q1
  · rw [q2, q3]; exact k4 q1
  · rw [q2, q3]; exact k5 q1
  · rw [q2, q3]; exact k6 q1
  · rw [q2, q3]; exact k7 q1
  · rw [q2, q3]; exact k8 q1
  · rw [q2, q3]; exact k9 q1
  · rw [q2, q3]; exact k10 q1
theorem r_callS11v {z : Nat} (C0 C1 C2 C3 C4 C5 C6 C7 C8 C9 C10 : Prop)  (H0 H1 H2 H3 H4 H5 H6 H7 H8 H9 H10 : en_H) (pc' : Nat) (hp : pc + 3 = pc') (as rest : List Value) (ha : a < 900) (hq : en_take (.invokestatic z, n, a, b, c) st = some (as, rest)) (hE : Ev d a as h (fun v h' => (C0 ∧ v = none ∧ h' = H0) ∨ (C1 ∧ v = none ∧ h' = H1) ∨ (C2 ∧ v = none ∧ h' = H2) ∨ (C3 ∧ v = none ∧ h' = H3) ∨ (C4 ∧ v = none ∧ h' = H4) ∨ (C5 ∧ v = none ∧ h' = H5) ∨ (C6 ∧ v = none ∧ h' = H6) ∨ (C7 ∧ v = none ∧ h' = H7) ∨ (C8 ∧ v = none ∧ h' = H8) ∨ (C9 ∧ v = none ∧ h' = H9) ∨ (C10 ∧ v = none ∧ h' = H10))) (k0 : C0 → At d xs rt bs (pc', l, rest, H0) Ph) (k1 : C1 → At d xs rt bs (pc', l, rest, H1) Ph) (k2 : C2 → At d xs rt bs (pc', l, rest, H2) Ph) (k3 : C3 → At d xs rt bs (pc', l, rest, H3) Ph) (k4 : C4 → At d xs rt bs (pc', l, rest, H4) Ph) (k5 : C5 → At d xs rt bs (pc', l, rest, H5) Ph) (k6 : C6 → At d xs rt bs (pc', l, rest, H6) Ph) (k7 : C7 → At d xs rt bs (pc', l, rest, H7) Ph) (k8 : C8 → At d xs rt bs (pc', l, rest, H8) Ph) (k9 : C9 → At d xs rt bs (pc', l, rest, H9) Ph) (k10 : C10 → At d xs rt bs (pc', l, rest, H10) Ph) : Ar d xs rt bs ((.invokestatic z, n, a, b, c) :: r) (pc, l, st, h) Ph := by
  refine r_callS pc' hp as rest ha hq hE ?_
  intro v h' hv
  rcases hv with ⟨q1, q2, q3⟩ | ⟨q1, q2, q3⟩ | ⟨q1, q2, q3⟩ | ⟨q1, q2, q3⟩ | ⟨q1, q2, q3⟩ | ⟨q1, q2, q3⟩ | ⟨q1, q2, q3⟩ | ⟨q1, q2, q3⟩ | ⟨q1, q2, q3⟩ | ⟨q1, q2, q3⟩ | ⟨q1, q2, q3⟩
  · rw [q2, q3]; exact k0 q1
  · rw [q2, q3]; exact k1 q1
  · rw [q2, q3]; exact k2 q1
  · rw [q2, q3]; exact k3 q1
  · rw [q2, q3]; exact k4 q1
  · rw [q2, q3]; exact k5 q1
  · rw [q2, q3]; exact k6 q1
  · rw [q2, q3]; exact k7 q1
  · rw [q2, q3]; exact k8 q1
  · rw [q2, q3]; exact k9 q1
  · rw [q2, q3]; exact k10 q1
theorem r_callS12s {z : Nat} (C0 C1 C2 C3 C4 C5 C6 C7 C8 C9 C10 C11 : Prop) (R0 R1 R2 R3 R4 R5 R6 R7 R8 R9 R10 R11 : Value) (H0 H1 H2 H3 H4 H5 H6 H7 H8 H9 H10 H11 : en_H) (pc' : Nat) (hp : pc + 3 = pc') (as rest : List Value) (ha : a < 900) (hq : en_take (.invokestatic z, n, a, b, c) st = some (as, rest)) (hE : Ev d a as h (fun v h' => (C0 ∧ v = some R0 ∧ h' = H0) ∨ (C1 ∧ v = some R1 ∧ h' = H1) ∨ (C2 ∧ v = some R2 ∧ h' = H2) ∨ (C3 ∧ v = some R3 ∧ h' = H3) ∨ (C4 ∧ v = some R4 ∧ h' = H4) ∨ (C5 ∧ v = some R5 ∧ h' = H5) ∨ (C6 ∧ v = some R6 ∧ h' = H6) ∨ (C7 ∧ v = some R7 ∧ h' = H7) ∨ (C8 ∧ v = some R8 ∧ h' = H8) ∨ (C9 ∧ v = some R9 ∧ h' = H9) ∨ (C10 ∧ v = some R10 ∧ h' = H10) ∨ (C11 ∧ v = some R11 ∧ h' = H11))) (k0 : C0 → At d xs rt bs (pc', l, R0 :: rest, H0) Ph) (k1 : C1 → At d xs rt bs (pc', l, R1 :: rest, H1) Ph) (k2 : C2 → At d xs rt bs (pc', l, R2 :: rest, H2) Ph) (k3 : C3 → At d xs rt bs (pc', l, R3 :: rest, H3) Ph) (k4 : C4 → At d xs rt bs (pc', l, R4 :: rest, H4) Ph) (k5 : C5 → At d xs rt bs (pc', l, R5 :: rest, H5) Ph) (k6 : C6 → At d xs rt bs (pc', l, R6 :: rest, H6) Ph) (k7 : C7 → At d xs rt bs (pc', l, R7 :: rest, H7) Ph) (k8 : C8 → At d xs rt bs (pc', l, R8 :: rest, H8) Ph) (k9 : C9 → At d xs rt bs (pc', l, R9 :: rest, H9) Ph) (k10 : C10 → At d xs rt bs (pc', l, R10 :: rest, H10) Ph) (k11 : C11 → At d xs rt bs (pc', l, R11 :: rest, H11) Ph) : Ar d xs rt bs ((.invokestatic z, n, a, b, c) :: r) (pc, l, st, h) Ph := by
  refine r_callS pc' hp as rest ha hq hE ?_
  intro v h' hv
  rcases hv with ⟨q1, q2, q3⟩ | ⟨q1, q2, q3⟩ | ⟨q1, q2, q3⟩ | ⟨q1, q2, q3⟩ | ⟨q1, q2, q3⟩ | ⟨q1, q2, q3⟩ | ⟨q1, q2, q3⟩ | ⟨q1, q2, q3⟩ | ⟨q1, q2, q3⟩ | ⟨q1, q2, q3⟩ | ⟨q1, q2, q3⟩ | ⟨q1, q2, q3⟩
  · rw [q2, q3]; exact k0 q1
  · rw [q2, q3]; exact k1 q1
  · rw [q2, q3]; exact k2 q1
  · rw [q2, q3]; exact k3 q1
  · rw [q2, q3]; exact k4 q1
  · rw [q2, q3]; exact k5 q1
  · rw [q2, q3]; exact k6 q1
  · rw [q2, q3]; exact k7 q1
  · rw [q2, q3]; exact k8 q1
  · rw [q2, q3]; exact k9 q1
  · rw [q2, q3]; exact k10 q1
  · rw [q2, q3]; exact k11 q1
theorem r_callS12v {z : Nat} (C0 C1 C2 C3 C4 C5 C6 C7 C8 C9 C10 C11 : Prop)  (H0 H1 H2 H3 H4 H5 H6 H7 H8 H9 H10 H11 : en_H) (pc' : Nat) (hp : pc + 3 = pc') (as rest : List Value) (ha : a < 900) (hq : en_take (.invokestatic z, n, a, b, c) st = some (as, rest)) (hE : Ev d a as h (fun v h' => (C0 ∧ v = none ∧ h' = H0) ∨ (C1 ∧ v = none ∧ h' = H1) ∨ (C2 ∧ v = none ∧ h' = H2) ∨ (C3 ∧ v = none ∧ h' = H3) ∨ (C4 ∧ v = none ∧ h' = H4) ∨ (C5 ∧ v = none ∧ h' = H5) ∨ (C6 ∧ v = none ∧ h' = H6) ∨ (C7 ∧ v = none ∧ h' = H7) ∨ (C8 ∧ v = none ∧ h' = H8) ∨ (C9 ∧ v = none ∧ h' = H9) ∨ (C10 ∧ v = none ∧ h' = H10) ∨ (C11 ∧ v = none ∧ h' = H11))) (k0 : C0 → At d xs rt bs (pc', l, rest, H0) Ph) (k1 : C1 → At d xs rt bs (pc', l, rest, H1) Ph) (k2 : C2 → At d xs rt bs (pc', l, rest, H2) Ph) (k3 : C3 → At d xs rt bs (pc', l, rest, H3) Ph) (k4 : C4 → At d xs rt bs (pc', l, rest, H4) Ph) (k5 : C5 → At d xs rt bs (pc', l, rest, H5) Ph) (k6 : C6 → At d xs rt bs (pc', l, rest, H6) Ph) (k7 : C7 → At d xs rt bs (pc', l, rest, H7) Ph) (k8 : C8 → At d xs rt bs (pc', l, rest, H8) Ph) (k9 : C9 → At d xs rt bs (pc', l, rest, H9) Ph) (k10 : C10 → At d xs rt bs (pc', l, rest, H10) Ph) (k11 : C11 → At d xs rt bs (pc', l, rest, H11) Ph) : Ar d xs rt bs ((.invokestatic z, n, a, b, c) :: r) (pc, l, st, h) Ph := by
  refine r_callS pc' hp as rest ha hq hE ?_
  intro v h' hv
  rcases hv with ⟨q1, q2, q3⟩ | ⟨q1, q2, q3⟩ | ⟨q1, q2, q3⟩ | ⟨q1, q2, q3⟩ | ⟨q1, q2, q3⟩ | ⟨q1, q2, q3⟩ | ⟨q1, q2, q3⟩ | ⟨q1, q2, q3⟩ | ⟨q1, q2, q3⟩ | ⟨q1, q2, q3⟩ | ⟨q1, q2, q3⟩ | ⟨q1, q2, q3⟩
  · rw [q2, q3]; exact k0 q1
  · rw [q2, q3]; exact k1 q1
  · rw [q2, q3]; exact k2 q1
  · rw [q2, q3]; exact k3 q1
  · rw [q2, q3]; exact k4 q1
  · rw [q2, q3]; exact k5 q1
  · rw [q2, q3]; exact k6 q1
  · rw [q2, q3]; exact k7 q1
  · rw [q2, q3]; exact k8 q1
  · rw [q2, q3]; exact k9 q1
  · rw [q2, q3]; exact k10 q1
  · rw [q2, q3]; exact k11 q1
theorem r_callI1s {z : Nat} (C0 : Prop) (R0 : Value) (H0 : en_H) (pc' : Nat) (hp : pc + 3 = pc') (as rest : List Value) (ha : a < 900) (hq : en_take (.invokespecial z, n, a, b, c) st = some (as, rest)) (hE : Ev d a as h (fun v h' => (C0 ∧ v = some R0 ∧ h' = H0))) (k0 : C0 → At d xs rt bs (pc', l, R0 :: rest, H0) Ph) : Ar d xs rt bs ((.invokespecial z, n, a, b, c) :: r) (pc, l, st, h) Ph := by
  refine r_callI pc' hp as rest ha hq hE ?_
  intro v h' hv
  obtain ⟨q1, q2, q3⟩ := hv
  rw [q2, q3]
  exact k0 q1
theorem r_callI1v {z : Nat} (C0 : Prop)  (H0 : en_H) (pc' : Nat) (hp : pc + 3 = pc') (as rest : List Value) (ha : a < 900) (hq : en_take (.invokespecial z, n, a, b, c) st = some (as, rest)) (hE : Ev d a as h (fun v h' => (C0 ∧ v = none ∧ h' = H0))) (k0 : C0 → At d xs rt bs (pc', l, rest, H0) Ph) : Ar d xs rt bs ((.invokespecial z, n, a, b, c) :: r) (pc, l, st, h) Ph := by
  refine r_callI pc' hp as rest ha hq hE ?_
  intro v h' hv
  obtain ⟨q1, q2, q3⟩ := hv
  rw [q2, q3]
  exact k0 q1
theorem r_callI2s {z : Nat} (C0 C1 : Prop) (R0 R1 : Value) (H0 H1 : en_H) (pc' : Nat) (hp : pc + 3 = pc') (as rest : List Value) (ha : a < 900) (hq : en_take (.invokespecial z, n, a, b, c) st = some (as, rest)) (hE : Ev d a as h (fun v h' => (C0 ∧ v = some R0 ∧ h' = H0) ∨ (C1 ∧ v = some R1 ∧ h' = H1))) (k0 : C0 → At d xs rt bs (pc', l, R0 :: rest, H0) Ph) (k1 : C1 → At d xs rt bs (pc', l, R1 :: rest, H1) Ph) : Ar d xs rt bs ((.invokespecial z, n, a, b, c) :: r) (pc, l, st, h) Ph := by
  refine r_callI pc' hp as rest ha hq hE ?_
  intro v h' hv
  rcases hv with ⟨q1, q2, q3⟩ | ⟨q1, q2, q3⟩
  · rw [q2, q3]; exact k0 q1
  · rw [q2, q3]; exact k1 q1
theorem r_callI2v {z : Nat} (C0 C1 : Prop)  (H0 H1 : en_H) (pc' : Nat) (hp : pc + 3 = pc') (as rest : List Value) (ha : a < 900) (hq : en_take (.invokespecial z, n, a, b, c) st = some (as, rest)) (hE : Ev d a as h (fun v h' => (C0 ∧ v = none ∧ h' = H0) ∨ (C1 ∧ v = none ∧ h' = H1))) (k0 : C0 → At d xs rt bs (pc', l, rest, H0) Ph) (k1 : C1 → At d xs rt bs (pc', l, rest, H1) Ph) : Ar d xs rt bs ((.invokespecial z, n, a, b, c) :: r) (pc, l, st, h) Ph := by
  refine r_callI pc' hp as rest ha hq hE ?_
  intro v h' hv
  rcases hv with ⟨q1, q2, q3⟩ | ⟨q1, q2, q3⟩
  · rw [q2, q3]; exact k0 q1
  · rw [q2, q3]; exact k1 q1
theorem r_callI3s {z : Nat} (C0 C1 C2 : Prop) (R0 R1 R2 : Value) (H0 H1 H2 : en_H) (pc' : Nat) (hp : pc + 3 = pc') (as rest : List Value) (ha : a < 900) (hq : en_take (.invokespecial z, n, a, b, c) st = some (as, rest)) (hE : Ev d a as h (fun v h' => (C0 ∧ v = some R0 ∧ h' = H0) ∨ (C1 ∧ v = some R1 ∧ h' = H1) ∨ (C2 ∧ v = some R2 ∧ h' = H2))) (k0 : C0 → At d xs rt bs (pc', l, R0 :: rest, H0) Ph) (k1 : C1 → At d xs rt bs (pc', l, R1 :: rest, H1) Ph) (k2 : C2 → At d xs rt bs (pc', l, R2 :: rest, H2) Ph) : Ar d xs rt bs ((.invokespecial z, n, a, b, c) :: r) (pc, l, st, h) Ph := by
  refine r_callI pc' hp as rest ha hq hE ?_
  intro v h' hv
  rcases hv with ⟨q1, q2, q3⟩ | ⟨q1, q2, q3⟩ | ⟨q1, q2, q3⟩
  · rw [q2, q3]; exact k0 q1
  · rw [q2, q3]; exact k1 q1
  · rw [q2, q3]; exact k2 q1
theorem r_callI3v {z : Nat} (C0 C1 C2 : Prop)  (H0 H1 H2 : en_H) (pc' : Nat) (hp : pc + 3 = pc') (as rest : List Value) (ha : a < 900) (hq : en_take (.invokespecial z, n, a, b, c) st = some (as, rest)) (hE : Ev d a as h (fun v h' => (C0 ∧ v = none ∧ h' = H0) ∨ (C1 ∧ v = none ∧ h' = H1) ∨ (C2 ∧ v = none ∧ h' = H2))) (k0 : C0 → At d xs rt bs (pc', l, rest, H0) Ph) (k1 : C1 → At d xs rt bs (pc', l, rest, H1) Ph) (k2 : C2 → At d xs rt bs (pc', l, rest, H2) Ph) : Ar d xs rt bs ((.invokespecial z, n, a, b, c) :: r) (pc, l, st, h) Ph := by
  refine r_callI pc' hp as rest ha hq hE ?_
  intro v h' hv
  rcases hv with ⟨q1, q2, q3⟩ | ⟨q1, q2, q3⟩ | ⟨q1, q2, q3⟩
  · rw [q2, q3]; exact k0 q1
  · rw [q2, q3]; exact k1 q1
  · rw [q2, q3]; exact k2 q1
theorem r_callI4s {z : Nat} (C0 C1 C2 C3 : Prop) (R0 R1 R2 R3 : Value) (H0 H1 H2 H3 : en_H) (pc' : Nat) (hp : pc + 3 = pc') (as rest : List Value) (ha : a < 900) (hq : en_take (.invokespecial z, n, a, b, c) st = some (as, rest)) (hE : Ev d a as h (fun v h' => (C0 ∧ v = some R0 ∧ h' = H0) ∨ (C1 ∧ v = some R1 ∧ h' = H1) ∨ (C2 ∧ v = some R2 ∧ h' = H2) ∨ (C3 ∧ v = some R3 ∧ h' = H3))) (k0 : C0 → At d xs rt bs (pc', l, R0 :: rest, H0) Ph) (k1 : C1 → At d xs rt bs (pc', l, R1 :: rest, H1) Ph) (k2 : C2 → At d xs rt bs (pc', l, R2 :: rest, H2) Ph) (k3 : C3 → At d xs rt bs (pc', l, R3 :: rest, H3) Ph) : Ar d xs rt bs ((.invokespecial z, n, a, b, c) :: r) (pc, l, st, h) Ph := by
  refine r_callI pc' hp as rest ha hq hE ?_
  intro v h' hv
  rcases hv with ⟨q1, q2, q3⟩ | ⟨q1, q2, q3⟩ | ⟨q1, q2, q3⟩ | ⟨q1, q2, q3⟩
  · rw [q2, q3]; exact k0 q1
  · rw [q2, q3]; exact k1 q1
  · rw [q2, q3]; exact k2 q1
  · rw [q2, q3]; exact k3 q1
theorem r_callI4v {z : Nat} (C0 C1 C2 C3 : Prop)  (H0 H1 H2 H3 : en_H) (pc' : Nat) (hp : pc + 3 = pc') (as rest : List Value) (ha : a < 900) (hq : en_take (.invokespecial z, n, a, b, c) st = some (as, rest)) (hE : Ev d a as h (fun v h' => (C0 ∧ v = none ∧ h' = H0) ∨ (C1 ∧ v = none ∧ h' = H1) ∨ (C2 ∧ v = none ∧ h' = H2) ∨ (C3 ∧ v = none ∧ h' = H3))) (k0 : C0 → At d xs rt bs (pc', l, rest, H0) Ph) (k1 : C1 → At d xs rt bs (pc', l, rest, H1) Ph) (k2 : C2 → At d xs rt bs (pc', l, rest, H2) Ph) (k3 : C3 → At d xs rt bs (pc', l, rest, H3) Ph) : Ar d xs rt bs ((.invokespecial z, n, a, b, c) :: r) (pc, l, st, h) Ph := by
  refine r_callI pc' hp as rest ha hq hE ?_
  intro v h' hv
  rcases hv with ⟨q1, q2, q3⟩ | ⟨q1, q2, q3⟩ | ⟨q1, q2, q3⟩ | ⟨q1, q2, q3⟩
  · rw [q2, q3]; exact k0 q1
  · rw [q2, q3]; exact k1 q1
  · rw [q2, q3]; exact k2 q1
  · rw [q2, q3]; exact k3 q1
theorem r_callI5s {z : Nat} (C0 C1 C2 C3 C4 : Prop) (R0 R1 R2 R3 R4 : Value) (H0 H1 H2 H3 H4 : en_H) (pc' : Nat) (hp : pc + 3 = pc') (as rest : List Value) (ha : a < 900) (hq : en_take (.invokespecial z, n, a, b, c) st = some (as, rest)) (hE : Ev d a as h (fun v h' => (C0 ∧ v = some R0 ∧ h' = H0) ∨ (C1 ∧ v = some R1 ∧ h' = H1) ∨ (C2 ∧ v = some R2 ∧ h' = H2) ∨ (C3 ∧ v = some R3 ∧ h' = H3) ∨ (C4 ∧ v = some R4 ∧ h' = H4))) (k0 : C0 → At d xs rt bs (pc', l, R0 :: rest, H0) Ph) (k1 : C1 → At d xs rt bs (pc', l, R1 :: rest, H1) Ph) (k2 : C2 → At d xs rt bs (pc', l, R2 :: rest, H2) Ph) (k3 : C3 → At d xs rt bs (pc', l, R3 :: rest, H3) Ph) (k4 : C4 → At d xs rt bs (pc', l, R4 :: rest, H4) Ph) : Ar d xs rt bs ((.invokespecial z, n, a, b, c) :: r) (pc, l, st, h) Ph := by
  refine r_callI pc' hp as rest ha hq hE ?_
  intro v h' hv
  rcases hv with ⟨q1, q2, q3⟩ | ⟨q1, q2, q3⟩ | ⟨q1, q2, q3⟩ | ⟨q1, q2, q3⟩ | ⟨q1, q2, q3⟩
  · rw [q2, q3]; exact k0 q1
  · rw [q2, q3]; exact k1 q1
  · rw [q2, q3]; exact k2 q1
  · rw [q2, q3]; exact k3 q1
  · rw [q2, q3]; exact k4 q1
theorem r_callI5v {z : Nat} (C0 C1 C2 C3 C4 : Prop)  (H0 H1 H2 H3 H4 : en_H) (pc' : Nat) (hp : pc + 3 = pc') (as rest : List Value) (ha : a < 900) (hq : en_take (.invokespecial z, n, a, b, c) st = some (as, rest)) (hE : Ev d a as h (fun v h' => (C0 ∧ v = none ∧ h' = H0) ∨ (C1 ∧ v = none ∧ h' = H1) ∨ (C2 ∧ v = none ∧ h' = H2) ∨ (C3 ∧ v = none ∧ h' = H3) ∨ (C4 ∧ v = none ∧ h' = H4))) (k0 : C0 → At d xs rt bs (pc', l, rest, H0) Ph) (k1 : C1 → At d xs rt bs (pc', l, rest, H1) Ph) (k2 : C2 → At d xs rt bs (pc', l, rest, H2) Ph) (k3 : C3 → At d xs rt bs (pc', l, rest, H3) Ph) (k4 : C4 → At d xs rt bs (pc', l, rest, H4) Ph) : Ar d xs rt bs ((.invokespecial z, n, a, b, c) :: r) (pc, l, st, h) Ph := by
  refine r_callI pc' hp as rest ha hq hE ?_
  intro v h' hv
  rcases hv with ⟨q1, q2, q3⟩ | ⟨q1, q2, q3⟩ | ⟨q1, q2, q3⟩ | ⟨q1, q2, q3⟩ | ⟨q1, q2, q3⟩
  · rw [q2, q3]; exact k0 q1
  · rw [q2, q3]; exact k1 q1
  · rw [q2, q3]; exact k2 q1
  · rw [q2, q3]; exact k3 q1
  · rw [q2, q3]; exact k4 q1
theorem r_callI6s {z : Nat} (C0 C1 C2 C3 C4 C5 : Prop) (R0 R1 R2 R3 R4 R5 : Value) (H0 H1 H2 H3 H4 H5 : en_H) (pc' : Nat) (hp : pc + 3 = pc') (as rest : List Value) (ha : a < 900) (hq : en_take (.invokespecial z, n, a, b, c) st = some (as, rest)) (hE : Ev d a as h (fun v h' => (C0 ∧ v = some R0 ∧ h' = H0) ∨ (C1 ∧ v = some R1 ∧ h' = H1) ∨ (C2 ∧ v = some R2 ∧ h' = H2) ∨ (C3 ∧ v = some R3 ∧ h' = H3) ∨ (C4 ∧ v = some R4 ∧ h' = H4) ∨ (C5 ∧ v = some R5 ∧ h' = H5))) (k0 : C0 → At d xs rt bs (pc', l, R0 :: rest, H0) Ph) (k1 : C1 → At d xs rt bs (pc', l, R1 :: rest, H1) Ph) (k2 : C2 → At d xs rt bs (pc', l, R2 :: rest, H2) Ph) (k3 : C3 → At d xs rt bs (pc', l, R3 :: rest, H3) Ph) (k4 : C4 → At d xs rt bs (pc', l, R4 :: rest, H4) Ph) (k5 : C5 → At d xs rt bs (pc', l, R5 :: rest, H5) Ph) : Ar d xs rt bs ((.invokespecial z, n, a, b, c) :: r) (pc, l, st, h) Ph := by
  refine r_callI pc' hp as rest ha hq hE ?_
  intro v h' hv
  rcases hv with ⟨q1, q2, q3⟩ | ⟨q1, q2, q3⟩ | ⟨q1, q2, q3⟩ | ⟨q1, q2, q3⟩ | ⟨q1, q2, q3⟩ | ⟨q1, q2, q3⟩
  · rw [q2, q3]; exact k0 q1
  · rw [q2, q3]; exact k1 q1
  · rw [q2, q3]; exact k2 q1
  · rw [q2, q3]; exact k3 q1
  · rw [q2, q3]; exact k4 q1
  · rw [q2, q3]; exact k5 q1
theorem r_callI6v {z : Nat} (C0 C1 C2 C3 C4 C5 : Prop)  (H0 H1 H2 H3 H4 H5 : en_H) (pc' : Nat) (hp : pc + 3 = pc') (as rest : List Value) (ha : a < 900) (hq : en_take (.invokespecial z, n, a, b, c) st = some (as, rest)) (hE : Ev d a as h (fun v h' => (C0 ∧ v = none ∧ h' = H0) ∨ (C1 ∧ v = none ∧ h' = H1) ∨ (C2 ∧ v = none ∧ h' = H2) ∨ (C3 ∧ v = none ∧ h' = H3) ∨ (C4 ∧ v = none ∧ h' = H4) ∨ (C5 ∧ v = none ∧ h' = H5))) (k0 : C0 → At d xs rt bs (pc', l, rest, H0) Ph) (k1 : C1 → At d xs rt bs (pc', l, rest, H1) Ph) (k2 : C2 → At d xs rt bs (pc', l, rest, H2) Ph) (k3 : C3 → At d xs rt bs (pc', l, rest, H3) Ph) (k4 : C4 → At d xs rt bs (pc', l, rest, H4) Ph) (k5 : C5 → At d xs rt bs (pc', l, rest, H5) Ph) : Ar d xs rt bs ((.invokespecial z, n, a, b, c) :: r) (pc, l, st, h) Ph := by
  refine r_callI pc' hp as rest ha hq hE ?_
  intro v h' hv
  rcases hv with ⟨q1, q2, q3⟩ | ⟨q1, q2, q3⟩ | ⟨q1, q2, q3⟩ | ⟨q1, q2, q3⟩ | ⟨q1, q2, q3⟩ | ⟨q1, q2, q3⟩
  · rw [q2, q3]; exact k0 q1
  · rw [q2, q3]; exact k1 q1
  · rw [q2, q3]; exact k2 q1
  · rw [q2, q3]; exact k3 q1
  · rw [q2, q3]; exact k4 q1
  · rw [q2, q3]; exact k5 q1
theorem r_callI7s {z : Nat} (C0 C1 C2 C3 C4 C5 C6 : Prop) (R0 R1 R2 R3 R4 R5 R6 : Value) (H0 H1 H2 H3 H4 H5 H6 : en_H) (pc' : Nat) (hp : pc + 3 = pc') (as rest : List Value) (ha : a < 900) (hq : en_take (.invokespecial z, n, a, b, c) st = some (as, rest)) (hE : Ev d a as h (fun v h' => (C0 ∧ v = some R0 ∧ h' = H0) ∨ (C1 ∧ v = some R1 ∧ h' = H1) ∨ (C2 ∧ v = some R2 ∧ h' = H2) ∨ (C3 ∧ v = some R3 ∧ h' = H3) ∨ (C4 ∧ v = some R4 ∧ h' = H4) ∨ (C5 ∧ v = some R5 ∧ h' = H5) ∨ (C6 ∧ v = some R6 ∧ h' = H6))) (k0 : C0 → At d xs rt bs (pc', l, R0 :: rest, H0) Ph) (k1 : C1 → At d xs rt bs (pc', l, R1 :: rest, H1) Ph) (k2 : C2 → At d xs rt bs (pc', l, R2 :: rest, H2) Ph) (k3 : C3 → At d xs rt bs (pc', l, R3 :: rest, H3) Ph) (k4 : C4 → At d xs rt bs (pc', l, R4 :: rest, H4) Ph) (k5 : C5 → At d xs rt bs (pc', l, R5 :: rest, H5) Ph) (k6 : C6 → At d xs rt bs (pc', l, R6 :: rest, H6) Ph) : Ar d xs rt bs ((.invokespecial z, n, a, b, c) :: r) (pc, l, st, h) Ph := by
  refine r_callI pc' hp as rest ha hq hE ?_
  intro v h' hv
  rcases hv with ⟨q1, q2, q3⟩ | ⟨q1, q2, q3⟩ | ⟨q1, q2, q3⟩ | ⟨q1, q2, q3⟩ | ⟨q1, q2, q3⟩ | ⟨q1, q2, q3⟩ | ⟨q1, q2, q3⟩
  · rw [q2, q3]; exact k0 q1
  · rw [q2, q3]; exact k1 q1
  · rw [q2, q3]; exact k2 q1
  · rw [q2, q3]; exact k3 q1
  · rw [q2, q3]; exact k4 q1
  · rw [q2, q3]; exact k5 q1
  · rw [q2, q3]; exact k6 q1
theorem r_callI7v {z : Nat} (C0 C1 C2 C3 C4 C5 C6 : Prop)  (H0 H1 H2 H3 H4 H5 H6 : en_H) (pc' : Nat) (hp : pc + 3 = pc') (as rest : List Value) (ha : a < 900) (hq : en_take (.invokespecial z, n, a, b, c) st = some (as, rest)) (hE : Ev d a as h (fun v h' => (C0 ∧ v = none ∧ h' = H0) ∨ (C1 ∧ v = none ∧ h' = H1) ∨ (C2 ∧ v = none ∧ h' = H2) ∨ (C3 ∧ v = none ∧ h' = H3) ∨ (C4 ∧ v = none ∧ h' = H4) ∨ (C5 ∧ v = none ∧ h' = H5) ∨ (C6 ∧ v = none ∧ h' = H6))) (k0 : C0 → At d xs rt bs (pc', l, rest, H0) Ph) (k1 : C1 → At d xs rt bs (pc', l, rest, H1) Ph) (k2 : C2 → At d xs rt bs (pc', l, rest, H2) Ph) (k3 : C3 → At d xs rt bs (pc', l, rest, H3) Ph) (k4 : C4 → At d xs rt bs (pc', l, rest, H4) Ph) (k5 : C5 → At d xs rt bs (pc', l, rest, H5) Ph) (k6 : C6 → At d xs rt bs (pc', l, rest, H6) Ph) : Ar d xs rt bs ((.invokespecial z, n, a, b, c) :: r) (pc, l, st, h) Ph := by
  refine r_callI pc' hp as rest ha hq hE ?_
  intro v h' hv
  rcases hv with ⟨q1, q2, q3⟩ | ⟨q1, q2, q3⟩ | ⟨q1, q2, q3⟩ | ⟨q1, q2, q3⟩ | ⟨q1, q2, q3⟩ | ⟨q1, q2, q3⟩ | ⟨q1, q2, q3⟩
  · rw [q2, q3]; exact k0 q1
  · rw [q2, q3]; exact k1 q1
  · rw [q2, q3]; exact k2 q1
  · rw [q2, q3]; exact k3 q1
  · rw [q2, q3]; exact k4 q1
  · rw [q2, q3]; exact k5 q1
  · rw [q2, q3]; exact k6 q1
theorem r_callI8s {z : Nat} (C0 C1 C2 C3 C4 C5 C6 C7 : Prop) (R0 R1 R2 R3 R4 R5 R6 R7 : Value) (H0 H1 H2 H3 H4 H5 H6 H7 : en_H) (pc' : Nat) (hp : pc + 3 = pc') (as rest : List Value) (ha : a < 900) (hq : en_take (.invokespecial z, n, a, b, c) st = some (as, rest)) (hE : Ev d a as h (fun v h' => (C0 ∧ v = some R0 ∧ h' = H0) ∨ (C1 ∧ v = some R1 ∧ h' = H1) ∨ (C2 ∧ v = some R2 ∧ h' = H2) ∨ (C3 ∧ v = some R3 ∧ h' = H3) ∨ (C4 ∧ v = some R4 ∧ h' = H4) ∨ (C5 ∧ v = some R5 ∧ h' = H5) ∨ (C6 ∧ v = some R6 ∧ h' = H6) ∨ (C7 ∧ v = some R7 ∧ h' = H7))) (k0 : C0 → At d xs rt bs (pc', l, R0 :: rest, H0) Ph) (k1 : C1 → At d xs rt bs (pc', l, R1 :: rest, H1) Ph) (k2 : C2 → At d xs rt bs (pc', l, R2 :: rest, H2) Ph) (k3 : C3 → At d xs rt bs (pc', l, R3 :: rest, H3) Ph) (k4 : C4 → At d xs rt bs (pc', l, R4 :: rest, H4) Ph) (k5 : C5 → At d xs rt bs (pc', l, R5 :: rest, H5) Ph) (k6 : C6 → At d xs rt bs (pc', l, R6 :: rest, H6) Ph) (k7 : C7 → At d xs rt bs (pc', l, R7 :: rest, H7) Ph) : Ar d xs rt bs ((.invokespecial z, n, a, b, c) :: r) (pc, l, st, h) Ph := by
  refine r_callI pc' hp as rest ha hq hE ?_
  intro v h' hv
  rcases hv with ⟨q1, q2, q3⟩ | ⟨q1, q2, q3⟩ | ⟨q1, q2, q3⟩ | ⟨q1, q2, q3⟩ | ⟨q1, q2, q3⟩ | ⟨q1, q2, q3⟩ | ⟨q1, q2, q3⟩ | ⟨q1, q2, q3⟩
  · rw [q2, q3]; exact k0 q1
  · rw [q2, q3]; exact k1 q1
  · rw [q2, q3]; exact k2 q1
  · rw [q2, q3]; exact k3 q1
  · rw [q2, q3]; exact k4 q1
  · rw [q2, q3]; exact k5 q1
  · rw [q2, q3]; exact k6 q1
  · rw [q2, q3]; exact k7 q1
theorem r_callI8v {z : Nat} (C0 C1 C2 C3 C4 C5 C6 C7 : Prop)  (H0 H1 H2 H3 H4 H5 H6 H7 : en_H) (pc' : Nat) (hp : pc + 3 = pc') (as rest : List Value) (ha : a < 900) (hq : en_take (.invokespecial z, n, a, b, c) st = some (as, rest)) (hE : Ev d a as h (fun v h' => (C0 ∧ v = none ∧ h' = H0) ∨ (C1 ∧ v = none ∧ h' = H1) ∨ (C2 ∧ v = none ∧ h' = H2) ∨ (C3 ∧ v = none ∧ h' = H3) ∨ (C4 ∧ v = none ∧ h' = H4) ∨ (C5 ∧ v = none ∧ h' = H5) ∨ (C6 ∧ v = none ∧ h' = H6) ∨ (C7 ∧ v = none ∧ h' = H7))) (k0 : C0 → At d xs rt bs (pc', l, rest, H0) Ph) (k1 : C1 → At d xs rt bs (pc', l, rest, H1) Ph) (k2 : C2 → At d xs rt bs (pc', l, rest, H2) Ph) (k3 : C3 → At d xs rt bs (pc', l, rest, H3) Ph) (k4 : C4 → At d xs rt bs (pc', l, rest, H4) Ph) (k5 : C5 → At d xs rt bs (pc', l, rest, H5) Ph) (k6 : C6 → At d xs rt bs (pc', l, rest, H6) Ph) (k7 : C7 → At d xs rt bs (pc', l, rest, H7) Ph) : Ar d xs rt bs ((.invokespecial z, n, a, b, c) :: r) (pc, l, st, h) Ph := by
  refine r_callI pc' hp as rest ha hq hE ?_
  intro v h' hv
  rcases hv with ⟨q1, q2, q3⟩ | ⟨q1, q2, q3⟩ | ⟨q1, q2, q3⟩ | ⟨q1, q2, q3⟩ | ⟨q1, q2, q3⟩ | ⟨q1, q2, q3⟩ | ⟨q1, q2, q3⟩ | ⟨q1, q2, q3⟩
  · rw [q2, q3]; exact k0 q1
  · rw [q2, q3]; exact k1 q1
  · rw [q2, q3]; exact k2 q1
  · rw [q2, q3]; exact k3 q1
  · rw [q2, q3]; exact k4 q1
  · rw [q2, q3]; exact k5 q1
  · rw [q2, q3]; exact k6 q1
  · rw [q2, q3]; exact k7 q1
theorem r_callI9s {z : Nat} (C0 C1 C2 C3 C4 C5 C6 C7 C8 : Prop) (R0 R1 R2 R3 R4 R5 R6 R7 R8 : Value) (H0 H1 H2 H3 H4 H5 H6 H7 H8 : en_H) (pc' : Nat) (hp : pc + 3 = pc') (as rest : List Value) (ha : a < 900) (hq : en_take (.invokespecial z, n, a, b, c) st = some (as, rest)) (hE : Ev d a as h (fun v h' => (C0 ∧ v = some R0 ∧ h' = H0) ∨ (C1 ∧ v = some R1 ∧ h' = H1) ∨ (C2 ∧ v = some R2 ∧ h' = H2) ∨ (C3 ∧ v = some R3 ∧ h' = H3) ∨ (C4 ∧ v = some R4 ∧ h' = H4) ∨ (C5 ∧ v = some R5 ∧ h' = H5) ∨ (C6 ∧ v = some R6 ∧ h' = H6) ∨ (C7 ∧ v = some R7 ∧ h' = H7) ∨ (C8 ∧ v = some R8 ∧ h' = H8))) (k0 : C0 → At d xs rt bs (pc', l, R0 :: rest, H0) Ph) (k1 : C1 → At d xs rt bs (pc', l, R1 :: rest, H1) Ph) (k2 : C2 → At d xs rt bs (pc', l, R2 :: rest, H2) Ph) (k3 : C3 → At d xs rt bs (pc', l, R3 :: rest, H3) Ph) (k4 : C4 → At d xs rt bs (pc', l, R4 :: rest, H4) Ph) (k5 : C5 → At d xs rt bs (pc', l, R5 :: rest, H5) Ph) (k6 : C6 → At d xs rt bs (pc', l, R6 :: rest, H6) Ph) (k7 : C7 → At d xs rt bs (pc', l, R7 :: rest, H7) Ph) (k8 : C8 → At d xs rt bs (pc', l, R8 :: rest, H8) Ph) : Ar d xs rt bs ((.invokespecial z, n, a, b, c) :: r) (pc, l, st, h) Ph := by
  refine r_callI pc' hp as rest ha hq hE ?_
  intro v h' hv
  rcases hv with ⟨q1, q2, q3⟩ | ⟨q1, q2, q3⟩ | ⟨q1, q2, q3⟩ | ⟨q1, q2, q3⟩ | ⟨q1, q2, q3⟩ | ⟨q1, q2, q3⟩ | ⟨q1, q2, q3⟩ | ⟨q1, q2, q3⟩ | ⟨q1, q2, q3⟩
  · rw [q2, q3]; exact k0 q1
  · rw [q2, q3]; exact k1 q1
  · rw [q2, q3]; exact k2 q1
  · rw [q2, q3]; exact k3 q1
  · rw [q2, q3]; exact k4 q1
  · rw [q2, q3]; exact k5 q1
  · rw [q2, q3]; exact k6 q1
  · rw [q2, q3]; exact k7 q1
  · rw [q2, q3]; exact k8 q1
theorem r_callI9v {z : Nat} (C0 C1 C2 C3 C4 C5 C6 C7 C8 : Prop)  (H0 H1 H2 H3 H4 H5 H6 H7 H8 : en_H) (pc' : Nat) (hp : pc + 3 = pc') (as rest : List Value) (ha : a < 900) (hq : en_take (.invokespecial z, n, a, b, c) st = some (as, rest)) (hE : Ev d a as h (fun v h' => (C0 ∧ v = none ∧ h' = H0) ∨ (C1 ∧ v = none ∧ h' = H1) ∨ (C2 ∧ v = none ∧ h' = H2) ∨ (C3 ∧ v = none ∧ h' = H3) ∨ (C4 ∧ v = none ∧ h' = H4) ∨ (C5 ∧ v = none ∧ h' = H5) ∨ (C6 ∧ v = none ∧ h' = H6) ∨ (C7 ∧ v = none ∧ h' = H7) ∨ (C8 ∧ v = none ∧ h' = H8))) (k0 : C0 → At d xs rt bs (pc', l, rest, H0) Ph) (k1 : C1 → At d xs rt bs (pc', l, rest, H1) Ph) (k2 : C2 → At d xs rt bs (pc', l, rest, H2) Ph) (k3 : C3 → At d xs rt bs (pc', l, rest, H3) Ph) (k4 : C4 → At d xs rt bs (pc', l, rest, H4) Ph) (k5 : C5 → At d xs rt bs (pc', l, rest, H5) Ph) (k6 : C6 → At d xs rt bs (pc', l, rest, H6) Ph) (k7 : C7 → At d xs rt bs (pc', l, rest, H7) Ph) (k8 : C8 → At d xs rt bs (pc', l, rest, H8) Ph) : Ar d xs rt bs ((.invokespecial z, n, a, b, c) :: r) (pc, l, st, h) Ph := by
  refine r_callI pc' hp as rest ha hq hE ?_
  intro v h' hv
  rcases hv with ⟨q1, q2, q3⟩ | ⟨q1, q2, q3⟩ | ⟨q1, q2, q3⟩ | ⟨q1, q2, q3⟩ | ⟨q1, q2, q3⟩ | ⟨q1, q2, q3⟩ | ⟨q1, q2, q3⟩ | ⟨q1, q2, q3⟩ | ⟨q1, q2, q3⟩
  · rw [q2, q3]; exact k0 q1
  · rw [q2, q3]; exact k1 q1
  · rw [q2, q3]; exact k2 q1
  · rw [q2, q3]; exact k3 q1
  · rw [q2, q3]; exact k4 q1
  · rw [q2, q3]; exact k5 q1
  · rw [q2, q3]; exact k6 q1
  · rw [q2, q3]; exact k7 q1
  · rw [q2, q3]; exact k8 q1
theorem r_callI10s {z : Nat} (C0 C1 C2 C3 C4 C5 C6 C7 C8 C9 : Prop) (R0 R1 R2 R3 R4 R5 R6 R7 R8 R9 : Value) (H0 H1 H2 H3 H4 H5 H6 H7 H8 H9 : en_H) (pc' : Nat) (hp : pc + 3 = pc') (as rest : List Value) (ha : a < 900) (hq : en_take (.invokespecial z, n, a, b, c) st = some (as, rest)) (hE : Ev d a as h (fun v h' => (C0 ∧ v = some R0 ∧ h' = H0) ∨ (C1 ∧ v = some R1 ∧ h' = H1) ∨ (C2 ∧ v = some R2 ∧ h' = H2) ∨ (C3 ∧ v = some R3 ∧ h' = H3) ∨ (C4 ∧ v = some R4 ∧ h' = H4) ∨ (C5 ∧ v = some R5 ∧ h' = H5) ∨ (C6 ∧ v = some R6 ∧ h' = H6) ∨ (C7 ∧ v = some R7 ∧ h' = H7) ∨ (C8 ∧ v = some R8 ∧ h' = H8) ∨ (C9 ∧ v = some R9 ∧ h' = H9))) (k0 : C0 → At d xs rt bs (pc', l, R0 :: rest, H0) Ph) (k1 : C1 → At d xs rt bs (pc', l, R1 :: rest, H1) Ph) (k2 : C2 → At d xs rt bs (pc', l, R2 :: rest, H2) Ph) (k3 : C3 → At d xs rt bs (pc', l, R3 :: rest, H3) Ph) (k4 : C4 → At d xs rt bs (pc', l, R4 :: rest, H4) Ph) (k5 : C5 → At d xs rt bs (pc', l, R5 :: rest, H5) Ph) (k6 : C6 → At d xs rt bs (pc', l, R6 :: rest, H6) Ph) (k7 : C7 → At d xs rt bs (pc', l, R7 :: rest, H7) Ph) (k8 : C8 → At d xs rt bs (pc', l, R8 :: rest, H8) Ph) (k9 : C9 → At d xs rt bs (pc', l, R9 :: rest, H9) Ph) : Ar d xs rt bs ((.invokespecial z, n, a, b, c) :: r) (pc, l, st, h) Ph := by
  refine r_callI pc' hp as rest ha hq hE ?_
  intro v h' hv
  rcases hv with ⟨q1, q2, q3⟩ | ⟨q1, q2, q3⟩ | ⟨q1, q2, q3⟩ | ⟨q1, q2, q3⟩ | ⟨q1, q2, q3⟩ | ⟨q1, q2, q3⟩ | ⟨q1, q2, q3⟩ | ⟨q1, q2, q3⟩ | ⟨q1, q2, q3⟩ | ⟨q1, q2, q3⟩
  · rw [q2, q3]; exact k0 q1
  · rw [q2, q3]; exact k1 q1
  · rw [q2, q3]; exact k2 q1
  · rw [q2, q3]; exact k3 q1
  · rw [q2, q3]; exact k4 q1
  · rw [q2, q3]; exact k5 q1
  · rw [q2, q3]; exact k6 q1
  · rw [q2, q3]; exact k7 q1
  · rw [q2, q3]; exact k8 q1
  · rw [q2, q3]; exact k9 q1
theorem r_callI10v {z : Nat} (C0 C1 C2 C3 C4 C5 C6 C7 C8 C9 : Prop)  (H0 H1 H2 H3 H4 H5 H6 H7 H8 H9 : en_H) (pc' : Nat) (hp : pc + 3 = pc') (as rest : List Value) (ha : a < 900) (hq : en_take (.invokespecial z, n, a, b, c) st = some (as, rest)) (hE : Ev d a as h (fun v h' => (C0 ∧ v = none ∧ h' = H0) ∨ (C1 ∧ v = none ∧ h' = H1) ∨ (C2 ∧ v = none ∧ h' = H2) ∨ (C3 ∧ v = none ∧ h' = H3) ∨ (C4 ∧ v = none ∧ h' = H4) ∨ (C5 ∧ v = none ∧ h' = H5) ∨ (C6 ∧ v = none ∧ h' = H6) ∨ (C7 ∧ v = none ∧ h' = H7) ∨ (C8 ∧ v = none ∧ h' = H8) ∨ (C9 ∧ v = none ∧ h' = H9))) (k0 : C0 → At d xs rt bs (pc', l, rest, H0) Ph) (k1 : C1 → At d xs rt bs (pc', l, rest, H1) Ph) (k2 : C2 → At d xs rt bs (pc', l, rest, H2) Ph) (k3 : C3 → At d xs rt bs (pc', l, rest, H3) Ph) (k4 : C4 → At d xs rt bs (pc', l, rest, H4) Ph) (k5 : C5 → At d xs rt bs (pc', l, rest, H5) Ph) (k6 : C6 → At d xs rt bs (pc', l, rest, H6) Ph) (k7 : C7 → At d xs rt bs (pc', l, rest, H7) Ph) (k8 : C8 → At d xs rt bs (pc', l, rest, H8) Ph) (k9 : C9 → At d xs rt bs (pc', l, rest, H9) Ph) : Ar d xs rt bs ((.invokespecial z, n, a, b, c) :: r) (pc, l, st, h) Ph := by
  refine r_callI pc' hp as rest ha hq hE ?_
  intro v h' hv
  rcases hv with ⟨q1, q2, q3⟩ | ⟨q1, q2, q3⟩ | ⟨q1, q2, q3⟩ | ⟨q1, q2, q3⟩ | ⟨q1, q2, q3⟩ | ⟨q1, q2, q3⟩ | ⟨q1, q2, q3⟩ | ⟨q1, q2, q3⟩ | ⟨q1, q2, q3⟩ | ⟨q1, q2, q3⟩
  · rw [q2, q3]; exact k0 q1
  · rw [q2, q3]; exact k1 q1
  · rw [q2, q3]; exact k2 q1
  · rw [q2, q3]; exact k3 q1
  · rw [q2, q3]; exact k4 q1
  · rw [q2, q3]; exact k5 q1
  · rw [q2, q3]; exact k6 q1
  · rw [q2, q3]; exact k7 q1
  · rw [q2, q3]; exact k8 q1
  · rw [q2, q3]; exact k9 q1
theorem r_callI11s {z : Nat} (C0 C1 C2 C3 C4 C5 C6 C7 C8 C9 C10 : Prop) (R0 R1 R2 R3 R4 R5 R6 R7 R8 R9 R10 : Value) (H0 H1 H2 H3 H4 H5 H6 H7 H8 H9 H10 : en_H) (pc' : Nat) (hp : pc + 3 = pc') (as rest : List Value) (ha : a < 900) (hq : en_take (.invokespecial z, n, a, b, c) st = some (as, rest)) (hE : Ev d a as h (fun v h' => (C0 ∧ v = some R0 ∧ h' = H0) ∨ (C1 ∧ v = some R1 ∧ h' = H1) ∨ (C2 ∧ v = some R2 ∧ h' = H2) ∨ (C3 ∧ v = some R3 ∧ h' = H3) ∨ (C4 ∧ v = some R4 ∧ h' = H4) ∨ (C5 ∧ v = some R5 ∧ h' = H5) ∨ (C6 ∧ v = some R6 ∧ h' = H6) ∨ (C7 ∧ v = some R7 ∧ h' = H7) ∨ (C8 ∧ v = some R8 ∧ h' = H8) ∨ (C9 ∧ v = some R9 ∧ h' = H9) ∨ (C10 ∧ v = some R10 ∧ h' = H10))) (k0 : C0 → At d xs rt bs (pc', l, R0 :: rest, H0) Ph) (k1 : C1 → At d xs rt bs (pc', l, R1 :: rest, H1) Ph) (k2 : C2 → At d xs rt bs (pc', l, R2 :: rest, H2) Ph) (k3 : C3 → At d xs rt bs (pc', l, R3 :: rest, H3) Ph) (k4 : C4 → At d xs rt bs (pc', l, R4 :: rest, H4) Ph) (k5 : C5 → At d xs rt bs (pc', l, R5 :: rest, H5) Ph) (k6 : C6 → At d xs rt bs (pc', l, R6 :: rest, H6) Ph) (k7 : C7 → At d xs rt bs (pc', l, R7 :: rest, H7) Ph) (k8 : C8 → At d xs rt bs (pc', l, R8 :: rest, H8) Ph) (k9 : C9 → At d xs rt bs (pc', l, R9 :: rest, H9) Ph) (k10 : C10 → At d xs rt bs (pc', l, R10 :: rest, H10) Ph) : Ar d xs rt bs ((.invokespecial z, n, a, b, c) :: r) (pc, l, st, h) Ph := by
  refine r_callI pc' hp as rest ha hq hE ?_
  intro v h' hv
  rcases hv with ⟨q1, q2, q3⟩ | ⟨q1, q2, q3⟩ | ⟨q1, q2, q3⟩ | ⟨q1, q2, q3⟩ | ⟨q1, q2, q3⟩ | ⟨q1, q2, q3⟩ | ⟨q1, q2, q3⟩ | ⟨q1, q2, q3⟩ | ⟨q1, q2, q3⟩ | ⟨q1, q2, q3⟩ | ⟨q1, q2, q3⟩
  · rw [q2, q3]; exact k0 q1
  · rw [q2, q3]; exact k1 q1
  · rw [q2, q3]; exact k2 q1
  · rw [q2, q3]; exact k3 q1
  · rw [q2, q3]; exact k4 q1
  · rw [q2, q3]; exact k5 q1
  · rw [q2, q3]; exact k6 q1
  · rw [q2, q3]; exact k7 q1
  · rw [q2, q3]; exact k8 q1
  · rw [q2, q3]; exact k9 q1
  · rw [q2, q3]; exact k10 q1
theorem r_callI11v {z : Nat} (C0 C1 C2 C3 C4 C5 C6 C7 C8 C9 C10 : Prop)  (H0 H1 H2 H3 H4 H5 H6 H7 H8 H9 H10 : en_H) (pc' : Nat) (hp : pc + 3 = pc') (as rest : List Value) (ha : a < 900) (hq : en_take (.invokespecial z, n, a, b, c) st = some (as, rest)) (hE : Ev d a as h (fun v h' => (C0 ∧ v = none ∧ h' = H0) ∨ (C1 ∧ v = none ∧ h' = H1) ∨ (C2 ∧ v = none ∧ h' = H2) ∨ (C3 ∧ v = none ∧ h' = H3) ∨ (C4 ∧ v = none ∧ h' = H4) ∨ (C5 ∧ v = none ∧ h' = H5) ∨ (C6 ∧ v = none ∧ h' = H6) ∨ (C7 ∧ v = none ∧ h' = H7) ∨ (C8 ∧ v = none ∧ h' = H8) ∨ (C9 ∧ v = none ∧ h' = H9) ∨ (C10 ∧ v = none ∧ h' = H10))) (k0 : C0 → At d xs rt bs (pc', l, rest, H0) Ph) (k1 : C1 → At d xs rt bs (pc', l, rest, H1) Ph) (k2 : C2 → At d xs rt bs (pc', l, rest, H2) Ph) (k3 : C3 → At d xs rt bs (pc', l, rest, H3) Ph) (k4 : C4 → At d xs rt bs (pc', l, rest, H4) Ph) (k5 : C5 → At d xs rt bs (pc', l, rest, H5) Ph) (k6 : C6 → At d xs rt bs (pc', l, rest, H6) Ph) (k7 : C7 → At d xs rt bs (pc', l, rest, H7) Ph) (k8 : C8 → At d xs rt bs (pc', l, rest, H8) Ph) (k9 : C9 → At d xs rt bs (pc', l, rest, H9) Ph) (k10 : C10 → At d xs rt bs (pc', l, rest, H10) Ph) : Ar d xs rt bs ((.invokespecial z, n, a, b, c) :: r) (pc, l, st, h) Ph := by
  refine r_callI pc' hp as rest ha hq hE ?_
  intro v h' hv
  rcases hv with ⟨q1, q2, q3⟩ | ⟨q1, q2, q3⟩ | ⟨q1, q2, q3⟩ | ⟨q1, q2, q3⟩ | ⟨q1, q2, q3⟩ | ⟨q1, q2, q3⟩ | ⟨q1, q2, q3⟩ | ⟨q1, q2, q3⟩ | ⟨q1, q2, q3⟩ | ⟨q1, q2, q3⟩ | ⟨q1, q2, q3⟩
  · rw [q2, q3]; exact k0 q1
  · rw [q2, q3]; exact k1 q1
  · rw [q2, q3]; exact k2 q1
  · rw [q2, q3]; exact k3 q1
  · rw [q2, q3]; exact k4 q1
  · rw [q2, q3]; exact k5 q1
  · rw [q2, q3]; exact k6 q1
  · rw [q2, q3]; exact k7 q1
  · rw [q2, q3]; exact k8 q1
  · rw [q2, q3]; exact k9 q1
  · rw [q2, q3]; exact k10 q1
theorem r_callI12s {z : Nat} (C0 C1 C2 C3 C4 C5 C6 C7 C8 C9 C10 C11 : Prop) (R0 R1 R2 R3 R4 R5 R6 R7 R8 R9 R10 R11 : Value) (H0 H1 H2 H3 H4 H5 H6 H7 H8 H9 H10 H11 : en_H) (pc' : Nat) (hp : pc + 3 = pc') (as rest : List Value) (ha : a < 900) (hq : en_take (.invokespecial z, n, a, b, c) st = some (as, rest)) (hE : Ev d a as h (fun v h' => (C0 ∧ v = some R0 ∧ h' = H0) ∨ (C1 ∧ v = some R1 ∧ h' = H1) ∨ (C2 ∧ v = some R2 ∧ h' = H2) ∨ (C3 ∧ v = some R3 ∧ h' = H3) ∨ (C4 ∧ v = some R4 ∧ h' = H4) ∨ (C5 ∧ v = some R5 ∧ h' = H5) ∨ (C6 ∧ v = some R6 ∧ h' = H6) ∨ (C7 ∧ v = some R7 ∧ h' = H7) ∨ (C8 ∧ v = some R8 ∧ h' = H8) ∨ (C9 ∧ v = some R9 ∧ h' = H9) ∨ (C10 ∧ v = some R10 ∧ h' = H10) ∨ (C11 ∧ v = some R11 ∧ h' = H11))) (k0 : C0 → At d xs rt bs (pc', l, R0 :: rest, H0) Ph) (k1 : C1 → At d xs rt bs (pc', l, R1 :: rest, H1) Ph) (k2 : C2 → At d xs rt bs (pc', l, R2 :: rest, H2) Ph) (k3 : C3 → At d xs rt bs (pc', l, R3 :: rest, H3) Ph) (k4 : C4 → At d xs rt bs (pc', l, R4 :: rest, H4) Ph) (k5 : C5 → At d xs rt bs (pc', l, R5 :: rest, H5) Ph) (k6 : C6 → At d xs rt bs (pc', l, R6 :: rest, H6) Ph) (k7 : C7 → At d xs rt bs (pc', l, R7 :: rest, H7) Ph) (k8 : C8 → At d xs rt bs (pc', l, R8 :: rest, H8) Ph) (k9 : C9 → At d xs rt bs (pc', l, R9 :: rest, H9) Ph) (k10 : C10 → At d xs rt bs (pc', l, R10 :: rest, H10) Ph) (k11 : C11 → At d xs rt bs (pc', l, R11 :: rest, H11) Ph) : Ar d xs rt bs ((.invokespecial z, n, a, b, c) :: r) (pc, l, st, h) Ph := by
  refine r_callI pc' hp as rest ha hq hE ?_
  intro v h' hv
  rcases hv with ⟨q1, q2, q3⟩ | ⟨q1, q2, q3⟩ | ⟨q1, q2, q3⟩ | ⟨q1, q2, q3⟩ | ⟨q1, q2, q3⟩ | ⟨q1, q2, q3⟩ | ⟨q1, q2, q3⟩ | ⟨q1, q2, q3⟩ | ⟨q1, q2, q3⟩ | ⟨q1, q2, q3⟩ | ⟨q1, q2, q3⟩ | ⟨q1, q2, q3⟩
  · rw [q2, q3]; exact k0 q1
  · rw [q2, q3]; exact k1 q1
  · rw [q2, q3]; exact k2 q1
  · rw [q2, q3]; exact k3 q1
  · rw [q2, q3]; exact k4 q1
  · rw [q2, q3]; exact k5 q1
  · rw [q2, q3]; exact k6 q1
  · rw [q2, q3]; exact k7 q1
  · rw [q2, q3]; exact k8 q1
  · rw [q2, q3]; exact k9 q1
  · rw [q2, q3]; exact k10 q1
  · rw [q2, q3]; exact k11 q1
theorem r_callI12v {z : Nat} (C0 C1 C2 C3 C4 C5 C6 C7 C8 C9 C10 C11 : Prop)  (H0 H1 H2 H3 H4 H5 H6 H7 H8 H9 H10 H11 : en_H) (pc' : Nat) (hp : pc + 3 = pc') (as rest : List Value) (ha : a < 900) (hq : en_take (.invokespecial z, n, a, b, c) st = some (as, rest)) (hE : Ev d a as h (fun v h' => (C0 ∧ v = none ∧ h' = H0) ∨ (C1 ∧ v = none ∧ h' = H1) ∨ (C2 ∧ v = none ∧ h' = H2) ∨ (C3 ∧ v = none ∧ h' = H3) ∨ (C4 ∧ v = none ∧ h' = H4) ∨ (C5 ∧ v = none ∧ h' = H5) ∨ (C6 ∧ v = none ∧ h' = H6) ∨ (C7 ∧ v = none ∧ h' = H7) ∨ (C8 ∧ v = none ∧ h' = H8) ∨ (C9 ∧ v = none ∧ h' = H9) ∨ (C10 ∧ v = none ∧ h' = H10) ∨ (C11 ∧ v = none ∧ h' = H11))) (k0 : C0 → At d xs rt bs (pc', l, rest, H0) Ph) (k1 : C1 → At d xs rt bs (pc', l, rest, H1) Ph) (k2 : C2 → At d xs rt bs (pc', l, rest, H2) Ph) (k3 : C3 → At d xs rt bs (pc', l, rest, H3) Ph) (k4 : C4 → At d xs rt bs (pc', l, rest, H4) Ph) (k5 : C5 → At d xs rt bs (pc', l, rest, H5) Ph) (k6 : C6 → At d xs rt bs (pc', l, rest, H6) Ph) (k7 : C7 → At d xs rt bs (pc', l, rest, H7) Ph) (k8 : C8 → At d xs rt bs (pc', l, rest, H8) Ph) (k9 : C9 → At d xs rt bs (pc', l, rest, H9) Ph) (k10 : C10 → At d xs rt bs (pc', l, rest, H10) Ph) (k11 : C11 → At d xs rt bs (pc', l, rest, H11) Ph) : Ar d xs rt bs ((.invokespecial z, n, a, b, c) :: r) (pc, l, st, h) Ph := by
  refine r_callI pc' hp as rest ha hq hE ?_
  intro v h' hv
  rcases hv with ⟨q1, q2, q3⟩ | ⟨q1, q2, q3⟩ | ⟨q1, q2, q3⟩ | ⟨q1, q2, q3⟩ | ⟨q1, q2, q3⟩ | ⟨q1, q2, q3⟩ | ⟨q1, q2, q3⟩ | ⟨q1, q2, q3⟩ | ⟨q1, q2, q3⟩ | ⟨q1, q2, q3⟩ | ⟨q1, q2, q3⟩ | ⟨q1, q2, q3⟩
  · rw [q2, q3]; exact k0 q1
  · rw [q2, q3]; exact k1 q1
  · rw [q2, q3]; exact k2 q1
  · rw [q2, q3]; exact k3 q1
  · rw [q2, q3]; exact k4 q1
  · rw [q2, q3]; exact k5 q1
  · rw [q2, q3]; exact k6 q1
  · rw [q2, q3]; exact k7 q1
  · rw [q2, q3]; exact k8 q1
  · rw [q2, q3]; exact k9 q1
  · rw [q2, q3]; exact k10 q1
  · rw [q2, q3]; exact k11 q1
end RW
