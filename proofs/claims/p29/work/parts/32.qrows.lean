/-! ===== rows over the readers and writers ===== -/
section QR
variable {d : Nat} {xs : Option (List Int32)} {rt : Option FieldType} {bs : en_Bs} {r : List en_Op} {n a b c pc : Nat} {l : en_L} {st : List Value} {g : List en_E} {h : en_H} {N : Nat} {Ph : Option Value → en_H → Prop}
theorem q_getR {z p q : Nat} (h : ∃ gs, g[p]? = some (.inr (a, gs)) ∧ gs[b]? = some (.ref q)) (k : Ar d xs rt bs r (pc + n, l, .ref q :: st, (g, N)) Ph) : Ar d xs rt bs ((.getfield z, n, a, b, c) :: r) (pc, l, (.ref p :: st), (g, N)) Ph := by
  obtain ⟨gs, h1, h2⟩ := h
  exact r_get h1 h2 k
theorem q_getI {z p : Nat} (h : ∃ gs, g[p]? = some (.inr (a, gs)) ∧ gs[b]? = some (.int (gI g p b))) (v : Int32) (hv : gI g p b = v) (k : Ar d xs rt bs r (pc + n, l, .int v :: st, (g, N)) Ph) : Ar d xs rt bs ((.getfield z, n, a, b, c) :: r) (pc, l, (.ref p :: st), (g, N)) Ph := by
  obtain ⟨gs, h1, h2⟩ := h
  subst hv
  exact r_get h1 h2 k
theorem q_getI' {z p : Nat} (h : ∃ gs, g[p]? = some (.inr (a, gs)) ∧ gs[b]? = some (.int (gI g p b))) (k : ∀ v : Int32, gI g p b = v → Ar d xs rt bs r (pc + n, l, .int v :: st, (g, N)) Ph) : Ar d xs rt bs ((.getfield z, n, a, b, c) :: r) (pc, l, (.ref p :: st), (g, N)) Ph := q_getI h _ rfl (k _ rfl)
theorem q_aald {p t : Nat} {ys : List (Option Nat)} {i : Int32} (h : g[p]? = some (.inl (t, .inr (.inr ys)))) (ht : t = 3 ∨ t = 4) (j : Int) (hj : i.toInt = j) (h0 : 0 ≤ j) (v : Option Nat) (hv : ys[j.toNat]? = some v) (k : Ar d xs rt bs r (pc + n, l, en_rf v :: st, (g, N)) Ph) : Ar d xs rt bs ((.aaload, n, a, b, c) :: r) (pc, l, (.int i :: .ref p :: st), (g, N)) Ph := by
  have hi : ¬ i < 0 := fun q => by
    have h1 := Int32.lt_iff_toInt_lt.mp q
    have : (0 : Int32).toInt = 0 := rfl
    omega
  refine r_aald h ht hi ?_ k
  show ys[i.toInt.toNat]? = _
  rw [hj]
  exact hv
theorem q_getJv {z p : Nat} (h : ∃ gs, g[p]? = some (.inr (a, gs)) ∧ gs[b]? = some (.long (gJ g p b))) (v : Int64) (hv : gJ g p b = v) (k : Ar d xs rt bs r (pc + n, l, .long v :: st, (g, N)) Ph) : Ar d xs rt bs ((.getfield z, n, a, b, c) :: r) (pc, l, (.ref p :: st), (g, N)) Ph := by
  obtain ⟨gs, h1, h2⟩ := h
  subst hv
  exact r_get h1 h2 k
theorem q_getJ {z p : Nat} (h : ∃ gs, g[p]? = some (.inr (a, gs)) ∧ gs[b]? = some (.long (gJ g p b))) (k : ∀ v : Int64, Ar d xs rt bs r (pc + n, l, .long v :: st, (g, N)) Ph) : Ar d xs rt bs ((.getfield z, n, a, b, c) :: r) (pc, l, (.ref p :: st), (g, N)) Ph := by
  obtain ⟨gs, h1, h2⟩ := h
  exact r_get h1 h2 (k _)
theorem q_putI {z p : Nat} {v w : Int32} (h : ∃ gs, g[p]? = some (.inr (a, gs)) ∧ gs[b]? = some (.int w)) (hf : en_fit (en_tyf a b) (.int v) = true) (k : Ar d xs rt bs r (pc + n, l, st, (sI g p b v, N)) Ph) : Ar d xs rt bs ((.putfield z, n, a, b, c) :: r) (pc, l, (.int v :: .ref p :: st), (g, N)) Ph := by
  obtain ⟨gs, h1, h2⟩ := h
  refine r_putf h1 (List.getElem?_eq_some_iff.mp h2).1 hf _ rfl (Ar.hp ?_ k)
  unfold sI
  rw [h1]
theorem q_putJ {z p : Nat} {v w : Int64} (h : ∃ gs, g[p]? = some (.inr (a, gs)) ∧ gs[b]? = some (.long w)) (hf : en_fit (en_tyf a b) (.long v) = true) (k : Ar d xs rt bs r (pc + n, l, st, (sJ g p b v, N)) Ph) : Ar d xs rt bs ((.putfield z, n, a, b, c) :: r) (pc, l, (.long v :: .ref p :: st), (g, N)) Ph := by
  obtain ⟨gs, h1, h2⟩ := h
  refine r_putf h1 (List.getElem?_eq_some_iff.mp h2).1 hf _ rfl (Ar.hp ?_ k)
  unfold sJ
  rw [h1]
theorem q_ge0 {i : Int32} {j : Int} (hj : i.toInt = j) (h0 : 0 ≤ j) : ¬ i < 0 := fun q => by
  have h1 := Int32.lt_iff_toInt_lt.mp q
  have : (0 : Int32).toInt = 0 := rfl
  omega
theorem q_at {ys : List Int32} {m : Nat} {i : Int32} {j : Int} (hl : ys.length = m) (hj : i.toInt = j) (h0 : 0 ≤ j ∧ j < m) : ys[i.toNatClampNeg]? = some (ys.getD j.toNat 0) := by
  have e : i.toNatClampNeg = j.toNat := by show i.toInt.toNat = _; rw [hj]
  rw [e, List.getD_eq_getElem?_getD, List.getElem?_eq_getElem (by omega)]
  rfl
theorem q_atL {ys : List Int64} {m : Nat} {i : Int32} {j : Int} (hl : ys.length = m) (hj : i.toInt = j) (h0 : 0 ≤ j ∧ j < m) : ys[i.toNatClampNeg]? = some (ys.getD j.toNat 0) := by
  have e : i.toNatClampNeg = j.toNat := by show i.toInt.toNat = _; rw [hj]
  rw [e, List.getD_eq_getElem?_getD, List.getElem?_eq_getElem (by omega)]
  rfl
theorem q_iald {p m : Nat} {i : Int32} (h : g[p]? = some (.inl (0, .inl (gA g p))) ∧ (gA g p).length = m) (j : Int) (hj : i.toInt = j) (h0 : 0 ≤ j ∧ j < m) (v : Int32) (hv : eA g p j = v) (k : Ar d xs rt bs r (pc + n, l, .int v :: st, (g, N)) Ph) : Ar d xs rt bs ((.iaload, n, a, b, c) :: r) (pc, l, (.int i :: .ref p :: st), (g, N)) Ph := by
  subst hv
  exact r_iald h.1 (q_ge0 hj h0.1) (q_at h.2 hj h0) k
theorem q_bald {p m : Nat} {i : Int32} (h : g[p]? = some (.inl (2, .inl (gA g p))) ∧ (gA g p).length = m) (j : Int) (hj : i.toInt = j) (h0 : 0 ≤ j ∧ j < m) (v : Int32) (hv : eA g p j = v) (k : Ar d xs rt bs r (pc + n, l, .int v :: st, (g, N)) Ph) : Ar d xs rt bs ((.baload, n, a, b, c) :: r) (pc, l, (.int i :: .ref p :: st), (g, N)) Ph := by
  subst hv
  exact r_bald h.1 (q_ge0 hj h0.1) (q_at h.2 hj h0) k
theorem q_iald' {p m : Nat} {i : Int32} (h : g[p]? = some (.inl (0, .inl (gA g p))) ∧ (gA g p).length = m) (j : Int) (hj : i.toInt = j) (h0 : 0 ≤ j ∧ j < m) (k : ∀ v : Int32, eA g p j = v → Ar d xs rt bs r (pc + n, l, .int v :: st, (g, N)) Ph) : Ar d xs rt bs ((.iaload, n, a, b, c) :: r) (pc, l, (.int i :: .ref p :: st), (g, N)) Ph := q_iald h j hj h0 _ rfl (k _ rfl)
theorem q_bald' {p m : Nat} {i : Int32} (h : g[p]? = some (.inl (2, .inl (gA g p))) ∧ (gA g p).length = m) (j : Int) (hj : i.toInt = j) (h0 : 0 ≤ j ∧ j < m) (k : ∀ v : Int32, eA g p j = v → Ar d xs rt bs r (pc + n, l, .int v :: st, (g, N)) Ph) : Ar d xs rt bs ((.baload, n, a, b, c) :: r) (pc, l, (.int i :: .ref p :: st), (g, N)) Ph := q_bald h j hj h0 _ rfl (k _ rfl)
theorem q_scald {ys : List Int32} {m : Nat} {i : Int32} (hl : ys.length = m) (j : Int) (hj : i.toInt = j) (h0 : 0 ≤ j ∧ j < m) (k : ∀ v : Int32, ys.getD j.toNat 0 = v → Ar d (some ys) rt bs r (pc + n, l, .int v :: st, h) Ph) : Ar d (some ys) rt bs ((.iaload, n, a, b, c) :: r) (pc, l, (.int i :: .float 0 :: st), h) Ph := r_scald (q_ge0 hj h0.1) (q_at hl hj h0) (k _ rfl)
theorem q_sclen {ys : List Int32} {m : Nat} (hl : ys.length = m) (hm : m ≤ 3584) (k : ∀ v : Int32, v.toInt = m → Ar d (some ys) rt bs r (pc + n, l, .int v :: st, h) Ph) : Ar d (some ys) rt bs ((.arraylength, n, a, b, c) :: r) (pc, l, (.float 0 :: st), h) Ph := r_sclen _ rfl (k _ (by rw [hl]; exact Int32.toInt_ofNat_of_lt (by omega)))
theorem q_lald {p m : Nat} {i : Int32} (h : g[p]? = some (.inl (1, .inr (.inl (gK g p)))) ∧ (gK g p).length = m) (j : Int) (hj : i.toInt = j) (h0 : 0 ≤ j ∧ j < m) (k : ∀ v : Int64, Ar d xs rt bs r (pc + n, l, .long v :: st, (g, N)) Ph) : Ar d xs rt bs ((.laload, n, a, b, c) :: r) (pc, l, (.int i :: .ref p :: st), (g, N)) Ph :=
  r_lald h.1 (q_ge0 hj h0.1) (q_atL h.2 hj h0) (k _)
theorem q_iast {p m : Nat} {i v : Int32} (h : g[p]? = some (.inl (0, .inl (gA g p))) ∧ (gA g p).length = m) (j : Int) (hj : i.toInt = j) (h0 : 0 ≤ j ∧ j < m) (k : Ar d xs rt bs r (pc + n, l, st, (sA g p j v, N)) Ph) : Ar d xs rt bs ((.iastore, n, a, b, c) :: r) (pc, l, (.int v :: .int i :: .ref p :: st), (g, N)) Ph := by
  have e : i.toNatClampNeg = j.toNat := by show i.toInt.toNat = _; rw [hj]
  refine r_iast h.1 (q_ge0 hj h0.1) (by rw [e, h.2]; omega) _ rfl (Ar.hp ?_ k)
  unfold sA sW
  rw [h.1, e]
theorem q_bast {p m : Nat} {i v : Int32} (h : g[p]? = some (.inl (2, .inl (gA g p))) ∧ (gA g p).length = m) (j : Int) (hj : i.toInt = j) (h0 : 0 ≤ j ∧ j < m) (hb : v &&& 1 = v) (k : Ar d xs rt bs r (pc + n, l, st, (sA g p j v, N)) Ph) : Ar d xs rt bs ((.bastore, n, a, b, c) :: r) (pc, l, (.int v :: .int i :: .ref p :: st), (g, N)) Ph := by
  have e : i.toNatClampNeg = j.toNat := by show i.toInt.toNat = _; rw [hj]
  refine r_bast h.1 (q_ge0 hj h0.1) (by rw [e, h.2]; omega) _ rfl (Ar.hp ?_ k)
  unfold sA sW
  rw [h.1, e, hb]
theorem q_last {p m : Nat} {i : Int32} {v : Int64} (h : g[p]? = some (.inl (1, .inr (.inl (gK g p)))) ∧ (gK g p).length = m) (j : Int) (hj : i.toInt = j) (h0 : 0 ≤ j ∧ j < m) (k : Ar d xs rt bs r (pc + n, l, st, (sK g p j v, N)) Ph) : Ar d xs rt bs ((.lastore, n, a, b, c) :: r) (pc, l, (.long v :: .int i :: .ref p :: st), (g, N)) Ph := by
  have e : i.toNatClampNeg = j.toNat := by show i.toInt.toNat = _; rw [hj]
  refine r_last h.1 (q_ge0 hj h0.1) (by rw [e, h.2]; omega) _ rfl (Ar.hp ?_ k)
  unfold sK sX
  rw [h.1, e]
theorem q_cpy {z p0 p1 m0 m1 : Nat} {sp dp m : Int32} (ha : a = 901) (hc : en_cs st ≤ 8) (h0 : g[p0]? = some (.inl (0, .inl (gA g p0))) ∧ (gA g p0).length = m0) (h1 : g[p1]? = some (.inl (0, .inl (gA g p1))) ∧ (gA g p1).length = m1) (hs : 0 ≤ sp.toInt ∧ 0 ≤ dp.toInt ∧ 0 ≤ m.toInt ∧ sp.toInt + m.toInt ≤ m0 ∧ dp.toInt + m.toInt ≤ m1) (k : Ar d xs rt bs r (pc + n, l, st, (sW g p1 (en_cpy (gA g p0) (gA g p1) sp.toInt.toNat dp.toInt.toNat m.toInt.toNat), N)) Ph) : Ar d xs rt bs ((.invokestatic z, n, a, b, c) :: r) (pc, l, (.int m :: .int dp :: .ref p1 :: .int sp :: .ref p0 :: st), (g, N)) Ph := by
  obtain ⟨s1, s2, s3, s4, s5⟩ := hs
  refine r_cpy ha h0.1 h1.1 ⟨⟨rfl, rfl, hc⟩, ⟨q_ge0 rfl s1, q_ge0 rfl s2, q_ge0 rfl s3⟩, ?_, ?_⟩ _ rfl (Ar.hp ?_ k)
  · show sp.toInt.toNat + m.toInt.toNat ≤ _; rw [h0.2]; omega
  · show dp.toInt.toNat + m.toInt.toNat ≤ _; rw [h1.2]; omega
  · unfold sW
    rw [h1.1]
    rfl
theorem q_iadd {x y : Int32} (e : Int) (he : x.toInt + y.toInt = e) (hb : -2147483648 ≤ e ∧ e ≤ 2147483647) (k : ∀ v : Int32, v.toInt = e → Ar d xs rt bs r (pc + n, l, .int v :: st, h) Ph) : Ar d xs rt bs ((.iadd, n, a, b, c) :: r) (pc, l, (.int y :: .int x :: st), h) Ph :=
  r_iadd (x + y) rfl (k _ (by rw [Int32.toInt_add, he]; exact Int.bmod_eq_of_le (by omega) (by omega)))
theorem q_isub {x y : Int32} (e : Int) (he : x.toInt - y.toInt = e) (hb : -2147483648 ≤ e ∧ e ≤ 2147483647) (k : ∀ v : Int32, v.toInt = e → Ar d xs rt bs r (pc + n, l, .int v :: st, h) Ph) : Ar d xs rt bs ((.isub, n, a, b, c) :: r) (pc, l, (.int y :: .int x :: st), h) Ph :=
  r_isub (x - y) rfl (k _ (by rw [Int32.toInt_sub, he]; exact Int.bmod_eq_of_le (by omega) (by omega)))
theorem q_imul {x y : Int32} (e : Int) (he : x.toInt * y.toInt = e) (hb : -2147483648 ≤ e ∧ e ≤ 2147483647) (k : ∀ v : Int32, v.toInt = e → Ar d xs rt bs r (pc + n, l, .int v :: st, h) Ph) : Ar d xs rt bs ((.imul, n, a, b, c) :: r) (pc, l, (.int y :: .int x :: st), h) Ph :=
  r_imul (x * y) rfl (k _ (by rw [Int32.toInt_mul, he]; exact Int.bmod_eq_of_le (by omega) (by omega)))
theorem q_ineg {x : Int32} (e : Int) (he : - x.toInt = e) (hb : -2147483648 ≤ e ∧ e ≤ 2147483647) (k : ∀ v : Int32, v.toInt = e → Ar d xs rt bs r (pc + n, l, .int v :: st, h) Ph) : Ar d xs rt bs ((.ineg, n, a, b, c) :: r) (pc, l, (.int x :: st), h) Ph :=
  r_ineg (-x) rfl (k _ (by rw [Int32.toInt_neg, he]; exact Int.bmod_eq_of_le (by omega) (by omega)))
theorem q_iaddO {x y : Int32} (k : ∀ v : Int32, v = x + y → Ar d xs rt bs r (pc + n, l, .int v :: st, h) Ph) : Ar d xs rt bs ((.iadd, n, a, b, c) :: r) (pc, l, (.int y :: .int x :: st), h) Ph := r_iadd _ rfl (k _ rfl)
theorem q_isubO {x y : Int32} (k : ∀ v : Int32, v = x - y → Ar d xs rt bs r (pc + n, l, .int v :: st, h) Ph) : Ar d xs rt bs ((.isub, n, a, b, c) :: r) (pc, l, (.int y :: .int x :: st), h) Ph := r_isub _ rfl (k _ rfl)
theorem q_imulO {x y : Int32} (k : ∀ v : Int32, v = x * y → Ar d xs rt bs r (pc + n, l, .int v :: st, h) Ph) : Ar d xs rt bs ((.imul, n, a, b, c) :: r) (pc, l, (.int y :: .int x :: st), h) Ph := r_imul _ rfl (k _ rfl)
theorem q_inegO {x : Int32} (k : ∀ v : Int32, v = -x → Ar d xs rt bs r (pc + n, l, .int v :: st, h) Ph) : Ar d xs rt bs ((.ineg, n, a, b, c) :: r) (pc, l, (.int x :: st), h) Ph := r_ineg _ rfl (k _ rfl)
theorem q_iandO {x y : Int32} (k : ∀ v : Int32, v = x &&& y → Ar d xs rt bs r (pc + n, l, .int v :: st, h) Ph) : Ar d xs rt bs ((.iand, n, a, b, c) :: r) (pc, l, (.int y :: .int x :: st), h) Ph := r_iand _ rfl (k _ rfl)
theorem q_iorO {x y : Int32} (k : ∀ v : Int32, v = x ||| y → Ar d xs rt bs r (pc + n, l, .int v :: st, h) Ph) : Ar d xs rt bs ((.ior, n, a, b, c) :: r) (pc, l, (.int y :: .int x :: st), h) Ph := r_ior _ rfl (k _ rfl)
theorem q_ishlO {x y : Int32} (k : ∀ v : Int32, v = x <<< (y &&& 31) → Ar d xs rt bs r (pc + n, l, .int v :: st, h) Ph) : Ar d xs rt bs ((.ishl, n, a, b, c) :: r) (pc, l, (.int y :: .int x :: st), h) Ph := r_ishl _ rfl (k _ rfl)
theorem q_ishrO {x y : Int32} (k : ∀ v : Int32, v = x >>> (y &&& 31) → Ar d xs rt bs r (pc + n, l, .int v :: st, h) Ph) : Ar d xs rt bs ((.ishr, n, a, b, c) :: r) (pc, l, (.int y :: .int x :: st), h) Ph := r_ishr _ rfl (k _ rfl)
theorem q_iushrO {x y : Int32} (k : ∀ v : Int32, v = (x.toUInt32 >>> (y.toUInt32 &&& Int32.toUInt32 31)).toInt32 → Ar d xs rt bs r (pc + n, l, .int v :: st, h) Ph) : Ar d xs rt bs ((.iushr, n, a, b, c) :: r) (pc, l, (.int y :: .int x :: st), h) Ph := r_iushr _ rfl (k _ rfl)
theorem q_ne0 {x : Int32} (h : x.toInt ≠ 0) : ¬ x = 0 := fun e => h (by rw [e]; rfl)
theorem q_ne0L {x : Int64} (h : x.toInt ≠ 0) : ¬ x = 0 := fun e => h (by rw [e]; rfl)
theorem q_idivO {x y : Int32} (hy : y.toInt ≠ 0) (k : ∀ v : Int32, v = x / y → Ar d xs rt bs r (pc + n, l, .int v :: st, h) Ph) : Ar d xs rt bs ((.idiv, n, a, b, c) :: r) (pc, l, (.int y :: .int x :: st), h) Ph := r_idiv (q_ne0 hy) _ rfl (k _ rfl)
theorem q_iremO {x y : Int32} (hy : y.toInt ≠ 0) (k : ∀ v : Int32, v = x - x / y * y → Ar d xs rt bs r (pc + n, l, .int v :: st, h) Ph) : Ar d xs rt bs ((.irem, n, a, b, c) :: r) (pc, l, (.int y :: .int x :: st), h) Ph := r_irem (q_ne0 hy) _ rfl (k _ rfl)
theorem q_dv {x y : Int32} {m : Int} (hx : 0 ≤ x.toInt) (hm : y.toInt = m) (h1 : 1 ≤ m) : (x / y).toInt = x.toInt / m := by
  have hy := y.toInt_lt
  have hx2 := x.toInt_lt
  have e : x.toInt.tdiv y.toInt = x.toInt / m := by rw [hm, Int.tdiv_eq_ediv_of_nonneg hx]
  have l1 : x.toInt / m ≤ x.toInt := Int.ediv_le_self _ hx
  have l0 : 0 ≤ x.toInt / m := Int.ediv_nonneg hx (by omega)
  rw [Int32.toInt_div, e]
  exact Int.bmod_eq_of_le (by omega) (by omega)
theorem q_idiv {x y : Int32} (m : Int) (hm : y.toInt = m) (h1 : 1 ≤ m) (hx : 0 ≤ x.toInt) (k : ∀ v : Int32, v.toInt = x.toInt / m → Ar d xs rt bs r (pc + n, l, .int v :: st, h) Ph) : Ar d xs rt bs ((.idiv, n, a, b, c) :: r) (pc, l, (.int y :: .int x :: st), h) Ph := r_idiv (q_ne0 (by omega)) _ rfl (k _ (q_dv hx hm h1))
theorem q_irem {x y : Int32} (m : Int) (hm : y.toInt = m) (h1 : 1 ≤ m) (hx : 0 ≤ x.toInt) (k : ∀ v : Int32, v.toInt = x.toInt % m → Ar d xs rt bs r (pc + n, l, .int v :: st, h) Ph) : Ar d xs rt bs ((.irem, n, a, b, c) :: r) (pc, l, (.int y :: .int x :: st), h) Ph := by
  refine r_irem (q_ne0 (by omega)) _ rfl (k _ ?_)
  have e1 := q_dv hx hm h1
  have hx2 := x.toInt_lt
  have e2 : x.toInt / m * m = x.toInt - x.toInt % m := by have := Int.mul_ediv_add_emod x.toInt m; rw [Int.mul_comm] at this; omega
  have m0 : 0 ≤ x.toInt % m := Int.emod_nonneg _ (by omega)
  have p0 : 0 ≤ m * (x.toInt / m) := Int.mul_nonneg (by omega) (Int.ediv_nonneg hx (by omega))
  have pe := Int.mul_ediv_add_emod x.toInt m
  have m1 : x.toInt % m ≤ x.toInt := by omega
  have e3 : (x / y * y).toInt = x.toInt - x.toInt % m := by
    rw [Int32.toInt_mul, e1, hm, e2]
    exact Int.bmod_eq_of_le (by omega) (by omega)
  rw [Int32.toInt_sub, e3]
  rw [show x.toInt - (x.toInt - x.toInt % m) = x.toInt % m by omega]
  exact Int.bmod_eq_of_le (by omega) (by omega)
theorem q_iinc {z : Nat} {m : Int} {x : Int32} (hg : en_get z l = some (.int x)) (e : Int) (he : x.toInt + (Int32.ofInt m).toInt = e) (hb : -2147483648 ≤ e ∧ e ≤ 2147483647) (k : ∀ v : Int32, v.toInt = e → Ar d xs rt bs r (pc + n, en_put1 z (.int v) l, st, h) Ph) : Ar d xs rt bs ((.iinc z m, n, a, b, c) :: r) (pc, l, st, h) Ph :=
  r_iinc hg _ rfl _ rfl (k _ (by rw [Int32.toInt_add, he]; exact Int.bmod_eq_of_le (by omega) (by omega)))
theorem q_iincO {z : Nat} {m : Int} {x : Int32} (hg : en_get z l = some (.int x)) (k : ∀ v : Int32, v = x + Int32.ofInt m → Ar d xs rt bs r (pc + n, en_put1 z (.int v) l, st, h) Ph) : Ar d xs rt bs ((.iinc z m, n, a, b, c) :: r) (pc, l, st, h) Ph := r_iinc hg _ rfl _ rfl (k _ rfl)
theorem q_i2l {x : Int32} (k : ∀ v : Int64, v.toInt = x.toInt → Ar d xs rt bs r (pc + n, l, .long v :: st, h) Ph) : Ar d xs rt bs ((.i2l, n, a, b, c) :: r) (pc, l, (.int x :: st), h) Ph := r_i2l _ rfl (k _ (Int32.toInt_toInt64 x))
theorem q_l2iO {x : Int64} (k : ∀ v : Int32, v = x.toInt32 → Ar d xs rt bs r (pc + n, l, .int v :: st, h) Ph) : Ar d xs rt bs ((.l2i, n, a, b, c) :: r) (pc, l, (.long x :: st), h) Ph := r_l2i _ rfl (k _ rfl)
theorem q_ladd {x y : Int64} (e : Int) (he : x.toInt + y.toInt = e) (hb : -9223372036854775808 ≤ e ∧ e ≤ 9223372036854775807) (k : ∀ v : Int64, v.toInt = e → Ar d xs rt bs r (pc + n, l, .long v :: st, h) Ph) : Ar d xs rt bs ((.ladd, n, a, b, c) :: r) (pc, l, (.long y :: .long x :: st), h) Ph :=
  r_ladd (x + y) rfl (k _ (by rw [Int64.toInt_add, he]; exact Int.bmod_eq_of_le (by omega) (by omega)))
theorem q_lsub {x y : Int64} (e : Int) (he : x.toInt - y.toInt = e) (hb : -9223372036854775808 ≤ e ∧ e ≤ 9223372036854775807) (k : ∀ v : Int64, v.toInt = e → Ar d xs rt bs r (pc + n, l, .long v :: st, h) Ph) : Ar d xs rt bs ((.lsub, n, a, b, c) :: r) (pc, l, (.long y :: .long x :: st), h) Ph :=
  r_lsub (x - y) rfl (k _ (by rw [Int64.toInt_sub, he]; exact Int.bmod_eq_of_le (by omega) (by omega)))
theorem q_laddO {x y : Int64} (k : ∀ v : Int64, v = x + y → Ar d xs rt bs r (pc + n, l, .long v :: st, h) Ph) : Ar d xs rt bs ((.ladd, n, a, b, c) :: r) (pc, l, (.long y :: .long x :: st), h) Ph := r_ladd _ rfl (k _ rfl)
theorem q_lsubO {x y : Int64} (k : ∀ v : Int64, v = x - y → Ar d xs rt bs r (pc + n, l, .long v :: st, h) Ph) : Ar d xs rt bs ((.lsub, n, a, b, c) :: r) (pc, l, (.long y :: .long x :: st), h) Ph := r_lsub _ rfl (k _ rfl)
theorem q_lmulO {x y : Int64} (k : ∀ v : Int64, v = x * y → Ar d xs rt bs r (pc + n, l, .long v :: st, h) Ph) : Ar d xs rt bs ((.lmul, n, a, b, c) :: r) (pc, l, (.long y :: .long x :: st), h) Ph := r_lmul _ rfl (k _ rfl)
theorem q_ldivO {x y : Int64} (hy : y.toInt ≠ 0) (k : ∀ v : Int64, v = x / y → Ar d xs rt bs r (pc + n, l, .long v :: st, h) Ph) : Ar d xs rt bs ((.ldiv, n, a, b, c) :: r) (pc, l, (.long y :: .long x :: st), h) Ph := r_ldiv (q_ne0L hy) _ rfl (k _ rfl)
theorem q_lremO {x y : Int64} (hy : y.toInt ≠ 0) (k : ∀ v : Int64, v = x - x / y * y → Ar d xs rt bs r (pc + n, l, .long v :: st, h) Ph) : Ar d xs rt bs ((.lrem, n, a, b, c) :: r) (pc, l, (.long y :: .long x :: st), h) Ph := r_lrem (q_ne0L hy) _ rfl (k _ rfl)
theorem q_mmax {z : Nat} {x y : Int32} (ha : a = 902) (hc : en_cs st ≤ 8) (k : ∀ v : Int32, x.toInt ≤ v.toInt ∧ y.toInt ≤ v.toInt ∧ (v.toInt = x.toInt ∨ v.toInt = y.toInt) → Ar d xs rt bs r (pc + n, l, .int v :: st, (g, N)) Ph) : Ar d xs rt bs ((.invokestatic z, n, a, b, c) :: r) (pc, l, (.int y :: .int x :: st), (g, N)) Ph := by
  refine r_mmax ha hc _ rfl (k _ ?_)
  split
  · rename_i h; have := Int32.lt_iff_toInt_lt.mp h; omega
  · rename_i h; have h2 : ¬ x.toInt < y.toInt := fun q => h (Int32.lt_iff_toInt_lt.mpr q); omega
theorem q_mmin {z : Nat} {x y : Int32} (ha : a = 903) (hc : en_cs st ≤ 8) (k : ∀ v : Int32, v.toInt ≤ x.toInt ∧ v.toInt ≤ y.toInt ∧ (v.toInt = x.toInt ∨ v.toInt = y.toInt) → Ar d xs rt bs r (pc + n, l, .int v :: st, (g, N)) Ph) : Ar d xs rt bs ((.invokestatic z, n, a, b, c) :: r) (pc, l, (.int y :: .int x :: st), (g, N)) Ph := by
  refine r_mmin ha hc _ rfl (k _ ?_)
  split
  · rename_i h; have := Int32.lt_iff_toInt_lt.mp h; omega
  · rename_i h; have h2 : ¬ y.toInt < x.toInt := fun q => h (Int32.lt_iff_toInt_lt.mpr q); omega
theorem q_lmax {z : Nat} {x y : Int64} (ha : a = 904) (hc : en_cs st ≤ 8) (k : ∀ v : Int64, x.toInt ≤ v.toInt ∧ y.toInt ≤ v.toInt ∧ (v.toInt = x.toInt ∨ v.toInt = y.toInt) → Ar d xs rt bs r (pc + n, l, .long v :: st, (g, N)) Ph) : Ar d xs rt bs ((.invokestatic z, n, a, b, c) :: r) (pc, l, (.long y :: .long x :: st), (g, N)) Ph := by
  subst ha
  refine Ar.plain (q := (l, .long (if y < x then x else y) :: st, (g, N))) rfl (by show en_nat 904 l _ (g, N) = _; unfold en_nat; rw [if_neg (by decide), if_neg (by decide), if_neg (by decide), if_neg (by decide), if_pos rfl]; simp only; rw [if_pos hc]) (k _ ?_)
  split
  · rename_i h; have := Int64.lt_iff_toInt_lt.mp h; omega
  · rename_i h; have h2 : ¬ y.toInt < x.toInt := fun q => h (Int64.lt_iff_toInt_lt.mpr q); omega
theorem q_lmin {z : Nat} {x y : Int64} (ha : a = 905) (hc : en_cs st ≤ 8) (k : ∀ v : Int64, v.toInt ≤ x.toInt ∧ v.toInt ≤ y.toInt ∧ (v.toInt = x.toInt ∨ v.toInt = y.toInt) → Ar d xs rt bs r (pc + n, l, .long v :: st, (g, N)) Ph) : Ar d xs rt bs ((.invokestatic z, n, a, b, c) :: r) (pc, l, (.long y :: .long x :: st), (g, N)) Ph := by
  subst ha
  refine Ar.plain (q := (l, .long (if y < x then y else x) :: st, (g, N))) rfl (by show en_nat 905 l _ (g, N) = _; unfold en_nat; rw [if_neg (by decide), if_neg (by decide), if_neg (by decide), if_neg (by decide), if_neg (by decide), if_pos rfl]; simp only; rw [if_pos hc]) (k _ ?_)
  split
  · rename_i h; have := Int64.lt_iff_toInt_lt.mp h; omega
  · rename_i h; have h2 : ¬ y.toInt < x.toInt := fun q => h (Int64.lt_iff_toInt_lt.mpr q); omega
theorem q_inlV {z : Nat} (pc' : Nat) (hp : pc + 3 = pc') (as rest : List Value) (ha : a < 900) (hq : en_take (.invokevirtual z, n, a, b, c) st = some (as, rest)) (hE : Ev d a as h (fun v h' => At d xs rt bs (pc', l, v.toList ++ rest, h') Ph)) : Ar d xs rt bs ((.invokevirtual z, n, a, b, c) :: r) (pc, l, st, h) Ph := r_callV pc' hp as rest ha hq hE (fun _ _ k => k)
theorem q_inlS {z : Nat} (pc' : Nat) (hp : pc + 3 = pc') (as rest : List Value) (ha : a < 900) (hq : en_take (.invokestatic z, n, a, b, c) st = some (as, rest)) (hE : Ev d a as h (fun v h' => At d xs rt bs (pc', l, v.toList ++ rest, h') Ph)) : Ar d xs rt bs ((.invokestatic z, n, a, b, c) :: r) (pc, l, st, h) Ph := r_callS pc' hp as rest ha hq hE (fun _ _ k => k)
theorem q_inlI {z : Nat} (pc' : Nat) (hp : pc + 3 = pc') (as rest : List Value) (ha : a < 900) (hq : en_take (.invokespecial z, n, a, b, c) st = some (as, rest)) (hE : Ev d a as h (fun v h' => At d xs rt bs (pc', l, v.toList ++ rest, h') Ph)) : Ar d xs rt bs ((.invokespecial z, n, a, b, c) :: r) (pc, l, st, h) Ph := r_callI pc' hp as rest ha hq hE (fun _ _ k => k)
section RT
variable {d2 pc2 : Nat} {xs2 : Option (List Int32)} {rt2 : Option FieldType} {bs2 : en_Bs} {l2 : en_L} {rest : List Value} {Ph2 : Option Value → en_H → Prop}
theorem q_ireti {v : Int32} (k : At d2 xs2 rt2 bs2 (pc2, l2, .int v :: rest, h) Ph2) : Ar d xs (some .int) bs ((.ireturn, n, a, b, c) :: r) (pc, l, [.int v], h) (fun w h' => At d2 xs2 rt2 bs2 (pc2, l2, w.toList ++ rest, h') Ph2) := r_ireti k
theorem q_iretz {v : Int32} (hv : v = 0 ∨ v = 1) (k : At d2 xs2 rt2 bs2 (pc2, l2, .int v :: rest, h) Ph2) : Ar d xs (some .boolean) bs ((.ireturn, n, a, b, c) :: r) (pc, l, [.int v], h) (fun w h' => At d2 xs2 rt2 bs2 (pc2, l2, w.toList ++ rest, h') Ph2) := r_iretz hv k
theorem q_lret {v : Int64} (k : At d2 xs2 rt2 bs2 (pc2, l2, .long v :: rest, h) Ph2) : Ar d xs (some .long) bs ((.lreturn, n, a, b, c) :: r) (pc, l, [.long v], h) (fun w h' => At d2 xs2 rt2 bs2 (pc2, l2, w.toList ++ rest, h') Ph2) := r_lret k
theorem q_aret {v : Nat} {C : String} (k : At d2 xs2 rt2 bs2 (pc2, l2, .ref v :: rest, h) Ph2) : Ar d xs (some (.object C)) bs ((.areturn, n, a, b, c) :: r) (pc, l, [.ref v], h) (fun w h' => At d2 xs2 rt2 bs2 (pc2, l2, w.toList ++ rest, h') Ph2) := r_aret k
theorem q_zret {C : String} (k : At d2 xs2 rt2 bs2 (pc2, l2, .null :: rest, h) Ph2) : Ar d xs (some (.object C)) bs ((.areturn, n, a, b, c) :: r) (pc, l, [.null], h) (fun w h' => At d2 xs2 rt2 bs2 (pc2, l2, w.toList ++ rest, h') Ph2) := r_zret k
theorem r_sret {v : UInt32} {C : String} {Ph : Option Value → en_H → Prop} (k : Ph (some (.float v)) h) : Ar d xs (some (.object C)) bs ((.areturn, n, a, b, c) :: r) (pc, l, [.float v], h) Ph := Ar.leave (w := (some (.float v), h)) rfl k
theorem q_sret {v : UInt32} {C : String} (k : At d2 xs2 rt2 bs2 (pc2, l2, .float v :: rest, h) Ph2) : Ar d xs (some (.object C)) bs ((.areturn, n, a, b, c) :: r) (pc, l, [.float v], h) (fun w h' => At d2 xs2 rt2 bs2 (pc2, l2, w.toList ++ rest, h') Ph2) := r_sret k
theorem q_vret (k : At d2 xs2 rt2 bs2 (pc2, l2, rest, h) Ph2) : Ar d xs none bs ((.return_, n, a, b, c) :: r) (pc, l, [], h) (fun w h' => At d2 xs2 rt2 bs2 (pc2, l2, w.toList ++ rest, h') Ph2) := r_vret k
end RT
theorem q_rc {J : en_I} {p ci : Nat} {fs as : List Value} (hS : Sh g) (k : kO ci p fs) (hJ : Nat.beq ci J.2.2.2.2.1 = true) : en_rc J (.ref p :: as) (g, N) = true := by
  obtain ⟨gs, h1, -⟩ := hS.obj k
  exact en_rcI h1 hJ
end QR
/-! ===== locals ===== -/
theorem w_fne {k : Nat} {x : Value} {f : Nat × Value → Bool} (hf : ∀ q : Nat × Value, q.1 = k → q.2 = x → f q = true) : ∀ {l : en_L}, en_get k l = some x → en_get k (l.filter f) = some x := by
  intro l
  induction l with
  | nil => intro h; cases h
  | cons q r ih =>
    intro h
    unfold en_get at h
    by_cases hq : Nat.beq q.1 k = true
    · have e : q.1 = k := Nat.eq_of_beq_eq_true hq
      rw [hq] at h
      have hx : q.2 = x := Option.some.inj h
      rw [List.filter_cons_of_pos (hf q e hx)]
      unfold en_get
      rw [hq]
      exact h
    · have hq' : Nat.beq q.1 k = false := Bool.eq_false_iff.mpr hq
      rw [hq'] at h
      rw [List.filter_cons]
      split
      · unfold en_get
        rw [hq']
        exact ih h
      · exact ih h
theorem w_beqf {i k : Nat} (hk : k ≠ i) : Nat.beq i k = false := by
  cases hb : Nat.beq i k with
  | false => rfl
  | true => exact absurd (Nat.eq_of_beq_eq_true hb).symm hk
theorem w_p1 {k i : Nat} {x v : Value} {l : en_L} (hk : k ≠ i) (hc : k + 1 ≠ i ∨ x.category = 1) (h : en_get k l = some x) : en_get k (en_put1 i v l) = some x := by
  unfold en_put1 en_get
  dsimp only
  rw [w_beqf hk]
  refine w_fne (fun q e1 e2 => ?_) h
  rw [e1, e2]
  rcases hc with hc | hc
  · simp [hk, hc]
  · simp [hk, hc]
theorem w_p2 {k i : Nat} {x v : Value} {l : en_L} (hk : k ≠ i) (hk2 : k ≠ i + 1) (hc : k + 1 ≠ i ∨ x.category = 1) (h : en_get k l = some x) : en_get k (en_put2 i v l) = some x := by
  unfold en_put2 en_get
  dsimp only
  rw [w_beqf hk]
  refine w_fne (fun q e1 e2 => ?_) h
  rw [e1, e2]
  rcases hc with hc | hc
  · simp [hk, hk2, hc]
  · simp [hk, hk2, hc]
theorem w_e1 (i : Nat) (v : Value) (l : en_L) : en_get i (en_put1 i v l) = some v := en_get_eq i v l
theorem w_e2 (i : Nat) (v : Value) (l : en_L) : en_get i (en_put2 i v l) = some v := by
  unfold en_put2 en_get
  dsimp only
  rw [show Nat.beq i i = true from Nat.beq_refl i]
  rfl
theorem st_rng : ∀ k, k < 17 → ∀ j, j < en_tl.getD k 0 → 0 ≤ ((en_txt.getD k []).getD j 0).toInt ∧ ((en_txt.getD k []).getD j 0).toInt ≤ 127 := by decide +kernel
theorem st_lenf {f : UInt32} (hf : 1 ≤ f.toNat ∧ f.toNat ≤ 17) : 0 ≤ ((en_tl.getD (f.toNat - 1) 0 : Nat) : Int) ∧ ((en_tl.getD (f.toNat - 1) 0 : Nat) : Int) ≤ 8 := by
  have h := st_len (f.toNat - 1) (by omega)
  omega
theorem q_slen {d : Nat} {xs : Option (List Int32)} {rt : Option FieldType} {bs : en_Bs} {r : List en_Op} {n a b c pc N : Nat} {l : en_L} {st : List Value} {g : List en_E} {Ph : Option Value → en_H → Prop} {z : Nat} {f : UInt32} (ha : a = 906) (hc : en_cs st ≤ 8) (hf : 1 ≤ f.toNat ∧ f.toNat ≤ 17) (m : Int) (hm : ((en_tl.getD (f.toNat - 1) 0 : Nat) : Int) = m) (k : ∀ v : Int32, v.toInt = m → Ar d xs rt bs r (pc + n, l, .int v :: st, (g, N)) Ph) : Ar d xs rt bs ((.invokevirtual z, n, a, b, c) :: r) (pc, l, (.float f :: st), (g, N)) Ph := by
  subst ha
  subst hm
  have h := st_len (f.toNat - 1) (by omega)
  refine Ar.plain (q := (l, .int (Int32.ofNat (en_tl.getD (f.toNat - 1) 0)) :: st, (g, N))) rfl ?_ (k _ ?_)
  · show en_slen l (.float f :: st) (g, N) = _
    unfold en_slen
    dsimp only
    rw [if_pos ⟨hc, hf⟩]
  · exact Int32.toInt_ofNat_of_lt (by omega)
theorem q_scha {d : Nat} {xs : Option (List Int32)} {rt : Option FieldType} {bs : en_Bs} {r : List en_Op} {n a b c pc N : Nat} {l : en_L} {st : List Value} {g : List en_E} {Ph : Option Value → en_H → Prop} {z : Nat} {f : UInt32} {i : Int32} (ha : a = 907) (hc : en_cs st ≤ 8) (hf : 1 ≤ f.toNat ∧ f.toNat ≤ 17) (m : Int) (hm : ((en_tl.getD (f.toNat - 1) 0 : Nat) : Int) = m) (j : Int) (hj : i.toInt = j) (h0 : 0 ≤ j ∧ j < m) (k : ∀ v : Int32, (0 ≤ v.toInt ∧ v.toInt ≤ 127) ∧ v = (en_txt.getD (f.toNat - 1) []).getD j.toNat 0 → Ar d xs rt bs r (pc + n, l, .int v :: st, (g, N)) Ph) : Ar d xs rt bs ((.invokevirtual z, n, a, b, c) :: r) (pc, l, (.int i :: .float f :: st), (g, N)) Ph := by
  subst ha
  subst hm
  subst hj
  have hi := q_ge0 rfl h0.1
  have e : i.toNatClampNeg = i.toInt.toNat := rfl
  have h2 : i.toInt.toNat < en_tl.getD (f.toNat - 1) 0 := by omega
  refine Ar.plain (q := (l, .int ((en_txt.getD (f.toNat - 1) []).getD i.toNatClampNeg 0) :: st, (g, N))) rfl ?_ (k _ ⟨?_, rfl⟩)
  · show en_scha l (.int i :: .float f :: st) (g, N) = _
    unfold en_scha
    dsimp only
    rw [if_pos ⟨⟨hc, hf⟩, hi, by rw [e]; exact h2⟩]
  · exact st_rng _ (by omega) _ (by rw [e]; exact h2)
