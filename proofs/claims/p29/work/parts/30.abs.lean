/-! ===== the heap as what its fields and arrays hold: shape, readers, writers ===== -/
abbrev w_0 : List en_E := hp_X ++ hp_M
def sh_V (x y : Value) : Bool := match x, y with
  | .int _, .int _ => true
  | .long _, .long _ => true
  | .ref a, .ref b => Nat.beq a b
  | .null, .null => true
  | _, _ => false
def sh_A (x y : en_A) : Bool := match x, y with
  | .inl a, .inl b => Nat.beq a.length b.length
  | .inr (.inl a), .inr (.inl b) => Nat.beq a.length b.length
  | .inr (.inr a), .inr (.inr b) => decide (a = b)
  | _, _ => false
def sh_E (x y : en_E) : Bool := match x, y with
  | .inl a, .inl b => Nat.beq a.1 b.1 && sh_A a.2 b.2
  | .inr a, .inr b => Nat.beq a.1 b.1 && en_eqR sh_V a.2 b.2
  | _, _ => false
def Sh (g : List en_E) : Prop := en_eqR sh_E w_0 g = true
theorem sh_Vr {a : Nat} {y : Value} (h : sh_V (.ref a) y = true) : y = .ref a := by
  cases y <;> first | exact congrArg Value.ref (Nat.eq_of_beq_eq_true h).symm | exact absurd (show false = true from h) (by decide)
theorem sh_Vi {z : Int32} {y : Value} (h : sh_V (.int z) y = true) : ∃ v, y = .int v := by
  cases y <;> first | exact ⟨_, rfl⟩ | exact absurd (show false = true from h) (by decide)
theorem sh_Vl {z : Int64} {y : Value} (h : sh_V (.long z) y = true) : ∃ v, y = .long v := by
  cases y <;> first | exact ⟨_, rfl⟩ | exact absurd (show false = true from h) (by decide)
theorem sh_Eo {a : Nat} {fs : List Value} {y : en_E} (h : sh_E (.inr (a, fs)) y = true) : ∃ gs, y = .inr (a, gs) ∧ en_eqR sh_V fs gs = true := by
  rcases y with q | ⟨c, gs⟩
  · exact absurd (show false = true from h) (by decide)
  · have h3 : (Nat.beq a c && en_eqR sh_V fs gs) = true := h
    rw [Bool.and_eq_true] at h3
    exact ⟨gs, by rw [Nat.eq_of_beq_eq_true h3.1], h3.2⟩
theorem sh_Ea {t : Nat} {x : en_A} {y : en_E} (h : sh_E (.inl (t, x)) y = true) : ∃ z, y = .inl (t, z) ∧ sh_A x z = true := by
  rcases y with ⟨u, z⟩ | q
  · have h3 : (Nat.beq t u && sh_A x z) = true := h
    rw [Bool.and_eq_true] at h3
    exact ⟨z, by rw [Nat.eq_of_beq_eq_true h3.1], h3.2⟩
  · exact absurd (show false = true from h) (by decide)
theorem sh_Ai {xs : List Int32} {y : en_A} (h : sh_A (.inl xs) y = true) : ∃ ys, y = .inl ys ∧ ys.length = xs.length := by
  rcases y with ys | ys | ys
  · exact ⟨ys, rfl, (Nat.eq_of_beq_eq_true (show Nat.beq xs.length ys.length = true from h)).symm⟩
  · exact absurd (show false = true from h) (by decide)
  · exact absurd (show false = true from h) (by decide)
theorem sh_Al {xs : List Int64} {y : en_A} (h : sh_A (.inr (.inl xs)) y = true) : ∃ ys, y = .inr (.inl ys) ∧ ys.length = xs.length := by
  rcases y with ys | ys | ys
  · exact absurd (show false = true from h) (by decide)
  · exact ⟨ys, rfl, (Nat.eq_of_beq_eq_true (show Nat.beq xs.length ys.length = true from h)).symm⟩
  · exact absurd (show false = true from h) (by decide)
theorem sh_Ar {xs : List (Option Nat)} {y : en_A} (h : sh_A (.inr (.inr xs)) y = true) : y = .inr (.inr xs) := by
  rcases y with ys | ys | ys
  · exact absurd (show false = true from h) (by decide)
  · exact absurd (show false = true from h) (by decide)
  · exact congrArg (fun z => Sum.inr (Sum.inr z)) (of_decide_eq_true (show decide (xs = ys) = true from h)).symm
theorem en_eqR_get {α : Type} {q : α → α → Bool} : ∀ {xs ys : List α} {p : Nat} {x : α}, en_eqR q xs ys = true → xs[p]? = some x → ∃ y, ys[p]? = some y ∧ q x y = true
  | [], ys, p, x, h, hx => by simp at hx
  | a :: r, [], p, x, h, hx => by cases h
  | a :: r, b :: t, 0, x, h, hx => by
    unfold en_eqR at h
    cases hb : q a b with
    | true =>
      have e : a = x := by simpa using hx
      exact ⟨b, rfl, e ▸ hb⟩
    | false => rw [hb] at h; cases h
  | a :: r, b :: t, p + 1, x, h, hx => by
    unfold en_eqR at h
    cases hb : q a b with
    | true =>
      rw [hb] at h
      exact en_eqR_get (p := p) h (by simpa using hx)
    | false => rw [hb] at h; cases h
theorem en_eqR_set {α : Type} {q : α → α → Bool} : ∀ {xs ys : List α} {p : Nat} {x y : α}, en_eqR q xs ys = true → xs[p]? = some x → q x y = true → en_eqR q xs (ys.set p y) = true
  | [], ys, p, x, y, h, hx, hq => by simp at hx
  | a :: r, [], p, x, y, h, hx, hq => by cases h
  | a :: r, b :: t, 0, x, y, h, hx, hq => by
    unfold en_eqR at h
    have e : a = x := by simpa using hx
    cases hb : q a b with
    | true =>
      rw [hb] at h
      show en_eqR q (a :: r) (y :: t) = true
      unfold en_eqR
      rw [e, hq]
      exact h
    | false => rw [hb] at h; cases h
  | a :: r, b :: t, p + 1, x, y, h, hx, hq => by
    unfold en_eqR at h
    cases hb : q a b with
    | true =>
      rw [hb] at h
      show en_eqR q (a :: r) (b :: t.set p y) = true
      unfold en_eqR
      rw [hb]
      exact en_eqR_set (p := p) h (by simpa using hx) hq
    | false => rw [hb] at h; cases h
theorem en_eqR_len {α : Type} {q : α → α → Bool} : ∀ {xs ys : List α}, en_eqR q xs ys = true → xs.length = ys.length
  | [], [], h => rfl
  | [], b :: t, h => by cases h
  | a :: r, [], h => by cases h
  | a :: r, b :: t, h => by
    unfold en_eqR at h
    cases hb : q a b with
    | true =>
      rw [hb] at h
      rw [List.length_cons, List.length_cons, en_eqR_len h]
    | false => rw [hb] at h; cases h
def gI (g : List en_E) (p b : Nat) : Int32 := match g[p]? with
  | some (.inr q) => match q.2[b]? with
    | some (.int v) => v
    | _ => 0
  | _ => 0
def gJ (g : List en_E) (p b : Nat) : Int64 := match g[p]? with
  | some (.inr q) => match q.2[b]? with
    | some (.long v) => v
    | _ => 0
  | _ => 0
def gA (g : List en_E) (p : Nat) : List Int32 := match g[p]? with
  | some (.inl (_, .inl xs)) => xs
  | _ => []
def gK (g : List en_E) (p : Nat) : List Int64 := match g[p]? with
  | some (.inl (_, .inr (.inl xs))) => xs
  | _ => []
def eA (g : List en_E) (p : Nat) (j : Int) : Int32 := (gA g p).getD j.toNat 0
def eK (g : List en_E) (p : Nat) (j : Int) : Int64 := (gK g p).getD j.toNat 0
def sI (g : List en_E) (p b : Nat) (v : Int32) : List en_E := match g[p]? with
  | some (.inr q) => g.set p (.inr (q.1, q.2.set b (.int v)))
  | _ => g
def sJ (g : List en_E) (p b : Nat) (v : Int64) : List en_E := match g[p]? with
  | some (.inr q) => g.set p (.inr (q.1, q.2.set b (.long v)))
  | _ => g
def sW (g : List en_E) (p : Nat) (xs : List Int32) : List en_E := match g[p]? with
  | some (.inl (t, .inl _)) => g.set p (.inl (t, .inl xs))
  | _ => g
def sX (g : List en_E) (p : Nat) (xs : List Int64) : List en_E := match g[p]? with
  | some (.inl (t, .inr (.inl _))) => g.set p (.inl (t, .inr (.inl xs)))
  | _ => g
def sA (g : List en_E) (p : Nat) (j : Int) (v : Int32) : List en_E := sW g p ((gA g p).set j.toNat v)
def sK (g : List en_E) (p : Nat) (j : Int) (v : Int64) : List en_E := sX g p ((gK g p).set j.toNat v)
/-- what a place of the shape is -/
def kO (a p : Nat) (fs : List Value) : Prop := w_0[p]? = some (.inr (a, fs))
def kA (p t n : Nat) : Prop := ∃ xs : List Int32, w_0[p]? = some (.inl (t, .inl xs)) ∧ xs.length = n
def kK (p n : Nat) : Prop := ∃ xs : List Int64, w_0[p]? = some (.inl (1, .inr (.inl xs))) ∧ xs.length = n
def kR (p t : Nat) (ys : List (Option Nat)) : Prop := w_0[p]? = some (.inl (t, .inr (.inr ys)))
theorem Sh.obj {g : List en_E} {a p : Nat} {fs : List Value} (h : Sh g) (k : kO a p fs) : ∃ gs, g[p]? = some (.inr (a, gs)) ∧ en_eqR sh_V fs gs = true := by
  obtain ⟨y, h1, h2⟩ := en_eqR_get h k
  obtain ⟨gs, rfl, h3⟩ := sh_Eo h2
  exact ⟨gs, h1, h3⟩
theorem Sh.ref {g : List en_E} {a p b q : Nat} {fs : List Value} (h : Sh g) (k : kO a p fs) (hb : fs[b]? = some (.ref q)) : ∃ gs, g[p]? = some (.inr (a, gs)) ∧ gs[b]? = some (.ref q) := by
  obtain ⟨gs, h1, h2⟩ := h.obj k
  obtain ⟨y, h3, h4⟩ := en_eqR_get h2 hb
  exact ⟨gs, h1, by rw [h3, sh_Vr h4]⟩
theorem Sh.int {g : List en_E} {a p b : Nat} {z : Int32} {fs : List Value} (h : Sh g) (k : kO a p fs) (hb : fs[b]? = some (.int z)) : ∃ gs, g[p]? = some (.inr (a, gs)) ∧ gs[b]? = some (.int (gI g p b)) := by
  obtain ⟨gs, h1, h2⟩ := h.obj k
  obtain ⟨y, h3, h4⟩ := en_eqR_get h2 hb
  obtain ⟨v, rfl⟩ := sh_Vi h4
  refine ⟨gs, h1, ?_⟩
  unfold gI
  rw [h1]
  dsimp only
  rw [h3]
theorem Sh.long {g : List en_E} {a p b : Nat} {z : Int64} {fs : List Value} (h : Sh g) (k : kO a p fs) (hb : fs[b]? = some (.long z)) : ∃ gs, g[p]? = some (.inr (a, gs)) ∧ gs[b]? = some (.long (gJ g p b)) := by
  obtain ⟨gs, h1, h2⟩ := h.obj k
  obtain ⟨y, h3, h4⟩ := en_eqR_get h2 hb
  obtain ⟨v, rfl⟩ := sh_Vl h4
  refine ⟨gs, h1, ?_⟩
  unfold gJ
  rw [h1]
  dsimp only
  rw [h3]
theorem Sh.arr {g : List en_E} {p t n : Nat} (h : Sh g) (k : kA p t n) : g[p]? = some (.inl (t, .inl (gA g p))) ∧ (gA g p).length = n := by
  obtain ⟨xs, k1, k2⟩ := k
  obtain ⟨y, h1, h2⟩ := en_eqR_get h k1
  obtain ⟨z, rfl, h3⟩ := sh_Ea h2
  obtain ⟨ys, rfl, h4⟩ := sh_Ai h3
  have e4 : gA g p = ys := by unfold gA; rw [h1]
  rw [e4]
  exact ⟨h1, h4.trans k2⟩
theorem Sh.lar {g : List en_E} {p n : Nat} (h : Sh g) (k : kK p n) : g[p]? = some (.inl (1, .inr (.inl (gK g p)))) ∧ (gK g p).length = n := by
  obtain ⟨xs, k1, k2⟩ := k
  obtain ⟨y, h1, h2⟩ := en_eqR_get h k1
  obtain ⟨z, rfl, h3⟩ := sh_Ea h2
  obtain ⟨ys, rfl, h4⟩ := sh_Al h3
  have e4 : gK g p = ys := by unfold gK; rw [h1]
  rw [e4]
  exact ⟨h1, h4.trans k2⟩
theorem Sh.rar {g : List en_E} {p t : Nat} {ys : List (Option Nat)} (h : Sh g) (k : kR p t ys) : g[p]? = some (.inl (t, .inr (.inr ys))) := by
  obtain ⟨y, h1, h2⟩ := en_eqR_get h k
  obtain ⟨z, rfl, h3⟩ := sh_Ea h2
  rw [h1, sh_Ar h3]
theorem Sh.wI {g : List en_E} {a p b : Nat} {z : Int32} {fs : List Value} (h : Sh g) (k : kO a p fs) (hb : fs[b]? = some (.int z)) (v : Int32) : Sh (sI g p b v) := by
  obtain ⟨gs, h1, h2⟩ := h.obj k
  unfold sI
  rw [h1]
  refine en_eqR_set h k ?_
  show (Nat.beq a a && en_eqR sh_V fs (gs.set b (.int v))) = true
  rw [Nat.beq_refl, en_eqR_set h2 hb rfl]
  rfl
theorem Sh.wJ {g : List en_E} {a p b : Nat} {z : Int64} {fs : List Value} (h : Sh g) (k : kO a p fs) (hb : fs[b]? = some (.long z)) (v : Int64) : Sh (sJ g p b v) := by
  obtain ⟨gs, h1, h2⟩ := h.obj k
  unfold sJ
  rw [h1]
  refine en_eqR_set h k ?_
  show (Nat.beq a a && en_eqR sh_V fs (gs.set b (.long v))) = true
  rw [Nat.beq_refl, en_eqR_set h2 hb rfl]
  rfl
theorem Sh.wW {g : List en_E} {p t n : Nat} (h : Sh g) (k : kA p t n) {xs : List Int32} (hx : xs.length = n) : Sh (sW g p xs) := by
  have h1 := (h.arr k).1
  unfold sW
  rw [h1]
  obtain ⟨ys, k1, k2⟩ := k
  refine en_eqR_set h k1 ?_
  show (Nat.beq t t && Nat.beq ys.length xs.length) = true
  rw [Nat.beq_refl, k2, hx, Nat.beq_refl]
  rfl
theorem Sh.wX {g : List en_E} {p n : Nat} (h : Sh g) (k : kK p n) {xs : List Int64} (hx : xs.length = n) : Sh (sX g p xs) := by
  have h1 := (h.lar k).1
  unfold sX
  rw [h1]
  obtain ⟨ys, k1, k2⟩ := k
  refine en_eqR_set h k1 ?_
  show Nat.beq ys.length xs.length = true
  rw [k2, hx, Nat.beq_refl]
theorem Sh.wA {g : List en_E} {p t n : Nat} (h : Sh g) (k : kA p t n) (j : Int) (v : Int32) : Sh (sA g p j v) := h.wW k (by rw [List.length_set]; exact (h.arr k).2)
theorem Sh.wK {g : List en_E} {p n : Nat} (h : Sh g) (k : kK p n) (j : Int) (v : Int64) : Sh (sK g p j v) := h.wX k (by rw [List.length_set]; exact (h.lar k).2)
-- what a writer leaves
theorem w_set_ne {g : List en_E} {p q : Nat} {e : en_E} (h : p ≠ q) : (g.set p e)[q]? = g[q]? := by
  rw [List.getElem?_set, if_neg h]
theorem w_sI_ne {g : List en_E} {p b q : Nat} {v : Int32} (h : p ≠ q) : (sI g p b v)[q]? = g[q]? := by
  unfold sI
  split
  · exact w_set_ne h
  · rfl
theorem w_sJ_ne {g : List en_E} {p b q : Nat} {v : Int64} (h : p ≠ q) : (sJ g p b v)[q]? = g[q]? := by
  unfold sJ
  split
  · exact w_set_ne h
  · rfl
theorem w_sW_ne {g : List en_E} {p q : Nat} {xs : List Int32} (h : p ≠ q) : (sW g p xs)[q]? = g[q]? := by
  unfold sW
  split
  · exact w_set_ne h
  · rfl
theorem w_sX_ne {g : List en_E} {p q : Nat} {xs : List Int64} (h : p ≠ q) : (sX g p xs)[q]? = g[q]? := by
  unfold sX
  split
  · exact w_set_ne h
  · rfl
theorem gI_c {g g' : List en_E} {p b : Nat} (h : g'[p]? = g[p]?) : gI g' p b = gI g p b := by unfold gI; rw [h]
theorem gA_c {g g' : List en_E} {p : Nat} (h : g'[p]? = g[p]?) : gA g' p = gA g p := by unfold gA; rw [h]
theorem gA_sI {g : List en_E} {p b q : Nat} {v : Int32} : gA (sI g p b v) q = gA g q := by
  by_cases e : p = q
  · subst e
    unfold sI
    split
    · rename_i o h
      have hp := (List.getElem?_eq_some_iff.mp h).1
      unfold gA
      rw [List.getElem?_set, if_pos rfl, if_pos hp, h]
    · rfl
  · exact gA_c (w_sI_ne e)
theorem gA_sJ {g : List en_E} {p b q : Nat} {v : Int64} : gA (sJ g p b v) q = gA g q := by
  by_cases e : p = q
  · subst e
    unfold sJ
    split
    · rename_i o h
      have hp := (List.getElem?_eq_some_iff.mp h).1
      unfold gA
      rw [List.getElem?_set, if_pos rfl, if_pos hp, h]
    · rfl
  · exact gA_c (w_sJ_ne e)
theorem gA_sX {g : List en_E} {p q : Nat} {xs : List Int64} : gA (sX g p xs) q = gA g q := by
  by_cases e : p = q
  · subst e
    unfold sX
    split
    · rename_i o h
      have hp := (List.getElem?_eq_some_iff.mp ‹_›).1
      unfold gA
      rw [List.getElem?_set, if_pos rfl, if_pos hp, ‹g[p]? = _›]
    · rfl
  · exact gA_c (w_sX_ne e)
theorem gI_sW {g : List en_E} {p q b : Nat} {xs : List Int32} : gI (sW g p xs) q b = gI g q b := by
  by_cases e : p = q
  · subst e
    unfold sW
    split
    · have hp := (List.getElem?_eq_some_iff.mp ‹_›).1
      unfold gI
      rw [List.getElem?_set, if_pos rfl, if_pos hp, ‹g[p]? = _›]
    · rfl
  · exact gI_c (w_sW_ne e)
theorem gI_sX {g : List en_E} {p q b : Nat} {xs : List Int64} : gI (sX g p xs) q b = gI g q b := by
  by_cases e : p = q
  · subst e
    unfold sX
    split
    · have hp := (List.getElem?_eq_some_iff.mp ‹_›).1
      unfold gI
      rw [List.getElem?_set, if_pos rfl, if_pos hp, ‹g[p]? = _›]
    · rfl
  · exact gI_c (w_sX_ne e)
theorem gI_sI_ne {g : List en_E} {p b q c : Nat} {v : Int32} (h : ¬ (p = q ∧ b = c)) : gI (sI g p b v) q c = gI g q c := by
  by_cases e : p = q
  · subst e
    have hb : b ≠ c := fun e => h ⟨rfl, e⟩
    unfold sI
    split
    · have hp := (List.getElem?_eq_some_iff.mp ‹_›).1
      unfold gI
      rw [List.getElem?_set, if_pos rfl, if_pos hp, ‹g[p]? = _›]
      dsimp only
      rw [List.getElem?_set, if_neg hb]
    · rfl
  · exact gI_c (w_sI_ne e)
theorem gI_sJ_ne {g : List en_E} {p b q c : Nat} {v : Int64} (h : ¬ (p = q ∧ b = c)) : gI (sJ g p b v) q c = gI g q c := by
  by_cases e : p = q
  · subst e
    have hb : b ≠ c := fun e => h ⟨rfl, e⟩
    unfold sJ
    split
    · have hp := (List.getElem?_eq_some_iff.mp ‹_›).1
      unfold gI
      rw [List.getElem?_set, if_pos rfl, if_pos hp, ‹g[p]? = _›]
      dsimp only
      rw [List.getElem?_set, if_neg hb]
    · rfl
  · exact gI_c (w_sJ_ne e)
theorem gI_sI_eq {g : List en_E} {a p b : Nat} {z : Int32} {fs : List Value} (h : Sh g) (k : kO a p fs) (hb : fs[b]? = some (.int z)) (v : Int32) : gI (sI g p b v) p b = v := by
  obtain ⟨gs, h1, h2⟩ := h.int k hb
  have hp := (List.getElem?_eq_some_iff.mp h1).1
  have hq := (List.getElem?_eq_some_iff.mp h2).1
  unfold sI
  rw [h1]
  unfold gI
  dsimp only
  rw [List.getElem?_set, if_pos rfl, if_pos hp]
  dsimp only
  rw [List.getElem?_set, if_pos rfl, if_pos hq]
theorem gA_sW_ne {g : List en_E} {p q : Nat} {xs : List Int32} (h : p ≠ q) : gA (sW g p xs) q = gA g q := gA_c (w_sW_ne h)
theorem gA_sW_eq {g : List en_E} {p t n : Nat} (h : Sh g) (k : kA p t n) (xs : List Int32) : gA (sW g p xs) p = xs := by
  have h1 := (h.arr k).1
  have hp := (List.getElem?_eq_some_iff.mp h1).1
  unfold sW
  rw [h1]
  unfold gA
  dsimp only
  rw [List.getElem?_set, if_pos rfl, if_pos hp]
theorem eA_sA_eq {g : List en_E} {p t n : Nat} (h : Sh g) (k : kA p t n) {j i : Int} {v : Int32} (e : i = j) (h0 : 0 ≤ j) (h1 : j < n) : eA (sA g p j v) p i = v := by
  subst e
  unfold eA sA
  rw [gA_sW_eq h k, List.getD_eq_getElem?_getD, List.getElem?_set, if_pos rfl, if_pos (by rw [(h.arr k).2]; omega)]
  rfl
theorem eA_sA_ne {g : List en_E} {p t n : Nat} (h : Sh g) (k : kA p t n) {j i : Int} {v : Int32} (e : i ≠ j) (h0 : 0 ≤ j) (h1 : 0 ≤ i) : eA (sA g p j v) p i = eA g p i := by
  unfold eA sA
  rw [gA_sW_eq h k, List.getD_eq_getElem?_getD, List.getElem?_set, if_neg (by omega), ← List.getD_eq_getElem?_getD]
theorem eA_c {g g' : List en_E} {p : Nat} {j : Int} (h : gA g' p = gA g p) : eA g' p j = eA g p j := by unfold eA; rw [h]
theorem gA_sA_ne {g : List en_E} {p q : Nat} {j : Int} {v : Int32} (h : p ≠ q) : gA (sA g p j v) q = gA g q := gA_sW_ne h
theorem gJ_c {g g' : List en_E} {p b : Nat} (h : g'[p]? = g[p]?) : gJ g' p b = gJ g p b := by unfold gJ; rw [h]
theorem gJ_sW {g : List en_E} {p q b : Nat} {xs : List Int32} : gJ (sW g p xs) q b = gJ g q b := by
  by_cases e : p = q
  · subst e
    unfold sW
    split
    · have hp := (List.getElem?_eq_some_iff.mp ‹_›).1
      unfold gJ
      rw [List.getElem?_set, if_pos rfl, if_pos hp, ‹g[p]? = _›]
    · rfl
  · exact gJ_c (w_sW_ne e)
theorem gJ_sX {g : List en_E} {p q b : Nat} {xs : List Int64} : gJ (sX g p xs) q b = gJ g q b := by
  by_cases e : p = q
  · subst e
    unfold sX
    split
    · have hp := (List.getElem?_eq_some_iff.mp ‹_›).1
      unfold gJ
      rw [List.getElem?_set, if_pos rfl, if_pos hp, ‹g[p]? = _›]
    · rfl
  · exact gJ_c (w_sX_ne e)
theorem gJ_sI_ne {g : List en_E} {p b q c : Nat} {v : Int32} (h : ¬ (p = q ∧ b = c)) : gJ (sI g p b v) q c = gJ g q c := by
  by_cases e : p = q
  · subst e
    have hb : b ≠ c := fun e => h ⟨rfl, e⟩
    unfold sI
    split
    · have hp := (List.getElem?_eq_some_iff.mp ‹_›).1
      unfold gJ
      rw [List.getElem?_set, if_pos rfl, if_pos hp, ‹g[p]? = _›]
      dsimp only
      rw [List.getElem?_set, if_neg hb]
    · rfl
  · exact gJ_c (w_sI_ne e)
theorem gJ_sJ_ne {g : List en_E} {p b q c : Nat} {v : Int64} (h : ¬ (p = q ∧ b = c)) : gJ (sJ g p b v) q c = gJ g q c := by
  by_cases e : p = q
  · subst e
    have hb : b ≠ c := fun e => h ⟨rfl, e⟩
    unfold sJ
    split
    · have hp := (List.getElem?_eq_some_iff.mp ‹_›).1
      unfold gJ
      rw [List.getElem?_set, if_pos rfl, if_pos hp, ‹g[p]? = _›]
      dsimp only
      rw [List.getElem?_set, if_neg hb]
    · rfl
  · exact gJ_c (w_sJ_ne e)
theorem gJ_sJ_eq {g : List en_E} {a p b : Nat} {z : Int64} {fs : List Value} (h : Sh g) (k : kO a p fs) (hb : fs[b]? = some (.long z)) (v : Int64) : gJ (sJ g p b v) p b = v := by
  obtain ⟨gs, h1, h2⟩ := h.long k hb
  have hp := (List.getElem?_eq_some_iff.mp h1).1
  have hq := (List.getElem?_eq_some_iff.mp h2).1
  unfold sJ
  rw [h1]
  unfold gJ
  dsimp only
  rw [List.getElem?_set, if_pos rfl, if_pos hp]
  dsimp only
  rw [List.getElem?_set, if_pos rfl, if_pos hq]
