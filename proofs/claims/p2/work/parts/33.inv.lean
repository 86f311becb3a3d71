/-! ===== what holds of every heap between calls ===== -/
abbrev rd (ys : List Int32) (j : Int) : Int32 := ys.getD j.toNat 0
def WfStep (op arg : Int) (H : Int → Int) (i b : Int) : Prop := (0 ≤ op ∧ op ≤ 9 ∧ H (i + 1) = H i + 1) ∨ (20 ≤ op ∧ op ≤ 26 ∧ 2 ≤ H i ∧ H (i + 1) = H i - 1) ∨ (op = 27 ∧ 1 ≤ H i ∧ H (i + 1) = H i) ∨ (28 ≤ op ∧ op ≤ 29 ∧ 1 ≤ H i ∧ H (i + 1) = H i - 1 ∧ i < arg ∧ arg ≤ b ∧ H arg = H i)
/-- code from a to b: H tells how many numbers are piled up at a place -/
def WfCode (op arg : Int → Int) (a b : Int) : Prop := 0 ≤ a ∧ a ≤ b ∧ b ≤ 400 ∧ ∃ H : Int → Int, H a = 0 ∧ (∀ i, a ≤ i → i ≤ b → 0 ≤ H i ∧ H i ≤ i - a) ∧ ∀ i, a ≤ i → i < b → WfStep (op i) (arg i) H i b
def WfLaw (f : Int → Int) : Prop := 0 ≤ f 1 ∧ f 1 ≤ 12 ∧ ∀ k, 0 ≤ k → k < f 1 → WfCode (fun i => f (98 + 2 * i)) (fun i => f (98 + 2 * i + 1)) (f (2 + 8 * k + 3)) (f (2 + 8 * k + 4)) ∧ WfCode (fun i => f (98 + 2 * i)) (fun i => f (98 + 2 * i + 1)) (f (2 + 8 * k + 5)) (f (2 + 8 * k + 6))
def WfTop (f : Int → Int) : Prop := (0 ≤ f 0 ∧ f 0 ≤ 12) ∧ (0 ≤ f 1 ∧ f 1 ≤ 8) ∧ (0 ≤ f 2 ∧ f 2 ≤ 6) ∧ (-1 ≤ f 3 ∧ f 3 < f 2) ∧ (0 ≤ f 4 ∧ f 4 ≤ 8) ∧ (0 ≤ f 5 ∧ f 5 ≤ 99) ∧ (1 ≤ f 6 ∧ f 6 ≤ 4)
def WfStand (f : Int → Int) : Prop := ∀ s, 0 ≤ s → s < 12 → (-1 ≤ f (10 + 3 * s) ∧ f (10 + 3 * s) ≤ 11) ∧ (0 ≤ f (10 + 3 * s + 1) ∧ f (10 + 3 * s + 1) ≤ 9) ∧ (0 ≤ f (10 + 3 * s + 2) ∧ f (10 + 3 * s + 2) ≤ 99) ∧ (s < f 0 → 1 ≤ f (10 + 3 * s + 1))
def WfLoad (f : Int → Int) : Prop := ∀ l, 0 ≤ l → l < 8 → (0 ≤ f (46 + 6 * l) ∧ f (46 + 6 * l) ≤ 9) ∧ (0 ≤ f (46 + 6 * l + 1) ∧ f (46 + 6 * l + 1) ≤ 11) ∧ (0 ≤ f (46 + 6 * l + 2) ∧ f (46 + 6 * l + 2) ≤ 11) ∧ (0 ≤ f (46 + 6 * l + 3) ∧ f (46 + 6 * l + 3) ≤ 99) ∧ (0 ≤ f (46 + 6 * l + 4) ∧ f (46 + 6 * l + 4) ≤ 9) ∧ (0 ≤ f (46 + 6 * l + 5) ∧ f (46 + 6 * l + 5) ≤ 9999) ∧ (l < f 1 → f (46 + 6 * l + 1) < f 0 ∧ f (46 + 6 * l + 2) < f 0)
def WfSign (f : Int → Int) : Prop := ∀ k, 0 ≤ k → k < 8 → (0 ≤ f (94 + 2 * k) ∧ f (94 + 2 * k) ≤ 11) ∧ (0 ≤ f (94 + 2 * k + 1) ∧ f (94 + 2 * k + 1) ≤ 99)
def WfRow (f : Int → Int) : Prop := WfTop f ∧ WfStand f ∧ WfLoad f ∧ WfSign f ∧ ∀ j, 0 ≤ j → j < f 2 → WfLaw (fun k => f (110 + 900 * j + k))
def WfM (row im kept : List Int32) : Prop := WfRow (fun j => (rd row j).toInt) ∧ ∀ k, 0 ≤ k → k ≤ 1 → (rd kept k).toInt ≠ 0 → WfRow (fun j => (rd im (5510 * k + j)).toInt)
def lkF : List ((Nat × Nat) × (Int × Int)) → Nat → Nat → Option (Int × Int)
  | [], _, _ => none
  | q :: r, p, b => bif Nat.beq q.1.1 p && Nat.beq q.1.2 b then some q.2 else lkF r p b
def lkA : List (Nat × (Int × Int)) → Nat → Option (Int × Int)
  | [], _ => none
  | q :: r, p => bif Nat.beq q.1 p then some q.2 else lkA r p
def memF : List (Nat × Nat) → Nat → Nat → Bool
  | [], _, _ => false
  | q :: r, p, b => (Nat.beq q.1 p && Nat.beq q.2 b) || memF r p b
def memA : List Nat → Nat → Bool
  | [], _ => false
  | q :: r, p => Nat.beq q p || memA r p
def subF (F' F : List (Nat × Nat)) : Bool := F'.all (fun q => memF F q.1 q.2)
def subA (A' A : List Nat) : Bool := A'.all (fun q => memA A q)
def isW (p : Nat) : Bool := Nat.beq p 233 || (Nat.beq p 234 || Nat.beq p 235)
def rgFt : List ((Nat × Nat) × (Int × Int)) := [((1, 0), (0, 12)), ((1, 4), (0, 8)), ((1, 6), (0, 6)), ((1, 12), (0, 8)), ((59, 0), (0, 12)), ((59, 4), (0, 8)), ((59, 6), (0, 6)), ((59, 12), (0, 8)), ((116, 0), (0, 12)), ((116, 4), (0, 8)), ((116, 6), (0, 6)), ((116, 12), (0, 8)), ((7, 0), (0, 400)), ((7, 3), (0, 12)), ((16, 0), (0, 400)), ((16, 3), (0, 12)), ((23, 0), (0, 400)), ((23, 3), (0, 12)), ((30, 0), (0, 400)), ((30, 3), (0, 12)), ((37, 0), (0, 400)), ((37, 3), (0, 12)), ((44, 0), (0, 400)), ((44, 3), (0, 12)), ((51, 0), (0, 400)), ((51, 3), (0, 12)), ((65, 0), (0, 400)), ((65, 3), (0, 12)), ((74, 0), (0, 400)), ((74, 3), (0, 12)), ((81, 0), (0, 400)), ((81, 3), (0, 12)), ((88, 0), (0, 400)), ((88, 3), (0, 12)), ((95, 0), (0, 400)), ((95, 3), (0, 12)), ((102, 0), (0, 400)), ((102, 3), (0, 12)), ((109, 0), (0, 400)), ((109, 3), (0, 12)), ((122, 0), (0, 400)), ((122, 3), (0, 12)), ((131, 0), (0, 400)), ((131, 3), (0, 12)), ((138, 0), (0, 400)), ((138, 3), (0, 12)), ((145, 0), (0, 400)), ((145, 3), (0, 12)), ((152, 0), (0, 400)), ((152, 3), (0, 12)), ((159, 0), (0, 400)), ((159, 3), (0, 12)), ((166, 0), (0, 400)), ((166, 3), (0, 12)), ((177, 0), (0, 400)), ((177, 3), (0, 12)), ((188, 16), (0, 8)), ((204, 16), (0, 8)), ((176, 4), (0, 400)), ((176, 5), (0, 400)), ((174, 1), (0, 400)), ((0, 15), (0, 8)), ((231, 8), (0, 400)), ((231, 9), (0, 400)), ((231, 10), (0, 400)), ((231, 15), (0, 12)), ((231, 17), (0, 400)), ((231, 20), (0, 50)), ((231, 23), (0, 400)), ((231, 24), (0, 8)), ((231, 27), (0, 4610)), ((231, 51), (0, 8))]
def rgAt : List (Nat × (Int × Int)) := [(202, (0, 7)), (218, (0, 7)), (241, (0, 399)), (250, ((-2), 11)), (249, (0, 11))]
def rgF (p b : Nat) : Option (Int × Int) := lkF rgFt p b
def rgA (p : Nat) : Option (Int × Int) := lkA rgAt p
def RgF (g : List en_E) : Prop := ∀ p b r, rgF p b = some r → r.1 ≤ (gI g p b).toInt ∧ (gI g p b).toInt ≤ r.2
def RgA (g : List en_E) : Prop := ∀ p r, rgA p = some r → ∀ x ∈ gA g p, r.1 ≤ x.toInt ∧ x.toInt ≤ r.2
theorem RgF.at {g : List en_E} (h : RgF g) {p b : Nat} {r : Int × Int} (hr : rgF p b = some r) : r.1 ≤ (gI g p b).toInt ∧ (gI g p b).toInt ≤ r.2 := h p b r hr
theorem RgA.at {g : List en_E} (h : RgA g) {p n : Nat} {r : Int × Int} (hl : (gA g p).length = n) (hr : rgA p = some r) {j : Int} (h0 : 0 ≤ j ∧ j < n) : r.1 ≤ (eA g p j).toInt ∧ (eA g p j).toInt ≤ r.2 := by
  refine h p r hr _ ?_
  unfold eA
  rw [List.getD_eq_getElem?_getD, List.getElem?_eq_getElem (by omega)]
  exact List.getElem_mem _
def HI (g : List en_E) : Prop := Sh g ∧ RgF g ∧ RgA g ∧ WfM (gA g 233) (gA g 234) (gA g 235)
theorem RgF.c {g g' : List en_E} (h : RgF g) (e : ∀ p b, gI g' p b = gI g p b) : RgF g' := fun p b r hr => by rw [e]; exact h p b r hr
theorem RgA.c {g g' : List en_E} (h : RgA g) (e : ∀ p, gA g' p = gA g p) : RgA g' := fun p r hr => by rw [e]; exact h p r hr
section HIw
variable {g : List en_E} {a p b n t : Nat} {fs : List Value}
theorem HI.wI0 {z v : Int32} (h : HI g) (k : kO a p fs) (hb : fs[b]? = some (.int z)) (hr : rgF p b = none) : HI (sI g p b v) := by
  refine ⟨h.1.wI k hb v, fun q c r hq => ?_, h.2.2.1.c (fun q => gA_sI), by rw [gA_sI, gA_sI, gA_sI]; exact h.2.2.2⟩
  rw [gI_sI_ne (fun e => by rw [← e.1, ← e.2, hr] at hq; cases hq)]
  exact h.2.1 q c r hq
theorem HI.wI1 {z v : Int32} {r : Int × Int} (h : HI g) (k : kO a p fs) (hb : fs[b]? = some (.int z)) (hr : rgF p b = some r) (hv : r.1 ≤ v.toInt ∧ v.toInt ≤ r.2) : HI (sI g p b v) := by
  refine ⟨h.1.wI k hb v, fun q c r' hq => ?_, h.2.2.1.c (fun q => gA_sI), by rw [gA_sI, gA_sI, gA_sI]; exact h.2.2.2⟩
  by_cases e : p = q ∧ b = c
  · obtain ⟨rfl, rfl⟩ := e
    rw [hr] at hq
    cases hq
    rw [gI_sI_eq h.1 k hb]
    exact hv
  · rw [gI_sI_ne e]
    exact h.2.1 q c r' hq
theorem gI_long {z : Int64} (h : Sh g) (k : kO a p fs) (hb : fs[b]? = some (.long z)) : gI g p b = 0 := by
  obtain ⟨gs, h1, h2⟩ := h.long k hb
  unfold gI
  rw [h1]
  dsimp only
  rw [h2]
theorem HI.wJ {z v : Int64} (h : HI g) (k : kO a p fs) (hb : fs[b]? = some (.long z)) : HI (sJ g p b v) := by
  have hS := h.1.wJ k hb v
  refine ⟨hS, fun q c r hq => ?_, h.2.2.1.c (fun q => gA_sJ), by rw [gA_sJ, gA_sJ, gA_sJ]; exact h.2.2.2⟩
  by_cases e : p = q ∧ b = c
  · obtain ⟨rfl, rfl⟩ := e
    rw [gI_long hS k hb, ← gI_long h.1 k hb]
    exact h.2.1 p b r hq
  · rw [gI_sJ_ne e]
    exact h.2.1 q c r hq
theorem HI.wK (h : HI g) (k : kK p n) (j : Int) (v : Int64) : HI (sK g p j v) := by
  refine ⟨h.1.wK k j v, h.2.1.c (fun q c => gI_sX), h.2.2.1.c (fun q => gA_sX), ?_⟩
  unfold sK
  rw [gA_sX, gA_sX, gA_sX]
  exact h.2.2.2
theorem isW_ne (hw : isW p = false) : p ≠ 233 ∧ p ≠ 234 ∧ p ≠ 235 := by
  refine ⟨fun e => ?_, fun e => ?_, fun e => ?_⟩ <;> (subst e; exact absurd hw (by decide))
theorem HI.wW0 (h : HI g) (k : kA p t n) (hr : rgA p = none) (hw : isW p = false) {ys : List Int32} (hl : ys.length = n) : HI (sW g p ys) := by
  obtain ⟨w1, w2, w3⟩ := isW_ne hw
  refine ⟨h.1.wW k hl, h.2.1.c (fun q c => gI_sW), fun q r hq => ?_, by rw [gA_sW_ne w1, gA_sW_ne w2, gA_sW_ne w3]; exact h.2.2.2⟩
  rw [gA_sW_ne (fun e => by rw [← e, hr] at hq; cases hq)]
  exact h.2.2.1 q r hq
theorem HI.wW1 {r : Int × Int} (h : HI g) (k : kA p t n) (hr : rgA p = some r) (hw : isW p = false) {ys : List Int32} (hl : ys.length = n) (hv : ∀ x ∈ ys, r.1 ≤ x.toInt ∧ x.toInt ≤ r.2) : HI (sW g p ys) := by
  obtain ⟨w1, w2, w3⟩ := isW_ne hw
  refine ⟨h.1.wW k hl, h.2.1.c (fun q c => gI_sW), fun q r' hq => ?_, by rw [gA_sW_ne w1, gA_sW_ne w2, gA_sW_ne w3]; exact h.2.2.2⟩
  by_cases e : p = q
  · subst e
    rw [hr] at hq
    cases hq
    rw [gA_sW_eq h.1 k]
    exact hv
  · rw [gA_sW_ne e]
    exact h.2.2.1 q r' hq
theorem HI.wA0 (h : HI g) (k : kA p t n) (hr : rgA p = none) (hw : isW p = false) (j : Int) (v : Int32) : HI (sA g p j v) := h.wW0 k hr hw (by rw [List.length_set]; exact (h.1.arr k).2)
theorem HI.wA1 {r : Int × Int} {v : Int32} (h : HI g) (k : kA p t n) (hr : rgA p = some r) (hw : isW p = false) (j : Int) (hv : r.1 ≤ v.toInt ∧ v.toInt ≤ r.2) : HI (sA g p j v) :=
  h.wW1 k hr hw (by rw [List.length_set]; exact (h.1.arr k).2) (fun x hx => by
    rcases List.mem_or_eq_of_mem_set hx with h1 | h1
    · exact h.2.2.1 p r hr x h1
    · rw [h1]; exact hv)
end HIw
/-- nothing else has changed -/
def Fr (F : List (Nat × Nat)) (A : List Nat) (g0 g : List en_E) : Prop := (∀ p b, memF F p b = false → gI g p b = gI g0 p b) ∧ ∀ p, memA A p = false → gA g p = gA g0 p
section FRw
variable {F F' : List (Nat × Nat)} {A A' : List Nat} {g0 g g' : List en_E} {p b : Nat}
theorem Fr.rf : Fr F A g g := ⟨fun _ _ _ => rfl, fun _ _ => rfl⟩
theorem memF_and {q c : Nat} (h1 : memF F p b = true) (h2 : memF F q c = false) : ¬ (p = q ∧ b = c) := fun e => by
  rw [e.1, e.2, h2] at h1
  cases h1
theorem memA_ne {q : Nat} (h1 : memA A p = true) (h2 : memA A q = false) : p ≠ q := fun e => by
  rw [e, h2] at h1
  cases h1
theorem Fr.wI {v : Int32} (h : Fr F A g0 g) (hm : memF F p b = true) : Fr F A g0 (sI g p b v) :=
  ⟨fun q c hq => (gI_sI_ne (memF_and hm hq)).trans (h.1 q c hq), fun q hq => gA_sI.trans (h.2 q hq)⟩
theorem Fr.wJ {v : Int64} (h : Fr F A g0 g) (hm : memF F p b = true) : Fr F A g0 (sJ g p b v) :=
  ⟨fun q c hq => (gI_sJ_ne (memF_and hm hq)).trans (h.1 q c hq), fun q hq => gA_sJ.trans (h.2 q hq)⟩
theorem Fr.wK {j : Int} {v : Int64} (h : Fr F A g0 g) : Fr F A g0 (sK g p j v) :=
  ⟨fun q c hq => gI_sX.trans (h.1 q c hq), fun q hq => gA_sX.trans (h.2 q hq)⟩
theorem Fr.wW {ys : List Int32} (h : Fr F A g0 g) (hm : memA A p = true) : Fr F A g0 (sW g p ys) :=
  ⟨fun q c hq => gI_sW.trans (h.1 q c hq), fun q hq => (gA_sW_ne (memA_ne hm hq)).trans (h.2 q hq)⟩
theorem Fr.wA {j : Int} {v : Int32} (h : Fr F A g0 g) (hm : memA A p = true) : Fr F A g0 (sA g p j v) := h.wW hm
theorem memF_sub (hs : subF F' F = true) (hq : memF F p b = false) : memF F' p b = false := by
  cases h : memF F' p b with
  | false => rfl
  | true =>
    have key : ∀ L : List (Nat × Nat), L.all (fun q => memF F q.1 q.2) = true → memF L p b = true → memF F p b = true := by
      intro L
      induction L with
      | nil => intro _ h2; cases h2
      | cons q r ih =>
        intro h1 h2
        rw [List.all_cons, Bool.and_eq_true] at h1
        unfold memF at h2
        rw [Bool.or_eq_true, Bool.and_eq_true] at h2
        rcases h2 with h2 | h2
        · rw [← Nat.eq_of_beq_eq_true h2.1, ← Nat.eq_of_beq_eq_true h2.2]; exact h1.1
        · exact ih h1.2 h2
    rw [key F' hs h] at hq
    cases hq
theorem memA_sub (hs : subA A' A = true) (hq : memA A p = false) : memA A' p = false := by
  cases h : memA A' p with
  | false => rfl
  | true =>
    have key : ∀ L : List Nat, L.all (fun q => memA A q) = true → memA L p = true → memA A p = true := by
      intro L
      induction L with
      | nil => intro _ h2; cases h2
      | cons q r ih =>
        intro h1 h2
        rw [List.all_cons, Bool.and_eq_true] at h1
        unfold memA at h2
        rw [Bool.or_eq_true] at h2
        rcases h2 with h2 | h2
        · rw [← Nat.eq_of_beq_eq_true h2]; exact h1.1
        · exact ih h1.2 h2
    rw [key A' hs h] at hq
    cases hq
theorem Fr.tr (h : Fr F A g0 g) (h' : Fr F' A' g g') (hs : subF F' F = true) (ha : subA A' A = true) : Fr F A g0 g' :=
  ⟨fun q c hq => (h'.1 q c (memF_sub hs hq)).trans (h.1 q c hq), fun q hq => (h'.2 q (memA_sub ha hq)).trans (h.2 q hq)⟩
end FRw
theorem q_b01 {v : Int32} (h : 0 ≤ v.toInt ∧ v.toInt ≤ 1) : v = 0 ∨ v = 1 := by
  have h1 : v.toInt = 0 ∨ v.toInt = 1 := by omega
  rcases h1 with h1 | h1
  · exact Or.inl (Int32.toInt_inj.mp h1)
  · exact Or.inr (Int32.toInt_inj.mp h1)
theorem q_and1 {v : Int32} (h : 0 ≤ v.toInt ∧ v.toInt ≤ 1) : v &&& 1 = v := by
  rcases q_b01 h with e | e <;> (subst e; decide)
theorem q_fitb {v : Int32} (h : 0 ≤ v.toInt ∧ v.toInt ≤ 1) : en_fit .boolean (.int v) = true := by
  rcases q_b01 h with e | e <;> (subst e; decide)
section LOOP
variable {d : Nat} {xs : Option (List Int32)} {rt : Option FieldType} {bs : en_Bs} {pc N : Nat} {st : List Value} {Ph : Option Value → en_H → Prop}
theorem w_loop {X : Type} (P : X → en_L → List en_E → Prop) (m : X → List en_E → Int) (step : ∀ (x : X) (l : en_L) (g : List en_E), P x l g → (∀ (x' : X) (l' : en_L) (g' : List en_E), P x' l' g' → 0 ≤ m x' g' ∧ m x' g' < m x g → At d xs rt bs (pc, l', st, (g', N)) Ph) → At d xs rt bs (pc, l, st, (g, N)) Ph) (x : X) {l : en_L} {g : List en_E} (h : P x l g) : At d xs rt bs (pc, l, st, (g, N)) Ph := by
  have key : ∀ (n : Nat) (x : X) (l : en_L) (g : List en_E), (m x g).toNat ≤ n → P x l g → At d xs rt bs (pc, l, st, (g, N)) Ph := by
    intro n
    induction n with
    | zero =>
      intro x l g hn hp
      exact step x l g hp (fun x' l' g' hp' hm => absurd hm (by omega))
    | succ n ih =>
      intro x l g hn hp
      exact step x l g hp (fun x' l' g' hp' hm => ih x' l' g' (by omega) hp')
  exact key _ x l g (Nat.le_refl _) h
end LOOP
