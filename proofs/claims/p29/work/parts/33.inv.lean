/-! ===== what holds of every heap between calls ===== -/
abbrev rd (ys : List Int32) (j : Int) : Int32 := ys.getD j.toNat 0
def WfStep (op arg : Int) (H : Int → Int) (i b : Int) : Prop := (0 ≤ op ∧ op ≤ 9 ∧ H (i + 1) = H i + 1) ∨ (20 ≤ op ∧ op ≤ 26 ∧ 2 ≤ H i ∧ H (i + 1) = H i - 1) ∨ (op = 27 ∧ 1 ≤ H i ∧ H (i + 1) = H i) ∨ (28 ≤ op ∧ op ≤ 29 ∧ 1 ≤ H i ∧ H (i + 1) = H i - 1 ∧ i < arg ∧ arg ≤ b ∧ H arg = H i)
/-- code from a to b: H tells how many numbers are piled up at a place -/
def WfCode (op arg : Int → Int) (a b : Int) : Prop := 0 ≤ a ∧ a ≤ b ∧ b ≤ 400 ∧ ∃ H : Int → Int, H a = 0 ∧ (∀ i, a ≤ i → i ≤ b → 0 ≤ H i ∧ H i ≤ i - a) ∧ ∀ i, a ≤ i → i < b → WfStep (op i) (arg i) H i b
def WfLaw (f : Int → Int) : Prop := 0 ≤ f 1 ∧ f 1 ≤ 12 ∧ ∀ k, 0 ≤ k → k < f 1 → WfCode (fun i => f (98 + 2 * i)) (fun i => f (98 + 2 * i + 1)) (f (2 + 8 * k + 3)) (f (2 + 8 * k + 4)) ∧ WfCode (fun i => f (98 + 2 * i)) (fun i => f (98 + 2 * i + 1)) (f (2 + 8 * k + 5)) (f (2 + 8 * k + 6))
def WfTop (f : Int → Int) : Prop := (0 ≤ f 0 ∧ f 0 ≤ 12) ∧ (0 ≤ f 1 ∧ f 1 ≤ 8) ∧ (0 ≤ f 2 ∧ f 2 ≤ 6) ∧ (-1 ≤ f 3 ∧ f 3 < f 2) ∧ (0 ≤ f 4 ∧ f 4 ≤ 8) ∧ (0 ≤ f 5 ∧ f 5 ≤ 99) ∧ (1 ≤ f 6 ∧ f 6 ≤ 4)
def WfStand (f : Int → Int) : Prop := ∀ s, 0 ≤ s → s < 12 → (-1 ≤ f (10 + 3 * s) ∧ f (10 + 3 * s) ≤ 11) ∧ (0 ≤ f (10 + 3 * s + 1) ∧ f (10 + 3 * s + 1) ≤ 9) ∧ (0 ≤ f (10 + 3 * s + 2) ∧ f (10 + 3 * s + 2) ≤ 99) ∧ (s < f 0 → 1 ≤ f (10 + 3 * s + 1))
def WfLoad (f : Int → Int) : Prop := (0 < f 1 → 0 < f 0) ∧ ∀ l, 0 ≤ l → l < 8 → (0 ≤ f (46 + 6 * l) ∧ f (46 + 6 * l) ≤ 9) ∧ (0 ≤ f (46 + 6 * l + 1) ∧ f (46 + 6 * l + 1) ≤ 11 ∧ (f (46 + 6 * l + 1) < f 0 ∨ f (46 + 6 * l + 1) = 0)) ∧ (0 ≤ f (46 + 6 * l + 2) ∧ f (46 + 6 * l + 2) ≤ 11 ∧ (f (46 + 6 * l + 2) < f 0 ∨ f (46 + 6 * l + 2) = 0)) ∧ (0 ≤ f (46 + 6 * l + 3) ∧ f (46 + 6 * l + 3) ≤ 99) ∧ (0 ≤ f (46 + 6 * l + 4) ∧ f (46 + 6 * l + 4) ≤ 9) ∧ (0 ≤ f (46 + 6 * l + 5) ∧ f (46 + 6 * l + 5) ≤ 9999)
def WfSign (f : Int → Int) : Prop := ∀ k, 0 ≤ k → k < 8 → (0 ≤ f (94 + 2 * k) ∧ f (94 + 2 * k) ≤ 11) ∧ (0 ≤ f (94 + 2 * k + 1) ∧ f (94 + 2 * k + 1) ≤ 99)
def WfRow (f : Int → Int) : Prop := WfTop f ∧ WfStand f ∧ WfLoad f ∧ WfSign f ∧ ∀ j, 0 ≤ j → j < f 2 → WfLaw (fun k => f (110 + 900 * j + k))
def WfM (row im kept : List Int32) : Prop := WfRow (fun j => (rd row j).toInt) ∧ ∀ k, 0 ≤ k → k ≤ 1 → (rd kept k).toInt ≠ 0 → WfRow (fun j => (rd im (5510 * k + j)).toInt)
def lkF : List ((Nat × Nat) × (Int × Int)) → Nat → Nat → Option (Int × Int)
  | [], _, _ => none
  | q :: r, p, b => bif Nat.beq q.1.1 p && Nat.beq q.1.2 b then some q.2 else lkF r p b
def lkA : List (Nat × (Int × Int)) → Nat → Option (Int × Int)
  | [], _ => none
  | q :: r, p => bif Nat.beq q.1 p then some q.2 else lkA r p
def memF : List (Nat × Nat) → Nat → Nat → Bool
  | [], _, _ => false
  | q :: r, p, b => (Nat.beq q.1 p && Nat.beq q.2 b) || memF r p b
def memA : List Nat → Nat → Bool
  | [], _ => false
  | q :: r, p => Nat.beq q p || memA r p
def subF (F' F : List (Nat × Nat)) : Bool := F'.all (fun q => memF F q.1 q.2)
def subA (A' A : List Nat) : Bool := A'.all (fun q => memA A q)
def isW (p : Nat) : Bool := Nat.beq p 233 || (Nat.beq p 234 || Nat.beq p 235)
def Lws : List Nat := [7, 16, 23, 30, 37, 44, 51, 65, 74, 81, 88, 95, 102, 109, 122, 131, 138, 145, 152, 159, 166, 177]
def rgFt : List ((Nat × Nat) × (Int × Int)) := [((1, 0), (0, 12)), ((1, 4), (0, 8)), ((1, 6), (0, 6)), ((1, 12), (0, 8)), ((59, 0), (0, 12)), ((59, 4), (0, 8)), ((59, 6), (0, 6)), ((59, 12), (0, 8)), ((116, 0), (0, 12)), ((116, 4), (0, 8)), ((116, 6), (0, 6)), ((116, 12), (0, 8)), ((7, 0), (0, 400)), ((7, 3), (0, 12)), ((16, 0), (0, 400)), ((16, 3), (0, 12)), ((23, 0), (0, 400)), ((23, 3), (0, 12)), ((30, 0), (0, 400)), ((30, 3), (0, 12)), ((37, 0), (0, 400)), ((37, 3), (0, 12)), ((44, 0), (0, 400)), ((44, 3), (0, 12)), ((51, 0), (0, 400)), ((51, 3), (0, 12)), ((65, 0), (0, 400)), ((65, 3), (0, 12)), ((74, 0), (0, 400)), ((74, 3), (0, 12)), ((81, 0), (0, 400)), ((81, 3), (0, 12)), ((88, 0), (0, 400)), ((88, 3), (0, 12)), ((95, 0), (0, 400)), ((95, 3), (0, 12)), ((102, 0), (0, 400)), ((102, 3), (0, 12)), ((109, 0), (0, 400)), ((109, 3), (0, 12)), ((122, 0), (0, 400)), ((122, 3), (0, 12)), ((131, 0), (0, 400)), ((131, 3), (0, 12)), ((138, 0), (0, 400)), ((138, 3), (0, 12)), ((145, 0), (0, 400)), ((145, 3), (0, 12)), ((152, 0), (0, 400)), ((152, 3), (0, 12)), ((159, 0), (0, 400)), ((159, 3), (0, 12)), ((166, 0), (0, 400)), ((166, 3), (0, 12)), ((177, 0), (0, 400)), ((177, 3), (0, 12)), ((188, 16), (0, 8)), ((204, 16), (0, 8)), ((176, 4), (0, 400)), ((176, 5), (0, 400)), ((174, 1), (0, 400)), ((0, 15), (0, 8)), ((231, 8), (0, 400)), ((231, 9), (0, 400)), ((231, 10), (0, 400)), ((231, 15), (0, 12)), ((231, 17), (0, 400)), ((231, 23), (0, 400)), ((231, 27), (0, 4610)), ((231, 51), (0, 8))]
def rgAt : List (Nat × (Int × Int)) := [(202, (0, 7)), (218, (0, 7)), (240, (0, 31)), (241, (0, 399)), (250, ((-2), 11)), (249, (0, 11))]
def rgF (p b : Nat) : Option (Int × Int) := lkF rgFt p b
def rgA (p : Nat) : Option (Int × Int) := lkA rgAt p
def wd1 : List Int64 := [408612, 777297172, 8441477, 20579780, 398548, 446125701, 24159891, 674919554696, 52595]
def wd2 : List Int64 := [6605428, 6309, 67155]
theorem gK_c {g g' : List en_E} {p : Nat} (h : g'[p]? = g[p]?) : gK g' p = gK g p := by unfold gK; rw [h]
theorem gK_sI {g : List en_E} {p b q : Nat} {v : Int32} : gK (sI g p b v) q = gK g q := by
  by_cases e : p = q
  · subst e
    unfold sI
    split
    · rename_i o h
      have hp := (List.getElem?_eq_some_iff.mp h).1
      unfold gK
      rw [List.getElem?_set, if_pos rfl, if_pos hp, h]
    · rfl
  · exact gK_c (w_sI_ne e)
theorem gK_sJ {g : List en_E} {p b q : Nat} {v : Int64} : gK (sJ g p b v) q = gK g q := by
  by_cases e : p = q
  · subst e
    unfold sJ
    split
    · rename_i o h
      have hp := (List.getElem?_eq_some_iff.mp h).1
      unfold gK
      rw [List.getElem?_set, if_pos rfl, if_pos hp, h]
    · rfl
  · exact gK_c (w_sJ_ne e)
theorem gK_sW {g : List en_E} {p q : Nat} {xs : List Int32} : gK (sW g p xs) q = gK g q := by
  by_cases e : p = q
  · subst e
    unfold sW
    split
    · have hp := (List.getElem?_eq_some_iff.mp ‹_›).1
      unfold gK
      rw [List.getElem?_set, if_pos rfl, if_pos hp, ‹g[p]? = _›]
    · rfl
  · exact gK_c (w_sW_ne e)
theorem gK_sX_ne {g : List en_E} {p q : Nat} {xs : List Int64} (h : p ≠ q) : gK (sX g p xs) q = gK g q := gK_c (w_sX_ne h)
/-- the reference's words stand -/
def WD (g : List en_E) : Prop := gK g 242 = wd1 ∧ gK g 243 = wd2
theorem WD.c {g g' : List en_E} (h : WD g) (e : ∀ p, gK g' p = gK g p) : WD g' := by unfold WD; rw [e, e]; exact h
def RgF (g : List en_E) : Prop := (∀ p b r, rgF p b = some r → r.1 ≤ (gI g p b).toInt ∧ (gI g p b).toInt ≤ r.2) ∧ WD g
def RgA (g : List en_E) : Prop := ∀ p r, rgA p = some r → ∀ x ∈ gA g p, r.1 ≤ x.toInt ∧ x.toInt ≤ r.2
theorem RgF.at {g : List en_E} (h : RgF g) {p b : Nat} {r : Int × Int} (hr : rgF p b = some r) : r.1 ≤ (gI g p b).toInt ∧ (gI g p b).toInt ≤ r.2 := h.1 p b r hr
theorem RgA.at {g : List en_E} (h : RgA g) {p n : Nat} {r : Int × Int} (hl : (gA g p).length = n) (hr : rgA p = some r) {j : Int} (h0 : 0 ≤ j ∧ j < n) : r.1 ≤ (eA g p j).toInt ∧ (eA g p j).toInt ≤ r.2 := by
  refine h p r hr _ ?_
  unfold eA
  rw [List.getD_eq_getElem?_getD, List.getElem?_eq_getElem (by omega)]
  exact List.getElem_mem _
def HI (g : List en_E) : Prop := Sh g ∧ RgF g ∧ RgA g ∧ WfM (gA g 233) (gA g 234) (gA g 235)
theorem RgF.c {g g' : List en_E} (h : RgF g) (e : ∀ p b, gI g' p b = gI g p b) (e' : ∀ p, gK g' p = gK g p) : RgF g' := ⟨fun p b r hr => by rw [e]; exact h.1 p b r hr, h.2.c e'⟩
theorem RgA.c {g g' : List en_E} (h : RgA g) (e : ∀ p, gA g' p = gA g p) : RgA g' := fun p r hr => by rw [e]; exact h p r hr
section HIw
variable {g : List en_E} {a p b n t : Nat} {fs : List Value}
theorem HI.wI0 {z v : Int32} (h : HI g) (k : kO a p fs) (hb : fs[b]? = some (.int z)) (hr : rgF p b = none) : HI (sI g p b v) := by
  refine ⟨h.1.wI k hb v, ⟨fun q c r hq => ?_, h.2.1.2.c (fun q => gK_sI)⟩, h.2.2.1.c (fun q => gA_sI), by rw [gA_sI, gA_sI, gA_sI]; exact h.2.2.2⟩
  rw [gI_sI_ne (fun e => by rw [← e.1, ← e.2, hr] at hq; cases hq)]
  exact h.2.1.1 q c r hq
theorem HI.wI1 {z v : Int32} {r : Int × Int} (h : HI g) (k : kO a p fs) (hb : fs[b]? = some (.int z)) (hr : rgF p b = some r) (hv : r.1 ≤ v.toInt ∧ v.toInt ≤ r.2) : HI (sI g p b v) := by
  refine ⟨h.1.wI k hb v, ⟨fun q c r' hq => ?_, h.2.1.2.c (fun q => gK_sI)⟩, h.2.2.1.c (fun q => gA_sI), by rw [gA_sI, gA_sI, gA_sI]; exact h.2.2.2⟩
  by_cases e : p = q ∧ b = c
  · obtain ⟨rfl, rfl⟩ := e
    rw [hr] at hq
    cases hq
    rw [gI_sI_eq h.1 k hb]
    exact hv
  · rw [gI_sI_ne e]
    exact h.2.1.1 q c r' hq
theorem gI_long {z : Int64} (h : Sh g) (k : kO a p fs) (hb : fs[b]? = some (.long z)) : gI g p b = 0 := by
  obtain ⟨gs, h1, h2⟩ := h.long k hb
  unfold gI
  rw [h1]
  dsimp only
  rw [h2]
theorem HI.wJ {z v : Int64} (h : HI g) (k : kO a p fs) (hb : fs[b]? = some (.long z)) : HI (sJ g p b v) := by
  have hS := h.1.wJ k hb v
  refine ⟨hS, ⟨fun q c r hq => ?_, h.2.1.2.c (fun q => gK_sJ)⟩, h.2.2.1.c (fun q => gA_sJ), by rw [gA_sJ, gA_sJ, gA_sJ]; exact h.2.2.2⟩
  by_cases e : p = q ∧ b = c
  · obtain ⟨rfl, rfl⟩ := e
    rw [gI_long hS k hb, ← gI_long h.1 k hb]
    exact h.2.1.1 p b r hq
  · rw [gI_sJ_ne e]
    exact h.2.1.1 q c r hq
theorem HI.wK (h : HI g) (k : kK p n) (j : Int) (v : Int64) (hw : p ≠ 242 ∧ p ≠ 243) : HI (sK g p j v) := by
  refine ⟨h.1.wK k j v, ⟨fun q c r hq => by unfold sK; rw [gI_sX]; exact h.2.1.1 q c r hq, (gK_sX_ne hw.1).trans h.2.1.2.1, (gK_sX_ne hw.2).trans h.2.1.2.2⟩, h.2.2.1.c (fun q => gA_sX), ?_⟩
  unfold sK
  rw [gA_sX, gA_sX, gA_sX]
  exact h.2.2.2
theorem isW_ne (hw : isW p = false) : p ≠ 233 ∧ p ≠ 234 ∧ p ≠ 235 := by
  refine ⟨fun e => ?_, fun e => ?_, fun e => ?_⟩ <;> (subst e; exact absurd hw (by decide))
theorem HI.wW0 (h : HI g) (k : kA p t n) (hr : rgA p = none) (hw : isW p = false) {ys : List Int32} (hl : ys.length = n) : HI (sW g p ys) := by
  obtain ⟨w1, w2, w3⟩ := isW_ne hw
  refine ⟨h.1.wW k hl, h.2.1.c (fun q c => gI_sW) (fun q => gK_sW), fun q r hq => ?_, by rw [gA_sW_ne w1, gA_sW_ne w2, gA_sW_ne w3]; exact h.2.2.2⟩
  rw [gA_sW_ne (fun e => by rw [← e, hr] at hq; cases hq)]
  exact h.2.2.1 q r hq
theorem HI.wW1 {r : Int × Int} (h : HI g) (k : kA p t n) (hr : rgA p = some r) (hw : isW p = false) {ys : List Int32} (hl : ys.length = n) (hv : ∀ x ∈ ys, r.1 ≤ x.toInt ∧ x.toInt ≤ r.2) : HI (sW g p ys) := by
  obtain ⟨w1, w2, w3⟩ := isW_ne hw
  refine ⟨h.1.wW k hl, h.2.1.c (fun q c => gI_sW) (fun q => gK_sW), fun q r' hq => ?_, by rw [gA_sW_ne w1, gA_sW_ne w2, gA_sW_ne w3]; exact h.2.2.2⟩
  by_cases e : p = q
  · subst e
    rw [hr] at hq
    cases hq
    rw [gA_sW_eq h.1 k]
    exact hv
  · rw [gA_sW_ne e]
    exact h.2.2.1 q r' hq
theorem HI.wA0 (h : HI g) (k : kA p t n) (hr : rgA p = none) (hw : isW p = false) (j : Int) (v : Int32) : HI (sA g p j v) := h.wW0 k hr hw (by rw [List.length_set]; exact (h.1.arr k).2)
theorem HI.wA1 {r : Int × Int} {v : Int32} (h : HI g) (k : kA p t n) (hr : rgA p = some r) (hw : isW p = false) (j : Int) (hv : r.1 ≤ v.toInt ∧ v.toInt ≤ r.2) : HI (sA g p j v) :=
  h.wW1 k hr hw (by rw [List.length_set]; exact (h.1.arr k).2) (fun x hx => by
    rcases List.mem_or_eq_of_mem_set hx with h1 | h1
    · exact h.2.2.1 p r hr x h1
    · rw [h1]; exact hv)
end HIw
/-- nothing else has changed -/
def Fr (F : List (Nat × Nat)) (A : List Nat) (g0 g : List en_E) : Prop := (∀ p b, memF F p b = false → gI g p b = gI g0 p b) ∧ (∀ p, memA A p = false → gA g p = gA g0 p) ∧ ∀ p b, memF F p b = false → gJ g p b = gJ g0 p b
section FRw
variable {F F' : List (Nat × Nat)} {A A' : List Nat} {g0 g g' : List en_E} {p b : Nat}
theorem Fr.rf : Fr F A g g := ⟨fun _ _ _ => rfl, fun _ _ => rfl, fun _ _ _ => rfl⟩
theorem memF_and {q c : Nat} (h1 : memF F p b = true) (h2 : memF F q c = false) : ¬ (p = q ∧ b = c) := fun e => by
  rw [e.1, e.2, h2] at h1
  cases h1
theorem memA_ne {q : Nat} (h1 : memA A p = true) (h2 : memA A q = false) : p ≠ q := fun e => by
  rw [e, h2] at h1
  cases h1
theorem Fr.wI {v : Int32} (h : Fr F A g0 g) (hm : memF F p b = true) : Fr F A g0 (sI g p b v) :=
  ⟨fun q c hq => (gI_sI_ne (memF_and hm hq)).trans (h.1 q c hq), fun q hq => gA_sI.trans (h.2.1 q hq), fun q c hq => (gJ_sI_ne (memF_and hm hq)).trans (h.2.2 q c hq)⟩
theorem Fr.wJ {v : Int64} (h : Fr F A g0 g) (hm : memF F p b = true) : Fr F A g0 (sJ g p b v) :=
  ⟨fun q c hq => (gI_sJ_ne (memF_and hm hq)).trans (h.1 q c hq), fun q hq => gA_sJ.trans (h.2.1 q hq), fun q c hq => (gJ_sJ_ne (memF_and hm hq)).trans (h.2.2 q c hq)⟩
theorem Fr.wK {j : Int} {v : Int64} (h : Fr F A g0 g) : Fr F A g0 (sK g p j v) :=
  ⟨fun q c hq => gI_sX.trans (h.1 q c hq), fun q hq => gA_sX.trans (h.2.1 q hq), fun q c hq => gJ_sX.trans (h.2.2 q c hq)⟩
theorem Fr.wW {ys : List Int32} (h : Fr F A g0 g) (hm : memA A p = true) : Fr F A g0 (sW g p ys) :=
  ⟨fun q c hq => gI_sW.trans (h.1 q c hq), fun q hq => (gA_sW_ne (memA_ne hm hq)).trans (h.2.1 q hq), fun q c hq => gJ_sW.trans (h.2.2 q c hq)⟩
theorem Fr.wA {j : Int} {v : Int32} (h : Fr F A g0 g) (hm : memA A p = true) : Fr F A g0 (sA g p j v) := h.wW hm
theorem memF_sub (hs : subF F' F = true) (hq : memF F p b = false) : memF F' p b = false := by
  cases h : memF F' p b with
  | false => rfl
  | true =>
    have key : ∀ L : List (Nat × Nat), L.all (fun q => memF F q.1 q.2) = true → memF L p b = true → memF F p b = true := by
      intro L
      induction L with
      | nil => intro _ h2; cases h2
      | cons q r ih =>
        intro h1 h2
        rw [List.all_cons, Bool.and_eq_true] at h1
        unfold memF at h2
        rw [Bool.or_eq_true, Bool.and_eq_true] at h2
        rcases h2 with h2 | h2
        · rw [← Nat.eq_of_beq_eq_true h2.1, ← Nat.eq_of_beq_eq_true h2.2]; exact h1.1
        · exact ih h1.2 h2
    rw [key F' hs h] at hq
    cases hq
theorem memA_sub (hs : subA A' A = true) (hq : memA A p = false) : memA A' p = false := by
  cases h : memA A' p with
  | false => rfl
  | true =>
    have key : ∀ L : List Nat, L.all (fun q => memA A q) = true → memA L p = true → memA A p = true := by
      intro L
      induction L with
      | nil => intro _ h2; cases h2
      | cons q r ih =>
        intro h1 h2
        rw [List.all_cons, Bool.and_eq_true] at h1
        unfold memA at h2
        rw [Bool.or_eq_true] at h2
        rcases h2 with h2 | h2
        · rw [← Nat.eq_of_beq_eq_true h2]; exact h1.1
        · exact ih h1.2 h2
    rw [key A' hs h] at hq
    cases hq
theorem Fr.tr (h : Fr F A g0 g) (h' : Fr F' A' g g') (hs : subF F' F = true) (ha : subA A' A = true) : Fr F A g0 g' :=
  ⟨fun q c hq => (h'.1 q c (memF_sub hs hq)).trans (h.1 q c hq), fun q hq => (h'.2.1 q (memA_sub ha hq)).trans (h.2.1 q hq), fun q c hq => (h'.2.2 q c (memF_sub hs hq)).trans (h.2.2 q c hq)⟩
end FRw
theorem q_bnd (v : Int32) : -2147483648 ≤ v.toInt ∧ v.toInt ≤ 2147483647 := by
  have h1 := v.le_toInt
  have h2 := v.toInt_lt
  omega
theorem q_b01 {v : Int32} (h : 0 ≤ v.toInt ∧ v.toInt ≤ 1) : v = 0 ∨ v = 1 := by
  have h1 : v.toInt = 0 ∨ v.toInt = 1 := by omega
  rcases h1 with h1 | h1
  · exact Or.inl (Int32.toInt_inj.mp h1)
  · exact Or.inr (Int32.toInt_inj.mp h1)
theorem q_and1 {v : Int32} (h : 0 ≤ v.toInt ∧ v.toInt ≤ 1) : v &&& 1 = v := by
  rcases q_b01 h with e | e <;> (subst e; decide)
theorem q_fitb {v : Int32} (h : 0 ≤ v.toInt ∧ v.toInt ≤ 1) : en_fit .boolean (.int v) = true := by
  rcases q_b01 h with e | e <;> (subst e; decide)
theorem memA_all {L : List Nat} {q : Nat} (h : memA L q = true) {P : Nat → Bool} (hall : L.all P = true) : P q = true := by
  induction L with
  | nil => cases h
  | cons a r ih =>
    rw [List.all_cons, Bool.and_eq_true] at hall
    unfold memA at h
    rw [Bool.or_eq_true] at h
    rcases h with h | h
    · rw [← Nat.eq_of_beq_eq_true h]; exact hall.1
    · exact ih h hall.2
/-- the laws: each a place, its six arrays behind it -/
def Lw (q : Nat) : Prop := memA Lws q = true
def lkR (r : Option (Int × Int)) (lo hi : Int) : Bool := match r with
  | some q => decide (q.1 = lo) && decide (q.2 = hi)
  | none => false
theorem lkR_eq {r : Option (Int × Int)} {lo hi : Int} (h : lkR r lo hi = true) : r = some (lo, hi) := by
  unfold lkR at h
  split at h
  · rw [Bool.and_eq_true, decide_eq_true_eq, decide_eq_true_eq] at h
    rw [← h.1, ← h.2]
  · cases h
theorem Lw.r0 {q : Nat} (h : Lw q) : rgF q 0 = some (0, 400) := lkR_eq (memA_all h (P := fun q => lkR (rgF q 0) 0 400) rfl)
theorem Lw.r3 {q : Nat} (h : Lw q) : rgF q 3 = some (0, 12) := lkR_eq (memA_all h (P := fun q => lkR (rgF q 3) 0 12) rfl)
theorem Lw.r4 {q : Nat} (h : Lw q) : rgF q 4 = none := Option.isNone_iff_eq_none.mp (memA_all h (P := fun q => (rgF q 4).isNone) rfl)
theorem Lw.a1 {q : Nat} (h : Lw q) : rgA (q + 1) = none := Option.isNone_iff_eq_none.mp (memA_all h (P := fun q => (rgA (q + 1)).isNone) rfl)
theorem Lw.w1 {q : Nat} (h : Lw q) : isW (q + 1) = false := by
  have := memA_all h (P := fun q => !isW (q + 1)) rfl
  simpa using this
theorem Lw.a2 {q : Nat} (h : Lw q) : rgA (q + 2) = none := Option.isNone_iff_eq_none.mp (memA_all h (P := fun q => (rgA (q + 2)).isNone) rfl)
theorem Lw.w2 {q : Nat} (h : Lw q) : isW (q + 2) = false := by
  have := memA_all h (P := fun q => !isW (q + 2)) rfl
  simpa using this
theorem Lw.a3 {q : Nat} (h : Lw q) : rgA (q + 3) = none := Option.isNone_iff_eq_none.mp (memA_all h (P := fun q => (rgA (q + 3)).isNone) rfl)
theorem Lw.w3 {q : Nat} (h : Lw q) : isW (q + 3) = false := by
  have := memA_all h (P := fun q => !isW (q + 3)) rfl
  simpa using this
theorem Lw.a4 {q : Nat} (h : Lw q) : rgA (q + 4) = none := Option.isNone_iff_eq_none.mp (memA_all h (P := fun q => (rgA (q + 4)).isNone) rfl)
theorem Lw.w4 {q : Nat} (h : Lw q) : isW (q + 4) = false := by
  have := memA_all h (P := fun q => !isW (q + 4)) rfl
  simpa using this
theorem Lw.a5 {q : Nat} (h : Lw q) : rgA (q + 5) = none := Option.isNone_iff_eq_none.mp (memA_all h (P := fun q => (rgA (q + 5)).isNone) rfl)
theorem Lw.w5 {q : Nat} (h : Lw q) : isW (q + 5) = false := by
  have := memA_all h (P := fun q => !isW (q + 5)) rfl
  simpa using this
theorem Lw.a6 {q : Nat} (h : Lw q) : rgA (q + 6) = none := Option.isNone_iff_eq_none.mp (memA_all h (P := fun q => (rgA (q + 6)).isNone) rfl)
theorem Lw.w6 {q : Nat} (h : Lw q) : isW (q + 6) = false := by
  have := memA_all h (P := fun q => !isW (q + 6)) rfl
  simpa using this
section LOOP
variable {d : Nat} {xs : Option (List Int32)} {rt : Option FieldType} {bs : en_Bs} {pc N : Nat} {st : List Value} {Ph : Option Value → en_H → Prop}
theorem w_loop {X : Type} (P : X → en_L → List en_E → Prop) (m : X → List en_E → Int) (step : ∀ (x : X) (l : en_L) (g : List en_E), P x l g → (∀ (x' : X) (l' : en_L) (g' : List en_E), P x' l' g' → 0 ≤ m x' g' ∧ m x' g' < m x g → At d xs rt bs (pc, l', st, (g', N)) Ph) → At d xs rt bs (pc, l, st, (g, N)) Ph) (x : X) {l : en_L} {g : List en_E} (h : P x l g) : At d xs rt bs (pc, l, st, (g, N)) Ph := by
  have key : ∀ (n : Nat) (x : X) (l : en_L) (g : List en_E), (m x g).toNat ≤ n → P x l g → At d xs rt bs (pc, l, st, (g, N)) Ph := by
    intro n
    induction n with
    | zero =>
      intro x l g hn hp
      exact step x l g hp (fun x' l' g' hp' hm => absurd hm (by omega))
    | succ n ih =>
      intro x l g hn hp
      exact step x l g hp (fun x' l' g' hp' hm => ih x' l' g' (by omega) hp')
  exact key _ x l g (Nat.le_refl _) h
end LOOP
section LOOP2
variable {d : Nat} {xs : Option (List Int32)} {rt : Option FieldType} {bs : en_Bs} {pc N : Nat} {l : en_L} {st : List Value} {h : en_H} {Ph : Option Value → en_H → Prop}
theorem w_loopI (P : Int → en_L → List en_E → Prop) (step : ∀ (n : Int) (l : en_L) (g : List en_E), P n l g → (∀ (n' : Int) (l' : en_L) (g' : List en_E), P n' l' g' → 0 ≤ n' ∧ n' < n → At d xs rt bs (pc, l', st, (g', N)) Ph) → At d xs rt bs (pc, l, st, (g, N)) Ph) (n : Int) {g : List en_E} (h : P n l g) : At d xs rt bs (pc, l, st, (g, N)) Ph :=
  w_loop P (fun x _ => x) step n h
theorem At.sti {v : Int32} (k : At d xs rt bs (pc, l, .int v :: st, h) Ph) : At d xs rt bs (pc, l, (some (Value.int v)).toList ++ st, h) Ph := k
theorem At.stl {v : Int64} (k : At d xs rt bs (pc, l, .long v :: st, h) Ph) : At d xs rt bs (pc, l, (some (Value.long v)).toList ++ st, h) Ph := k
theorem At.str {v : Nat} (k : At d xs rt bs (pc, l, .ref v :: st, h) Ph) : At d xs rt bs (pc, l, (some (Value.ref v)).toList ++ st, h) Ph := k
theorem At.stn (k : At d xs rt bs (pc, l, st, h) Ph) : At d xs rt bs (pc, l, (none : Option Value).toList ++ st, h) Ph := k
end LOOP2
theorem en_cpy_len {α : Type} {f g : List α} {sp dp n m : Nat} (h1 : sp + n ≤ f.length) (h2 : dp + n ≤ g.length) (hl : g.length = m) : (en_cpy f g sp dp n).length = m := by
  unfold en_cpy
  rw [List.length_append, List.length_append, List.length_take, List.length_take, List.length_drop, List.length_drop]
  omega
/-! ===== the reference's row ===== -/
section WR
variable {g : List en_E}
theorem HI.row (h : HI g) : WfRow (fun j => (eA g 233 j).toInt) := h.2.2.2.1
theorem HI.t0 (h : HI g) : 0 ≤ (eA g 233 0).toInt ∧ (eA g 233 0).toInt ≤ 12 := h.row.1.1
theorem HI.t1 (h : HI g) : 0 ≤ (eA g 233 1).toInt ∧ (eA g 233 1).toInt ≤ 8 := h.row.1.2.1
theorem HI.t2 (h : HI g) : 0 ≤ (eA g 233 2).toInt ∧ (eA g 233 2).toInt ≤ 6 := h.row.1.2.2.1
theorem HI.t3 (h : HI g) : (-1 ≤ (eA g 233 3).toInt ∧ (eA g 233 3).toInt < (eA g 233 2).toInt) ∧ (eA g 233 2).toInt ≤ 6 := ⟨h.row.1.2.2.2.1, h.row.1.2.2.1.2⟩
theorem HI.t4 (h : HI g) : 0 ≤ (eA g 233 4).toInt ∧ (eA g 233 4).toInt ≤ 8 := h.row.1.2.2.2.2.1
theorem HI.t5 (h : HI g) : 0 ≤ (eA g 233 5).toInt ∧ (eA g 233 5).toInt ≤ 99 := h.row.1.2.2.2.2.2.1
theorem HI.t6 (h : HI g) : 1 ≤ (eA g 233 6).toInt ∧ (eA g 233 6).toInt ≤ 4 := h.row.1.2.2.2.2.2.2
theorem HI.s0 (h : HI g) {j : Int} (s : Int) (hj : j = 10 + 3 * s) (h0 : 0 ≤ s ∧ s < 12) : -1 ≤ (eA g 233 j).toInt ∧ (eA g 233 j).toInt ≤ 11 := by
  subst hj; exact (h.row.2.1 s h0.1 h0.2).1
theorem HI.s1 (h : HI g) {j : Int} (s : Int) (hj : j = 10 + 3 * s + 1) (h0 : 0 ≤ s ∧ s < 12) : (0 ≤ (eA g 233 j).toInt ∧ (eA g 233 j).toInt ≤ 9) ∧ (s < (eA g 233 0).toInt → 1 ≤ (eA g 233 j).toInt) := by
  subst hj; exact ⟨(h.row.2.1 s h0.1 h0.2).2.1, (h.row.2.1 s h0.1 h0.2).2.2.2⟩
theorem HI.s2 (h : HI g) {j : Int} (s : Int) (hj : j = 10 + 3 * s + 2) (h0 : 0 ≤ s ∧ s < 12) : 0 ≤ (eA g 233 j).toInt ∧ (eA g 233 j).toInt ≤ 99 := by
  subst hj; exact (h.row.2.1 s h0.1 h0.2).2.2.1
theorem HI.l0 (h : HI g) {j : Int} (l : Int) (hj : j = 46 + 6 * l) (h0 : 0 ≤ l ∧ l < 8) : 0 ≤ (eA g 233 j).toInt ∧ (eA g 233 j).toInt ≤ 9 := by
  subst hj; exact (h.row.2.2.1.2 l h0.1 h0.2).1
theorem HI.l1 (h : HI g) {j : Int} (l : Int) (hj : j = 46 + 6 * l + 1) (h0 : 0 ≤ l ∧ l < 8) : (0 ≤ (eA g 233 j).toInt ∧ (eA g 233 j).toInt ≤ 11) ∧ ((eA g 233 j).toInt < (eA g 233 0).toInt ∨ (eA g 233 j).toInt = 0) ∧ (0 < (eA g 233 1).toInt → 0 < (eA g 233 0).toInt) := by
  subst hj; have h1 := (h.row.2.2.1.2 l h0.1 h0.2).2.1; exact ⟨⟨h1.1, h1.2.1⟩, h1.2.2, h.row.2.2.1.1⟩
theorem HI.l2 (h : HI g) {j : Int} (l : Int) (hj : j = 46 + 6 * l + 2) (h0 : 0 ≤ l ∧ l < 8) : (0 ≤ (eA g 233 j).toInt ∧ (eA g 233 j).toInt ≤ 11) ∧ ((eA g 233 j).toInt < (eA g 233 0).toInt ∨ (eA g 233 j).toInt = 0) ∧ (0 < (eA g 233 1).toInt → 0 < (eA g 233 0).toInt) := by
  subst hj; have h1 := (h.row.2.2.1.2 l h0.1 h0.2).2.2.1; exact ⟨⟨h1.1, h1.2.1⟩, h1.2.2, h.row.2.2.1.1⟩
theorem HI.l3 (h : HI g) {j : Int} (l : Int) (hj : j = 46 + 6 * l + 3) (h0 : 0 ≤ l ∧ l < 8) : 0 ≤ (eA g 233 j).toInt ∧ (eA g 233 j).toInt ≤ 99 := by
  subst hj; exact (h.row.2.2.1.2 l h0.1 h0.2).2.2.2.1
theorem HI.l4 (h : HI g) {j : Int} (l : Int) (hj : j = 46 + 6 * l + 4) (h0 : 0 ≤ l ∧ l < 8) : 0 ≤ (eA g 233 j).toInt ∧ (eA g 233 j).toInt ≤ 9 := by
  subst hj; exact (h.row.2.2.1.2 l h0.1 h0.2).2.2.2.2.1
theorem HI.l5 (h : HI g) {j : Int} (l : Int) (hj : j = 46 + 6 * l + 5) (h0 : 0 ≤ l ∧ l < 8) : 0 ≤ (eA g 233 j).toInt ∧ (eA g 233 j).toInt ≤ 9999 := by
  subst hj; exact (h.row.2.2.1.2 l h0.1 h0.2).2.2.2.2.2
theorem HI.g0 (h : HI g) {j : Int} (k : Int) (hj : j = 94 + 2 * k) (h0 : 0 ≤ k ∧ k < 8) : 0 ≤ (eA g 233 j).toInt ∧ (eA g 233 j).toInt ≤ 11 := by
  subst hj; exact (h.row.2.2.2.1 k h0.1 h0.2).1
theorem HI.g1 (h : HI g) {j : Int} (k : Int) (hj : j = 94 + 2 * k + 1) (h0 : 0 ≤ k ∧ k < 8) : 0 ≤ (eA g 233 j).toInt ∧ (eA g 233 j).toInt ≤ 99 := by
  subst hj; exact (h.row.2.2.2.1 k h0.1 h0.2).2
end WR
theorem HI.cpy0 {g : List en_E} {p0 p1 t0 t1 n0 n1 : Nat} (h : HI g) (k0 : kA p0 t0 n0) (k1 : kA p1 t1 n1) (hr : rgA p1 = none) (hw : isW p1 = false) (sp dp m : Nat) (h1 : sp + m ≤ n0) (h2 : dp + m ≤ n1) : HI (sW g p1 (en_cpy (gA g p0) (gA g p1) sp dp m)) :=
  h.wW0 k1 hr hw (en_cpy_len (by rw [(h.1.arr k0).2]; exact h1) (by rw [(h.1.arr k1).2]; exact h2) (h.1.arr k1).2)
theorem Fr.cpy {F : List (Nat × Nat)} {A : List Nat} {g0 g : List en_E} {p0 p1 : Nat} (h : Fr F A g0 g) (hm : memA A p1 = true) (sp dp m : Nat) : Fr F A g0 (sW g p1 (en_cpy (gA g p0) (gA g p1) sp dp m)) := h.wW hm
/-! ===== how many are not gone ===== -/
def zz (v : Int32) : Int := if v.toInt = 0 then 1 else 0
def cz (g : List en_E) : Int := zz (eA g 255 0) + zz (eA g 255 1) + zz (eA g 255 2) + zz (eA g 255 3) + zz (eA g 255 4) + zz (eA g 255 5) + zz (eA g 255 6) + zz (eA g 255 7)
theorem zz_b (v : Int32) : 0 ≤ zz v ∧ zz v ≤ 1 := by unfold zz; split <;> omega
theorem cz_nn (g : List en_E) : 0 ≤ cz g := by
  have h0 := zz_b (eA g 255 0)
  have h1 := zz_b (eA g 255 1)
  have h2 := zz_b (eA g 255 2)
  have h3 := zz_b (eA g 255 3)
  have h4 := zz_b (eA g 255 4)
  have h5 := zz_b (eA g 255 5)
  have h6 := zz_b (eA g 255 6)
  have h7 := zz_b (eA g 255 7)
  unfold cz
  omega
theorem cz_c {g g' : List en_E} (h : gA g' 255 = gA g 255) : cz g' = cz g := by unfold cz; simp only [eA_c h]
theorem cz_lt {g : List en_E} {j : Int} {v : Int32} (h : Sh g) (h0 : 0 ≤ j ∧ j < 8) (hv : v.toInt ≠ 0) (hz : (eA g 255 j).toInt = 0) : cz (sA g 255 j v) < cz g := by
  have key : ∀ i : Int, 0 ≤ i → i < 8 → (i = j → zz (eA (sA g 255 j v) 255 i) = 0 ∧ zz (eA g 255 i) = 1) ∧ (i ≠ j → zz (eA (sA g 255 j v) 255 i) = zz (eA g 255 i)) := by
    intro i i0 i1
    refine ⟨fun e => ?_, fun e => ?_⟩
    · subst e
      rw [eA_sA_eq h ka_255 rfl h0.1 (by omega)]
      exact ⟨if_neg hv, if_pos hz⟩
    · rw [eA_sA_ne h ka_255 e h0.1 i0]
  have k0 := key 0 (by decide) (by decide)
  have k1 := key 1 (by decide) (by decide)
  have k2 := key 2 (by decide) (by decide)
  have k3 := key 3 (by decide) (by decide)
  have k4 := key 4 (by decide) (by decide)
  have k5 := key 5 (by decide) (by decide)
  have k6 := key 6 (by decide) (by decide)
  have k7 := key 7 (by decide) (by decide)
  unfold cz
  have hj : j = 0 ∨ j = 1 ∨ j = 2 ∨ j = 3 ∨ j = 4 ∨ j = 5 ∨ j = 6 ∨ j = 7 := by omega
  rcases hj with rfl | rfl | rfl | rfl | rfl | rfl | rfl | rfl <;> omega
/-! ===== a law's code ===== -/
theorem q_bndL (v : Int64) : -9223372036854775808 ≤ v.toInt ∧ v.toInt ≤ 9223372036854775807 := by
  have h1 := v.le_toInt
  have h2 := v.toInt_lt
  omega
theorem HI.law {g : List en_E} (h : HI g) {j : Int} (h0 : 0 ≤ j ∧ j < (eA g 233 2).toInt) : WfLaw (fun k => (eA g 233 (110 + 900 * j + k)).toInt) := h.row.2.2.2.2 j h0.1 h0.2
theorem HI.lawn {g : List en_E} (h : HI g) {j i : Int} (h0 : 0 ≤ j ∧ j < (eA g 233 2).toInt) (hi : i = 110 + 900 * j + 1) : 0 ≤ (eA g 233 i).toInt ∧ (eA g 233 i).toInt ≤ 12 := by
  subst hi; exact ⟨(h.law h0).1, (h.law h0).2.1⟩
theorem WfCode.cg {op op' arg arg' : Int → Int} {a b a' b' : Int} (h : WfCode op arg a b) (h1 : op = op') (h2 : arg = arg') (h3 : a = a') (h4 : b = b') : WfCode op' arg' a' b' := by
  subst h1 h2 h3 h4; exact h
theorem HI.code {g G : List en_E} (h : HI g) {j c : Int} (h0 : 0 ≤ j ∧ j < (eA g 233 2).toInt) (hA : gA G 233 = gA g 233) (hL : (gI G 231 27).toInt = 110 + 900 * j) {i v : Int} (hi : i = 110 + 900 * j + 1) (hn : (eA g 233 i).toInt = v) (hc : 0 ≤ c ∧ c < v) {i3 i4 v3 v4 : Int} (k : Int) (hk : k = 3 ∨ k = 5) (e3 : i3 = 110 + 900 * j + 2 + 8 * c + k) (e4 : i4 = i3 + 1) (h3 : (eA g 233 i3).toInt = v3) (h4 : (eA g 233 i4).toInt = v4) : WfCode (fun i => (eA G 233 ((gI G 231 27).toInt + 98 + 2 * i)).toInt) (fun i => (eA G 233 ((gI G 231 27).toInt + 98 + 2 * i + 1)).toInt) v3 v4 := by
  subst hi hn h3 h4 e4 e3
  have hw := (h.law h0).2.2 c hc.1 hc.2
  have f1 : (fun i : Int => (eA g 233 (110 + 900 * j + (98 + 2 * i))).toInt) = (fun i : Int => (eA G 233 ((gI G 231 27).toInt + 98 + 2 * i)).toInt) := by
    funext i; rw [eA_c hA, hL, show 110 + 900 * j + (98 + 2 * i) = 110 + 900 * j + 98 + 2 * i by omega]
  have f2 : (fun i : Int => (eA g 233 (110 + 900 * j + (98 + 2 * i + 1))).toInt) = (fun i : Int => (eA G 233 ((gI G 231 27).toInt + 98 + 2 * i + 1)).toInt) := by
    funext i; rw [eA_c hA, hL, show 110 + 900 * j + (98 + 2 * i + 1) = 110 + 900 * j + 98 + 2 * i + 1 by omega]
  rcases hk with rfl | rfl
  · exact hw.1.cg f1 f2 (by dsimp only; rw [show 110 + 900 * j + (2 + 8 * c + 3) = 110 + 900 * j + 2 + 8 * c + 3 by omega]) (by dsimp only; rw [show 110 + 900 * j + (2 + 8 * c + 4) = 110 + 900 * j + 2 + 8 * c + 3 + 1 by omega])
  · exact hw.2.cg f1 f2 (by dsimp only; rw [show 110 + 900 * j + (2 + 8 * c + 5) = 110 + 900 * j + 2 + 8 * c + 5 by omega]) (by dsimp only; rw [show 110 + 900 * j + (2 + 8 * c + 6) = 110 + 900 * j + 2 + 8 * c + 5 + 1 by omega])
theorem memA_cases {q a : Nat} {r : List Nat} {C : Prop} (h : memA (a :: r) q = true) (h1 : a = q → C) (h2 : memA r q = true → C) : C := by
  unfold memA at h
  rw [Bool.or_eq_true] at h
  rcases h with h | h
  · exact h1 (Nat.eq_of_beq_eq_true h)
  · exact h2 h
theorem Lw.ko {q : Nat} (h : Lw q) : kO 4 q [.int 0, .ref (q + 1), .ref (q + 2), .int 0, .int 0, .ref (q + 3), .ref (q + 4), .ref (q + 5), .ref (q + 6)] := by
  unfold Lw Lws at h
  refine memA_cases h (fun e => by subst e; exact kx_7) (fun h => ?_)
  refine memA_cases h (fun e => by subst e; exact kx_16) (fun h => ?_)
  refine memA_cases h (fun e => by subst e; exact kx_23) (fun h => ?_)
  refine memA_cases h (fun e => by subst e; exact kx_30) (fun h => ?_)
  refine memA_cases h (fun e => by subst e; exact kx_37) (fun h => ?_)
  refine memA_cases h (fun e => by subst e; exact kx_44) (fun h => ?_)
  refine memA_cases h (fun e => by subst e; exact kx_51) (fun h => ?_)
  refine memA_cases h (fun e => by subst e; exact kx_65) (fun h => ?_)
  refine memA_cases h (fun e => by subst e; exact kx_74) (fun h => ?_)
  refine memA_cases h (fun e => by subst e; exact kx_81) (fun h => ?_)
  refine memA_cases h (fun e => by subst e; exact kx_88) (fun h => ?_)
  refine memA_cases h (fun e => by subst e; exact kx_95) (fun h => ?_)
  refine memA_cases h (fun e => by subst e; exact kx_102) (fun h => ?_)
  refine memA_cases h (fun e => by subst e; exact kx_109) (fun h => ?_)
  refine memA_cases h (fun e => by subst e; exact kx_122) (fun h => ?_)
  refine memA_cases h (fun e => by subst e; exact kx_131) (fun h => ?_)
  refine memA_cases h (fun e => by subst e; exact kx_138) (fun h => ?_)
  refine memA_cases h (fun e => by subst e; exact kx_145) (fun h => ?_)
  refine memA_cases h (fun e => by subst e; exact kx_152) (fun h => ?_)
  refine memA_cases h (fun e => by subst e; exact kx_159) (fun h => ?_)
  refine memA_cases h (fun e => by subst e; exact kx_166) (fun h => ?_)
  refine memA_cases h (fun e => by subst e; exact kx_177) (fun h => ?_)
  cases h
theorem Lw.k1 {q : Nat} (h : Lw q) : kA (q + 1) 0 400 := by
  unfold Lw Lws at h
  refine memA_cases h (fun e => by subst e; exact ka_8) (fun h => ?_)
  refine memA_cases h (fun e => by subst e; exact ka_17) (fun h => ?_)
  refine memA_cases h (fun e => by subst e; exact ka_24) (fun h => ?_)
  refine memA_cases h (fun e => by subst e; exact ka_31) (fun h => ?_)
  refine memA_cases h (fun e => by subst e; exact ka_38) (fun h => ?_)
  refine memA_cases h (fun e => by subst e; exact ka_45) (fun h => ?_)
  refine memA_cases h (fun e => by subst e; exact ka_52) (fun h => ?_)
  refine memA_cases h (fun e => by subst e; exact ka_66) (fun h => ?_)
  refine memA_cases h (fun e => by subst e; exact ka_75) (fun h => ?_)
  refine memA_cases h (fun e => by subst e; exact ka_82) (fun h => ?_)
  refine memA_cases h (fun e => by subst e; exact ka_89) (fun h => ?_)
  refine memA_cases h (fun e => by subst e; exact ka_96) (fun h => ?_)
  refine memA_cases h (fun e => by subst e; exact ka_103) (fun h => ?_)
  refine memA_cases h (fun e => by subst e; exact ka_110) (fun h => ?_)
  refine memA_cases h (fun e => by subst e; exact ka_123) (fun h => ?_)
  refine memA_cases h (fun e => by subst e; exact ka_132) (fun h => ?_)
  refine memA_cases h (fun e => by subst e; exact ka_139) (fun h => ?_)
  refine memA_cases h (fun e => by subst e; exact ka_146) (fun h => ?_)
  refine memA_cases h (fun e => by subst e; exact ka_153) (fun h => ?_)
  refine memA_cases h (fun e => by subst e; exact ka_160) (fun h => ?_)
  refine memA_cases h (fun e => by subst e; exact ka_167) (fun h => ?_)
  refine memA_cases h (fun e => by subst e; exact ka_178) (fun h => ?_)
  cases h
theorem Lw.k2 {q : Nat} (h : Lw q) : kA (q + 2) 0 400 := by
  unfold Lw Lws at h
  refine memA_cases h (fun e => by subst e; exact ka_9) (fun h => ?_)
  refine memA_cases h (fun e => by subst e; exact ka_18) (fun h => ?_)
  refine memA_cases h (fun e => by subst e; exact ka_25) (fun h => ?_)
  refine memA_cases h (fun e => by subst e; exact ka_32) (fun h => ?_)
  refine memA_cases h (fun e => by subst e; exact ka_39) (fun h => ?_)
  refine memA_cases h (fun e => by subst e; exact ka_46) (fun h => ?_)
  refine memA_cases h (fun e => by subst e; exact ka_53) (fun h => ?_)
  refine memA_cases h (fun e => by subst e; exact ka_67) (fun h => ?_)
  refine memA_cases h (fun e => by subst e; exact ka_76) (fun h => ?_)
  refine memA_cases h (fun e => by subst e; exact ka_83) (fun h => ?_)
  refine memA_cases h (fun e => by subst e; exact ka_90) (fun h => ?_)
  refine memA_cases h (fun e => by subst e; exact ka_97) (fun h => ?_)
  refine memA_cases h (fun e => by subst e; exact ka_104) (fun h => ?_)
  refine memA_cases h (fun e => by subst e; exact ka_111) (fun h => ?_)
  refine memA_cases h (fun e => by subst e; exact ka_124) (fun h => ?_)
  refine memA_cases h (fun e => by subst e; exact ka_133) (fun h => ?_)
  refine memA_cases h (fun e => by subst e; exact ka_140) (fun h => ?_)
  refine memA_cases h (fun e => by subst e; exact ka_147) (fun h => ?_)
  refine memA_cases h (fun e => by subst e; exact ka_154) (fun h => ?_)
  refine memA_cases h (fun e => by subst e; exact ka_161) (fun h => ?_)
  refine memA_cases h (fun e => by subst e; exact ka_168) (fun h => ?_)
  refine memA_cases h (fun e => by subst e; exact ka_179) (fun h => ?_)
  cases h
theorem Lw.k3 {q : Nat} (h : Lw q) : kA (q + 3) 0 12 := by
  unfold Lw Lws at h
  refine memA_cases h (fun e => by subst e; exact ka_10) (fun h => ?_)
  refine memA_cases h (fun e => by subst e; exact ka_19) (fun h => ?_)
  refine memA_cases h (fun e => by subst e; exact ka_26) (fun h => ?_)
  refine memA_cases h (fun e => by subst e; exact ka_33) (fun h => ?_)
  refine memA_cases h (fun e => by subst e; exact ka_40) (fun h => ?_)
  refine memA_cases h (fun e => by subst e; exact ka_47) (fun h => ?_)
  refine memA_cases h (fun e => by subst e; exact ka_54) (fun h => ?_)
  refine memA_cases h (fun e => by subst e; exact ka_68) (fun h => ?_)
  refine memA_cases h (fun e => by subst e; exact ka_77) (fun h => ?_)
  refine memA_cases h (fun e => by subst e; exact ka_84) (fun h => ?_)
  refine memA_cases h (fun e => by subst e; exact ka_91) (fun h => ?_)
  refine memA_cases h (fun e => by subst e; exact ka_98) (fun h => ?_)
  refine memA_cases h (fun e => by subst e; exact ka_105) (fun h => ?_)
  refine memA_cases h (fun e => by subst e; exact ka_112) (fun h => ?_)
  refine memA_cases h (fun e => by subst e; exact ka_125) (fun h => ?_)
  refine memA_cases h (fun e => by subst e; exact ka_134) (fun h => ?_)
  refine memA_cases h (fun e => by subst e; exact ka_141) (fun h => ?_)
  refine memA_cases h (fun e => by subst e; exact ka_148) (fun h => ?_)
  refine memA_cases h (fun e => by subst e; exact ka_155) (fun h => ?_)
  refine memA_cases h (fun e => by subst e; exact ka_162) (fun h => ?_)
  refine memA_cases h (fun e => by subst e; exact ka_169) (fun h => ?_)
  refine memA_cases h (fun e => by subst e; exact ka_180) (fun h => ?_)
  cases h
theorem Lw.k4 {q : Nat} (h : Lw q) : kA (q + 4) 0 12 := by
  unfold Lw Lws at h
  refine memA_cases h (fun e => by subst e; exact ka_11) (fun h => ?_)
  refine memA_cases h (fun e => by subst e; exact ka_20) (fun h => ?_)
  refine memA_cases h (fun e => by subst e; exact ka_27) (fun h => ?_)
  refine memA_cases h (fun e => by subst e; exact ka_34) (fun h => ?_)
  refine memA_cases h (fun e => by subst e; exact ka_41) (fun h => ?_)
  refine memA_cases h (fun e => by subst e; exact ka_48) (fun h => ?_)
  refine memA_cases h (fun e => by subst e; exact ka_55) (fun h => ?_)
  refine memA_cases h (fun e => by subst e; exact ka_69) (fun h => ?_)
  refine memA_cases h (fun e => by subst e; exact ka_78) (fun h => ?_)
  refine memA_cases h (fun e => by subst e; exact ka_85) (fun h => ?_)
  refine memA_cases h (fun e => by subst e; exact ka_92) (fun h => ?_)
  refine memA_cases h (fun e => by subst e; exact ka_99) (fun h => ?_)
  refine memA_cases h (fun e => by subst e; exact ka_106) (fun h => ?_)
  refine memA_cases h (fun e => by subst e; exact ka_113) (fun h => ?_)
  refine memA_cases h (fun e => by subst e; exact ka_126) (fun h => ?_)
  refine memA_cases h (fun e => by subst e; exact ka_135) (fun h => ?_)
  refine memA_cases h (fun e => by subst e; exact ka_142) (fun h => ?_)
  refine memA_cases h (fun e => by subst e; exact ka_149) (fun h => ?_)
  refine memA_cases h (fun e => by subst e; exact ka_156) (fun h => ?_)
  refine memA_cases h (fun e => by subst e; exact ka_163) (fun h => ?_)
  refine memA_cases h (fun e => by subst e; exact ka_170) (fun h => ?_)
  refine memA_cases h (fun e => by subst e; exact ka_181) (fun h => ?_)
  cases h
theorem Lw.k5 {q : Nat} (h : Lw q) : kA (q + 5) 0 12 := by
  unfold Lw Lws at h
  refine memA_cases h (fun e => by subst e; exact ka_12) (fun h => ?_)
  refine memA_cases h (fun e => by subst e; exact ka_21) (fun h => ?_)
  refine memA_cases h (fun e => by subst e; exact ka_28) (fun h => ?_)
  refine memA_cases h (fun e => by subst e; exact ka_35) (fun h => ?_)
  refine memA_cases h (fun e => by subst e; exact ka_42) (fun h => ?_)
  refine memA_cases h (fun e => by subst e; exact ka_49) (fun h => ?_)
  refine memA_cases h (fun e => by subst e; exact ka_56) (fun h => ?_)
  refine memA_cases h (fun e => by subst e; exact ka_70) (fun h => ?_)
  refine memA_cases h (fun e => by subst e; exact ka_79) (fun h => ?_)
  refine memA_cases h (fun e => by subst e; exact ka_86) (fun h => ?_)
  refine memA_cases h (fun e => by subst e; exact ka_93) (fun h => ?_)
  refine memA_cases h (fun e => by subst e; exact ka_100) (fun h => ?_)
  refine memA_cases h (fun e => by subst e; exact ka_107) (fun h => ?_)
  refine memA_cases h (fun e => by subst e; exact ka_114) (fun h => ?_)
  refine memA_cases h (fun e => by subst e; exact ka_127) (fun h => ?_)
  refine memA_cases h (fun e => by subst e; exact ka_136) (fun h => ?_)
  refine memA_cases h (fun e => by subst e; exact ka_143) (fun h => ?_)
  refine memA_cases h (fun e => by subst e; exact ka_150) (fun h => ?_)
  refine memA_cases h (fun e => by subst e; exact ka_157) (fun h => ?_)
  refine memA_cases h (fun e => by subst e; exact ka_164) (fun h => ?_)
  refine memA_cases h (fun e => by subst e; exact ka_171) (fun h => ?_)
  refine memA_cases h (fun e => by subst e; exact ka_182) (fun h => ?_)
  cases h
theorem Lw.k6 {q : Nat} (h : Lw q) : kA (q + 6) 0 12 := by
  unfold Lw Lws at h
  refine memA_cases h (fun e => by subst e; exact ka_13) (fun h => ?_)
  refine memA_cases h (fun e => by subst e; exact ka_22) (fun h => ?_)
  refine memA_cases h (fun e => by subst e; exact ka_29) (fun h => ?_)
  refine memA_cases h (fun e => by subst e; exact ka_36) (fun h => ?_)
  refine memA_cases h (fun e => by subst e; exact ka_43) (fun h => ?_)
  refine memA_cases h (fun e => by subst e; exact ka_50) (fun h => ?_)
  refine memA_cases h (fun e => by subst e; exact ka_57) (fun h => ?_)
  refine memA_cases h (fun e => by subst e; exact ka_71) (fun h => ?_)
  refine memA_cases h (fun e => by subst e; exact ka_80) (fun h => ?_)
  refine memA_cases h (fun e => by subst e; exact ka_87) (fun h => ?_)
  refine memA_cases h (fun e => by subst e; exact ka_94) (fun h => ?_)
  refine memA_cases h (fun e => by subst e; exact ka_101) (fun h => ?_)
  refine memA_cases h (fun e => by subst e; exact ka_108) (fun h => ?_)
  refine memA_cases h (fun e => by subst e; exact ka_115) (fun h => ?_)
  refine memA_cases h (fun e => by subst e; exact ka_128) (fun h => ?_)
  refine memA_cases h (fun e => by subst e; exact ka_137) (fun h => ?_)
  refine memA_cases h (fun e => by subst e; exact ka_144) (fun h => ?_)
  refine memA_cases h (fun e => by subst e; exact ka_151) (fun h => ?_)
  refine memA_cases h (fun e => by subst e; exact ka_158) (fun h => ?_)
  refine memA_cases h (fun e => by subst e; exact ka_165) (fun h => ?_)
  refine memA_cases h (fun e => by subst e; exact ka_172) (fun h => ?_)
  refine memA_cases h (fun e => by subst e; exact ka_183) (fun h => ?_)
  cases h
