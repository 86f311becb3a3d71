/-! ===== contents of arrays, read as numbers ===== -/
/-- put away from omega -/
def q_hd (p : Prop) : Prop := p
theorem eA_ti {g g' : List en_E} {p : Nat} {j : Int} (h : gA g' p = gA g p) : (eA g' p j).toInt = (eA g p j).toInt := congrArg Int32.toInt (eA_c h)
theorem eA_tq {g g' : List en_E} {p q : Nat} {j : Int} (h : gA g' q = gA g p) : (eA g' q j).toInt = (eA g p j).toInt := by unfold eA; rw [h]
theorem eA_ix {g : List en_E} {p : Nat} {i j : Int} (h : i = j) : (eA g p i).toInt = (eA g p j).toInt := by rw [h]
theorem eA_neT {g : List en_E} {p t n : Nat} (h : Sh g) (k : kA p t n) {j i : Int} {v : Int32} (e : i ≠ j) (h0 : 0 ≤ j) (h1 : 0 ≤ i) : (eA (sA g p j v) p i).toInt = (eA g p i).toInt := congrArg Int32.toInt (eA_sA_ne h k e h0 h1)
theorem eA_eqT {g : List en_E} {p t n : Nat} (h : Sh g) (k : kA p t n) {j i : Int} {v : Int32} (e : i = j) (h0 : 0 ≤ j) (h1 : j < n) : (eA (sA g p j v) p i).toInt = v.toInt := congrArg Int32.toInt (eA_sA_eq h k e h0 h1)
theorem eA_cp {g : List en_E} {p0 p1 t0 t1 n0 n1 : Nat} (h : Sh g) (k0 : kA p0 t0 n0) (k1 : kA p1 t1 n1) {sp dp m : Nat} (h1 : sp + m ≤ n0) (h2 : dp + m ≤ n1) (i : Int) : eA (sW g p1 (en_cpy (gA g p0) (gA g p1) sp dp m)) p1 i = va_cpy (fun j => (gA g p0).getD j 0) (fun j => (gA g p1).getD j 0) sp dp m i.toNat := by
  unfold eA
  rw [gA_sW_eq h k1, en_getD_cpy _ _ _ (by rw [(h.arr k0).2]; exact h1) (by rw [(h.arr k1).2]; exact h2)]
theorem eA_cpI {g : List en_E} {p0 p1 t0 t1 n0 n1 : Nat} (h : Sh g) (k0 : kA p0 t0 n0) (k1 : kA p1 t1 n1) {sp dp m : Nat} (h1 : sp + m ≤ n0) (h2 : dp + m ≤ n1) {i i' : Int} (e : i' + dp = i + sp) (a : dp ≤ i) (b : i < dp + m) : (eA (sW g p1 (en_cpy (gA g p0) (gA g p1) sp dp m)) p1 i).toInt = (eA g p0 i').toInt := by
  rw [eA_cp h k0 k1 h1 h2]
  unfold va_cpy
  rw [if_pos (by omega)]
  unfold eA
  dsimp only
  congr 2
  omega
theorem eA_cpO {g : List en_E} {p0 p1 t0 t1 n0 n1 : Nat} (h : Sh g) (k0 : kA p0 t0 n0) (k1 : kA p1 t1 n1) {sp dp m : Nat} (h1 : sp + m ≤ n0) (h2 : dp + m ≤ n1) {i : Int} (a : 0 ≤ i) (b : i < dp ∨ dp + m ≤ i) : (eA (sW g p1 (en_cpy (gA g p0) (gA g p1) sp dp m)) p1 i).toInt = (eA g p1 i).toInt := by
  rw [eA_cp h k0 k1 h1 h2]
  unfold va_cpy
  rw [if_neg (by omega)]
  rfl
/-- a whole array copied -/
theorem gA_cpF {g : List en_E} {p0 p1 t0 t1 n : Nat} (h : Sh g) (k0 : kA p0 t0 n) (k1 : kA p1 t1 n) {sp dp m : Nat} (e0 : sp = 0) (e1 : dp = 0) (e2 : m = n) : gA (sW g p1 (en_cpy (gA g p0) (gA g p1) sp dp m)) p1 = gA g p0 := by
  have l0 := (h.arr k0).2
  have l1 := (h.arr k1).2
  rw [gA_sW_eq h k1, e0, e1, e2]
  unfold en_cpy
  rw [List.take_zero, List.nil_append, List.drop_zero, List.take_of_length_le (by omega), List.drop_of_length_le (by omega), List.append_nil]
theorem z_rep {g : List en_E} {p n : Nat} (h : g[p]? = some (.inl (0, .inl (List.replicate n 0)))) (i : Int) : (eA g p i).toInt = 0 := by
  unfold eA gA
  rw [h]
  dsimp only
  rw [List.getD_eq_getElem?_getD, List.getElem?_replicate]
  split <;> rfl
theorem z_row {g : List en_E} {p n : Nat} {l : List Int32} (h : g[p]? = some (.inl (0, .inl (l ++ List.replicate n 0)))) (i : Int) (hi : l.length ≤ i) : (eA g p i).toInt = 0 := by
  unfold eA gA
  rw [h]
  dsimp only
  rw [List.getD_eq_getElem?_getD, List.getElem?_append_right (by omega), List.getElem?_replicate]
  split <;> rfl
/-! ===== next, and going on by it ===== -/
def nxv (L : Int → Int) (n s : Int) : Int := if (0 ≤ s ∧ s < n) ∧ 0 ≤ L s ∧ L s < n then L s else -1
theorem nxv.no {L : Int → Int} {n s : Int} (h : ¬ ((0 ≤ s ∧ s < n) ∧ 0 ≤ L s ∧ L s < n)) : nxv L n s = -1 := if_neg h
theorem nxv.yes {L : Int → Int} {n s : Int} (h : (0 ≤ s ∧ s < n) ∧ 0 ≤ L s ∧ L s < n) : nxv L n s = L s := if_pos h
theorem nxv.rg (L : Int → Int) (n s : Int) : nxv L n s = -1 ∨ (0 ≤ nxv L n s ∧ nxv L n s < n) := by
  unfold nxv
  split
  · next h => exact Or.inr h.2
  · exact Or.inl rfl
def NX (g : List en_E) (s : Int) : Int := nxv (fun i => (eA g 2 i).toInt) (gI g 1 0).toInt s
def NM (g : List en_E) (s : Int) : Int := nxv (fun i => (eA g 233 (10 + 3 * i)).toInt) (eA g 233 0).toInt s
/-- the same, asked of what is a stand -/
def NMo (g : List en_E) (s : Int) : Int := if 0 ≤ (eA g 233 (10 + 3 * s)).toInt ∧ (eA g 233 (10 + 3 * s)).toInt < (eA g 233 0).toInt then (eA g 233 (10 + 3 * s)).toInt else -1
theorem NMo.eq {g : List en_E} {s : Int} (h : 0 ≤ s ∧ s < (eA g 233 0).toInt) : NMo g s = NM g s := by
  unfold NMo NM nxv
  by_cases k : 0 ≤ (eA g 233 (10 + 3 * s)).toInt ∧ (eA g 233 (10 + 3 * s)).toInt < (eA g 233 0).toInt
  · rw [if_pos k, if_pos ⟨h, k⟩]
  · rw [if_neg k, if_neg (fun c => k c.2)]
theorem NX.no {g : List en_E} {s : Int} (h : ¬ ((0 ≤ s ∧ s < (gI g 1 0).toInt) ∧ 0 ≤ (eA g 2 s).toInt ∧ (eA g 2 s).toInt < (gI g 1 0).toInt)) : -1 = NX g s := (nxv.no (L := fun i => (eA g 2 i).toInt) h).symm
theorem NX.yes {g : List en_E} {s : Int} (h : (0 ≤ s ∧ s < (gI g 1 0).toInt) ∧ 0 ≤ (eA g 2 s).toInt ∧ (eA g 2 s).toInt < (gI g 1 0).toInt) : (eA g 2 s).toInt = NX g s := (nxv.yes (L := fun i => (eA g 2 i).toInt) h).symm
theorem NMo.no {g : List en_E} {s : Int} (h : ¬ (0 ≤ (eA g 233 (10 + 3 * s)).toInt ∧ (eA g 233 (10 + 3 * s)).toInt < (eA g 233 0).toInt)) : -1 = NMo g s := (if_neg h).symm
theorem NMo.yes {g : List en_E} {s : Int} (h : 0 ≤ (eA g 233 (10 + 3 * s)).toInt ∧ (eA g 233 (10 + 3 * s)).toInt < (eA g 233 0).toInt) : (eA g 233 (10 + 3 * s)).toInt = NMo g s := (if_pos h).symm
theorem NX.c {g g' : List en_E} {s : Int} (h2 : gA g' 2 = gA g 2) (h1 : gI g' 1 0 = gI g 1 0) : NX g' s = NX g s := by unfold NX; rw [h1]; simp only [eA_ti h2]
theorem NM.c {g g' : List en_E} {s : Int} (h : gA g' 233 = gA g 233) : NM g' s = NM g s := by unfold NM; simp only [eA_ti h]
theorem NMo.c {g g' : List en_E} {s : Int} (h : gA g' 233 = gA g 233) : NMo g' s = NMo g s := by unfold NMo; simp only [eA_ti h]
theorem q_0shr (y : Int32) : (0 : Int32) >>> y = 0 := by
  apply Int32.toBitVec_inj.mp
  rw [Int32.toBitVec_shiftRight]
  exact BitVec.zero_sshiftRight
def itv (N : Int → Int) : Nat → Int → Int
  | 0, s => s
  | k + 1, s => itv N k (N s)
theorem itv_s (N : Int → Int) : ∀ (k : Nat) (s : Int), itv N (k + 1) s = N (itv N k s)
  | 0, s => rfl
  | k + 1, s => itv_s N k (N s)
def itI (N : Int → Int) (k s : Int) : Int := itv N k.toNat s
theorem itI_0 (N : Int → Int) (s : Int) : itI N 0 s = s := rfl
theorem itI_n (N : Int → Int) {k : Int} (h : k ≤ 0) (s : Int) : itI N k s = s := by unfold itI; rw [show k.toNat = 0 by omega]; rfl
theorem itI_s (N : Int → Int) {k : Int} (h : 0 ≤ k) (s : Int) : itI N (k + 1) s = N (itI N k s) := by
  unfold itI
  rw [show (k + 1).toNat = k.toNat + 1 by omega]
  exact itv_s N _ s
theorem itv_e {N : Int → Int} (h1 : N (-1) = -1) : ∀ k, itv N k (-1) = -1
  | 0 => rfl
  | k + 1 => by show itv N k (N (-1)) = -1; rw [h1]; exact itv_e h1 k
theorem itv_a (N : Int → Int) : ∀ (a b : Nat) (s : Int), itv N (a + b) s = itv N b (itv N a s)
  | 0, b, s => by rw [Nat.zero_add]; rfl
  | a + 1, b, s => by
    show itv N (a + 1 + b) s = itv N b (itv N a (N s))
    rw [show a + 1 + b = a + b + 1 by omega]
    exact itv_a N a b (N s)
theorem itI_e {N : Int → Int} (h1 : N (-1) = -1) {i k s : Int} (h : itI N i s = -1) (hk : i ≤ k) : itI N k s = -1 := by
  unfold itI at *
  rw [show k.toNat = i.toNat + (k.toNat - i.toNat) by omega, itv_a, h]
  exact itv_e h1 _
theorem itv_c {N N' : Int → Int} (h : ∀ s, N s = N' s) : ∀ (k : Nat) (s : Int), itv N k s = itv N' k s
  | 0, s => rfl
  | k + 1, s => by show itv N k (N s) = itv N' k (N' s); rw [h]; exact itv_c h k _
theorem itI_c {N N' : Int → Int} (h : ∀ s, N s = N' s) (k s : Int) : itI N k s = itI N' k s := itv_c h _ _
theorem NX.e (g : List en_E) : NX g (-1) = -1 := nxv.no (fun h => absurd h.1.1 (by decide))
theorem NM.e (g : List en_E) : NM g (-1) = -1 := nxv.no (fun h => absurd h.1.1 (by decide))
theorem NX.rg (g : List en_E) (s : Int) : NX g s = -1 ∨ (0 ≤ NX g s ∧ NX g s < (gI g 1 0).toInt) := nxv.rg _ _ s
theorem NM.rg (g : List en_E) (s : Int) : NM g s = -1 ∨ (0 ≤ NM g s ∧ NM g s < (eA g 233 0).toInt) := nxv.rg _ _ s
/-- next as 'after' asks it: nothing behind what is nothing -/
def NMq (g : List en_E) (s : Int) : Int := if s = -1 then -1 else NMo g s
theorem NMq.st {g : List en_E} {s : Int} (h : s = -1 ∨ (0 ≤ s ∧ s < (eA g 233 0).toInt)) : NMq g s = NM g s := by
  unfold NMq
  by_cases k : s = -1
  · rw [if_pos k, k]; exact (NM.e g).symm
  · rw [if_neg k]; exact NMo.eq (h.resolve_left k)
theorem NMq.e (g : List en_E) : NMq g (-1) = -1 := if_pos rfl
theorem NMq.ne {g : List en_E} {s : Int} (h : s ≠ -1) : NMq g s = NMo g s := if_neg h
theorem NMq.it {g : List en_E} : ∀ (k : Nat) {s : Int}, (s = -1 ∨ (0 ≤ s ∧ s < (eA g 233 0).toInt)) → itv (NMq g) k s = itv (NM g) k s
  | 0, s, h => rfl
  | k + 1, s, h => by
    show itv (NMq g) k (NMq g s) = itv (NM g) k (NM g s)
    rw [NMq.st h]
    exact NMq.it k (NM.rg g s)
theorem NMq.eqI {g : List en_E} {k s : Int} (h : s = -1 ∨ (0 ≤ s ∧ s < (eA g 233 0).toInt)) : itI (NMq g) k s = itI (NM g) k s := NMq.it _ h
theorem itI_m {N : Int → Int} {n : Int} (h : ∀ s, N s = -1 ∨ (0 ≤ N s ∧ N s < n)) : ∀ (k : Nat) {s : Int}, (s = -1 ∨ (0 ≤ s ∧ s < n)) → itv N k s = -1 ∨ (0 ≤ itv N k s ∧ itv N k s < n)
  | 0, s, hs => hs
  | k + 1, s, hs => itI_m h k (h s)
/-! ===== two that go on by next: the first time at the same place ===== -/
def MT (N : Int → Int) (o p j : Int) : Prop := itI N j o = itI N j p ∧ itI N j o ≠ -1
def MEET (N : Int → Int) (B o p w r : Int) : Prop := (∃ k, 0 ≤ k ∧ k ≤ B ∧ MT N o p k ∧ (∀ j, 0 ≤ j → j < k → ¬ MT N o p j) ∧ (w = 0 → r = k) ∧ (w ≠ 0 → r = itI N k o)) ∨ ((∀ j, 0 ≤ j → j ≤ B → ¬ MT N o p j) ∧ r = -1)
theorem ph_12 : ∀ (n : Nat) (f : Nat → Nat), (∀ i, i ≤ n → f i < n) → ∃ i j, i < j ∧ j ≤ n ∧ f i = f j
  | 0, f, h => absurd (h 0 (Nat.le_refl 0)) (Nat.not_lt_zero _)
  | n + 1, f, h => by
    by_cases c : ∃ i, i ≤ n ∧ f i = f (n + 1)
    · obtain ⟨i, h1, h2⟩ := c
      exact ⟨i, n + 1, by omega, Nat.le_refl _, h2⟩
    · have hc : ∀ i, i ≤ n → f i ≠ f (n + 1) := fun i hi e => c ⟨i, hi, e⟩
      obtain ⟨i, j, h1, h2, h3⟩ := ph_12 n (fun i => if f i = n then f (n + 1) else f i) (fun i hi => by
        have a := h i (by omega)
        have b := h (n + 1) (Nat.le_refl _)
        have d := hc i hi
        split <;> omega)
      refine ⟨i, j, h1, by omega, ?_⟩
      have a := hc i (by omega)
      have b := hc j h2
      split at h3 <;> split at h3 <;> omega
theorem itv_per {N : Int → Int} {s : Int} {i j : Nat} (h : i < j) (e : itv N i s = itv N j s) : ∀ m, i ≤ m → itv N (m + (j - i)) s = itv N m s := by
  intro m hm
  rw [show m + (j - i) = j + (m - i) by omega, itv_a, ← e, ← itv_a, show i + (m - i) = m by omega]
theorem itv_perk {N : Int → Int} {s : Int} {p m0 : Nat} (h : ∀ m, m0 ≤ m → itv N (m + p) s = itv N m s) : ∀ (k m : Nat), m0 ≤ m → itv N (m + p * k) s = itv N m s
  | 0, m, hm => by rw [Nat.mul_zero, Nat.add_zero]
  | k + 1, m, hm => by
    rw [show m + p * (k + 1) = (m + p * k) + p by rw [Nat.mul_succ, Nat.add_assoc], h _ (by omega)]
    exact itv_perk h k m hm
theorem itv_live {N : Int → Int} (h1 : N (-1) = -1) {s : Int} {j k : Nat} (hj : j ≤ k) (h : itv N k s ≠ -1) : itv N j s ≠ -1 := fun e => h (by
  rw [show k = j + (k - j) by omega, itv_a, e]
  exact itv_e h1 _)
theorem itv_ph {N : Int → Int} (h1 : N (-1) = -1) (hN : ∀ s, N s = -1 ∨ (0 ≤ N s ∧ N s < 12)) {s : Int} (hs : s = -1 ∨ (0 ≤ s ∧ s < 12)) {k : Nat} (hk : 12 ≤ k) (hv : itv N k s ≠ -1) : ∃ m p, m ≤ 11 ∧ 1 ≤ p ∧ ∀ m', m ≤ m' → itv N (m' + p) s = itv N m' s := by
  obtain ⟨i, j, h2, h3, h4⟩ := ph_12 12 (fun i => (itv N i s).toNat) (fun i hi => by
    have a := itI_m hN i hs
    have b := itv_live h1 (show i ≤ k by omega) hv
    omega)
  have a := itI_m hN i hs
  have b := itv_live h1 (show i ≤ k by omega) hv
  have c := itI_m hN j hs
  have d := itv_live h1 (show j ≤ k by omega) hv
  exact ⟨i, j - i, by omega, by omega, itv_per h2 (by omega)⟩
theorem MT.first {N : Int → Int} (h1 : N (-1) = -1) (hN : ∀ s, N s = -1 ∨ (0 ≤ N s ∧ N s < 12)) {o p k : Int} (ho : o = -1 ∨ (0 ≤ o ∧ o < 12)) (hp : p = -1 ∨ (0 ≤ p ∧ p < 12)) (hk : 0 ≤ k) (hm : MT N o p k) (hf : ∀ j, 0 ≤ j → j < k → ¬ MT N o p j) : k ≤ 12 := by
  apply Decidable.byContradiction
  intro hc
  unfold MT itI at hm
  obtain ⟨m1, p1, a1, b1, c1⟩ := itv_ph h1 hN ho (show 12 ≤ k.toNat by omega) hm.2
  obtain ⟨m2, p2, a2, b2, c2⟩ := itv_ph h1 hN hp (show 12 ≤ k.toNat by omega) (by rw [← hm.1]; exact hm.2)
  have q1 := itv_perk c1 (p2 * k.toNat) 11 (by omega)
  have q2 := itv_perk c2 (p1 * k.toNat) 11 (by omega)
  have hL : k.toNat ≤ p1 * (p2 * k.toNat) := by
    have z1 : k.toNat ≤ p2 * k.toNat := Nat.le_mul_of_pos_left _ (by omega)
    have z2 : p2 * k.toNat ≤ p1 * (p2 * k.toNat) := Nat.le_mul_of_pos_left _ (by omega)
    omega
  have eL : p2 * (p1 * k.toNat) = p1 * (p2 * k.toNat) := by rw [← Nat.mul_assoc, ← Nat.mul_assoc, Nat.mul_comm p2 p1]
  rw [eL] at q2
  refine hf 11 (by decide) (by omega) ⟨?_, ?_⟩
  · show itv N 11 o = itv N 11 p
    rw [← q1, ← q2, show 11 + p1 * (p2 * k.toNat) = k.toNat + (11 + p1 * (p2 * k.toNat) - k.toNat) by omega, itv_a, itv_a N k.toNat, hm.1]
  · show itv N 11 o ≠ -1
    exact itv_live h1 (by omega) hm.2
theorem MEET.same {N : Int → Int} (h1 : N (-1) = -1) (hN : ∀ s, N s = -1 ∨ (0 ≤ N s ∧ N s < 12)) {B B' o p w r r' : Int} (hB : 12 ≤ B) (hB' : 12 ≤ B') (ho : o = -1 ∨ (0 ≤ o ∧ o < 12)) (hp : p = -1 ∨ (0 ≤ p ∧ p < 12)) (a : MEET N B o p w r) (b : MEET N B' o p w r') : r = r' := by
  rcases a with ⟨k, a1, a2, a3, a4, a5, a6⟩ | ⟨a1, a2⟩ <;> rcases b with ⟨j, b1, b2, b3, b4, b5, b6⟩ | ⟨b1, b2⟩
  · have e : k = j := by
      rcases Int.lt_trichotomy k j with h | h | h
      · exact absurd a3 (b4 k a1 h)
      · exact h
      · exact absurd b3 (a4 j b1 h)
    subst e
    by_cases hw : w = 0
    · rw [a5 hw, b5 hw]
    · rw [a6 hw, b6 hw]
  · exact absurd a3 (b1 k a1 (by have := MT.first h1 hN ho hp a1 a3 a4; omega))
  · exact absurd b3 (a1 j b1 (by have := MT.first h1 hN ho hp b1 b3 b4; omega))
  · rw [a2, b2]
theorem MT.c {N N' : Int → Int} (h : ∀ s, N s = N' s) {o p j : Int} : MT N o p j ↔ MT N' o p j := by unfold MT; rw [itI_c h, itI_c h]
theorem MEET.c {N N' : Int → Int} (h : ∀ s, N s = N' s) {B o p w r : Int} (a : MEET N B o p w r) : MEET N' B o p w r := by
  have e : N = N' := funext h
  rw [← e]
  exact a
theorem MEET.q {g : List en_E} {B o p w r : Int} (ho : o = -1 ∨ (0 ≤ o ∧ o < (eA g 233 0).toInt)) (hp : p = -1 ∨ (0 ≤ p ∧ p < (eA g 233 0).toInt)) (a : MEET (NMq g) B o p w r) : MEET (NM g) B o p w r := by
  unfold MEET MT at *
  simp only [NMq.eqI ho, NMq.eqI hp] at a
  exact a
theorem MEET.a {N : Int → Int} {B o p w r : Int} (k : Int) (h0 : 0 ≤ k) (hB : k ≤ B) (m1 : itI N k o = itI N k p) (m2 : itI N k o ≠ -1) (f : ∀ j : Int, 0 ≤ j → j < k → ¬ MT N o p j) (e1 : w = 0 → r = k) (e2 : w ≠ 0 → r = itI N k o) : MEET N B o p w r := Or.inl ⟨k, h0, hB, ⟨m1, m2⟩, f, e1, e2⟩
theorem MEET.n {N : Int → Int} {B o p w r h : Int} (h1 : N (-1) = -1) (f : ∀ j : Int, 0 ≤ j → j < h → ¬ MT N o p j) (e : itI N h o = -1 ∨ itI N h p = -1 ∨ B < h) (hr : r = -1) : MEET N B o p w r := by
  refine Or.inr ⟨fun j h0 hj => ?_, hr⟩
  by_cases c : j < h
  · exact f j h0 c
  · rcases e with e | e | e
    · exact fun m => m.2 (itI_e h1 e (by omega))
    · exact fun m => m.2 (m.1.trans (itI_e h1 e (by omega)))
    · exact absurd e (by omega)
theorem MT.step {N : Int → Int} {o p h : Int} (f : ∀ j : Int, 0 ≤ j → j < h → ¬ MT N o p j) (e : itI N h o ≠ itI N h p ∨ itI N h o = -1) {h' : Int} (e' : h' = h + 1) : ∀ j : Int, 0 ≤ j → j < h' → ¬ MT N o p j := fun j h0 hj m => by
  by_cases c : j = h
  · subst c
    rcases e with e | e
    · exact e m.1
    · exact m.2 e
  · exact f j h0 (by omega) m
theorem NMq.cI {g g' : List en_E} (h : gA g' 233 = gA g 233) {k s : Int} : itI (NMq g') k s = itI (NMq g) k s := itI_c (fun s => by unfold NMq; rw [NMo.c h]) k s
theorem NX.cI {g g' : List en_E} (h2 : gA g' 2 = gA g 2) (h1 : gI g' 1 0 = gI g 1 0) {k s : Int} : itI (NX g') k s = itI (NX g) k s := itI_c (fun _ => NX.c h2 h1) k s
/-! ===== sets as bits ===== -/
def BL (P : Prop) (r : Int) : Prop := (r = 1 ∧ P) ∨ (r = 0 ∧ ¬ P)
theorem BL.yes {P : Prop} {r : Int} (h : BL P r) (hr : r ≠ 0) : P := h.elim (fun a => a.2) (fun a => absurd a.1 hr)
theorem BL.no {P : Prop} {r : Int} (h : BL P r) (hr : r = 0) : ¬ P := h.elim (fun a => absurd (a.1.symm.trans hr) (by decide)) (fun a => a.2)
noncomputable def ACC (P : Int → Prop) : Nat → Int32
  | 0 => 0
  | s + 1 => @ite Int32 (P (s : Int)) (Classical.propDecidable (P (s : Int))) (ACC P s ||| ((1 : Int32) <<< (Int32.ofInt (s : Int) &&& 31))) (ACC P s)
noncomputable def ACI (P : Int → Prop) (n : Int) : Int32 := ACC P n.toNat
theorem ACI.z (P : Int → Prop) {n : Int} (h : n ≤ 0) : 0 = (ACI P n).toInt := by
  unfold ACI
  rw [show n.toNat = 0 by omega]
  rfl
theorem ACI.yes {P : Int → Prop} {n n' : Int} (h0 : 0 ≤ n) (hn : n' = n + 1) (h : P n) {i v w a : Int32} (hi : i.toInt = n) (hw : w = a ||| v) (hv : v = (1 : Int32) <<< (i &&& 31)) (ha : a.toInt = (ACI P n).toInt) : w.toInt = (ACI P n').toInt := by
  have e : a = ACI P n := Int32.toInt_inj.mp ha
  have ei : Int32.ofInt ((n.toNat : Nat) : Int) = i := by rw [show ((n.toNat : Nat) : Int) = n by omega, ← hi]; exact Int32.ofInt_toInt i
  have eq : ACI P n' = ACI P n ||| ((1 : Int32) <<< (i &&& 31)) := by
    unfold ACI
    rw [show n'.toNat = n.toNat + 1 by omega]
    show @ite Int32 _ (Classical.propDecidable _) _ _ = _
    rw [if_pos (by rw [show ((n.toNat : Nat) : Int) = n by omega]; exact h), ei]
  rw [eq, ← e, hw, hv]
theorem ACI.no {P : Int → Prop} {n n' : Int} (h0 : 0 ≤ n) (hn : n' = n + 1) (h : ¬ P n) {a : Int} (ha : a = (ACI P n).toInt) : a = (ACI P n').toInt := by
  have eq : ACI P n' = ACI P n := by
    unfold ACI
    rw [show n'.toNat = n.toNat + 1 by omega]
    show @ite Int32 _ (Classical.propDecidable _) _ _ = _
    rw [if_neg (by rw [show ((n.toNat : Nat) : Int) = n by omega]; exact h)]
  rw [eq, ha]
theorem q_or0 {w a z : Int32} (h : w = a ||| z) (hz : z.toInt = 0) : w.toInt = a.toInt := by
  have e : z = 0 := Int32.toInt_inj.mp hz
  rw [h, e, Int32.or_zero]
theorem ACI.c {P Q : Int → Prop} {n : Int} (h : ∀ s : Int, 0 ≤ s → s < n → (P s ↔ Q s)) : ACI P n = ACI Q n := by
  have k : ∀ m : Nat, (m : Int) ≤ n → ACC P m = ACC Q m := by
    intro m
    induction m with
    | zero => intro _; rfl
    | succ m ih =>
      intro hm
      have e := ih (by omega)
      have p := h (m : Int) (by omega) (by omega)
      show @ite Int32 _ (Classical.propDecidable _) _ _ = @ite Int32 _ (Classical.propDecidable _) _ _
      by_cases c : P (m : Int)
      · rw [if_pos c, if_pos (p.mp c), e]
      · rw [if_neg c, if_neg (fun q => c (p.mpr q)), e]
  by_cases hn : 0 ≤ n
  · exact k _ (by omega)
  · unfold ACI
    rw [show n.toNat = 0 by omega]
    rfl
/-! ===== signs ===== -/
def FITX (g : List en_E) (s : Int) : Prop := ∀ k : Int, 0 ≤ k → k < (gI g 1 12).toInt → itI (NX g) (eA g 15 k).toInt s = (eA g 14 k).toInt
def FITM (g : List en_E) (n s : Int) : Prop := ∀ k : Int, 0 ≤ k → k < n → itI (NMq g) (eA g 233 (94 + 2 * k + 1)).toInt s = (eA g 233 (94 + 2 * k)).toInt
theorem FITX.mk {g : List en_E} {s : Int} (h : ∀ k : Int, 0 ≤ k → k < (gI g 1 12).toInt → itI (NX g) (eA g 15 k).toInt s = (eA g 14 k).toInt) {r : Int} (hr : r = 1) : BL (FITX g s) r := Or.inl ⟨hr, h⟩
theorem FITX.no {g : List en_E} {s : Int} (k : Int) (h0 : 0 ≤ k) (h1 : k < (gI g 1 12).toInt) (h : itI (NX g) (eA g 15 k).toInt s ≠ (eA g 14 k).toInt) {r : Int} (hr : r = 0) : BL (FITX g s) r := Or.inr ⟨hr, fun f => h (f k h0 h1)⟩
theorem FITX.c {g g' : List en_E} {s : Int} (h2 : gA g' 2 = gA g 2) (h14 : gA g' 14 = gA g 14) (h15 : gA g' 15 = gA g 15) (h0 : gI g' 1 0 = gI g 1 0) (h12 : gI g' 1 12 = gI g 1 12) : FITX g' s ↔ FITX g s := by
  unfold FITX
  rw [h12]
  simp only [eA_ti h14, eA_ti h15, NX.cI h2 h0]
theorem FITM.z (g : List en_E) (s : Int) {n : Int} (h : n ≤ 0) {r : Int} (hr : r = 1) : BL (FITM g n s) r := Or.inl ⟨hr, fun k h0 h1 => absurd h1 (by omega)⟩
theorem FITM.yes {g : List en_E} {n n' s a b : Int} (h : BL (FITM g n s) a) (ha : a ≠ 0) (e : n' = n + 1) (m : itI (NMq g) (eA g 233 (94 + 2 * n + 1)).toInt s = (eA g 233 (94 + 2 * n)).toInt) (hb : b = 1) : BL (FITM g n' s) b := Or.inl ⟨hb, fun k h0 h1 => by
  by_cases c : k = n
  · rw [c]; exact m
  · exact h.yes ha k h0 (by omega)⟩
theorem FITM.no1 {g : List en_E} {n n' s b : Int} (h0 : 0 ≤ n) (e : n' = n + 1) (m : itI (NMq g) (eA g 233 (94 + 2 * n + 1)).toInt s ≠ (eA g 233 (94 + 2 * n)).toInt) (hb : b = 0) : BL (FITM g n' s) b := Or.inr ⟨hb, fun f => m (f n h0 (by omega))⟩
theorem FITM.no2 {g : List en_E} {n n' s a b : Int} (h : BL (FITM g n s) a) (ha : a = 0) (e : n' = n + 1) (hb : b = 0) : BL (FITM g n' s) b := Or.inr ⟨hb, fun f => h.no ha (fun k h0 h1 => f k h0 (by omega))⟩
/-! ===== the tape's bytes ===== -/
def BYT (a : Int32) (q : Int) : Int := ((a >>> (Int32.ofInt (24 - 8 * q) &&& 31)) &&& 255).toInt
theorem BYT.m {a w v s : Int32} {q : Int} (hw : w = a >>> (s &&& 31)) (hv : v = w &&& 255) (hs : s.toInt = 24 - 8 * q) : v.toInt = BYT a q := by
  unfold BYT
  rw [← hs, Int32.ofInt_toInt, hv, hw]
theorem byt_e (x : BitVec 32) (k : Nat) (hk : k ≤ 24) : (x >>> k) &&& 255#32 = (x.sshiftRight k) &&& 255#32 := by
  apply BitVec.eq_of_getLsbD_eq
  intro i hi
  rw [BitVec.getLsbD_and, BitVec.getLsbD_and, BitVec.getLsbD_ushiftRight, BitVec.getLsbD_sshiftRight]
  by_cases h8 : i < 8
  · have e : k + i < 32 := by omega
    have f : ¬ 32 ≤ i := by omega
    simp [e, f]
  · have e : (255#32).getLsbD i = false := by
      have k : ∀ j : Fin 32, 8 ≤ j.val → (255#32).getLsbD j.val = false := by decide
      exact k ⟨i, hi⟩ (by show 8 ≤ i; omega)
    rw [e, Bool.and_false, Bool.and_false]
theorem BYT.x {a w v s : Int32} {q : Int} (hw : w = (a.toUInt32 >>> (s.toUInt32 &&& Int32.toUInt32 31)).toInt32) (hv : v = w &&& 255) (hs : s.toInt = 24 - 8 * q) (h : 0 ≤ q ∧ q ≤ 3) : v.toInt = BYT a q := by
  have e : v = (a >>> (s &&& 31)) &&& 255 := by
    have hc : s = 24 ∨ s = 16 ∨ s = 8 ∨ s = 0 := by
      rcases (show q = 0 ∨ q = 1 ∨ q = 2 ∨ q = 3 by omega) with rfl | rfl | rfl | rfl
      · exact Or.inl (Int32.toInt_inj.mp hs)
      · exact Or.inr (Or.inl (Int32.toInt_inj.mp hs))
      · exact Or.inr (Or.inr (Or.inl (Int32.toInt_inj.mp hs)))
      · exact Or.inr (Or.inr (Or.inr (Int32.toInt_inj.mp hs)))
    apply Int32.toBitVec_inj.mp
    rw [hv, hw]
    rcases hc with rfl | rfl | rfl | rfl
    · exact byt_e a.toBitVec 24 (by decide)
    · exact byt_e a.toBitVec 16 (by decide)
    · exact byt_e a.toBitVec 8 (by decide)
    · exact byt_e a.toBitVec 0 (by decide)
  unfold BYT
  rw [← hs, Int32.ofInt_toInt, ← e]
/-! ===== a row of loads ===== -/
def okL (T : Int → Int) (had st ld i : Int) : Prop := i + 6 ≤ had ∧ ld < 8 ∧ (1 ≤ T i ∧ T i ≤ 9) ∧ (0 ≤ T (i + 3) ∧ T (i + 3) ≤ 99) ∧ (0 ≤ T (i + 4) ∧ T (i + 4) ≤ 9) ∧ (0 ≤ T (i + 5) ∧ T (i + 5) ≤ 9999) ∧ (0 ≤ T (i + 1) ∧ T (i + 1) < st) ∧ (0 ≤ T (i + 2) ∧ T (i + 2) < st)
noncomputable def rl_N (T : Int → Int) (had st ld0 : Int) : Nat → Int
  | 0 => ld0
  | n + 1 => @ite Int (okL T had st (rl_N T had st ld0 n) (6 * (n : Int))) (Classical.propDecidable _) (rl_N T had st ld0 n + 1) (rl_N T had st ld0 n)
noncomputable def rf_N (T : Int → Int) (had st ld0 : Int) (F : Int → Int) : Nat → Int → Int
  | 0, j => F j
  | n + 1, j => @ite Int (okL T had st (rl_N T had st ld0 n) (6 * (n : Int)) ∧ 6 * rl_N T had st ld0 n ≤ j ∧ j < 6 * rl_N T had st ld0 n + 6) (Classical.propDecidable _) (T (6 * (n : Int) + (j - 6 * rl_N T had st ld0 n))) (rf_N T had st ld0 F n j)
/-- behind the loads of the first n bytes (n by sixes) -/
noncomputable def RLI (T : Int → Int) (had st ld0 : Int) (n : Int) : Int := rl_N T had st ld0 (n / 6).toNat
noncomputable def RFI (T : Int → Int) (had st ld0 : Int) (F : Int → Int) (n j : Int) : Int := rf_N T had st ld0 F (n / 6).toNat j
theorem RLI.z (T : Int → Int) (had st ld0 : Int) {n : Int} (h : n = 0) : ld0 = RLI T had st ld0 n := by subst h; rfl
theorem RFI.z (T : Int → Int) (had st ld0 : Int) (F : Int → Int) {n : Int} (h : n = 0) (j : Int) : F j = RFI T had st ld0 F n j := by subst h; rfl
theorem rl_c {n : Int} (h0 : 0 ≤ n) (h6 : n % 6 = 0) : 6 * (((n / 6).toNat : Nat) : Int) = n ∧ ((n + 6) / 6).toNat = (n / 6).toNat + 1 := by omega
theorem RLI.y {T : Int → Int} {had st ld0 n l : Int} (h0 : 0 ≤ n) (h6 : n % 6 = 0) (e : l = RLI T had st ld0 n) (h : okL T had st l n) {l' n' : Int} (e' : l' = l + 1) (en : n' = n + 6) : l' = RLI T had st ld0 n' := by
  have c := rl_c h0 h6
  subst en
  unfold RLI at *
  rw [c.2]
  show _ = @ite Int _ (Classical.propDecidable _) _ _
  rw [if_pos (by rw [c.1, ← e]; exact h), ← e]
  exact e'
theorem RLI.n {T : Int → Int} {had st ld0 n l : Int} (h0 : 0 ≤ n) (h6 : n % 6 = 0) (e : l = RLI T had st ld0 n) (h : ¬ okL T had st l n) {l' n' : Int} (e' : l' = l) (en : n' = n + 6) : l' = RLI T had st ld0 n' := by
  have c := rl_c h0 h6
  subst en
  unfold RLI at *
  rw [c.2]
  show _ = @ite Int _ (Classical.propDecidable _) _ _
  rw [if_neg (by rw [c.1, ← e]; exact h), ← e]
  exact e'
theorem RFI.y {T : Int → Int} {had st ld0 n l : Int} {F : Int → Int} (h0 : 0 ≤ n) (h6 : n % 6 = 0) (e : l = RLI T had st ld0 n) (h : okL T had st l n) {n' : Int} (en : n' = n + 6) {j : Int} (hj : 6 * l ≤ j ∧ j < 6 * l + 6) : T (n + (j - 6 * l)) = RFI T had st ld0 F n' j := by
  have c := rl_c h0 h6
  subst en
  unfold RFI
  unfold RLI at e
  rw [c.2]
  show _ = @ite Int _ (Classical.propDecidable _) _ _
  rw [if_pos (by rw [c.1, ← e]; exact ⟨h, hj⟩), c.1, ← e]
theorem RFI.n {T : Int → Int} {had st ld0 n l : Int} {F : Int → Int} (h0 : 0 ≤ n) (h6 : n % 6 = 0) (e : l = RLI T had st ld0 n) {n' : Int} (en : n' = n + 6) {j x : Int} (hx : x = RFI T had st ld0 F n j) (h : ¬ (okL T had st l n ∧ 6 * l ≤ j ∧ j < 6 * l + 6)) : x = RFI T had st ld0 F n' j := by
  have c := rl_c h0 h6
  subst en
  unfold RFI at *
  unfold RLI at e
  rw [c.2]
  show _ = @ite Int _ (Classical.propDecidable _) _ _
  rw [if_neg (by rw [c.1, ← e]; exact h)]
  exact hx
theorem okL.c {T T' : Int → Int} {had st ld n : Int} (h : ∀ i, 0 ≤ i → i < had → T i = T' i) (h0 : 0 ≤ n) : okL T had st ld n ↔ okL T' had st ld n := by
  unfold okL
  by_cases c : n + 6 ≤ had
  · rw [h n h0 (by omega), h (n + 1) (by omega) (by omega), h (n + 2) (by omega) (by omega), h (n + 3) (by omega) (by omega), h (n + 4) (by omega) (by omega), h (n + 5) (by omega) (by omega)]
  · exact ⟨fun k => absurd k.1 c, fun k => absurd k.1 c⟩
theorem rl_N.c {T T' : Int → Int} {had st ld0 : Int} (h : ∀ i, 0 ≤ i → i < had → T i = T' i) : ∀ n, rl_N T had st ld0 n = rl_N T' had st ld0 n
  | 0 => rfl
  | n + 1 => by
    have e := rl_N.c (st := st) (ld0 := ld0) h n
    show @ite Int _ (Classical.propDecidable _) _ _ = @ite Int _ (Classical.propDecidable _) _ _
    rw [e]
    have o := okL.c (st := st) (ld := rl_N T' had st ld0 n) h (show (0 : Int) ≤ 6 * (n : Int) by omega)
    by_cases c : okL T had st (rl_N T' had st ld0 n) (6 * (n : Int))
    · rw [if_pos c, if_pos (o.mp c)]
    · rw [if_neg c, if_neg (fun k => c (o.mpr k))]
theorem rl_N.ge {T : Int → Int} {had st ld0 : Int} : ∀ n, ld0 ≤ rl_N T had st ld0 n
  | 0 => Int.le_refl _
  | n + 1 => by
    have e := rl_N.ge (T := T) (had := had) (st := st) (ld0 := ld0) n
    show _ ≤ @ite Int _ (Classical.propDecidable _) _ _
    split <;> omega
theorem rf_N.c {T T' : Int → Int} {had st ld0 : Int} {F F' : Int → Int} (h : ∀ i, 0 ≤ i → i < had → T i = T' i) (hF : ∀ j, 0 ≤ j → j < 6 * ld0 → F j = F' j) : ∀ n j, 0 ≤ j → j < 6 * rl_N T had st ld0 n → rf_N T had st ld0 F n j = rf_N T' had st ld0 F' n j
  | 0, j, h0, hj => hF j h0 hj
  | n + 1, j, h0, hj => by
    have e := rl_N.c (st := st) (ld0 := ld0) h n
    have o := okL.c (st := st) (ld := rl_N T' had st ld0 n) h (show (0 : Int) ≤ 6 * (n : Int) by omega)
    have ih := rf_N.c (st := st) h hF n j h0
    show @ite Int _ (Classical.propDecidable _) _ _ = @ite Int _ (Classical.propDecidable _) _ _
    rw [e] at ih ⊢
    by_cases c : okL T had st (rl_N T' had st ld0 n) (6 * (n : Int)) ∧ 6 * rl_N T' had st ld0 n ≤ j ∧ j < 6 * rl_N T' had st ld0 n + 6
    · rw [if_pos c, if_pos ⟨o.mp c.1, c.2⟩]
      have a := c.1.1
      exact h _ (by omega) (by omega)
    · rw [if_neg c, if_neg (fun k => c ⟨o.mpr k.1, k.2⟩)]
      refine ih ?_
      have hj2 : j < 6 * @ite Int (okL T had st (rl_N T had st ld0 n) (6 * (n : Int))) (Classical.propDecidable _) (rl_N T had st ld0 n + 1) (rl_N T had st ld0 n) := hj
      rw [e] at hj2
      by_cases c1 : okL T had st (rl_N T' had st ld0 n) (6 * (n : Int))
      · rw [if_pos c1] at hj2
        have d : ¬ (6 * rl_N T' had st ld0 n ≤ j ∧ j < 6 * rl_N T' had st ld0 n + 6) := fun k => c ⟨c1, k⟩
        omega
      · rw [if_neg c1] at hj2
        exact hj2
/-- why a load can't be -/
def okV (w s h p : Int) : Prop := 1 ≤ w ∧ w ≤ 9 ∧ 0 ≤ s ∧ s ≤ 99 ∧ 0 ≤ h ∧ h ≤ 9 ∧ 0 ≤ p ∧ p ≤ 9999
def WNL (st ld w f t s h p r : Int) : Prop := (¬ (1 ≤ w ∧ w ≤ 9 ∧ 0 ≤ s ∧ s ≤ 99 ∧ 0 ≤ h ∧ h ≤ 9 ∧ 0 ≤ p ∧ p ≤ 9999) → r = -1) ∧ ((1 ≤ w ∧ w ≤ 9 ∧ 0 ≤ s ∧ s ≤ 99 ∧ 0 ≤ h ∧ h ≤ 9 ∧ 0 ≤ p ∧ p ≤ 9999) ∧ ¬ (0 ≤ f ∧ f < st ∧ 0 ≤ t ∧ t < st) → r = -2) ∧ ((1 ≤ w ∧ w ≤ 9 ∧ 0 ≤ s ∧ s ≤ 99 ∧ 0 ≤ h ∧ h ≤ 9 ∧ 0 ≤ p ∧ p ≤ 9999) ∧ (0 ≤ f ∧ f < st ∧ 0 ≤ t ∧ t < st) ∧ 8 ≤ ld → r = -5) ∧ ((1 ≤ w ∧ w ≤ 9 ∧ 0 ≤ s ∧ s ≤ 99 ∧ 0 ≤ h ∧ h ≤ 9 ∧ 0 ≤ p ∧ p ≤ 9999) ∧ (0 ≤ f ∧ f < st ∧ 0 ≤ t ∧ t < st) ∧ ld < 8 → r = 0)
theorem WNL.y {st ld w f t s h p r : Int} (k : WNL st ld w f t s h p r) (hr : r = 0) : (1 ≤ w ∧ w ≤ 9 ∧ 0 ≤ s ∧ s ≤ 99 ∧ 0 ≤ h ∧ h ≤ 9 ∧ 0 ≤ p ∧ p ≤ 9999) ∧ (0 ≤ f ∧ f < st ∧ 0 ≤ t ∧ t < st) ∧ ld < 8 := by
  obtain ⟨k1, k2, k3, k4⟩ := k
  by_cases a : 1 ≤ w ∧ w ≤ 9 ∧ 0 ≤ s ∧ s ≤ 99 ∧ 0 ≤ h ∧ h ≤ 9 ∧ 0 ≤ p ∧ p ≤ 9999
  · by_cases b : 0 ≤ f ∧ f < st ∧ 0 ≤ t ∧ t < st
    · by_cases c : ld < 8
      · exact ⟨a, b, c⟩
      · have z := k3 ⟨a, b, by omega⟩; omega
    · have z := k2 ⟨a, b⟩; omega
  · have z := k1 a; omega
theorem WNL.n {st ld w f t s h p r : Int} (k : WNL st ld w f t s h p r) (hr : r ≠ 0) : ¬ ((1 ≤ w ∧ w ≤ 9 ∧ 0 ≤ s ∧ s ≤ 99 ∧ 0 ≤ h ∧ h ≤ 9 ∧ 0 ≤ p ∧ p ≤ 9999) ∧ (0 ≤ f ∧ f < st ∧ 0 ≤ t ∧ t < st) ∧ ld < 8) := fun c => hr (k.2.2.2 c)
theorem WNL.cs {st ld w f t s h p r : Int} (k : WNL st ld w f t s h p r) (hr : r ≠ 0) : (¬ (1 ≤ w ∧ w ≤ 9 ∧ 0 ≤ s ∧ s ≤ 99 ∧ 0 ≤ h ∧ h ≤ 9 ∧ 0 ≤ p ∧ p ≤ 9999) ∧ r = -1) ∨ ((1 ≤ w ∧ w ≤ 9 ∧ 0 ≤ s ∧ s ≤ 99 ∧ 0 ≤ h ∧ h ≤ 9 ∧ 0 ≤ p ∧ p ≤ 9999) ∧ ¬ (0 ≤ f ∧ f < st ∧ 0 ≤ t ∧ t < st) ∧ r = -2) ∨ ((1 ≤ w ∧ w ≤ 9 ∧ 0 ≤ s ∧ s ≤ 99 ∧ 0 ≤ h ∧ h ≤ 9 ∧ 0 ≤ p ∧ p ≤ 9999) ∧ (0 ≤ f ∧ f < st ∧ 0 ≤ t ∧ t < st) ∧ 8 ≤ ld ∧ r = -5) := by
  obtain ⟨k1, k2, k3, k4⟩ := k
  by_cases a : 1 ≤ w ∧ w ≤ 9 ∧ 0 ≤ s ∧ s ≤ 99 ∧ 0 ≤ h ∧ h ≤ 9 ∧ 0 ≤ p ∧ p ≤ 9999
  · by_cases b : 0 ≤ f ∧ f < st ∧ 0 ≤ t ∧ t < st
    · by_cases c : ld < 8
      · exact absurd (k4 ⟨a, b, c⟩) hr
      · exact Or.inr (Or.inr ⟨a, b, Int.not_lt.mp c, k3 ⟨a, b, Int.not_lt.mp c⟩⟩)
    · exact Or.inr (Or.inl ⟨a, b, k2 ⟨a, b⟩⟩)
  · exact Or.inl ⟨a, k1 a⟩
theorem ite_ap {p q : Prop} [Decidable p] [Decidable q] {a b : Int} (h : p) : (if p ∧ q then a else b) = if q then a else b := by
  by_cases k : q
  · rw [if_pos ⟨h, k⟩, if_pos k]
  · rw [if_neg (fun z => k z.2), if_neg k]
theorem ite_an {p q : Prop} [Decidable p] [Decidable q] {a b : Int} (h : ¬ p) : (if p ∧ q then a else b) = b := if_neg (fun z => h z.1)
/-- what a load's fact is -/
def ABX (g : List en_E) (l k r : Int) : Prop := (0 ≤ l ∧ l < (gI g 1 4).toInt ∧ 0 ≤ k ∧ k < 6 → r = (eA g 5 (6 * l + k)).toInt) ∧ (¬ (0 ≤ l ∧ l < (gI g 1 4).toInt ∧ 0 ≤ k ∧ k < 6) → r = -1)
theorem ABX.mk {g : List en_E} {l k r : Int} (a : 0 ≤ l ∧ l < (gI g 1 4).toInt ∧ 0 ≤ k ∧ k < 6 → r = (eA g 5 (6 * l + k)).toInt) (b : ¬ (0 ≤ l ∧ l < (gI g 1 4).toInt ∧ 0 ≤ k ∧ k < 6) → r = -1) : ABX g l k r := ⟨a, b⟩
/-! ===== ways ===== -/
def WAYF (N : Int → Int) (B f w r : Int) : Prop := (∃ k, 0 ≤ k ∧ k ≤ B ∧ itI N k f = w ∧ (∀ j, 0 ≤ j → j < k → itI N j f ≠ w) ∧ r = k) ∨ ((∀ j, 0 ≤ j → j ≤ B → itI N j f ≠ w) ∧ r = -1)
theorem WAYF.a {N : Int → Int} {B f w r : Int} (k : Int) (h0 : 0 ≤ k) (hB : k ≤ B) (e : itI N k f = w) (m : ∀ j : Int, 0 ≤ j → j < k → itI N j f ≠ w) (hr : r = k) : WAYF N B f w r := Or.inl ⟨k, h0, hB, e, m, hr⟩
theorem WAYF.n {N : Int → Int} {B f w r h : Int} (h1 : N (-1) = -1) (hw : w ≠ -1) (m : ∀ j : Int, 0 ≤ j → j < h → itI N j f ≠ w) (e : itI N h f = -1 ∨ B < h) (hr : r = -1) : WAYF N B f w r := by
  refine Or.inr ⟨fun j h0 hj => ?_, hr⟩
  by_cases c : j < h
  · exact m j h0 c
  · rcases e with e | e
    · rw [itI_e h1 e (by omega)]; exact fun q => hw q.symm
    · exact absurd e (by omega)
theorem WAYF.step {N : Int → Int} {f w h h' : Int} (m : ∀ j : Int, 0 ≤ j → j < h → itI N j f ≠ w) (e : itI N h f ≠ w) (e' : h' = h + 1) : ∀ j : Int, 0 ≤ j → j < h' → itI N j f ≠ w := fun j h0 hj => by
  by_cases c : j = h
  · rw [c]; exact e
  · exact m j h0 (by omega)
theorem itv_ph2 {N : Int → Int} (h1 : N (-1) = -1) (hN : ∀ s, N s = -1 ∨ (0 ≤ N s ∧ N s < 12)) {s : Int} (hs : s = -1 ∨ (0 ≤ s ∧ s < 12)) {k : Nat} (hk : 12 ≤ k) (hv : itv N k s ≠ -1) : ∃ i j, i < j ∧ j ≤ 12 ∧ itv N i s = itv N j s := by
  obtain ⟨i, j, h2, h3, h4⟩ := ph_12 12 (fun i => (itv N i s).toNat) (fun i hi => by
    have a := itI_m hN i hs
    have b := itv_live h1 (show i ≤ k by omega) hv
    omega)
  have a := itI_m hN i hs
  have b := itv_live h1 (show i ≤ k by omega) hv
  have c := itI_m hN j hs
  have d := itv_live h1 (show j ≤ k by omega) hv
  exact ⟨i, j, h2, h3, by omega⟩
theorem WAYF.first {N : Int → Int} (h1 : N (-1) = -1) (hN : ∀ s, N s = -1 ∨ (0 ≤ N s ∧ N s < 12)) {f w k : Int} (hf : f = -1 ∨ (0 ≤ f ∧ f < 12)) (hw : w ≠ -1) (hk : 0 ≤ k) (e : itI N k f = w) (m : ∀ j, 0 ≤ j → j < k → itI N j f ≠ w) : k ≤ 11 := by
  apply Decidable.byContradiction
  intro hc
  obtain ⟨i, j, a, b, c⟩ := itv_ph2 h1 hN hf (show 12 ≤ k.toNat by omega) (by show itI N k f ≠ -1; rw [e]; exact hw)
  have p := itv_per a c (k.toNat - (j - i)) (by omega)
  rw [show k.toNat - (j - i) + (j - i) = k.toNat by omega] at p
  refine m ((k.toNat - (j - i) : Nat) : Int) (by omega) (by omega) ?_
  show itv N ((k.toNat - (j - i) : Nat) : Int).toNat f = w
  rw [show ((k.toNat - (j - i) : Nat) : Int).toNat = k.toNat - (j - i) by omega, ← p]
  exact e
theorem WAYF.same {N : Int → Int} (h1 : N (-1) = -1) (hN : ∀ s, N s = -1 ∨ (0 ≤ N s ∧ N s < 12)) {B B' f w r r' : Int} (hB : 11 ≤ B) (hB' : 11 ≤ B') (hf : f = -1 ∨ (0 ≤ f ∧ f < 12)) (hw : w ≠ -1) (a : WAYF N B f w r) (b : WAYF N B' f w r') : r = r' := by
  rcases a with ⟨k, a1, a2, a3, a4, a5⟩ | ⟨a1, a2⟩ <;> rcases b with ⟨j, b1, b2, b3, b4, b5⟩ | ⟨b1, b2⟩
  · rcases Int.lt_trichotomy k j with h | h | h
    · exact absurd a3 (b4 k a1 h)
    · rw [a5, b5, h]
    · exact absurd b3 (a4 j b1 h)
  · exact absurd a3 (b1 k a1 (by have := WAYF.first h1 hN hf hw a1 a3 a4; omega))
  · exact absurd b3 (a1 j b1 (by have := WAYF.first h1 hN hf hw b1 b3 b4; omega))
  · rw [a2, b2]
def WAYA (N : Int → Int) (B f w i r : Int) : Prop := ∃ n, WAYF N B f w n ∧ (i = -1 → r = n) ∧ (i ≠ -1 ∧ 0 ≤ i ∧ i ≤ n → r = itI N i f) ∧ (i ≠ -1 ∧ ¬ (0 ≤ i ∧ i ≤ n) → r = -1)
theorem WAYA.mk {N : Int → Int} {B f w i r : Int} (n : Int) (a : WAYF N B f w n) (b : i = -1 → r = n) (c : i ≠ -1 ∧ 0 ≤ i ∧ i ≤ n → r = itI N i f) (d : i ≠ -1 ∧ ¬ (0 ≤ i ∧ i ≤ n) → r = -1) : WAYA N B f w i r := ⟨n, a, b, c, d⟩
theorem WAYA.same {N : Int → Int} (h1 : N (-1) = -1) (hN : ∀ s, N s = -1 ∨ (0 ≤ N s ∧ N s < 12)) {B B' f w i r r' : Int} (hB : 11 ≤ B) (hB' : 11 ≤ B') (hf : f = -1 ∨ (0 ≤ f ∧ f < 12)) (hw : w ≠ -1) (a : WAYA N B f w i r) (b : WAYA N B' f w i r') : r = r' := by
  obtain ⟨n, a1, a2, a3, a4⟩ := a
  obtain ⟨m, b1, b2, b3, b4⟩ := b
  have e := WAYF.same h1 hN hB hB' hf hw a1 b1
  subst e
  by_cases c : i = -1
  · rw [a2 c, b2 c]
  · by_cases d : 0 ≤ i ∧ i ≤ n
    · rw [a3 ⟨c, d⟩, b3 ⟨c, d⟩]
    · rw [a4 ⟨c, d⟩, b4 ⟨c, d⟩]
theorem WAYF.q {g : List en_E} {B f w r : Int} (hf : f = -1 ∨ (0 ≤ f ∧ f < (eA g 233 0).toInt)) (a : WAYF (NMq g) B f w r) : WAYF (NM g) B f w r := by
  unfold WAYF at *
  simp only [NMq.eqI hf] at a
  exact a
/-- how many hands a load has to go, of the class -/
def WAYX (g : List en_E) (l r : Int) : Prop := 0 ≤ l ∧ l < (gI g 1 4).toInt → (eA g 5 (6 * l + 2)).toInt ≠ -1 → WAYF (NX g) 11 (eA g 5 (6 * l + 1)).toInt (eA g 5 (6 * l + 2)).toInt r
theorem WAYX.mk {g : List en_E} {l r f w : Int} (a : ABX g l 1 f) (b : ABX g l 2 w) (k : w ≠ -1 → WAYF (NX g) 11 f w r) : WAYX g l r := fun h hw => by
  have e1 := a.1 ⟨h.1, h.2, by decide, by decide⟩
  have e2 := b.1 ⟨h.1, h.2, by decide, by decide⟩
  rw [← e2] at hw
  rw [← e1, ← e2]
  exact k hw
theorem ABX.c {g g' : List en_E} {l k r : Int} (h5 : gA g' 5 = gA g 5) (h4 : gI g' 1 4 = gI g 1 4) (a : ABX g' l k r) : ABX g l k r := by
  unfold ABX at *
  rw [h4, eA_ti h5] at a
  exact a
theorem WAYF.cg {g g' : List en_E} (h : gA g' 233 = gA g 233) {a b B r : Int} (k : (eA g' 233 b).toInt ≠ -1 → WAYF (NMq g') B (eA g' 233 a).toInt (eA g' 233 b).toInt r) : (eA g 233 b).toInt ≠ -1 → WAYF (NMq g) B (eA g 233 a).toInt (eA g 233 b).toInt r := by
  have e : NMq g' = NMq g := funext (fun s => by unfold NMq; rw [NMo.c h])
  rw [e, eA_ti h, eA_ti h] at k
  exact k
theorem itI.cg {G g g' : List en_E} (h : gA g' 233 = gA g 233) {a r : Int} (k : ∀ j : Int, 0 ≤ j → j ≤ r → (eA G 249 j).toInt = itI (NMq g') j (eA g' 233 a).toInt) : ∀ j : Int, 0 ≤ j → j ≤ r → (eA G 249 j).toInt = itI (NMq g) j (eA g 233 a).toInt := by
  have e : NMq g' = NMq g := funext (fun s => by unfold NMq; rw [NMo.c h])
  rw [e, eA_ti h] at k
  exact k
theorem WAYA.q {g : List en_E} {B f w i r : Int} (hf : f = -1 ∨ (0 ≤ f ∧ f < (eA g 233 0).toInt)) (a : WAYA (NMq g) B f w i r) : WAYA (NM g) B f w i r := by
  obtain ⟨n, a1, a2, a3, a4⟩ := a
  exact ⟨n, WAYF.q hf a1, a2, fun c => by rw [← NMq.eqI hf]; exact a3 c, a4⟩
theorem WAYA.c {N N' : Int → Int} (h : ∀ s, N s = N' s) {B f w i r : Int} (a : WAYA N B f w i r) : WAYA N' B f w i r := by
  have e : N = N' := funext h
  rw [← e]
  exact a
/-! ===== a load in pieces ===== -/
def SX (g : List en_E) (s : Int) : Int := (eA g 3 s).toInt
def SM (g : List en_E) (s : Int) : Int := (eA g 233 (10 + 3 * s + 1)).toInt
def lsv (N S : Int → Int) (f : Int) : Nat → Int
  | 0 => 9
  | k + 1 => if S (itv N k f) < lsv N S f k then S (itv N k f) else lsv N S f k
/-- the least strength of the first k stands of a way -/
def LSI (N S : Int → Int) (k f : Int) : Int := lsv N S f k.toNat
theorem LSI.z (N S : Int → Int) (f : Int) {k : Int} (h : k ≤ 0) : 9 = LSI N S k f := by
  unfold LSI
  rw [show k.toNat = 0 by omega]
  rfl
theorem LSI.step {N S : Int → Int} {f k k' a b x : Int} (h0 : 0 ≤ k) (e : k' = k + 1) (ha : a = LSI N S k f) (hx : S (itI N k f) = x) (hb : b ≤ a ∧ b ≤ x ∧ (b = a ∨ b = x)) : b = LSI N S k' f := by
  subst e
  unfold LSI at *
  unfold itI at hx
  rw [show (k + 1).toNat = k.toNat + 1 by omega]
  show b = if S (itv N k.toNat f) < lsv N S f k.toNat then S (itv N k.toNat f) else lsv N S f k.toNat
  rw [hx, ← ha]
  split <;> omega
theorem lsv.c {N S S' : Int → Int} {f : Int} : ∀ (k : Nat), (∀ j : Nat, j < k → S (itv N j f) = S' (itv N j f)) → lsv N S f k = lsv N S' f k
  | 0, h => rfl
  | k + 1, h => by
    show (if S (itv N k f) < lsv N S f k then S (itv N k f) else lsv N S f k) = (if S' (itv N k f) < lsv N S' f k then S' (itv N k f) else lsv N S' f k)
    rw [lsv.c k (fun j hj => h j (by omega)), h k (by omega)]
theorem WAYF.stand {g : List en_E} {B f w n i s : Int} (a : WAYF (NX g) B f w n) (hw : w ≠ -1) (h0 : 0 ≤ i) (hi : i < n) (e : s = itI (NX g) i f) : 0 ≤ s ∧ s < (gI g 1 0).toInt := by
  apply Decidable.byContradiction
  intro c
  have z := NX.no (g := g) (s := s) (fun k => c k.1)
  have z1 := itI_s (NX g) h0 f
  rw [← e, ← z] at z1
  have z2 := itI_e (NX.e g) (k := n) z1 (by omega)
  rcases a with ⟨k, a1, a2, a3, a4, a5⟩ | ⟨a1, a2⟩
  · rw [a5, a3] at z2
    exact hw z2
  · omega
def PCE (N S : Int → Int) (B f w W : Int) (r : Int32) : Prop := ∃ n l : Int32, WAYF N B f w n.toInt ∧ (1 ≤ n.toInt → l.toInt = LSI N S n.toInt f) ∧ (n.toInt < 1 ∨ l.toInt < 1 → r = n) ∧ (1 ≤ n.toInt → 1 ≤ l.toInt → ∃ t : Int32, t.toInt = W ∧ r = n + (t + l - 1) / l - 1)
theorem PCE.few {N S : Int → Int} {B f w W : Int} {r : Int32} (n : Int32) (a : WAYF N B f w n.toInt) (h : n.toInt < 1) (e : r.toInt = n.toInt) : PCE N S B f w W r := ⟨n, 0, a, fun k => absurd k (by omega), fun _ => Int32.toInt_inj.mp e, fun k => absurd k (by omega)⟩
theorem PCE.low {N S : Int → Int} {B f w W : Int} {r : Int32} (n l : Int32) (a : WAYF N B f w n.toInt) (hl : l.toInt = LSI N S n.toInt f) (h : l.toInt < 1) (e : r.toInt = n.toInt) : PCE N S B f w W r := ⟨n, l, a, fun _ => hl, fun _ => Int32.toInt_inj.mp e, fun _ k => absurd k (by omega)⟩
theorem PCE.mk {N S : Int → Int} {B f w W : Int} {r : Int32} (n l t : Int32) (a : WAYF N B f w n.toInt) (hl : l.toInt = LSI N S n.toInt f) (h1 : 1 ≤ n.toInt) (h2 : 1 ≤ l.toInt) (ht : t.toInt = W) (e : r = n + (t + l - 1) / l - 1) : PCE N S B f w W r := ⟨n, l, a, fun _ => hl, fun k => absurd k (by omega), fun _ _ => ⟨t, ht, e⟩⟩
theorem PCE.q {g : List en_E} {S : Int → Int} {B f w W : Int} {r : Int32} (hf : f = -1 ∨ (0 ≤ f ∧ f < (eA g 233 0).toInt)) (a : PCE (NMq g) S B f w W r) : PCE (NM g) S B f w W r := by
  obtain ⟨n, l, a1, a2, a3, a4⟩ := a
  refine ⟨n, l, WAYF.q hf a1, fun h => ?_, a3, a4⟩
  rw [a2 h]
  have k : ∀ m : Nat, lsv (NMq g) S f m = lsv (NM g) S f m := by
    intro m
    induction m with
    | zero => rfl
    | succ m ih =>
      show (if S (itv (NMq g) m f) < lsv (NMq g) S f m then S (itv (NMq g) m f) else lsv (NMq g) S f m) = (if S (itv (NM g) m f) < lsv (NM g) S f m then S (itv (NM g) m f) else lsv (NM g) S f m)
      rw [ih, NMq.it m hf]
  exact k _
theorem PCE.same {N S S' : Int → Int} (h1 : N (-1) = -1) (hN : ∀ s, N s = -1 ∨ (0 ≤ N s ∧ N s < 12)) (hS : ∀ s, 0 ≤ s → s < 12 → S s = S' s) {B B' f w W : Int} {r r' : Int32} (hB : 11 ≤ B) (hB' : 11 ≤ B') (hf : f = -1 ∨ (0 ≤ f ∧ f < 12)) (hw : w ≠ -1) (a : PCE N S B f w W r) (b : PCE N S' B' f w W r') : r = r' := by
  obtain ⟨n, l, a1, a2, a3, a4⟩ := a
  obtain ⟨m, k, b1, b2, b3, b4⟩ := b
  have e := WAYF.same h1 hN hB hB' hf hw a1 b1
  have e' : n = m := Int32.toInt_inj.mp e
  subst e'
  by_cases c : n.toInt < 1
  · rw [a3 (Or.inl c), b3 (Or.inl c)]
  · have hl : LSI N S n.toInt f = LSI N S' n.toInt f := by
      refine lsv.c _ (fun j hj => ?_)
      rcases itI_m hN j hf with z | z
      · exfalso
        have z2 := itI_e h1 (i := (j : Int)) (k := n.toInt) (s := f) (by unfold itI; rw [show ((j : Int)).toNat = j by omega]; exact z) (by omega)
        rcases a1 with ⟨q, q1, q2, q3, q4, q5⟩ | ⟨q1, q2⟩
        · rw [q5, q3] at z2
          exact hw z2
        · omega
      · exact hS _ z.1 z.2
    have el : l = k := Int32.toInt_inj.mp (by rw [a2 (by omega), b2 (by omega), hl])
    subst el
    by_cases d : l.toInt < 1
    · rw [a3 (Or.inr d), b3 (Or.inr d)]
    · obtain ⟨t, t1, t2⟩ := a4 (by omega) (by omega)
      obtain ⟨u, u1, u2⟩ := b4 (by omega) (by omega)
      have et : t = u := Int32.toInt_inj.mp (t1.trans u1.symm)
      rw [t2, u2, et]
theorem PCE.c {N N' : Int → Int} (h : ∀ s, N s = N' s) {S : Int → Int} {B f w W : Int} {r : Int32} (a : PCE N S B f w W r) : PCE N' S B f w W r := by
  have e : N = N' := funext h
  rw [← e]
  exact a
/-! ===== who comes to a stand without others ===== -/
def hbI (w : Int32) (t : Int) : Prop := ((w >>> (Int32.ofInt t &&& 31)) &&& 1).toInt ≠ 0
theorem and1_01 (v : Int32) : (v &&& 1).toInt = 0 ∨ (v &&& 1).toInt = 1 := by
  have e : (v &&& 1).toBitVec = v.toBitVec &&& 1#32 := rfl
  have k : (v &&& 1 : Int32) = 0 ∨ (v &&& 1 : Int32) = 1 := by
    rcases (show v.toBitVec.getLsbD 0 = true ∨ v.toBitVec.getLsbD 0 = false by cases v.toBitVec.getLsbD 0 <;> simp) with h | h
    · refine Or.inr (Int32.toBitVec_inj.mp ?_)
      rw [e]
      apply BitVec.eq_of_getLsbD_eq
      intro i hi
      rw [BitVec.getLsbD_and]
      by_cases c : i = 0
      · subst c; rw [h]; rfl
      · have z : (1#32).getLsbD i = false := by
          have k : ∀ j : Fin 32, j.val ≠ 0 → (1#32).getLsbD j.val = false := by decide
          exact k ⟨i, hi⟩ c
        rw [z, Bool.and_false]
        exact z.symm
    · refine Or.inl (Int32.toBitVec_inj.mp ?_)
      rw [e]
      apply BitVec.eq_of_getLsbD_eq
      intro i hi
      rw [BitVec.getLsbD_and]
      by_cases c : i = 0
      · subst c; rw [h]; rfl
      · have z : (1#32).getLsbD i = false := by
          have k : ∀ j : Fin 32, j.val ≠ 0 → (1#32).getLsbD j.val = false := by decide
          exact k ⟨i, hi⟩ c
        rw [z, Bool.and_false]
        have k0 : ∀ j : Fin 32, (Int32.toBitVec 0).getLsbD j.val = false := by decide +kernel
        exact (k0 ⟨i, hi⟩).symm
  rcases k with k | k
  · exact Or.inl (by rw [k]; rfl)
  · exact Or.inr (by rw [k]; rfl)
theorem hbI.mk {w t v u : Int32} (hv : v = w >>> (t &&& 31)) (hu : u = v &&& 1) : (u.toInt ≠ 0 ↔ hbI w t.toInt) ∧ (u.toInt = 1 ↔ hbI w t.toInt) := by
  unfold hbI
  rw [Int32.ofInt_toInt, ← hv, ← hu]
  have z := and1_01 v
  rw [← hu] at z
  exact ⟨Iff.rfl, by omega⟩
def RCH (N : Int → Int) (hb : Int → Prop) (w : Int) : Nat → Int → Prop
  | 0, t => t = w ∧ ¬ hb t
  | k + 1, t => t ≠ -1 ∧ ¬ hb t ∧ (t = w ∨ RCH N hb w k (N t))
/-- within m hands (none below 0) -/
def RCI (N : Int → Int) (hb : Int → Prop) (w m t : Int) : Prop := 0 ≤ m ∧ RCH N hb w m.toNat t
theorem RCI.neg {N : Int → Int} {hb : Int → Prop} {w m t : Int} (h : m < 0) : ¬ RCI N hb w m t := fun k => absurd k.1 (by omega)
theorem RCI.none {N : Int → Int} {hb : Int → Prop} {w m : Int} (hw : 0 ≤ w) : ¬ RCI N hb w m (-1) := fun k => by
  obtain ⟨k0, k1⟩ := k
  cases h : m.toNat with
  | zero => rw [h] at k1; have z := k1.1; omega
  | succ n => rw [h] at k1; exact k1.1 rfl
theorem RCI.hb {N : Int → Int} {hb : Int → Prop} {w m t : Int} (h : hb t) : ¬ RCI N hb w m t := fun k => by
  obtain ⟨k0, k1⟩ := k
  cases e : m.toNat with
  | zero => rw [e] at k1; exact k1.2 h
  | succ n => rw [e] at k1; exact k1.2.1 h
theorem RCI.want {N : Int → Int} {hb : Int → Prop} {w m t : Int} (hw : 0 ≤ w) (hm : 0 ≤ m) (e : t = w) : RCI N hb w m t ↔ ¬ hb t := by
  constructor
  · exact fun k q => RCI.hb q k
  · intro q
    refine ⟨hm, ?_⟩
    cases h : m.toNat with
    | zero => exact ⟨e, q⟩
    | succ n => exact ⟨by omega, q, Or.inl e⟩
theorem RCI.step {N : Int → Int} {hb : Int → Prop} {w m m' t : Int} (hm : 0 ≤ m) (h1 : t ≠ -1) (h2 : ¬ hb t) (h3 : t ≠ w) (e : m' = m - 1) : RCI N hb w m t ↔ RCI N hb w m' (N t) := by
  subst e
  by_cases c : m = 0
  · subst c
    exact ⟨fun k => absurd k.2.1 h3, fun k => absurd k.1 (by decide)⟩
  · have f : m.toNat = (m - 1).toNat + 1 := by omega
    constructor
    · intro k
      refine ⟨by omega, ?_⟩
      have z := k.2
      rw [f] at z
      exact z.2.2.resolve_left h3
    · intro k
      refine ⟨hm, ?_⟩
      rw [f]
      exact ⟨h1, h2, Or.inr k.2⟩
theorem RCI.z {N : Int → Int} {hb : Int → Prop} {w t : Int} : RCI N hb w 0 t ↔ (t = w ∧ ¬ hb t) := ⟨fun k => k.2, fun k => ⟨by decide, k⟩⟩
theorem RCH.q {g : List en_E} {hb : Int → Prop} {w : Int} : ∀ (k : Nat) {s : Int}, (s = -1 ∨ (0 ≤ s ∧ s < (eA g 233 0).toInt)) → (RCH (NMq g) hb w k s ↔ RCH (NM g) hb w k s)
  | 0, s, h => Iff.rfl
  | k + 1, s, h => by
    have ih := RCH.q (hb := hb) (w := w) k (NM.rg g s)
    show (s ≠ -1 ∧ ¬ hb s ∧ (s = w ∨ RCH (NMq g) hb w k (NMq g s))) ↔ (s ≠ -1 ∧ ¬ hb s ∧ (s = w ∨ RCH (NM g) hb w k (NM g s)))
    rw [NMq.st h, ih]
/-- bits of n things alone -/
def BIT (b : Int32) (n : Int) : Prop := 0 ≤ b.toInt ∧ b.toInt < 2 ^ n.toNat
theorem BIT.r {b v : Int32} {n : Int} (h : v.toInt = 2 ^ n.toNat) : BIT b n ↔ (0 ≤ b.toInt ∧ b.toInt < v.toInt) := by unfold BIT; rw [h]
theorem lit12 {s : Int32} (h : 0 ≤ s.toInt ∧ s.toInt ≤ 12) : s = 0 ∨ s = 1 ∨ s = 2 ∨ s = 3 ∨ s = 4 ∨ s = 5 ∨ s = 6 ∨ s = 7 ∨ s = 8 ∨ s = 9 ∨ s = 10 ∨ s = 11 ∨ s = 12 := by
  rcases (show s.toInt = 0 ∨ s.toInt = 1 ∨ s.toInt = 2 ∨ s.toInt = 3 ∨ s.toInt = 4 ∨ s.toInt = 5 ∨ s.toInt = 6 ∨ s.toInt = 7 ∨ s.toInt = 8 ∨ s.toInt = 9 ∨ s.toInt = 10 ∨ s.toInt = 11 ∨ s.toInt = 12 by omega) with e | e | e | e | e | e | e | e | e | e | e | e | e
  · exact Or.inl (Int32.toInt_inj.mp e)
  · exact Or.inr (Or.inl (Int32.toInt_inj.mp e))
  · exact Or.inr (Or.inr (Or.inl (Int32.toInt_inj.mp e)))
  · exact Or.inr (Or.inr (Or.inr (Or.inl (Int32.toInt_inj.mp e))))
  · exact Or.inr (Or.inr (Or.inr (Or.inr (Or.inl (Int32.toInt_inj.mp e)))))
  · exact Or.inr (Or.inr (Or.inr (Or.inr (Or.inr (Or.inl (Int32.toInt_inj.mp e))))))
  · exact Or.inr (Or.inr (Or.inr (Or.inr (Or.inr (Or.inr (Or.inl (Int32.toInt_inj.mp e)))))))
  · exact Or.inr (Or.inr (Or.inr (Or.inr (Or.inr (Or.inr (Or.inr (Or.inl (Int32.toInt_inj.mp e))))))))
  · exact Or.inr (Or.inr (Or.inr (Or.inr (Or.inr (Or.inr (Or.inr (Or.inr (Or.inl (Int32.toInt_inj.mp e)))))))))
  · exact Or.inr (Or.inr (Or.inr (Or.inr (Or.inr (Or.inr (Or.inr (Or.inr (Or.inr (Or.inl (Int32.toInt_inj.mp e))))))))))
  · exact Or.inr (Or.inr (Or.inr (Or.inr (Or.inr (Or.inr (Or.inr (Or.inr (Or.inr (Or.inr (Or.inl (Int32.toInt_inj.mp e)))))))))))
  · exact Or.inr (Or.inr (Or.inr (Or.inr (Or.inr (Or.inr (Or.inr (Or.inr (Or.inr (Or.inr (Or.inr (Or.inl (Int32.toInt_inj.mp e))))))))))))
  · exact Or.inr (Or.inr (Or.inr (Or.inr (Or.inr (Or.inr (Or.inr (Or.inr (Or.inr (Or.inr (Or.inr (Or.inr (Int32.toInt_inj.mp e))))))))))))
theorem BIT.m {s v : Int32} (hv : v = (1 : Int32) <<< (s &&& 31)) (hs : 0 ≤ s.toInt ∧ s.toInt ≤ 12) : v.toInt = 2 ^ s.toInt.toNat := by
  subst hv
  rcases lit12 hs with e | e | e | e | e | e | e | e | e | e | e | e | e <;> subst e <;> decide +kernel
theorem BIT.x {b s v : Int32} (hv : v = b >>> (s &&& 31)) (hs : 0 ≤ s.toInt ∧ s.toInt ≤ 12) (hb : 0 ≤ b.toInt) : v.toInt = 0 ↔ BIT b s.toInt := by
  have k : ∀ n : Nat, n ≤ 12 → v.toBitVec = b.toBitVec.sshiftRight n → s.toInt.toNat = n → (v.toInt = 0 ↔ BIT b s.toInt) := by
    intro n hn e1 e2
    have e3 : v.toInt = b.toInt / 2 ^ n := by
      show v.toBitVec.toInt = b.toBitVec.toInt / 2 ^ n
      rw [e1, BitVec.toInt_sshiftRight, Int.shiftRight_eq_div_pow]
      rfl
    unfold BIT
    rw [e2, e3]
    have p : (0 : Int) < 2 ^ n := Int.pow_pos (by decide)
    constructor
    · intro z
      refine ⟨hb, ?_⟩
      have q := Int.lt_ediv_add_one_mul_self b.toInt p
      rw [z] at q
      omega
    · intro z
      exact Int.ediv_eq_zero_of_lt hb z.2
  subst hv
  rcases lit12 hs with e | e | e | e | e | e | e | e | e | e | e | e | e <;> subst e
  · exact k 0 (by decide) rfl (by decide +kernel)
  · exact k 1 (by decide) rfl (by decide +kernel)
  · exact k 2 (by decide) rfl (by decide +kernel)
  · exact k 3 (by decide) rfl (by decide +kernel)
  · exact k 4 (by decide) rfl (by decide +kernel)
  · exact k 5 (by decide) rfl (by decide +kernel)
  · exact k 6 (by decide) rfl (by decide +kernel)
  · exact k 7 (by decide) rfl (by decide +kernel)
  · exact k 8 (by decide) rfl (by decide +kernel)
  · exact k 9 (by decide) rfl (by decide +kernel)
  · exact k 10 (by decide) rfl (by decide +kernel)
  · exact k 11 (by decide) rfl (by decide +kernel)
  · exact k 12 (by decide) rfl (by decide +kernel)
/-- twenty bytes more, in five pieces -/
theorem FEED5 {L L2 L3 L4 L5 : Int} {a1 a2 a3 a4 a5 : Int32} {E0 F0 F1 F2 F3 F4 F5 : Int → Int} (hL : L ≤ 380) (e2 : L2 = L + 4) (e3 : L3 = L + 8) (e4 : L4 = L + 12) (e5 : L5 = L + 16) (h1 : ∀ i : Int, 0 ≤ i → i < 400 → F1 i = if L ≤ i ∧ i < L + 4 then BYT a1 (i - L) else E0 i) (h2 : ∀ i : Int, 0 ≤ i → i < 400 → F2 i = if L2 ≤ i ∧ i < L2 + 4 then BYT a2 (i - L2) else F1 i) (h3 : ∀ i : Int, 0 ≤ i → i < 400 → F3 i = if L3 ≤ i ∧ i < L3 + 4 then BYT a3 (i - L3) else F2 i) (h4 : ∀ i : Int, 0 ≤ i → i < 400 → F4 i = if L4 ≤ i ∧ i < L4 + 4 then BYT a4 (i - L4) else F3 i) (h5 : ∀ i : Int, 0 ≤ i → i < 400 → F5 i = if L5 ≤ i ∧ i < L5 + 4 then BYT a5 (i - L5) else F4 i) (h0 : ∀ i : Int, E0 i = F0 i) (i : Int) (i0 : 0 ≤ i) (i1 : i < 400) : F5 i = if L ≤ 380 ∧ L + 0 ≤ i ∧ i < L + 4 then BYT a1 (i - L - 0) else if L ≤ 380 ∧ L + 4 ≤ i ∧ i < L + 8 then BYT a2 (i - L - 4) else if L ≤ 380 ∧ L + 8 ≤ i ∧ i < L + 12 then BYT a3 (i - L - 8) else if L ≤ 380 ∧ L + 12 ≤ i ∧ i < L + 16 then BYT a4 (i - L - 12) else if L ≤ 380 ∧ L + 16 ≤ i ∧ i < L + 20 then BYT a5 (i - L - 16) else F0 i := by
  subst e2 e3 e4 e5
  rw [h5 i i0 i1, h4 i i0 i1, h3 i i0 i1, h2 i i0 i1, h1 i i0 i1, h0 i]
  rcases (show i < L ∨ (L ≤ i ∧ i < L + 4) ∨ (L + 4 ≤ i ∧ i < L + 8) ∨ (L + 8 ≤ i ∧ i < L + 12) ∨ (L + 12 ≤ i ∧ i < L + 16) ∨ (L + 16 ≤ i ∧ i < L + 20) ∨ L + 20 ≤ i by omega) with k | k | k | k | k | k | k
  · rw [if_neg (show ¬ (L + 16 ≤ i ∧ i < L + 16 + 4) from fun z => by omega), if_neg (show ¬ (L + 12 ≤ i ∧ i < L + 12 + 4) from fun z => by omega), if_neg (show ¬ (L + 8 ≤ i ∧ i < L + 8 + 4) from fun z => by omega), if_neg (show ¬ (L + 4 ≤ i ∧ i < L + 4 + 4) from fun z => by omega), if_neg (show ¬ (L ≤ i ∧ i < L + 4) from fun z => by omega), if_neg (show ¬ (L ≤ 380 ∧ L + 0 ≤ i ∧ i < L + 4) from fun z => by omega), if_neg (show ¬ (L ≤ 380 ∧ L + 4 ≤ i ∧ i < L + 8) from fun z => by omega), if_neg (show ¬ (L ≤ 380 ∧ L + 8 ≤ i ∧ i < L + 12) from fun z => by omega), if_neg (show ¬ (L ≤ 380 ∧ L + 12 ≤ i ∧ i < L + 16) from fun z => by omega), if_neg (show ¬ (L ≤ 380 ∧ L + 16 ≤ i ∧ i < L + 20) from fun z => by omega)]
  · rw [if_neg (show ¬ (L + 16 ≤ i ∧ i < L + 16 + 4) from fun z => by omega), if_neg (show ¬ (L + 12 ≤ i ∧ i < L + 12 + 4) from fun z => by omega), if_neg (show ¬ (L + 8 ≤ i ∧ i < L + 8 + 4) from fun z => by omega), if_neg (show ¬ (L + 4 ≤ i ∧ i < L + 4 + 4) from fun z => by omega), if_pos (show L ≤ i ∧ i < L + 4 from ⟨by omega, by omega⟩), if_pos (show L ≤ 380 ∧ L + 0 ≤ i ∧ i < L + 4 from ⟨by omega, by omega, by omega⟩)]
    exact congrArg (BYT _) (by omega)
  · rw [if_neg (show ¬ (L + 16 ≤ i ∧ i < L + 16 + 4) from fun z => by omega), if_neg (show ¬ (L + 12 ≤ i ∧ i < L + 12 + 4) from fun z => by omega), if_neg (show ¬ (L + 8 ≤ i ∧ i < L + 8 + 4) from fun z => by omega), if_pos (show L + 4 ≤ i ∧ i < L + 4 + 4 from ⟨by omega, by omega⟩), if_neg (show ¬ (L ≤ 380 ∧ L + 0 ≤ i ∧ i < L + 4) from fun z => by omega), if_pos (show L ≤ 380 ∧ L + 4 ≤ i ∧ i < L + 8 from ⟨by omega, by omega, by omega⟩)]
    exact congrArg (BYT _) (by omega)
  · rw [if_neg (show ¬ (L + 16 ≤ i ∧ i < L + 16 + 4) from fun z => by omega), if_neg (show ¬ (L + 12 ≤ i ∧ i < L + 12 + 4) from fun z => by omega), if_pos (show L + 8 ≤ i ∧ i < L + 8 + 4 from ⟨by omega, by omega⟩), if_neg (show ¬ (L ≤ 380 ∧ L + 0 ≤ i ∧ i < L + 4) from fun z => by omega), if_neg (show ¬ (L ≤ 380 ∧ L + 4 ≤ i ∧ i < L + 8) from fun z => by omega), if_pos (show L ≤ 380 ∧ L + 8 ≤ i ∧ i < L + 12 from ⟨by omega, by omega, by omega⟩)]
    exact congrArg (BYT _) (by omega)
  · rw [if_neg (show ¬ (L + 16 ≤ i ∧ i < L + 16 + 4) from fun z => by omega), if_pos (show L + 12 ≤ i ∧ i < L + 12 + 4 from ⟨by omega, by omega⟩), if_neg (show ¬ (L ≤ 380 ∧ L + 0 ≤ i ∧ i < L + 4) from fun z => by omega), if_neg (show ¬ (L ≤ 380 ∧ L + 4 ≤ i ∧ i < L + 8) from fun z => by omega), if_neg (show ¬ (L ≤ 380 ∧ L + 8 ≤ i ∧ i < L + 12) from fun z => by omega), if_pos (show L ≤ 380 ∧ L + 12 ≤ i ∧ i < L + 16 from ⟨by omega, by omega, by omega⟩)]
    exact congrArg (BYT _) (by omega)
  · rw [if_pos (show L + 16 ≤ i ∧ i < L + 16 + 4 from ⟨by omega, by omega⟩), if_neg (show ¬ (L ≤ 380 ∧ L + 0 ≤ i ∧ i < L + 4) from fun z => by omega), if_neg (show ¬ (L ≤ 380 ∧ L + 4 ≤ i ∧ i < L + 8) from fun z => by omega), if_neg (show ¬ (L ≤ 380 ∧ L + 8 ≤ i ∧ i < L + 12) from fun z => by omega), if_neg (show ¬ (L ≤ 380 ∧ L + 12 ≤ i ∧ i < L + 16) from fun z => by omega), if_pos (show L ≤ 380 ∧ L + 16 ≤ i ∧ i < L + 20 from ⟨by omega, by omega, by omega⟩)]
    exact congrArg (BYT _) (by omega)
  · rw [if_neg (show ¬ (L + 16 ≤ i ∧ i < L + 16 + 4) from fun z => by omega), if_neg (show ¬ (L + 12 ≤ i ∧ i < L + 12 + 4) from fun z => by omega), if_neg (show ¬ (L + 8 ≤ i ∧ i < L + 8 + 4) from fun z => by omega), if_neg (show ¬ (L + 4 ≤ i ∧ i < L + 4 + 4) from fun z => by omega), if_neg (show ¬ (L ≤ i ∧ i < L + 4) from fun z => by omega), if_neg (show ¬ (L ≤ 380 ∧ L + 0 ≤ i ∧ i < L + 4) from fun z => by omega), if_neg (show ¬ (L ≤ 380 ∧ L + 4 ≤ i ∧ i < L + 8) from fun z => by omega), if_neg (show ¬ (L ≤ 380 ∧ L + 8 ≤ i ∧ i < L + 12) from fun z => by omega), if_neg (show ¬ (L ≤ 380 ∧ L + 12 ≤ i ∧ i < L + 16) from fun z => by omega), if_neg (show ¬ (L ≤ 380 ∧ L + 16 ≤ i ∧ i < L + 20) from fun z => by omega)]
