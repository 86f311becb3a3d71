/-! ===== what the law in force tells, the class ===== -/
/-- the words of a question -/
def WWF (a b c d e f g h i : Int) : Int → Int := fun k => if k = 1 then a else if k = 2 then b else if k = 3 then c else if k = 4 then d else if k = 5 then e else if k = 6 then f else if k = 7 then g else if k = 8 then h else if k = 9 then i else 0
theorem WRX_mk {gg : List en_E} {a b c d e f g h i : Int} (h0 : (eK gg 186 0).toInt = a) (h1 : (eK gg 186 1).toInt = b) (h2 : (eK gg 186 2).toInt = c) (h3 : (eK gg 186 3).toInt = d) (h4 : (eK gg 186 4).toInt = e) (h5 : (eK gg 186 5).toInt = f) (h6 : (eK gg 186 6).toInt = g) (h7 : (eK gg 186 7).toInt = h) (h8 : (eK gg 186 8).toInt = i) : WRX gg = WWF a b c d e f g h i := by
  funext k
  unfold WRX WWF
  by_cases c0 : 1 ≤ k ∧ k ≤ 9
  · rw [if_pos c0]
    rcases (show k = 1 ∨ k = 2 ∨ k = 3 ∨ k = 4 ∨ k = 5 ∨ k = 6 ∨ k = 7 ∨ k = 8 ∨ k = 9 by omega) with z | z | z | z | z | z | z | z | z
    · rw [show k - 1 = 0 by omega, h0, if_pos z]
    · rw [show k - 1 = 1 by omega, h1, if_neg (show ¬ k = 1 by omega), if_pos z]
    · rw [show k - 1 = 2 by omega, h2, if_neg (show ¬ k = 1 by omega), if_neg (show ¬ k = 2 by omega), if_pos z]
    · rw [show k - 1 = 3 by omega, h3, if_neg (show ¬ k = 1 by omega), if_neg (show ¬ k = 2 by omega), if_neg (show ¬ k = 3 by omega), if_pos z]
    · rw [show k - 1 = 4 by omega, h4, if_neg (show ¬ k = 1 by omega), if_neg (show ¬ k = 2 by omega), if_neg (show ¬ k = 3 by omega), if_neg (show ¬ k = 4 by omega), if_pos z]
    · rw [show k - 1 = 5 by omega, h5, if_neg (show ¬ k = 1 by omega), if_neg (show ¬ k = 2 by omega), if_neg (show ¬ k = 3 by omega), if_neg (show ¬ k = 4 by omega), if_neg (show ¬ k = 5 by omega), if_pos z]
    · rw [show k - 1 = 6 by omega, h6, if_neg (show ¬ k = 1 by omega), if_neg (show ¬ k = 2 by omega), if_neg (show ¬ k = 3 by omega), if_neg (show ¬ k = 4 by omega), if_neg (show ¬ k = 5 by omega), if_neg (show ¬ k = 6 by omega), if_pos z]
    · rw [show k - 1 = 7 by omega, h7, if_neg (show ¬ k = 1 by omega), if_neg (show ¬ k = 2 by omega), if_neg (show ¬ k = 3 by omega), if_neg (show ¬ k = 4 by omega), if_neg (show ¬ k = 5 by omega), if_neg (show ¬ k = 6 by omega), if_neg (show ¬ k = 7 by omega), if_pos z]
    · rw [show k - 1 = 8 by omega, h8, if_neg (show ¬ k = 1 by omega), if_neg (show ¬ k = 2 by omega), if_neg (show ¬ k = 3 by omega), if_neg (show ¬ k = 4 by omega), if_neg (show ¬ k = 5 by omega), if_neg (show ¬ k = 6 by omega), if_neg (show ¬ k = 7 by omega), if_neg (show ¬ k = 8 by omega), if_pos z]
  · rw [if_neg c0, if_neg (show ¬ k = 1 by omega), if_neg (show ¬ k = 2 by omega), if_neg (show ¬ k = 3 by omega), if_neg (show ¬ k = 4 by omega), if_neg (show ¬ k = 5 by omega), if_neg (show ¬ k = 6 by omega), if_neg (show ¬ k = 7 by omega), if_neg (show ¬ k = 8 by omega), if_neg (show ¬ k = 9 by omega)]
/-- a clause of a law, as it is told of with the words W -/
def FQW (g : List en_E) (q : Nat) (W : Int → Int) : EVF := exX W (fun i => (eA g (q + 1) i).toInt) (fun i => (eA g (q + 2) i).toInt)
theorem FQW_e {g g' : List en_E} {q : Nat} {W : Int → Int} (hW : WRX g' = W) (h1 : gA g' (q + 1) = gA g (q + 1)) (h2 : gA g' (q + 2) = gA g (q + 2)) : FQX g' q = FQW g q W := by
  unfold FQX FQW
  rw [hW, show (fun i : Int => (eA g' (q + 1) i).toInt) = fun i => (eA g (q + 1) i).toInt from funext (fun _ => eA_tq h1), show (fun i : Int => (eA g' (q + 2) i).toInt) = fun i => (eA g (q + 2) i).toInt from funext (fun _ => eA_tq h2)]
theorem OQX_c {g g' : List en_E} {q : Nat} (h1 : gA g' (q + 1) = gA g (q + 1)) (h2 : gA g' (q + 2) = gA g (q + 2)) : OQX g' q = OQX g q := by
  funext i
  unfold OQX
  rw [eA_tq h1, eA_tq h2]
def LKW (g : List en_E) (q : Nat) (W : Int → Int) (a b : Int) : Prop := LKR (FQW g q W) (OQX g q) a b ∧ 0 ≤ a ∧ b ≤ 400 ∧ a ≤ b ∧ KOK (fun i => (eA g (q + 1) i).toInt) (fun i => (eA g (q + 2) i).toInt) a b
theorem LKW_x {g g' : List en_E} {q : Nat} {W : Int → Int} {a b : Int} (L : LKW g q W a b) (hW : WRX g' = W) (h1 : gA g' (q + 1) = gA g (q + 1)) (h2 : gA g' (q + 2) = gA g (q + 2)) (hs : ∀ i : Int, 0 ≤ i → i ≤ 8 → SMB (eK g' 186 i)) : LKX g' q a b := by
  refine ⟨?_, L.2.1, L.2.2.1, L.2.2.2.1, ?_, hs⟩
  · rw [FQW_e hW h1 h2, OQX_c h1 h2]
    exact L.1
  · intro i i0 i1
    have z := L.2.2.2.2 i i0 i1
    dsimp only at z ⊢
    rw [eA_tq h1, eA_tq h2]
    exact z
/-- one clause, with a head h -/
def LKC (g : List en_E) (q : Nat) (W : Int → Int) (i : Int) : Prop := LKW g q W (eA g (q + 4) i).toInt (eA g (q + 5) i).toInt ∧ ((eA g (q + 5) i).toInt = (eA g (q + 6) i).toInt ∨ LKW g q W (eA g (q + 5) i).toInt (eA g (q + 6) i).toInt)
def CLW (g : List en_E) (q : Nat) (W : Int → Int) : Int → Option Int := fun i => clO (FQW g q W) (eA g (q + 4) i).toInt (eA g (q + 5) i).toInt (eA g (q + 5) i).toInt (eA g (q + 6) i).toInt
def TLW (g : List en_E) (q : Nat) (W : Int → Int) (n : Nat) (d : Int) : Int := tlV (fun i => (eA g (q + 3) i).toInt) (CLW g q W) 1 n d
/-- what is asked of a law -/
def LKL (g : List en_E) (q : Nat) (W : Int → Int) (n : Int) : Prop := ∀ i : Int, 0 ≤ i → i < n → (eA g (q + 3) i).toInt = 1 → LKC g q W i
def SMW (g : List en_E) : Prop := ∀ i : Int, 0 ≤ i → i ≤ 8 → SMB (eK g 186 i)
theorem SMW_c {g g' : List en_E} (h : SMW g) (e : gK g' 186 = gK g 186) : SMW g' := fun i i0 i1 => by
  rw [eK_c e]
  exact h i i0 i1
theorem WRX_c {g g' : List en_E} (e : gK g' 186 = gK g 186) : WRX g' = WRX g := by
  funext k
  unfold WRX
  rw [eK_c e]
/-- from above: all clauses from k on told nothing -/
def TLI (g0 g : List en_E) (q : Nat) (W : Int → Int) (u n k d : Int) : Prop := WRX g = W ∧ SMW g ∧ (u = 1 → LKL g0 q W n → TLW g0 q W n.toNat d = TLW g0 q W k.toNat d)
section TLIS
variable {g0 g g' g1 : List en_E} {q : Nat} {W : Int → Int} {u n k k2 d : Int}
theorem TLI_z (hW : WRX g = W) (hs : SMW g) (h : k = n) : TLI g0 g q W u n k d := ⟨hW, hs, fun _ _ => by rw [h]⟩
theorem TLI_c (t : TLI g0 g q W u n k d) (e : gK g' 186 = gK g 186) : TLI g0 g' q W u n k d := ⟨(WRX_c e).trans t.1, SMW_c t.2.1 e, t.2.2⟩
theorem TLW_s (h : k = k2 + 1) (h0 : 0 ≤ k2) : TLW g0 q W k.toNat d = if (eA g0 (q + 3) k2).toInt = 1 then (CLW g0 q W k2).getD (TLW g0 q W k2.toNat d) else TLW g0 q W k2.toNat d := by
  have e : k.toNat = k2.toNat + 1 := by omega
  have e2 : ((k2.toNat : Nat) : Int) = k2 := Int.toNat_of_nonneg h0
  unfold TLW
  rw [e, tlV_s, e2]
theorem TLI_skip (t : TLI g0 g q W u n k d) (h : k = k2 + 1) (h0 : 0 ≤ k2) (hh : u = 1 → (eA g0 (q + 3) k2).toInt ≠ 1) : TLI g0 g q W u n k2 d := ⟨t.1, t.2.1, fun h1 L => by
  rw [t.2.2 h1 L, TLW_s h h0, if_neg (hh h1)]⟩
theorem TLI_none (t : TLI g0 g q W u n k d) (h : k = k2 + 1) (h0 : 0 ≤ k2) (hn : k2 < n) (hc : u = 1 → LKC g0 q W k2 → CLW g0 q W k2 = none) : TLI g0 g q W u n k2 d := ⟨t.1, t.2.1, fun h1 L => by
  rw [t.2.2 h1 L, TLW_s h h0]
  by_cases c : (eA g0 (q + 3) k2).toInt = 1
  · rw [if_pos c, hc h1 (L k2 h0 hn c)]
    rfl
  · rw [if_neg c]⟩
theorem TLI_some {v : Int} (t : TLI g0 g q W u n k d) (h : k = k2 + 1) (h0 : 0 ≤ k2) (hn : k2 < n) (h1 : u = 1) (hh : (eA g0 (q + 3) k2).toInt = 1) (hc : LKC g0 q W k2 → CLW g0 q W k2 = some v) (L : LKL g0 q W n) : v = TLW g0 q W n.toNat d := by
  rw [t.2.2 h1 L, TLW_s h h0, if_pos hh, hc (L k2 h0 hn hh)]
  rfl
theorem TLI_end {v : Int} (t : TLI g0 g q W u n k d) (h : k ≤ 0) (h1 : u = 1) (hv : v = d) (L : LKL g0 q W n) : v = TLW g0 q W n.toNat d := by
  rw [t.2.2 h1 L, show k.toNat = 0 by omega]
  exact hv
theorem WRS_e {a b a' b' r : Int} (w : WRS g g1 q a b r) (ea : a' = a) (eb : b' = b) : WRS g g1 q a' b' r := by
  rw [ea, eb]
  exact w
/-- a piece's worth, as it came back -/
theorem WRS_w {a b r : Int} (w : WRS g g1 q a b r) (t : TLI g0 g q W u n k d) (h1 : gA g (q + 1) = gA g0 (q + 1)) (h2 : gA g (q + 2) = gA g0 (q + 2)) (L : LKW g0 q W a b) : evV (FQW g0 q W) b 401 (a, []) = if (gI g1 185 3).toInt = 0 then some r else none := by
  have z := w.2 (LKW_x L t.1 h1 h2 t.2.1)
  rw [FQW_e t.1 h1 h2] at z
  exact z
/-- the TEST: not so -/
theorem CLW_no {r : Int} (ht : (eA g0 (q + 5) k2).toInt ≠ (eA g0 (q + 6) k2).toInt) (w : WRS g g1 q (eA g0 (q + 5) k2).toInt (eA g0 (q + 6) k2).toInt r) (t : TLI g0 g q W u n k d) (h1 : gA g (q + 1) = gA g0 (q + 1)) (h2 : gA g (q + 2) = gA g0 (q + 2)) (hr : (gI g1 185 3).toInt ≠ 0 ∨ r = 0) (L : LKC g0 q W k2) : CLW g0 q W k2 = none := by
  have e := WRS_w w t h1 h2 (L.2.resolve_left ht)
  have x : tsO (FQW g0 q W) (eA g0 (q + 5) k2).toInt (eA g0 (q + 6) k2).toInt = false := by
    unfold tsO
    rw [if_neg ht, e]
    by_cases c : (gI g1 185 3).toInt = 0
    · rw [if_pos c, hr.resolve_left (fun z => z c)]
      rfl
    · rw [if_neg c]
      rfl
  unfold CLW clO
  rw [x]
  rfl
/-- the TEST is so, or there is none -/
theorem CLW_yes {r : Int} (ht : (eA g0 (q + 5) k2).toInt ≠ (eA g0 (q + 6) k2).toInt) (w : WRS g g1 q (eA g0 (q + 5) k2).toInt (eA g0 (q + 6) k2).toInt r) (t : TLI g0 g q W u n k d) (h1 : gA g (q + 1) = gA g0 (q + 1)) (h2 : gA g (q + 2) = gA g0 (q + 2)) (hb : (gI g1 185 3).toInt = 0) (hr : r ≠ 0) (L : LKC g0 q W k2) : CLW g0 q W k2 = evV (FQW g0 q W) (eA g0 (q + 5) k2).toInt 401 ((eA g0 (q + 4) k2).toInt, []) := by
  have e := WRS_w w t h1 h2 (L.2.resolve_left ht)
  have x : tsO (FQW g0 q W) (eA g0 (q + 5) k2).toInt (eA g0 (q + 6) k2).toInt = true := by
    unfold tsO
    rw [if_neg ht, e, if_pos hb]
    exact decide_eq_true hr
  unfold CLW clO
  rw [x]
  rfl
theorem CLW_bare (ht : (eA g0 (q + 5) k2).toInt = (eA g0 (q + 6) k2).toInt) : CLW g0 q W k2 = evV (FQW g0 q W) (eA g0 (q + 5) k2).toInt 401 ((eA g0 (q + 4) k2).toInt, []) := by
  have x : tsO (FQW g0 q W) (eA g0 (q + 5) k2).toInt (eA g0 (q + 6) k2).toInt = true := by
    unfold tsO
    rw [if_pos ht]
  unfold CLW clO
  rw [x]
  rfl
theorem EV_none {a b r : Int} (w : WRS g g1 q a b r) (t : TLI g0 g q W u n k d) (h1 : gA g (q + 1) = gA g0 (q + 1)) (h2 : gA g (q + 2) = gA g0 (q + 2)) (hb : (gI g1 185 3).toInt ≠ 0) (L : LKW g0 q W a b) : evV (FQW g0 q W) b 401 (a, []) = none := by
  rw [WRS_w w t h1 h2 L, if_neg hb]
theorem EV_some {a b r : Int} (w : WRS g g1 q a b r) (t : TLI g0 g q W u n k d) (h1 : gA g (q + 1) = gA g0 (q + 1)) (h2 : gA g (q + 2) = gA g0 (q + 2)) (hb : (gI g1 185 3).toInt = 0) (L : LKW g0 q W a b) : evV (FQW g0 q W) b 401 (a, []) = some r := by
  rw [WRS_w w t h1 h2 L, if_pos hb]
end TLIS
/-- what is told of a load -/
def ABV (g : List en_E) (l k : Int) : Int := if 0 ≤ l ∧ l < (gI g 1 4).toInt ∧ 0 ≤ k ∧ k < 6 then (eA g 5 (6 * l + k)).toInt else -1
theorem ABX_v {g : List en_E} {l k r : Int} (h : ABX g l k r) : r = ABV g l k := by
  unfold ABV
  by_cases c : 0 ≤ l ∧ l < (gI g 1 4).toInt ∧ 0 ≤ k ∧ k < 6
  · rw [if_pos c]
    exact h.1 c
  · rw [if_neg c]
    exact h.2 c
/-- where the law k lies -/
def LATX (k : Int) : Nat := if k = 0 then 16 else if k = 1 then 23 else if k = 2 then 30 else if k = 3 then 37 else if k = 4 then 44 else if k = 5 then 51 else 7
theorem LATX_p {k : Int} {p : Nat} (h : (k = 0 ∧ p = 16) ∨ (k = 1 ∧ p = 23) ∨ (k = 2 ∧ p = 30) ∨ (k = 3 ∧ p = 37) ∨ (k = 4 ∧ p = 44) ∨ (k = 5 ∧ p = 51) ∨ ((k < 0 ∨ 5 < k) ∧ p = 7)) : p = LATX k := by
  unfold LATX
  repeat' (first | split | omega)
theorem LwF {F : List (Nat × Nat)} {q b : Nat} (h : Lw q) (ha : Lws.all (fun q => !memF F q b) = true) : memF F q b = false := by
  have z : (!memF F q b) = true := memA_all h (P := fun q => !memF F q b) ha
  cases c : memF F q b
  · rfl
  · rw [c] at z
    cases z
def TEL (g0 : List en_E) (q : Nat) (u l s m w st as : Int) (r : Int) : Prop := u = 1 → LKL g0 q (WWF l (ABV g0 l 0) (ABV g0 l 4) s (NX g0 s) m w st as) (gI g0 q 3).toInt → r = TLW g0 q (WWF l (ABV g0 l 0) (ABV g0 l 4) s (NX g0 s) m w st as) (gI g0 q 3).toInt.toNat as
/-! from a law kept on both sides -/
theorem LK_l {W K V O A : Int → Int} {y a b a' b' : Int} (r : LK W K V O A y a b a' b' []) : LKR (exX W K V) (fun i => kop (K i) (V i)) a b := by
  rcases r with ⟨v, _, h1, _⟩ | ⟨h1, _⟩
  · exact Or.inl ⟨v, h1⟩
  · exact Or.inr h1
theorem LK_m {W K V O A : Int → Int} {y a b a' b' : Int} (r : LK W K V O A y a b a' b' []) : LKR (exM W O A) O a' b' := by
  rcases r with ⟨v, _, _, h1⟩ | ⟨_, h1⟩
  · exact Or.inl ⟨v, h1⟩
  · exact Or.inr h1
theorem CLL_at {K V O A H S T E : Int → Int} {l n : Int} : ∀ (k : Nat) {L : List CLR}, CLL K V O A H S T E l n k L → ∀ i : Int, 0 ≤ i → i < (k : Int) → ∃ z, CLC K V O A (H i) (S i) (T i) (E i) z ∧ E i ≤ l ∧ z.2.2.2 ≤ n
  | 0, _, _, i, i0, i1 => absurd i1 (by omega)
  | k + 1, L, h, i, i0, i1 => by
    obtain ⟨z, r, h1, h2, h3, h4, h5⟩ := h
    by_cases d : i = (k : Int)
    · subst d
      exact ⟨z, h2, h3, h4⟩
    · exact CLL_at k h5 i i0 (by omega)
theorem DRL_lkl {g : List en_E} {o : Nat} {N : Int} {O A : Int → Int} {L : List CLR} (h : DRL g o N O A L) (hl : (gI g o 0).toInt ≤ 400) (W : Int → Int) : LKL g o W (gI g o 3).toInt := fun i i0 i1 ih => by
  obtain ⟨z, c, e1, e2⟩ := CLL_at _ h i i0 (by omega)
  try dsimp only at c
  try dsimp only at e1
  have r := CLC_run (W := W) c (by omega)
  have t := CLC_tst (W := W) c
  obtain ⟨h1, h2, h3, h4, h5, h6, h7, h8, h9, h10, h11, h12, h13, h14⟩ := c
  obtain ⟨f, q⟩ := h4 (by omega)
  refine ⟨⟨LK_l r, h7, by omega, h8, cor.kok f q⟩, ?_⟩
  rcases h6 with h6 | ⟨f2, q2⟩
  · exact Or.inl h6.1
  · rcases t with t | t
    · exact Or.inl t.1
    · exact Or.inr ⟨LK_l t.2.2, by omega, by omega, h9, cor.kok f2 q2⟩
/-- the reference's row of a law, as codes -/
def ORW (R : Int → Int) : Int → Int := fun i => R (98 + 2 * i)
def ARW (R : Int → Int) : Int → Int := fun i => R (98 + 2 * i + 1)
def CMW (R W : Int → Int) : Int → Option Int := fun i => clO (exM W (ORW R) (ARW R)) (R (2 + 8 * i + 3)) (R (2 + 8 * i + 4)) (R (2 + 8 * i + 5)) (R (2 + 8 * i + 6))
def TMW (R W : Int → Int) (n : Nat) (d : Int) : Int := tlV (fun i => R (2 + 8 * i)) (CMW R W) 1 n d
theorem LRL_dr {g : List en_E} {o : Nat} {R : Int → Int} (h : LRL g o R) : ∃ N L, DRL g o N (ORW R) (ARW R) L ∧ MCL R (gI g o 3).toInt.toNat L ∧ N ≤ 400 ∧ R 1 = ((gI g o 3).toInt.toNat : Int) := by
  obtain ⟨N, O, A, L, h1, h2, h3, h4⟩ := h
  obtain ⟨m1, m2, m3, m4, m5, m6⟩ := h2
  have e := CLL_len _ h1
  rw [e] at m1 m2
  exact ⟨N, L, CLL_c (fun i _ _ => ⟨rfl, rfl⟩) (fun i i0 i1 => ⟨(m6 i i0 i1).1.symm, (m6 i i0 i1).2.symm⟩) (Int.le_refl _) (Int.le_refl _) _ (fun _ _ _ => ⟨rfl, rfl, rfl, rfl⟩) h1, m2, m5, m1⟩
/-- both sides tell the same -/
theorem LRL_tell {g : List en_E} {o : Nat} {R W : Int → Int} (h : LRL g o R) (d : Int) : TLW g o W (gI g o 3).toInt.toNat d = TMW R W (gI g o 3).toInt.toNat d := by
  obtain ⟨N, L, h1, h2, h3, h4⟩ := LRL_dr h
  obtain ⟨_, _, _, _, _, _, hl, _⟩ := h
  exact LAW_same (W := W) hl h3 _ L h1 h2
/-- what the reference asks of a law -/
def LKM (R W : Int → Int) (n : Int) : Prop := ∀ i : Int, 0 ≤ i → i < n → R (2 + 8 * i) = 1 → (LKR (exM W (ORW R) (ARW R)) (ORW R) (R (2 + 8 * i + 3)) (R (2 + 8 * i + 4)) ∧ 0 ≤ R (2 + 8 * i + 3) ∧ R (2 + 8 * i + 3) ≤ R (2 + 8 * i + 4) ∧ R (2 + 8 * i + 4) ≤ 400) ∧ (R (2 + 8 * i + 5) = R (2 + 8 * i + 6) ∨ (LKR (exM W (ORW R) (ARW R)) (ORW R) (R (2 + 8 * i + 5)) (R (2 + 8 * i + 6)) ∧ 0 ≤ R (2 + 8 * i + 5) ∧ R (2 + 8 * i + 5) < R (2 + 8 * i + 6) ∧ R (2 + 8 * i + 6) ≤ 400))
theorem MCL_at {K V O A H S T E R : Int → Int} {l n : Int} : ∀ (k : Nat) {L : List CLR}, CLL K V O A H S T E l n k L → MCL R k L → ∀ i : Int, 0 ≤ i → i < (k : Int) → ∃ z, CLC K V O A (H i) (S i) (T i) (E i) z ∧ z.2.2.2 ≤ n ∧ R (2 + 8 * i) = z.1 ∧ R (2 + 8 * i + 3) = z.2.1 ∧ R (2 + 8 * i + 4) = z.2.2.1 ∧ R (2 + 8 * i + 5) = z.2.2.1 ∧ R (2 + 8 * i + 6) = z.2.2.2
  | 0, _, _, _, i, i0, i1 => absurd i1 (by omega)
  | k + 1, L, h, m, i, i0, i1 => by
    obtain ⟨z, r, h1, h2, h3, h4, h5⟩ := h
    obtain ⟨z', r', m1, m2, m3, m4, m5, m6, m7⟩ := m
    obtain ⟨rfl, rfl⟩ := List.cons.inj (h1.symm.trans m1)
    by_cases d : i = (k : Int)
    · subst d
      exact ⟨z, h2, h4, m2, m3, m4, m5, m6⟩
    · exact MCL_at k h5 m7 i i0 (by omega)
theorem LRL_lkm {g : List en_E} {o : Nat} {R : Int → Int} (h : LRL g o R) (W : Int → Int) : LKM R W (R 1) := fun i i0 i1 ih => by
  obtain ⟨N, L, h1, h2, h3, h4⟩ := LRL_dr h
  obtain ⟨z, c, e1, r0, r3, r4, r5, r6⟩ := MCL_at _ h1 h2 i i0 (by omega)
  try dsimp only at c
  have hh := c.1
  have r := CLC_run (W := W) c (by omega)
  have t := CLC_tst (W := W) c
  obtain ⟨_, _, _, _, _, _, h7, h8, h9, h10, h11, h12, _, _⟩ := c
  rw [r3, r4, r5, r6]
  refine ⟨⟨LK_m r, h10, h11, by omega⟩, ?_⟩
  rcases t with t | t
  · exact Or.inl t.2
  · exact Or.inr ⟨LK_m t.2.2, by omega, t.2.1, by omega⟩
theorem SMW_mk {gg : List en_E} {a b c d e f g h i : Int} (h0 : (eK gg 186 0).toInt = a) (h1 : (eK gg 186 1).toInt = b) (h2 : (eK gg 186 2).toInt = c) (h3 : (eK gg 186 3).toInt = d) (h4 : (eK gg 186 4).toInt = e) (h5 : (eK gg 186 5).toInt = f) (h6 : (eK gg 186 6).toInt = g) (h7 : (eK gg 186 7).toInt = h) (h8 : (eK gg 186 8).toInt = i) (bb : (-2147483648 ≤ a ∧ a ≤ 2147483648) ∧ (-2147483648 ≤ b ∧ b ≤ 2147483648) ∧ (-2147483648 ≤ c ∧ c ≤ 2147483648) ∧ (-2147483648 ≤ d ∧ d ≤ 2147483648) ∧ (-2147483648 ≤ e ∧ e ≤ 2147483648) ∧ (-2147483648 ≤ f ∧ f ≤ 2147483648) ∧ (-2147483648 ≤ g ∧ g ≤ 2147483648) ∧ (-2147483648 ≤ h ∧ h ≤ 2147483648) ∧ (-2147483648 ≤ i ∧ i ≤ 2147483648)) : SMW gg := by
  intro k k0 k1
  unfold SMB
  rcases (show k = 0 ∨ k = 1 ∨ k = 2 ∨ k = 3 ∨ k = 4 ∨ k = 5 ∨ k = 6 ∨ k = 7 ∨ k = 8 by omega) with z | z | z | z | z | z | z | z | z
  · rw [z, h0]; omega
  · rw [z, h1]; omega
  · rw [z, h2]; omega
  · rw [z, h3]; omega
  · rw [z, h4]; omega
  · rw [z, h5]; omega
  · rw [z, h6]; omega
  · rw [z, h7]; omega
  · rw [z, h8]; omega
