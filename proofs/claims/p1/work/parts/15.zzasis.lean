/-! ===== asIs of the reference over a fresh row: the heap stays as it is ===== -/
theorem en_addT {x y : Int32} (h1 : -2147483648 ≤ x.toInt + y.toInt) (h2 : x.toInt + y.toInt ≤ 2147483647) : (x + y).toInt = x.toInt + y.toInt := by
  rw [Int32.toInt_add]
  exact Int.bmod_eq_of_le (by omega) (by omega)
theorem en_mulT {x y : Int32} (h1 : -2147483648 ≤ x.toInt * y.toInt) (h2 : x.toInt * y.toInt ≤ 2147483647) : (x * y).toInt = x.toInt * y.toInt := by
  rw [Int32.toInt_mul]
  exact Int.bmod_eq_of_le (by omega) (by omega)
theorem en_ge0 {x : Int32} (h : 0 ≤ x.toInt) : ¬ x < 0 := fun q => by
  have h1 := Int32.lt_iff_toInt_lt.mp q
  have : (0 : Int32).toInt = 0 := rfl
  omega
theorem en_rsame {n i : Nat} {x : Int32} : (List.replicate n x).set i x = List.replicate n x := by
  refine List.ext_getElem (by rw [List.length_set]) (fun k h1 h2 => ?_)
  rw [List.getElem_set]
  split
  · rw [List.getElem_replicate]
  · rfl
section AS
variable {g : List en_E} {N : Nat} {fs : List Value} {ROW : List Int32}
abbrev AsH (g : List en_E) (fs : List Value) (ROW : List Int32) : Prop := g[231]? = some (.inr (11, fs)) ∧ fs[3]? = some (.ref 233) ∧ g[233]? = some (.inl (0, .inl ROW)) ∧ (∀ k, 10 ≤ k → k < 100 → ROW[k]? = some 0)
abbrev AsB (g : List en_E) (fs : List Value) : Prop := fs[33]? = some (.ref 246) ∧ fs[34]? = some (.ref 247) ∧ fs[35]? = some (.ref 248) ∧ g[246]? = some (.inl (0, .inl (List.replicate 12 0))) ∧ g[247]? = some (.inl (0, .inl (List.replicate 12 0))) ∧ g[248]? = some (.inl (0, .inl (List.replicate 8 0)))
theorem zr_ofStand (d : Nat) (hh : AsH g fs ROW) (s w : Int32) (hs : 0 ≤ s.toInt ∧ s.toInt < 12) (hw : 0 ≤ w.toInt ∧ w.toInt < 6) : Ev (d + 1) 169 [.ref 231, .int s, .int w] (g, N) (fun r h' => True ∧ r = some (.int 0) ∧ h' = (g, N)) := by
  obtain ⟨h1, h2, h3, h4⟩ := hh
  have c3 : (3 : Int32).toInt = 3 := rfl
  have c10 : (10 : Int32).toInt = 10 := rfl
  have e1 : (3 * s).toInt = 3 * s.toInt := by rw [en_mulT (by rw [c3]; omega) (by rw [c3]; omega), c3]
  have e2 : (10 + 3 * s).toInt = 10 + 3 * s.toInt := by rw [en_addT (by omega) (by omega), c10, e1]
  have e3 : (10 + 3 * s + w).toInt = 10 + 3 * s.toInt + w.toInt := by rw [en_addT (by omega) (by omega), e2]
  refine Ev.mk rfl rfl ⟨Nat.le_of_ble_eq_true rfl, Or.inr (en_rcI h1 rfl)⟩ ?_
  show At _ none _ _ (0, [(0, .ref 231), (1, .int s), (2, .int w)], [], (g, N)) _
  refine At.enter rfl ?_
  refine r_aload_n rfl ?_
  refine r_get (v := .ref 233) h1 h2 ?_
  refine r_bipush 10 rfl ?_
  refine r_iconst 3 rfl ?_
  refine r_iload_n rfl ?_
  refine r_imul (3 * s) rfl ?_
  refine r_iadd (10 + 3 * s) rfl ?_
  refine r_iload_n rfl ?_
  refine r_iadd (10 + 3 * s + w) rfl ?_
  refine r_iald (v := 0) h3 (en_ge0 (by omega)) (h4 _ (by show 10 ≤ (10 + 3 * s + w).toInt.toNat; omega) (by show (10 + 3 * s + w).toInt.toNat < 100; omega)) ?_
  refine r_ireti ?_
  exact ⟨trivial, rfl, rfl⟩
theorem zr_ofLoad (d : Nat) (hh : AsH g fs ROW) (s w : Int32) (hs : 0 ≤ s.toInt ∧ s.toInt < 8) (hw : 0 ≤ w.toInt ∧ w.toInt < 6) : Ev (d + 1) 170 [.ref 231, .int s, .int w] (g, N) (fun r h' => True ∧ r = some (.int 0) ∧ h' = (g, N)) := by
  obtain ⟨h1, h2, h3, h4⟩ := hh
  have c6 : (6 : Int32).toInt = 6 := rfl
  have c46 : (46 : Int32).toInt = 46 := rfl
  have e1 : (6 * s).toInt = 6 * s.toInt := by rw [en_mulT (by rw [c6]; omega) (by rw [c6]; omega), c6]
  have e2 : (46 + 6 * s).toInt = 46 + 6 * s.toInt := by rw [en_addT (by omega) (by omega), c46, e1]
  have e3 : (46 + 6 * s + w).toInt = 46 + 6 * s.toInt + w.toInt := by rw [en_addT (by omega) (by omega), e2]
  refine Ev.mk rfl rfl ⟨Nat.le_of_ble_eq_true rfl, Or.inr (en_rcI h1 rfl)⟩ ?_
  show At _ none _ _ (0, [(0, .ref 231), (1, .int s), (2, .int w)], [], (g, N)) _
  refine At.enter rfl ?_
  refine r_aload_n rfl ?_
  refine r_get (v := .ref 233) h1 h2 ?_
  refine r_bipush 46 rfl ?_
  refine r_bipush 6 rfl ?_
  refine r_iload_n rfl ?_
  refine r_imul (6 * s) rfl ?_
  refine r_iadd (46 + 6 * s) rfl ?_
  refine r_iload_n rfl ?_
  refine r_iadd (46 + 6 * s + w) rfl ?_
  refine r_iald (v := 0) h3 (en_ge0 (by omega)) (h4 _ (by show 10 ≤ (46 + 6 * s + w).toInt.toNat; omega) (by show (46 + 6 * s + w).toInt.toNat < 100; omega)) ?_
  refine r_ireti ?_
  exact ⟨trivial, rfl, rfl⟩
theorem zr_asis1 {Ph : Option Value → en_H → Prop} (d : Nat) (hh : AsH g fs ROW) (hb : AsB g fs) (K : ∀ l, en_get 0 l = some (.ref 231) → At (d + 1) none none bs_X11_asIs (38, l, [], (g, N)) Ph) : ∀ (n : Nat) (s : Int32) (l : en_L), s.toInt + n = 12 → 0 ≤ s.toInt → en_get 0 l = some (.ref 231) → en_get 1 l = some (.int s) → At (d + 1) none none bs_X11_asIs (2, l, [], (g, N)) Ph := by
  obtain ⟨h1, h2, h3, h4⟩ := id hh
  obtain ⟨b1, b2, b3, b4, b5, b6⟩ := hb
  have c12 : (12 : Int32).toInt = 12 := rfl
  intro n
  induction n with
  | zero =>
    intro s l e h0 g0 g1
    refine At.enter rfl ?_
    refine r_iload_n g1 ?_
    refine r_bipush 12 rfl ?_
    refine r_ict (decide_eq_true (Int32.le_iff_toInt_le.mpr (by omega))) ?_
    exact K l g0
  | succ n ih =>
    intro s l e h0 g0 g1
    refine At.enter rfl ?_
    refine r_iload_n g1 ?_
    refine r_bipush 12 rfl ?_
    refine r_icf 8 rfl (decide_eq_false (fun h => by have h5 := Int32.le_iff_toInt_le.mp h; omega)) ?_
    refine At.enter rfl ?_
    refine r_aload_n g0 ?_
    refine r_get (v := .ref 246) h1 b1 ?_
    refine r_iload_n g1 ?_
    refine r_aload_n g0 ?_
    refine r_iload_n g1 ?_
    refine r_iconst 1 rfl ?_
    refine r_callV1s True (.int 0) (g, N) 19 rfl [.ref 231, .int s, .int 1] [.int s, .ref 246] (Nat.le_of_ble_eq_true rfl) rfl (zr_ofStand d hh s 1 ⟨h0, by omega⟩ (by decide)) (fun _ => ?_)
    refine At.enter rfl ?_
    refine r_iast b4 (en_ge0 h0) (by rw [List.length_replicate]; show s.toInt.toNat < 12; omega) (List.replicate 12 0) en_rsame ?_
    refine Ar.hp (en_sg b4).symm ?_
    refine r_aload_n g0 ?_
    refine r_get (v := .ref 247) h1 b2 ?_
    refine r_iload_n g1 ?_
    refine r_aload_n g0 ?_
    refine r_iload_n g1 ?_
    refine r_iconst 2 rfl ?_
    refine r_callV1s True (.int 0) (g, N) 31 rfl [.ref 231, .int s, .int 2] [.int s, .ref 247] (Nat.le_of_ble_eq_true rfl) rfl (zr_ofStand d hh s 2 ⟨h0, by omega⟩ (by decide)) (fun _ => ?_)
    refine At.enter rfl ?_
    refine r_iast b5 (en_ge0 h0) (by rw [List.length_replicate]; show s.toInt.toNat < 12; omega) (List.replicate 12 0) en_rsame ?_
    refine Ar.hp (en_sg b5).symm ?_
    refine r_iinc g1 (s + 1) rfl _ rfl ?_
    refine r_goto ?_
    refine ih (s + 1) _ ?_ ?_ (en_get_ne (by decide) rfl g0) (en_get_eq 1 _ _)
    · rw [en_inc h0 (by omega)]; omega
    · rw [en_inc h0 (by omega)]; omega
theorem zr_asis2 {Ph : Option Value → en_H → Prop} (d : Nat) (hh : AsH g fs ROW) (hb : AsB g fs) (K : ∀ l, en_get 0 l = some (.ref 231) → At (d + 1) none none bs_X11_asIs (64, l, [], (g, N)) Ph) : ∀ (n : Nat) (s : Int32) (l : en_L), s.toInt + n = 8 → 0 ≤ s.toInt → en_get 0 l = some (.ref 231) → en_get 1 l = some (.int s) → At (d + 1) none none bs_X11_asIs (40, l, [], (g, N)) Ph := by
  obtain ⟨h1, h2, h3, h4⟩ := id hh
  obtain ⟨b1, b2, b3, b4, b5, b6⟩ := hb
  have c12 : (8 : Int32).toInt = 8 := rfl
  intro n
  induction n with
  | zero =>
    intro s l e h0 g0 g1
    refine At.enter rfl ?_
    refine r_iload_n g1 ?_
    refine r_bipush 8 rfl ?_
    refine r_ict (decide_eq_true (Int32.le_iff_toInt_le.mpr (by omega))) ?_
    exact K l g0
  | succ n ih =>
    intro s l e h0 g0 g1
    refine At.enter rfl ?_
    refine r_iload_n g1 ?_
    refine r_bipush 8 rfl ?_
    refine r_icf 46 rfl (decide_eq_false (fun h => by have h5 := Int32.le_iff_toInt_le.mp h; omega)) ?_
    refine At.enter rfl ?_
    refine r_aload_n g0 ?_
    refine r_get (v := .ref 248) h1 b3 ?_
    refine r_iload_n g1 ?_
    refine r_aload_n g0 ?_
    refine r_iload_n g1 ?_
    refine r_iconst 3 rfl ?_
    refine r_callV1s True (.int 0) (g, N) 57 rfl [.ref 231, .int s, .int 3] [.int s, .ref 248] (Nat.le_of_ble_eq_true rfl) rfl (zr_ofLoad d hh s 3 ⟨h0, by omega⟩ (by decide)) (fun _ => ?_)
    refine At.enter rfl ?_
    refine r_iast b6 (en_ge0 h0) (by rw [List.length_replicate]; show s.toInt.toNat < 8; omega) (List.replicate 8 0) en_rsame ?_
    refine Ar.hp (en_sg b6).symm ?_
    refine r_iinc g1 (s + 1) rfl _ rfl ?_
    refine r_goto ?_
    refine ih (s + 1) _ ?_ ?_ (en_get_ne (by decide) rfl g0) (en_get_eq 1 _ _)
    · rw [en_inc h0 (by omega)]; omega
    · rw [en_inc h0 (by omega)]; omega
theorem zr_asIs (d : Nat) (hh : AsH g fs ROW) (hb : AsB g fs) (hf : fs[36]? = some (.int 0)) : Ev (d + 2) 215 [.ref 231] (g, N) (fun r h' => True ∧ r = none ∧ h' = (g, N)) := by
  obtain ⟨h1, h2, h3, h4⟩ := id hh
  refine Ev.mk rfl rfl ⟨Nat.le_of_ble_eq_true rfl, Or.inr (en_rcI h1 rfl)⟩ ?_
  show At _ none _ _ (0, [(0, .ref 231)], [], (g, N)) _
  refine At.enter rfl ?_
  refine r_iconst 0 rfl ?_
  refine r_istore_n ([(1, .int 0), (0, .ref 231)]) rfl ?_
  refine Ar.fall 2 rfl ?_
  refine zr_asis1 d hh hb (fun l g0 => ?_) 12 0 _ (by decide) (by decide) rfl rfl
  refine At.enter rfl ?_
  refine r_iconst 0 rfl ?_
  refine r_istore_n _ rfl ?_
  refine Ar.fall 40 rfl ?_
  refine zr_asis2 d hh hb (fun l g0 => ?_) 8 0 _ (by decide) (by decide) (en_get_ne (by decide) rfl g0) (en_get_eq 1 _ _)
  refine At.enter rfl ?_
  refine r_aload_n g0 ?_
  refine r_iconst 0 rfl ?_
  refine r_putf h1 (List.getElem?_eq_some_iff.mp hf).1 rfl fs (by obtain ⟨q, e⟩ := List.getElem?_eq_some_iff.mp hf; rw [← e]; exact List.set_getElem_self q) ?_
  refine Ar.hp (en_sg h1).symm ?_
  refine r_vret ?_
  exact ⟨trivial, rfl, rfl⟩
end AS
theorem zr_row0 : ∀ k, 10 ≤ k → k < 100 → (([0, 0, 0, -1, 0, 60, 2] ++ List.replicate 5503 0 : List Int32))[k]? = some 0 := by
  intro k h1 h2
  rw [List.getElem?_append_right (by show 7 ≤ k; omega), List.getElem?_replicate, if_pos (by show k - 7 < 5503; omega)]
