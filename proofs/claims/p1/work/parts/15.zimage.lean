theorem en_sg {g : List en_E} {p : Nat} {e : en_E} (h : g[p]? = some e) : g = g.set p e := by
  obtain ⟨hp, he⟩ := List.getElem?_eq_some_iff.mp h
  rw [← he]
  exact (List.set_getElem_self hp).symm
theorem At.hp {d : Nat} {xs : Option (List Int32)} {rt : Option FieldType} {bs : en_Bs} {pc : Nat} {l : en_L} {st : List Value} {g G : List en_E} {N : Nat} {Ph : Option Value → en_H → Prop} (e : g = G) (k : At d xs rt bs (pc, l, st, (G, N)) Ph) : At d xs rt bs (pc, l, st, (g, N)) Ph := by
  rw [e]
  exact k
theorem zr_img_loop {B : List en_E} {N : Nat} {k : Int32} {fs : List Value} {ROW : List Int32} {e0 : en_E} {Ph : Option Value → en_H → Prop} (d : Nat) (h1 : B[231]? = some (.inr (11, fs))) (f3 : fs[3]? = some (.ref 233)) (f4 : fs[4]? = some (.ref 234)) (h3 : B[233]? = some (.inl (0, .inl ROW))) (h4 : B[234]? = some e0) (hR : ROW.length = 5510) (hk : 0 ≤ k.toInt ∧ k.toInt ≤ 1) (K : ∀ (ys' : List Int32) (l' : en_L), ys'.length = 11020 → en_get 0 l' = some (.ref 231) → en_get 1 l' = some (.int k) → At d none (some .int) bs_X11_image (54, l', [], (B.set 234 (.inl (0, .inl ys')), N)) Ph) : ∀ (n : Nat) (i : Int32) (ys : List Int32) (l : en_L), i.toInt + n = 5510 → 0 ≤ i.toInt → ys.length = 11020 → en_get 0 l = some (.ref 231) → en_get 1 l = some (.int k) → en_get 2 l = some (.int i) → At d none (some .int) bs_X11_image (23, l, [], (B.set 234 (.inl (0, .inl ys)), N)) Ph := by
  have c0 : (5510 : Int32).toInt = 5510 := rfl
  intro n
  induction n with
  | zero =>
    intro i ys l e h0 hy g0 g1 g2
    refine At.enter rfl ?_
    refine r_iload_n g2 ?_
    refine r_sipush 5510 rfl ?_
    refine r_ict (decide_eq_true (Int32.le_iff_toInt_le.mpr (by omega))) ?_
    exact K ys l hy g0 g1
  | succ n ih =>
    intro i ys l e h0 hy g0 g1 g2
    have ej : (5510 * k + i).toInt = 5510 * k.toInt + i.toInt := by
      rw [Int32.toInt_add, Int32.toInt_mul, c0, Int.bmod_eq_of_le (n := 5510 * k.toInt) (by omega) (by omega)]
      exact Int.bmod_eq_of_le (by omega) (by omega)
    have ni : ¬ i < 0 := fun h => by have h5 := Int32.lt_iff_toInt_lt.mp h; have : (0 : Int32).toInt = 0 := rfl; omega
    have nj : ¬ 5510 * k + i < 0 := fun h => by have h5 := Int32.lt_iff_toInt_lt.mp h; have : (0 : Int32).toInt = 0 := rfl; omega
    have bi : i.toNatClampNeg < ROW.length := by show i.toInt.toNat < _; omega
    have bj : (5510 * k + i).toNatClampNeg < ys.length := by show (5510 * k + i).toInt.toNat < _; omega
    refine At.enter rfl ?_
    refine r_iload_n g2 ?_
    refine r_sipush 5510 rfl ?_
    refine r_icf 30 rfl (decide_eq_false (fun h => by have h5 := Int32.le_iff_toInt_le.mp h; omega)) ?_
    refine At.enter rfl ?_
    refine r_aload_n g0 ?_
    refine r_get (v := .ref 234) (en_gs_ne (by decide) h1) f4 ?_
    refine r_sipush 5510 rfl ?_
    refine r_iload_n g1 ?_
    refine r_imul (5510 * k) rfl ?_
    refine r_iload_n g2 ?_
    refine r_iadd (5510 * k + i) rfl ?_
    refine r_aload_n g0 ?_
    refine r_get (v := .ref 233) (en_gs_ne (by decide) h1) f3 ?_
    refine r_iload_n g2 ?_
    refine r_iald (en_gs_ne (by decide) h3) ni (List.getElem?_eq_getElem bi) ?_
    refine r_iast (en_gs_eq h4) nj bj _ rfl ?_
    refine Ar.hp en_sd0 ?_
    refine r_iinc g2 (i + 1) rfl _ rfl ?_
    refine r_goto ?_
    refine ih (i + 1) _ _ ?_ ?_ ?_ (en_get_ne (by decide) rfl g0) (en_get_ne (by decide) rfl g1) (en_get_eq 2 _ _)
    · rw [en_inc h0 (by omega)]; omega
    · rw [en_inc h0 (by omega)]; omega
    · rw [List.length_set]; exact hy
