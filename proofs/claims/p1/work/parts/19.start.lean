theorem r_new {d : Nat} {xs : Option (List Int32)} {rt : Option FieldType} {bs : en_Bs} {r : List en_Op} {n a b c pc z : Nat} {l : en_L} {st : List Value} {g : List en_E} {N : Nat} {Ph : Option Value → en_H → Prop} (p N' : Nat) (hp : g.length = p) (hN : N + (en_dflt a).length = N') (k : Ar d xs rt bs r (pc + n, l, .ref p :: st, (g ++ [.inr (a, en_dflt a)], N')) Ph) : Ar d xs rt bs ((.new z, n, a, b, c) :: r) (pc, l, st, (g, N)) Ph := by
  subst hp
  subst hN
  exact Ar.plain (q := (l, .ref g.length :: st, (g ++ [.inr (a, en_dflt a)], N + (en_dflt a).length))) rfl rfl k
set_option maxRecDepth 100000 in
theorem lw_j1 : Ev 8 103 [.ref 0] ([.inr (10, en_dflt 10)], 18) (fun r h' => True ∧ r = none ∧ h' = (hp_X, 31312)) := zr_of 2000 (by decide +kernel)
set_option maxRecDepth 100000 in
theorem lw_j2 : Ev 8 158 [.ref 231] (hp_X ++ [.inr (11, en_dflt 11)], 31364) (fun r h' => True ∧ r = none ∧ h' = (hp_X ++ hp_M, 51333)) := zr_of 2000 (by decide +kernel)
theorem lw_i1 : Ev 14 103 [.ref 0] (([] : List en_E) ++ [.inr (10, en_dflt 10)], 18) (fun r h' => True ∧ r = none ∧ h' = (hp_X, 31312)) := Ev.upn 6 lw_j1
theorem lw_i2 : Ev 14 158 [.ref 231] (hp_X ++ [.inr (11, en_dflt 11)], 31364) (fun r h' => True ∧ r = none ∧ h' = (hp_X ++ hp_M, 51333)) := Ev.upn 6 lw_j2
theorem lw_start {ys : List Int32} {Ph : Option Value → en_H → Prop} (k : At 14 (some ys) (some .boolean) bs_L_law (18, [(3, .int 0), (2, .ref 231), (1, .ref 0), (0, .float 0)], [], (hp_X ++ hp_M, 51333)) Ph) : At 14 (some ys) (some .boolean) bs_L_law (0, [(0, .float 0)], [], ([], 0)) Ph := by
  refine At.enter rfl ?_
  refine r_new 0 18 rfl rfl ?_
  refine r_dup rfl ?_
  refine r_callI1v True (hp_X, 31312) 7 rfl [.ref 0] [.ref 0] (Nat.le_of_ble_eq_true rfl) rfl lw_i1 (fun _ => ?_)
  refine At.enter rfl ?_
  refine r_astore_n ([(1, .ref 0), (0, .float 0)]) rfl ?_
  refine r_new 231 31364 hp_Xl (by decide +kernel) ?_
  refine r_dup rfl ?_
  refine r_callI1v True (hp_X ++ hp_M, 51333) 15 rfl [.ref 231] [.ref 231] (Nat.le_of_ble_eq_true rfl) rfl lw_i2 (fun _ => ?_)
  refine At.enter rfl ?_
  refine r_astore_n ([(2, .ref 231), (1, .ref 0), (0, .float 0)]) rfl ?_
  refine r_iconst 0 rfl ?_
  refine r_istore_n ([(3, .int 0), (2, .ref 231), (1, .ref 0), (0, .float 0)]) rfl ?_
  refine Ar.fall 18 rfl ?_
  exact k
