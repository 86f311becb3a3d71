abbrev LwE (r : Option Value) (h : en_H) : Prop := r = some (.int 1) ∧ h.1.length ≤ 600000 ∧ h.2 ≤ 7302249
section LW
variable {d : Nat} {xs : Option (List Int32)} {rt : Option FieldType} {bs : en_Bs} {r : List en_Op} {n a b c pc : Nat} {l : en_L} {st : List Value} {h : en_H} {Ph : Option Value → en_H → Prop}
theorem r_lx {z : Nat} {v : Int32} (pc' : Nat) (hp : pc + 3 = pc') (as rest : List Value) (ha : a < 900) (hq : en_take (.invokevirtual z, n, a, b, c) st = some (as, rest)) (hE : Ev d a as h (fun r h' => r = some (.int v) ∧ IsX h'.1 ∧ h'.2 = 51333)) (k : ∀ A : Nat → en_E, At d xs rt bs (pc', l, .int v :: rest, (en_pre A 231 hp_M, 51333)) Ph) : Ar d xs rt bs ((.invokevirtual z, n, a, b, c) :: r) (pc, l, st, h) Ph := by
  refine r_callV pc' hp as rest ha hq hE ?_
  intro w h' hw
  obtain ⟨e1, e2, e3⟩ := hw
  obtain ⟨A, hA⟩ := e2.pre
  have e4 : h' = (en_pre A 231 hp_M, 51333) := by rw [← hA, ← e3]
  rw [e1, e4]
  exact k A
theorem r_lm {z : Nat} {v : Int32} (pc' : Nat) (hp : pc + 3 = pc') (as rest : List Value) (ha : a < 900) (hq : en_take (.invokevirtual z, n, a, b, c) st = some (as, rest)) (hE : Ev d a as h (fun r h' => r = some (.int v) ∧ h'.1.length = 259 ∧ h'.2 = 51333)) (k : ∀ h' : en_H, h'.1.length = 259 ∧ h'.2 = 51333 → At d xs rt bs (pc', l, .int v :: rest, h') Ph) : Ar d xs rt bs ((.invokevirtual z, n, a, b, c) :: r) (pc, l, st, h) Ph := by
  refine r_callV pc' hp as rest ha hq hE ?_
  intro w h' hw
  obtain ⟨e1, e2⟩ := hw
  rw [e1]
  exact k h' e2
end LW
theorem lw_lim : LwE (some (.int 1)) (hp_X ++ hp_M, 51333) := ⟨rfl, by show (hp_X ++ hp_M).length ≤ 600000; rw [List.length_append, hp_Xl, hp_Ml]; decide, by decide⟩
set_option maxRecDepth 100000 in
theorem lw_tail {s0 s1 s2 s3 s4 s5 s6 : Int32} {h : en_H} (q : h.1.length = 259 ∧ h.2 = 51333) : At 14 (some [s0, s1, s2, s3, s4, s5, s6]) (some .boolean) bs_L_law (1330, [(3, .int 0), (2, .ref 231), (1, .ref 0), (0, .float 0)], [], h) LwE := by
  obtain ⟨q1, q2⟩ := q
  refine At.enter rfl ?_
  refine r_iinc rfl 7 rfl ([(3, .int 7), (2, .ref 231), (1, .ref 0), (0, .float 0)]) rfl ?_
  refine r_goto ?_
  refine At.enter rfl ?_
  refine r_iload_n rfl ?_
  refine r_sload_n rfl ?_
  refine r_sclen 7 rfl ?_
  refine r_bipush 7 rfl ?_
  refine r_isub 0 rfl ?_
  refine r_ict (by decide) ?_
  refine At.enter rfl ?_
  refine r_iconst 1 rfl ?_
  refine r_iretz (by decide) ?_
  exact ⟨rfl, by omega, by omega⟩
set_option maxRecDepth 100000 in
theorem lw_small0 : At 14 (some []) (some .boolean) bs_L_law (18, [(3, .int 0), (2, .ref 231), (1, .ref 0), (0, .float 0)], [], (hp_X ++ hp_M, 51333)) LwE := by
  refine At.enter rfl ?_
  refine r_iload_n rfl ?_
  refine r_sload_n rfl ?_
  refine r_sclen 0 rfl ?_
  refine r_bipush 7 rfl ?_
  refine r_isub (-7) rfl ?_
  refine r_ict (by decide) ?_
  refine At.enter rfl ?_
  refine r_iconst 1 rfl ?_
  refine r_iretz (by decide) ?_
  exact lw_lim
set_option maxRecDepth 100000 in
theorem lw_small1 (s0 : Int32) : At 14 (some [s0]) (some .boolean) bs_L_law (18, [(3, .int 0), (2, .ref 231), (1, .ref 0), (0, .float 0)], [], (hp_X ++ hp_M, 51333)) LwE := by
  refine At.enter rfl ?_
  refine r_iload_n rfl ?_
  refine r_sload_n rfl ?_
  refine r_sclen 1 rfl ?_
  refine r_bipush 7 rfl ?_
  refine r_isub (-6) rfl ?_
  refine r_ict (by decide) ?_
  refine At.enter rfl ?_
  refine r_iconst 1 rfl ?_
  refine r_iretz (by decide) ?_
  exact lw_lim
set_option maxRecDepth 100000 in
theorem lw_small2 (s0 s1 : Int32) : At 14 (some [s0, s1]) (some .boolean) bs_L_law (18, [(3, .int 0), (2, .ref 231), (1, .ref 0), (0, .float 0)], [], (hp_X ++ hp_M, 51333)) LwE := by
  refine At.enter rfl ?_
  refine r_iload_n rfl ?_
  refine r_sload_n rfl ?_
  refine r_sclen 2 rfl ?_
  refine r_bipush 7 rfl ?_
  refine r_isub (-5) rfl ?_
  refine r_ict (by decide) ?_
  refine At.enter rfl ?_
  refine r_iconst 1 rfl ?_
  refine r_iretz (by decide) ?_
  exact lw_lim
set_option maxRecDepth 100000 in
theorem lw_small3 (s0 s1 s2 : Int32) : At 14 (some [s0, s1, s2]) (some .boolean) bs_L_law (18, [(3, .int 0), (2, .ref 231), (1, .ref 0), (0, .float 0)], [], (hp_X ++ hp_M, 51333)) LwE := by
  refine At.enter rfl ?_
  refine r_iload_n rfl ?_
  refine r_sload_n rfl ?_
  refine r_sclen 3 rfl ?_
  refine r_bipush 7 rfl ?_
  refine r_isub (-4) rfl ?_
  refine r_ict (by decide) ?_
  refine At.enter rfl ?_
  refine r_iconst 1 rfl ?_
  refine r_iretz (by decide) ?_
  exact lw_lim
set_option maxRecDepth 100000 in
theorem lw_small4 (s0 s1 s2 s3 : Int32) : At 14 (some [s0, s1, s2, s3]) (some .boolean) bs_L_law (18, [(3, .int 0), (2, .ref 231), (1, .ref 0), (0, .float 0)], [], (hp_X ++ hp_M, 51333)) LwE := by
  refine At.enter rfl ?_
  refine r_iload_n rfl ?_
  refine r_sload_n rfl ?_
  refine r_sclen 4 rfl ?_
  refine r_bipush 7 rfl ?_
  refine r_isub (-3) rfl ?_
  refine r_ict (by decide) ?_
  refine At.enter rfl ?_
  refine r_iconst 1 rfl ?_
  refine r_iretz (by decide) ?_
  exact lw_lim
set_option maxRecDepth 100000 in
theorem lw_small5 (s0 s1 s2 s3 s4 : Int32) : At 14 (some [s0, s1, s2, s3, s4]) (some .boolean) bs_L_law (18, [(3, .int 0), (2, .ref 231), (1, .ref 0), (0, .float 0)], [], (hp_X ++ hp_M, 51333)) LwE := by
  refine At.enter rfl ?_
  refine r_iload_n rfl ?_
  refine r_sload_n rfl ?_
  refine r_sclen 5 rfl ?_
  refine r_bipush 7 rfl ?_
  refine r_isub (-2) rfl ?_
  refine r_ict (by decide) ?_
  refine At.enter rfl ?_
  refine r_iconst 1 rfl ?_
  refine r_iretz (by decide) ?_
  exact lw_lim
set_option maxRecDepth 100000 in
theorem lw_small6 (s0 s1 s2 s3 s4 s5 : Int32) : At 14 (some [s0, s1, s2, s3, s4, s5]) (some .boolean) bs_L_law (18, [(3, .int 0), (2, .ref 231), (1, .ref 0), (0, .float 0)], [], (hp_X ++ hp_M, 51333)) LwE := by
  refine At.enter rfl ?_
  refine r_iload_n rfl ?_
  refine r_sload_n rfl ?_
  refine r_sclen 6 rfl ?_
  refine r_bipush 7 rfl ?_
  refine r_isub (-1) rfl ?_
  refine r_ict (by decide) ?_
  refine At.enter rfl ?_
  refine r_iconst 1 rfl ?_
  refine r_iretz (by decide) ?_
  exact lw_lim
