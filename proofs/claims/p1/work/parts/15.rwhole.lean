theorem zr_of {d i : Nat} {as : List Value} {h : en_H} {H : List en_E} {N : Nat} (F : Nat) (hr : (match en_run en_IS en_BS d F i as h with | some w => w.1.isNone && en_eqL w.2.1 H && decide (w.2.2 = N) | none => false) = true) : Ev d i as h (fun r h' => True ∧ r = none ∧ h' = (H, N)) := by
  cases hw : en_run en_IS en_BS d F i as h with
  | none => rw [hw] at hr; cases hr
  | some w =>
    rw [hw] at hr
    obtain ⟨r, g, M⟩ := w
    simp only [Bool.and_eq_true, decide_eq_true_eq] at hr
    obtain ⟨⟨e1, e2⟩, e3⟩ := hr
    refine ⟨F, _, hw, trivial, ?_, ?_⟩
    · cases r with
      | none => rfl
      | some v => cases e1
    · show (g, M) = _
      rw [en_eqL_eq e2, e3]
set_option maxRecDepth 100000 in
set_option maxHeartbeats 4000000 in
theorem zr_rw0 : Ev 12 18 [.ref 188] (((hp_X ++ hp_M).set 189 (.inl (0, .inl (List.replicate 12 0)))).set 190 (.inl (0, .inl (List.replicate 12 0))), 51333) (fun r h' => True ∧ r = none ∧ h' = ((((((hp_X ++ hp_M).set 189 (.inl (0, .inl (List.replicate 12 0)))).set 190 (.inl (0, .inl (List.replicate 12 0)))).set 195 (.inl (0, .inl (List.replicate 8 (-1))))).set 196 (.inl (0, .inl (List.replicate 8 (-1))))).set 203 (.inl (0, .inl (List.replicate 800 (-1)))), 51333)) := zr_of 20000 (by decide +kernel)
set_option maxRecDepth 100000 in
set_option maxHeartbeats 4000000 in
theorem zr_rw1 : Ev 12 18 [.ref 204] (((hp_X ++ hp_M).set 205 (.inl (0, .inl (List.replicate 12 0)))).set 206 (.inl (0, .inl (List.replicate 12 0))), 51333) (fun r h' => True ∧ r = none ∧ h' = ((((((hp_X ++ hp_M).set 205 (.inl (0, .inl (List.replicate 12 0)))).set 206 (.inl (0, .inl (List.replicate 12 0)))).set 211 (.inl (0, .inl (List.replicate 8 (-1))))).set 212 (.inl (0, .inl (List.replicate 8 (-1))))).set 219 (.inl (0, .inl (List.replicate 800 (-1)))), 51333)) := zr_of 20000 (by decide +kernel)
