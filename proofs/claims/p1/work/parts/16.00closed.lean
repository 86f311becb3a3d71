theorem zr_ofv {d i : Nat} {as : List Value} {h : en_H} {H : List en_E} {N : Nat} {v : Value} (F : Nat) (hr : (match en_run en_IS en_BS d F i as h with | some w => (match w.1 with | some u => en_eqV u v | none => false) && en_eqL w.2.1 H && decide (w.2.2 = N) | none => false) = true) : Ev d i as h (fun r h' => True ∧ r = some v ∧ h' = (H, N)) := by
  cases hw : en_run en_IS en_BS d F i as h with
  | none => rw [hw] at hr; cases hr
  | some w =>
    rw [hw] at hr
    obtain ⟨r, g, M⟩ := w
    simp only [Bool.and_eq_true, decide_eq_true_eq] at hr
    obtain ⟨⟨e1, e2⟩, e3⟩ := hr
    refine ⟨F, _, hw, trivial, ?_, ?_⟩
    · cases r with
      | none => cases e1
      | some u => exact congrArg some (of_decide_eq_true e1)
    · show (g, M) = _
      rw [en_eqL_eq e2, e3]
set_option maxRecDepth 100000 in
set_option maxHeartbeats 4000000 in
theorem zc_0_X10_dayNow : Ev 5 147 [.ref 0] (hp_X ++ hp_M, 51333) (fun r h' => True ∧ r = some (.ref 188) ∧ h' = (((((hp_X ++ hp_M).set 0 (.inr (10, [.ref 1, .ref 58, .ref 173, .ref 174, .ref 176, .ref 184, .ref 188, .ref 204, .ref 220, .ref 222, .ref 223, .ref 228, .ref 229, .ref 230, .int 1, .int 0, .int 0, .int 0]))).set 195 (.inl (0, .inl (List.replicate 8 (-1))))).set 196 (.inl (0, .inl (List.replicate 8 (-1))))).set 203 (.inl (0, .inl (List.replicate 800 (-1)))), 51333)) := zr_ofv 13198 (by decide +kernel)
set_option maxRecDepth 100000 in
set_option maxHeartbeats 4000000 in
theorem zc_1_X1_layOut : Ev 1 16 [.ref 204, .int 0] ((hp_X ++ hp_M).set 220 (.inr (7, [.ref 1, .ref 204, .int 0, .int 0, .int 0, .ref 221])), 51333) (fun r h' => True ∧ r = none ∧ h' = ((hp_X ++ hp_M).set 220 (.inr (7, [.ref 1, .ref 204, .int 0, .int 0, .int 0, .ref 221])), 51333)) := zr_of 83 (by decide +kernel)
set_option maxRecDepth 100000 in
set_option maxHeartbeats 4000000 in
theorem zc_2_X7_tryNone : Ev 4 86 [.ref 220] ((hp_X ++ hp_M).set 220 (.inr (7, [.ref 1, .ref 204, .int 0, .int 0, .int 0, .ref 221])), 51333) (fun r h' => True ∧ r = none ∧ h' = (((((hp_X ++ hp_M).set 220 (.inr (7, [.ref 1, .ref 204, .int 0, .int 0, .int 1, .ref 221]))).set 211 (.inl (0, .inl (List.replicate 8 (-1))))).set 212 (.inl (0, .inl (List.replicate 8 (-1))))).set 221 (.inl (0, .inl ([(-1), (-1), (-1), (-1)]))), 51333)) := zr_of 763 (by decide +kernel)
set_option maxRecDepth 100000 in
set_option maxHeartbeats 4000000 in
theorem zc_3_X6_search : Ev 4 82 [.ref 222] ((hp_X ++ hp_M).set 222 (.inr (6, [.ref 1, .ref 204, .int 1, .int 0, .int 0, .int 0])), 51333) (fun r h' => True ∧ r = none ∧ h' = ((((hp_X ++ hp_M).set 222 (.inr (6, [.ref 1, .ref 204, .int 1, .int 0, .int 0, .int 1]))).set 211 (.inl (0, .inl (List.replicate 8 (-1))))).set 212 (.inl (0, .inl (List.replicate 8 (-1)))), 51333)) := zr_of 886 (by decide +kernel)
set_option maxRecDepth 100000 in
set_option maxHeartbeats 4000000 in
theorem zc_4_X10_refused : Ev 2 144 [.ref 0, .int (-1)] (hp_X ++ hp_M, 51333) (fun r h' => True ∧ r = some (.int (-1)) ∧ h' = (((hp_X ++ hp_M).set 0 (.inr (10, [.ref 1, .ref 58, .ref 173, .ref 174, .ref 176, .ref 184, .ref 188, .ref 204, .ref 220, .ref 222, .ref 223, .ref 228, .ref 229, .ref 230, .int 0, .int 0, .int 0, .int (-1)]))).set 230 (.inl (0, .inl ([0, 1, 0, 0, 0, 0, 0]))), 51333)) := zr_ofv 79 (by decide +kernel)
set_option maxRecDepth 100000 in
set_option maxHeartbeats 4000000 in
theorem zc_5_X1_layOut : Ev 1 16 [.ref 204, .int 0] (hp_X ++ hp_M, 51333) (fun r h' => True ∧ r = none ∧ h' = (hp_X ++ hp_M, 51333)) := zr_of 83 (by decide +kernel)
set_option maxRecDepth 100000 in
set_option maxHeartbeats 4000000 in
theorem zc_6_X1_runWhole : Ev 4 18 [.ref 204] (hp_X ++ hp_M, 51333) (fun r h' => True ∧ r = none ∧ h' = ((((hp_X ++ hp_M).set 211 (.inl (0, .inl (List.replicate 8 (-1))))).set 212 (.inl (0, .inl (List.replicate 8 (-1))))).set 219 (.inl (0, .inl (List.replicate 800 (-1)))), 51333)) := zr_of 13149 (by decide +kernel)
set_option maxRecDepth 100000 in
set_option maxHeartbeats 4000000 in
theorem zc_7_X0_become : Ev 2 2 [.ref 59, .ref 1] (hp_X ++ hp_M, 51333) (fun r h' => True ∧ r = none ∧ h' = (hp_X ++ hp_M, 51333)) := zr_of 750 (by decide +kernel)
set_option maxRecDepth 100000 in
set_option maxHeartbeats 4000000 in
theorem zc_8_X0_become : Ev 2 2 [.ref 116, .ref 1] (hp_X ++ hp_M, 51333) (fun r h' => True ∧ r = none ∧ h' = (hp_X ++ hp_M, 51333)) := zr_of 750 (by decide +kernel)
set_option maxRecDepth 100000 in
set_option maxHeartbeats 4000000 in
theorem zc_9_X2_firstRestless : Ev 4 42 [.ref 223] (hp_X ++ hp_M, 51333) (fun r h' => True ∧ r = some (.int (-1)) ∧ h' = ((hp_X ++ hp_M).set 223 (.inr (2, [.ref 1, .ref 185, .ref 224, .ref 225, .ref 226, .int 1, .int 0, .int 0, .int 0, .int 0, .int 0, .int 0, .ref 227])), 51333)) := zr_ofv 115 (by decide +kernel)
set_option maxRecDepth 100000 in
set_option maxHeartbeats 4000000 in
theorem zc_10_X2_settle : Ev 4 43 [.ref 223] (hp_X ++ hp_M, 51333) (fun r h' => True ∧ r = none ∧ h' = ((hp_X ++ hp_M).set 223 (.inr (2, [.ref 1, .ref 185, .ref 224, .ref 225, .ref 226, .int 1, .int 0, .int 0, .int 0, .int 0, .int 1, .int 1, .ref 227])), 51333)) := zr_of 152 (by decide +kernel)
