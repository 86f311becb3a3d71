set_option maxRecDepth 100000 in
set_option maxHeartbeats 4000000 in
theorem zx_X10_count (a1 : Int32) : Ev 14 142 [.ref 0, .int a1] (hp_X ++ hp_M, 51333) (fun r h' => r = some (.int (sp_count a1)) ∧ IsX h'.1 ∧ h'.2 = 51333) := by
  refine Ev.mk rfl rfl ⟨Nat.le_of_ble_eq_true rfl, Or.inr (en_rcI hx_0 rfl)⟩ ?_
  show At _ none _ _ (0, [(0, .ref 0), (1, .int a1)], [], (hp_X ++ hp_M, 51333)) _
  refine At.enter rfl ?_
  refine r_iload_n rfl ?_
  by_cases c1_0 : (a1).toInt = 0
  · refine r_tsw 76 (by rw [c1_0]; rfl) ?_
    refine At.enter rfl ?_
    refine r_aload_n rfl ?_
    refine r_get (v := .ref 1) hx_0 rfl ?_
    refine r_get (v := .int 0) hx_1 rfl ?_
    refine r_ireti ?_
    exact ⟨congrArg (fun z => some (Value.int z)) (by unfold sp_count; (repeat' split) <;> first | rfl | omega), IsX.base, rfl⟩
  by_cases c1_1 : (a1).toInt = 1
  · refine r_tsw 84 (by rw [c1_1]; rfl) ?_
    refine At.enter rfl ?_
    refine r_aload_n rfl ?_
    refine r_get (v := .ref 1) hx_0 rfl ?_
    refine r_get (v := .int 0) hx_1 rfl ?_
    refine r_ireti ?_
    exact ⟨congrArg (fun z => some (Value.int z)) (by unfold sp_count; (repeat' split) <;> first | rfl | omega), IsX.base, rfl⟩
  by_cases c1_2 : (a1).toInt = 2
  · refine r_tsw 92 (by rw [c1_2]; rfl) ?_
    refine At.enter rfl ?_
    refine r_aload_n rfl ?_
    refine r_get (v := .ref 1) hx_0 rfl ?_
    refine r_get (v := .int 0) hx_1 rfl ?_
    refine r_ireti ?_
    exact ⟨congrArg (fun z => some (Value.int z)) (by unfold sp_count; (repeat' split) <;> first | rfl | omega), IsX.base, rfl⟩
  by_cases c1_3 : (a1).toInt = 3
  · refine r_tsw 100 (by rw [c1_3]; rfl) ?_
    refine At.enter rfl ?_
    refine r_aload_n rfl ?_
    refine r_get (v := .ref 1) hx_0 rfl ?_
    refine r_get (v := .int 0) hx_1 rfl ?_
    refine r_ireti ?_
    exact ⟨congrArg (fun z => some (Value.int z)) (by unfold sp_count; (repeat' split) <;> first | rfl | omega), IsX.base, rfl⟩
  by_cases c1_4 : (a1).toInt = 4
  · refine r_tsw 108 (by rw [c1_4]; rfl) ?_
    refine At.enter rfl ?_
    refine r_aload_n rfl ?_
    refine r_callV1s (True) (.ref 188) (((((((hp_X ++ hp_M).set 189 (.inl (0, .inl (List.replicate 12 0)))).set 190 (.inl (0, .inl (List.replicate 12 0)))).set 195 (.inl (0, .inl (List.replicate 8 (-1))))).set 196 (.inl (0, .inl (List.replicate 8 (-1))))).set 203 (.inl (0, .inl (List.replicate 800 (-1))))).set 0 (.inr (10, [.ref 1, .ref 58, .ref 173, .ref 174, .ref 176, .ref 184, .ref 188, .ref 204, .ref 220, .ref 222, .ref 223, .ref 228, .ref 229, .ref 230, .int 1, .int 0, .int 0, .int 0])), 51333) 112 rfl [.ref 0] [] (Nat.le_of_ble_eq_true rfl) rfl ?_ (fun _ => ?_)
    · refine Ev.mk rfl rfl ⟨Nat.le_of_ble_eq_true rfl, Or.inr (en_rcI hx_0 rfl)⟩ ?_
      show At _ none _ _ (0, [(0, .ref 0)], [], (hp_X ++ hp_M, 51333)) _
      refine At.enter rfl ?_
      refine r_aload_n rfl ?_
      refine r_get (v := .int 0) hx_0 rfl ?_
      refine r_iff 7 rfl (by decide) ?_
      refine At.enter rfl ?_
      refine r_aload_n rfl ?_
      refine r_get (v := .ref 188) hx_0 rfl ?_
      refine r_iconst 0 rfl ?_
      refine r_callV1v (True)  (((hp_X ++ hp_M).set 189 (.inl (0, .inl (List.replicate 12 0)))).set 190 (.inl (0, .inl (List.replicate 12 0))), 51333) 15 rfl [.ref 188, .int 0] [] (Nat.le_of_ble_eq_true rfl) rfl ?_ (fun _ => ?_)
      · refine Ev.mk rfl rfl ⟨Nat.le_of_ble_eq_true rfl, Or.inr (en_rcI hx_188 rfl)⟩ ?_
        show At _ none _ _ (0, [(0, .ref 188), (1, .int 0)], [], (hp_X ++ hp_M, 51333)) _
        refine At.enter rfl ?_
        refine r_aload_n rfl ?_
        refine r_get (v := .ref 1) hx_188 rfl ?_
        refine r_get (v := .ref 3) hx_1 rfl ?_
        refine r_iconst 0 rfl ?_
        refine r_aload_n rfl ?_
        refine r_get (v := .ref 189) hx_188 rfl ?_
        refine r_iconst 0 rfl ?_
        refine r_bipush 12 rfl ?_
        refine r_cpy rfl hx_3 hx_189 (by decide +kernel) (List.replicate 12 0) (by decide +kernel) ?_
        refine r_aload_n rfl ?_
        refine r_get (v := .ref 1) (en_gs_ne (by decide) hx_188) rfl ?_
        refine r_get (v := .ref 4) (en_gs_ne (by decide) hx_1) rfl ?_
        refine r_iconst 0 rfl ?_
        refine r_aload_n rfl ?_
        refine r_get (v := .ref 190) (en_gs_ne (by decide) hx_188) rfl ?_
        refine r_iconst 0 rfl ?_
        refine r_bipush 12 rfl ?_
        refine r_cpy rfl (en_gs_ne (by decide) hx_4) (en_gs_ne (by decide) hx_190) (by decide +kernel) (List.replicate 12 0) (by decide +kernel) ?_
        refine r_iconst 0 rfl ?_
        refine r_istore_n ([(2, .int 0), (0, .ref 188), (1, .int 0)]) rfl ?_
        refine Ar.fall 38 rfl ?_
        refine At.enter rfl ?_
        refine r_iload_n rfl ?_
        refine r_aload_n rfl ?_
        refine r_get (v := .ref 1) (en_gs_ne (by decide) (en_gs_ne (by decide) hx_188)) rfl ?_
        refine r_get (v := .int 0) (en_gs_ne (by decide) (en_gs_ne (by decide) hx_1)) rfl ?_
        refine r_ict (by decide) ?_
        refine At.enter rfl ?_
        refine r_iconst 0 rfl ?_
        refine r_istore_n ([(2, .int 0), (0, .ref 188), (1, .int 0)]) rfl ?_
        refine Ar.fall 72 rfl ?_
        refine At.enter rfl ?_
        refine r_iload_n rfl ?_
        refine r_aload_n rfl ?_
        refine r_get (v := .ref 1) (en_gs_ne (by decide) (en_gs_ne (by decide) hx_188)) rfl ?_
        refine r_get (v := .int 0) (en_gs_ne (by decide) (en_gs_ne (by decide) hx_1)) rfl ?_
        refine r_ict (by decide) ?_
        refine At.enter rfl ?_
        refine r_vret ?_
        exact ⟨trivial, rfl, rfl⟩
      refine At.enter rfl ?_
      refine r_aload_n rfl ?_
      refine r_get (v := .ref 188) (en_gs_ne (by decide) (en_gs_ne (by decide) hx_0)) rfl ?_
      refine r_callV1v (True)  ((((((hp_X ++ hp_M).set 189 (.inl (0, .inl (List.replicate 12 0)))).set 190 (.inl (0, .inl (List.replicate 12 0)))).set 195 (.inl (0, .inl (List.replicate 8 (-1))))).set 196 (.inl (0, .inl (List.replicate 8 (-1))))).set 203 (.inl (0, .inl (List.replicate 800 (-1)))), 51333) 22 rfl [.ref 188] [] (Nat.le_of_ble_eq_true rfl) rfl ?_ (fun _ => ?_)
      · exact Ev.upn _ zr_rw0
      refine At.enter rfl ?_
      refine r_aload_n rfl ?_
      refine r_iconst 1 rfl ?_
      refine r_putf (en_gs_ne (by decide) (en_gs_ne (by decide) (en_gs_ne (by decide) (en_gs_ne (by decide) (en_gs_ne (by decide) hx_0))))) (Nat.le_of_ble_eq_true rfl) rfl [.ref 1, .ref 58, .ref 173, .ref 174, .ref 176, .ref 184, .ref 188, .ref 204, .ref 220, .ref 222, .ref 223, .ref 228, .ref 229, .ref 230, .int 1, .int 0, .int 0, .int 0] rfl ?_
      refine Ar.fall 27 rfl ?_
      refine At.enter rfl ?_
      refine r_aload_n rfl ?_
      refine r_get (v := .ref 188) (en_gs_eq (en_gs_ne (by decide) (en_gs_ne (by decide) (en_gs_ne (by decide) (en_gs_ne (by decide) (en_gs_ne (by decide) hx_0)))))) rfl ?_
      refine r_aret ?_
      exact ⟨trivial, rfl, rfl⟩
    refine At.enter rfl ?_
    refine r_callV1s (True) (.int 0) (((((((hp_X ++ hp_M).set 189 (.inl (0, .inl (List.replicate 12 0)))).set 190 (.inl (0, .inl (List.replicate 12 0)))).set 195 (.inl (0, .inl (List.replicate 8 (-1))))).set 196 (.inl (0, .inl (List.replicate 8 (-1))))).set 203 (.inl (0, .inl (List.replicate 800 (-1))))).set 0 (.inr (10, [.ref 1, .ref 58, .ref 173, .ref 174, .ref 176, .ref 184, .ref 188, .ref 204, .ref 220, .ref 222, .ref 223, .ref 228, .ref 229, .ref 230, .int 1, .int 0, .int 0, .int 0])), 51333) 115 rfl [.ref 188] [] (Nat.le_of_ble_eq_true rfl) rfl ?_ (fun _ => ?_)
    · refine Ev.mk rfl rfl ⟨Nat.le_of_ble_eq_true rfl, Or.inr (en_rcI (en_gs_ne (by decide) (en_gs_ne (by decide) (en_gs_ne (by decide) (en_gs_ne (by decide) (en_gs_ne (by decide) (en_gs_ne (by decide) hx_188)))))) rfl)⟩ ?_
      show At _ none _ _ (0, [(0, .ref 188)], [], (((((((hp_X ++ hp_M).set 189 (.inl (0, .inl (List.replicate 12 0)))).set 190 (.inl (0, .inl (List.replicate 12 0)))).set 195 (.inl (0, .inl (List.replicate 8 (-1))))).set 196 (.inl (0, .inl (List.replicate 8 (-1))))).set 203 (.inl (0, .inl (List.replicate 800 (-1))))).set 0 (.inr (10, [.ref 1, .ref 58, .ref 173, .ref 174, .ref 176, .ref 184, .ref 188, .ref 204, .ref 220, .ref 222, .ref 223, .ref 228, .ref 229, .ref 230, .int 1, .int 0, .int 0, .int 0])), 51333)) _
      refine At.enter rfl ?_
      refine r_iconst 0 rfl ?_
      refine r_istore_n ([(1, .int 0), (0, .ref 188)]) rfl ?_
      refine r_iconst 0 rfl ?_
      refine r_istore_n ([(2, .int 0), (1, .int 0), (0, .ref 188)]) rfl ?_
      refine Ar.fall 4 rfl ?_
      refine At.enter rfl ?_
      refine r_iload_n rfl ?_
      refine r_aload_n rfl ?_
      refine r_get (v := .ref 1) (en_gs_ne (by decide) (en_gs_ne (by decide) (en_gs_ne (by decide) (en_gs_ne (by decide) (en_gs_ne (by decide) (en_gs_ne (by decide) hx_188)))))) rfl ?_
      refine r_get (v := .int 0) (en_gs_ne (by decide) (en_gs_ne (by decide) (en_gs_ne (by decide) (en_gs_ne (by decide) (en_gs_ne (by decide) (en_gs_ne (by decide) hx_1)))))) rfl ?_
      refine r_ict (by decide) ?_
      refine At.enter rfl ?_
      refine r_iload_n rfl ?_
      refine r_ireti ?_
      exact ⟨trivial, rfl, rfl⟩
    refine At.enter rfl ?_
    refine r_ireti ?_
    exact ⟨congrArg (fun z => some (Value.int z)) (by unfold sp_count; (repeat' split) <;> first | rfl | omega), (IsX.set (IsX.set (IsX.set (IsX.set (IsX.set (IsX.set IsX.base (by decide)) (by decide)) (by decide)) (by decide)) (by decide)) (by decide)), rfl⟩
  by_cases c1_5 : (a1).toInt = 5
  · refine r_tsw 116 (by rw [c1_5]; rfl) ?_
    refine At.enter rfl ?_
    refine r_aload_n rfl ?_
    refine r_callV1s (True) (.ref 188) (((((((hp_X ++ hp_M).set 189 (.inl (0, .inl (List.replicate 12 0)))).set 190 (.inl (0, .inl (List.replicate 12 0)))).set 195 (.inl (0, .inl (List.replicate 8 (-1))))).set 196 (.inl (0, .inl (List.replicate 8 (-1))))).set 203 (.inl (0, .inl (List.replicate 800 (-1))))).set 0 (.inr (10, [.ref 1, .ref 58, .ref 173, .ref 174, .ref 176, .ref 184, .ref 188, .ref 204, .ref 220, .ref 222, .ref 223, .ref 228, .ref 229, .ref 230, .int 1, .int 0, .int 0, .int 0])), 51333) 120 rfl [.ref 0] [] (Nat.le_of_ble_eq_true rfl) rfl ?_ (fun _ => ?_)
    · refine Ev.mk rfl rfl ⟨Nat.le_of_ble_eq_true rfl, Or.inr (en_rcI hx_0 rfl)⟩ ?_
      show At _ none _ _ (0, [(0, .ref 0)], [], (hp_X ++ hp_M, 51333)) _
      refine At.enter rfl ?_
      refine r_aload_n rfl ?_
      refine r_get (v := .int 0) hx_0 rfl ?_
      refine r_iff 7 rfl (by decide) ?_
      refine At.enter rfl ?_
      refine r_aload_n rfl ?_
      refine r_get (v := .ref 188) hx_0 rfl ?_
      refine r_iconst 0 rfl ?_
      refine r_callV1v (True)  (((hp_X ++ hp_M).set 189 (.inl (0, .inl (List.replicate 12 0)))).set 190 (.inl (0, .inl (List.replicate 12 0))), 51333) 15 rfl [.ref 188, .int 0] [] (Nat.le_of_ble_eq_true rfl) rfl ?_ (fun _ => ?_)
      · refine Ev.mk rfl rfl ⟨Nat.le_of_ble_eq_true rfl, Or.inr (en_rcI hx_188 rfl)⟩ ?_
        show At _ none _ _ (0, [(0, .ref 188), (1, .int 0)], [], (hp_X ++ hp_M, 51333)) _
        refine At.enter rfl ?_
        refine r_aload_n rfl ?_
        refine r_get (v := .ref 1) hx_188 rfl ?_
        refine r_get (v := .ref 3) hx_1 rfl ?_
        refine r_iconst 0 rfl ?_
        refine r_aload_n rfl ?_
        refine r_get (v := .ref 189) hx_188 rfl ?_
        refine r_iconst 0 rfl ?_
        refine r_bipush 12 rfl ?_
        refine r_cpy rfl hx_3 hx_189 (by decide +kernel) (List.replicate 12 0) (by decide +kernel) ?_
        refine r_aload_n rfl ?_
        refine r_get (v := .ref 1) (en_gs_ne (by decide) hx_188) rfl ?_
        refine r_get (v := .ref 4) (en_gs_ne (by decide) hx_1) rfl ?_
        refine r_iconst 0 rfl ?_
        refine r_aload_n rfl ?_
        refine r_get (v := .ref 190) (en_gs_ne (by decide) hx_188) rfl ?_
        refine r_iconst 0 rfl ?_
        refine r_bipush 12 rfl ?_
        refine r_cpy rfl (en_gs_ne (by decide) hx_4) (en_gs_ne (by decide) hx_190) (by decide +kernel) (List.replicate 12 0) (by decide +kernel) ?_
        refine r_iconst 0 rfl ?_
        refine r_istore_n ([(2, .int 0), (0, .ref 188), (1, .int 0)]) rfl ?_
        refine Ar.fall 38 rfl ?_
        refine At.enter rfl ?_
        refine r_iload_n rfl ?_
        refine r_aload_n rfl ?_
        refine r_get (v := .ref 1) (en_gs_ne (by decide) (en_gs_ne (by decide) hx_188)) rfl ?_
        refine r_get (v := .int 0) (en_gs_ne (by decide) (en_gs_ne (by decide) hx_1)) rfl ?_
        refine r_ict (by decide) ?_
        refine At.enter rfl ?_
        refine r_iconst 0 rfl ?_
        refine r_istore_n ([(2, .int 0), (0, .ref 188), (1, .int 0)]) rfl ?_
        refine Ar.fall 72 rfl ?_
        refine At.enter rfl ?_
        refine r_iload_n rfl ?_
        refine r_aload_n rfl ?_
        refine r_get (v := .ref 1) (en_gs_ne (by decide) (en_gs_ne (by decide) hx_188)) rfl ?_
        refine r_get (v := .int 0) (en_gs_ne (by decide) (en_gs_ne (by decide) hx_1)) rfl ?_
        refine r_ict (by decide) ?_
        refine At.enter rfl ?_
        refine r_vret ?_
        exact ⟨trivial, rfl, rfl⟩
      refine At.enter rfl ?_
      refine r_aload_n rfl ?_
      refine r_get (v := .ref 188) (en_gs_ne (by decide) (en_gs_ne (by decide) hx_0)) rfl ?_
      refine r_callV1v (True)  ((((((hp_X ++ hp_M).set 189 (.inl (0, .inl (List.replicate 12 0)))).set 190 (.inl (0, .inl (List.replicate 12 0)))).set 195 (.inl (0, .inl (List.replicate 8 (-1))))).set 196 (.inl (0, .inl (List.replicate 8 (-1))))).set 203 (.inl (0, .inl (List.replicate 800 (-1)))), 51333) 22 rfl [.ref 188] [] (Nat.le_of_ble_eq_true rfl) rfl ?_ (fun _ => ?_)
      · exact Ev.upn _ zr_rw0
      refine At.enter rfl ?_
      refine r_aload_n rfl ?_
      refine r_iconst 1 rfl ?_
      refine r_putf (en_gs_ne (by decide) (en_gs_ne (by decide) (en_gs_ne (by decide) (en_gs_ne (by decide) (en_gs_ne (by decide) hx_0))))) (Nat.le_of_ble_eq_true rfl) rfl [.ref 1, .ref 58, .ref 173, .ref 174, .ref 176, .ref 184, .ref 188, .ref 204, .ref 220, .ref 222, .ref 223, .ref 228, .ref 229, .ref 230, .int 1, .int 0, .int 0, .int 0] rfl ?_
      refine Ar.fall 27 rfl ?_
      refine At.enter rfl ?_
      refine r_aload_n rfl ?_
      refine r_get (v := .ref 188) (en_gs_eq (en_gs_ne (by decide) (en_gs_ne (by decide) (en_gs_ne (by decide) (en_gs_ne (by decide) (en_gs_ne (by decide) hx_0)))))) rfl ?_
      refine r_aret ?_
      exact ⟨trivial, rfl, rfl⟩
    refine At.enter rfl ?_
    refine r_callV1s (True) (.int 0) (((((((hp_X ++ hp_M).set 189 (.inl (0, .inl (List.replicate 12 0)))).set 190 (.inl (0, .inl (List.replicate 12 0)))).set 195 (.inl (0, .inl (List.replicate 8 (-1))))).set 196 (.inl (0, .inl (List.replicate 8 (-1))))).set 203 (.inl (0, .inl (List.replicate 800 (-1))))).set 0 (.inr (10, [.ref 1, .ref 58, .ref 173, .ref 174, .ref 176, .ref 184, .ref 188, .ref 204, .ref 220, .ref 222, .ref 223, .ref 228, .ref 229, .ref 230, .int 1, .int 0, .int 0, .int 0])), 51333) 123 rfl [.ref 188] [] (Nat.le_of_ble_eq_true rfl) rfl ?_ (fun _ => ?_)
    · refine Ev.mk rfl rfl ⟨Nat.le_of_ble_eq_true rfl, Or.inr (en_rcI (en_gs_ne (by decide) (en_gs_ne (by decide) (en_gs_ne (by decide) (en_gs_ne (by decide) (en_gs_ne (by decide) (en_gs_ne (by decide) hx_188)))))) rfl)⟩ ?_
      show At _ none _ _ (0, [(0, .ref 188)], [], (((((((hp_X ++ hp_M).set 189 (.inl (0, .inl (List.replicate 12 0)))).set 190 (.inl (0, .inl (List.replicate 12 0)))).set 195 (.inl (0, .inl (List.replicate 8 (-1))))).set 196 (.inl (0, .inl (List.replicate 8 (-1))))).set 203 (.inl (0, .inl (List.replicate 800 (-1))))).set 0 (.inr (10, [.ref 1, .ref 58, .ref 173, .ref 174, .ref 176, .ref 184, .ref 188, .ref 204, .ref 220, .ref 222, .ref 223, .ref 228, .ref 229, .ref 230, .int 1, .int 0, .int 0, .int 0])), 51333)) _
      refine At.enter rfl ?_
      refine r_iconst 0 rfl ?_
      refine r_istore_n ([(1, .int 0), (0, .ref 188)]) rfl ?_
      refine r_iconst 0 rfl ?_
      refine r_istore_n ([(2, .int 0), (1, .int 0), (0, .ref 188)]) rfl ?_
      refine Ar.fall 4 rfl ?_
      refine At.enter rfl ?_
      refine r_iload_n rfl ?_
      refine r_aload_n rfl ?_
      refine r_get (v := .ref 1) (en_gs_ne (by decide) (en_gs_ne (by decide) (en_gs_ne (by decide) (en_gs_ne (by decide) (en_gs_ne (by decide) (en_gs_ne (by decide) hx_188)))))) rfl ?_
      refine r_get (v := .int 0) (en_gs_ne (by decide) (en_gs_ne (by decide) (en_gs_ne (by decide) (en_gs_ne (by decide) (en_gs_ne (by decide) (en_gs_ne (by decide) hx_1)))))) rfl ?_
      refine r_ict (by decide) ?_
      refine At.enter rfl ?_
      refine r_iload_n rfl ?_
      refine r_ireti ?_
      exact ⟨trivial, rfl, rfl⟩
    refine At.enter rfl ?_
    refine r_ireti ?_
    exact ⟨congrArg (fun z => some (Value.int z)) (by unfold sp_count; (repeat' split) <;> first | rfl | omega), (IsX.set (IsX.set (IsX.set (IsX.set (IsX.set (IsX.set IsX.base (by decide)) (by decide)) (by decide)) (by decide)) (by decide)) (by decide)), rfl⟩
  by_cases c1_6 : (a1).toInt = 6
  · refine r_tsw 124 (by rw [c1_6]; rfl) ?_
    refine At.enter rfl ?_
    refine r_aload_n rfl ?_
    refine r_get (v := .ref 174) hx_0 rfl ?_
    refine r_get (v := .int 0) hx_174 rfl ?_
    refine r_ireti ?_
    exact ⟨congrArg (fun z => some (Value.int z)) (by unfold sp_count; (repeat' split) <;> first | rfl | omega), IsX.base, rfl⟩
  by_cases c1_7 : (a1).toInt = 7
  · refine r_tsw 132 (by rw [c1_7]; rfl) ?_
    refine At.enter rfl ?_
    refine r_aload_n rfl ?_
    refine r_get (v := .ref 230) hx_0 rfl ?_
    refine r_iconst 1 rfl ?_
    refine r_iald (v := 0) hx_230 (by decide) rfl ?_
    refine r_ireti ?_
    exact ⟨congrArg (fun z => some (Value.int z)) (by unfold sp_count; (repeat' split) <;> first | rfl | omega), IsX.base, rfl⟩
  by_cases c1_8 : (a1).toInt = 8
  · refine r_tsw 139 (by rw [c1_8]; rfl) ?_
    refine At.enter rfl ?_
    refine r_aload_n rfl ?_
    refine r_get (v := .ref 230) hx_0 rfl ?_
    refine r_iconst 2 rfl ?_
    refine r_iald (v := 0) hx_230 (by decide) rfl ?_
    refine r_ireti ?_
    exact ⟨congrArg (fun z => some (Value.int z)) (by unfold sp_count; (repeat' split) <;> first | rfl | omega), IsX.base, rfl⟩
  by_cases c1_9 : (a1).toInt = 9
  · refine r_tsw 146 (by rw [c1_9]; rfl) ?_
    refine At.enter rfl ?_
    refine r_aload_n rfl ?_
    refine r_get (v := .ref 230) hx_0 rfl ?_
    refine r_iconst 3 rfl ?_
    refine r_iald (v := 0) hx_230 (by decide) rfl ?_
    refine r_ireti ?_
    exact ⟨congrArg (fun z => some (Value.int z)) (by unfold sp_count; (repeat' split) <;> first | rfl | omega), IsX.base, rfl⟩
  by_cases c1_10 : (a1).toInt = 10
  · refine r_tsw 153 (by rw [c1_10]; rfl) ?_
    refine At.enter rfl ?_
    refine r_aload_n rfl ?_
    refine r_get (v := .ref 230) hx_0 rfl ?_
    refine r_iconst 5 rfl ?_
    refine r_iald (v := 0) hx_230 (by decide) rfl ?_
    refine r_ireti ?_
    exact ⟨congrArg (fun z => some (Value.int z)) (by unfold sp_count; (repeat' split) <;> first | rfl | omega), IsX.base, rfl⟩
  by_cases c1_11 : (a1).toInt = 11
  · refine r_tsw 160 (by rw [c1_11]; rfl) ?_
    refine At.enter rfl ?_
    refine r_aload_n rfl ?_
    refine r_get (v := .ref 230) hx_0 rfl ?_
    refine r_bipush 6 rfl ?_
    refine r_iald (v := 0) hx_230 (by decide) rfl ?_
    refine r_ireti ?_
    exact ⟨congrArg (fun z => some (Value.int z)) (by unfold sp_count; (repeat' split) <;> first | rfl | omega), IsX.base, rfl⟩
  by_cases c1_12 : (a1).toInt = 12
  · refine r_tsw 168 (by rw [c1_12]; rfl) ?_
    refine At.enter rfl ?_
    refine r_aload_n rfl ?_
    refine r_get (v := .ref 1) hx_0 rfl ?_
    refine r_get (v := .int (-1)) hx_1 rfl ?_
    refine r_ireti ?_
    exact ⟨congrArg (fun z => some (Value.int z)) (by unfold sp_count; (repeat' split) <;> first | rfl | omega), IsX.base, rfl⟩
  by_cases c1_13 : (a1).toInt = 13
  · refine r_tsw 176 (by rw [c1_13]; rfl) ?_
    refine At.enter rfl ?_
    refine r_aload_n rfl ?_
    refine r_get (v := .ref 1) hx_0 rfl ?_
    refine r_get (v := .int 60) hx_1 rfl ?_
    refine r_ireti ?_
    exact ⟨congrArg (fun z => some (Value.int z)) (by unfold sp_count; (repeat' split) <;> first | rfl | omega), IsX.base, rfl⟩
  by_cases c1_14 : (a1).toInt = 14
  · refine r_tsw 184 (by rw [c1_14]; rfl) ?_
    refine At.enter rfl ?_
    refine r_aload_n rfl ?_
    refine r_get (v := .ref 1) hx_0 rfl ?_
    refine r_get (v := .int 2) hx_1 rfl ?_
    refine r_ireti ?_
    exact ⟨congrArg (fun z => some (Value.int z)) (by unfold sp_count; (repeat' split) <;> first | rfl | omega), IsX.base, rfl⟩
  have c2 : (a1).toInt < 0 ∨ 14 < (a1).toInt := by omega
  refine r_tsw 192 (by unfold en_sw; rw [if_pos c2]; rfl) ?_
  refine At.enter rfl ?_
  refine r_iconst (-1) rfl ?_
  refine r_ireti ?_
  exact ⟨congrArg (fun z => some (Value.int z)) (by unfold sp_count; (repeat' split) <;> first | rfl | omega), IsX.base, rfl⟩
