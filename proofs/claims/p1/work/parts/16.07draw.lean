set_option maxRecDepth 100000 in
set_option maxHeartbeats 4000000 in
theorem zx_X10_draw (a1 : Int32) : Ev 14 138 [.ref 0, .int a1] (hp_X ++ hp_M, 51333) (fun r h' => r = some (.int (sp_draw a1)) ∧ IsX h'.1 ∧ h'.2 = 51333) := by
  refine Ev.mk rfl rfl ⟨Nat.le_of_ble_eq_true rfl, Or.inr (en_rcI hx_0 rfl)⟩ ?_
  show At _ none _ _ (0, [(0, .ref 0), (1, .int a1)], [], (hp_X ++ hp_M, 51333)) _
  refine At.enter rfl ?_
  refine r_iload_n rfl ?_
  refine r_iconst 0 rfl ?_
  refine r_ldcw 1000000 rfl ?_
  refine r_callS3s (((a1).toInt < (0))) (((a1).toInt ≥ (0)) ∧ ((a1).toInt > (1000000))) (((a1).toInt ≥ (0)) ∧ ((a1).toInt ≤ (1000000))) (.int 0) (.int 0) (.int 1) (hp_X ++ hp_M, 51333) (hp_X ++ hp_M, 51333) (hp_X ++ hp_M, 51333) 8 rfl [.int a1, .int 0, .int 1000000] [] (Nat.le_of_ble_eq_true rfl) rfl ?_ (fun c1_ => ?_) (fun ⟨c1_, c2_⟩ => ?_) (fun ⟨c1_, c2_⟩ => ?_)
  · refine Ev.mk rfl rfl ⟨Nat.le_of_ble_eq_true rfl, Or.inl rfl⟩ ?_
    show At _ none _ _ (0, [(0, .int a1), (1, .int 0), (2, .int 1000000)], [], (hp_X ++ hp_M, 51333)) _
    refine At.enter rfl ?_
    refine r_iload_n rfl ?_
    refine r_iload_n rfl ?_
    refine r_ics 5 rfl (fun c1 => ?_) (fun c1 => ?_)
    · have c1_ : (a1).toInt < (0) := (by have z := en_i_lt_t c1; (try simp only [Int32.toInt_toInt64] at z); exact z)
      refine At.enter rfl ?_
      refine r_iconst 0 rfl ?_
      refine Ar.fall 15 rfl ?_
      refine At.enter rfl ?_
      refine r_iretz (by decide) ?_
      exact Or.inl ⟨c1_, rfl, rfl⟩
    · have c1_ : (a1).toInt ≥ (0) := (by have z := en_i_lt_f c1; (try simp only [Int32.toInt_toInt64] at z); exact z)
      refine At.enter rfl ?_
      refine r_iload_n rfl ?_
      refine r_iload_n rfl ?_
      refine r_ics 10 rfl (fun c2 => ?_) (fun c2 => ?_)
      · have c2_ : (a1).toInt > (1000000) := (by have z := en_i_gt_t c2; (try simp only [Int32.toInt_toInt64] at z); exact z)
        refine At.enter rfl ?_
        refine r_iconst 0 rfl ?_
        refine Ar.fall 15 rfl ?_
        refine At.enter rfl ?_
        refine r_iretz (by decide) ?_
        exact Or.inr (Or.inl ⟨⟨c1_, c2_⟩, rfl, rfl⟩)
      · have c2_ : (a1).toInt ≤ (1000000) := (by have z := en_i_gt_f c2; (try simp only [Int32.toInt_toInt64] at z); exact z)
        refine At.enter rfl ?_
        refine r_iconst 1 rfl ?_
        refine r_goto ?_
        refine At.enter rfl ?_
        refine r_iretz (by decide) ?_
        exact Or.inr (Or.inr (⟨⟨c1_, c2_⟩, rfl, rfl⟩))
  · refine At.enter rfl ?_
    refine r_iff 11 rfl (by decide) ?_
    refine At.enter rfl ?_
    refine r_aload_n rfl ?_
    refine r_iconst (-1) rfl ?_
    refine r_callV1s (True) (.int (-1)) (((hp_X ++ hp_M).set 0 (.inr (10, [.ref 1, .ref 58, .ref 173, .ref 174, .ref 176, .ref 184, .ref 188, .ref 204, .ref 220, .ref 222, .ref 223, .ref 228, .ref 229, .ref 230, .int 0, .int 0, .int 0, .int (-1)]))).set 230 (.inl (0, .inl ([0, 1, 0, 0, 0, 0, 0]))), 51333) 16 rfl [.ref 0, .int (-1)] [] (Nat.le_of_ble_eq_true rfl) rfl ?_ (fun _ => ?_)
    · refine Ev.mk rfl rfl ⟨Nat.le_of_ble_eq_true rfl, Or.inr (en_rcI hx_0 rfl)⟩ ?_
      show At _ none _ _ (0, [(0, .ref 0), (1, .int (-1))], [], (hp_X ++ hp_M, 51333)) _
      refine At.enter rfl ?_
      refine r_aload_n rfl ?_
      refine r_iload_n rfl ?_
      refine r_putf hx_0 (Nat.le_of_ble_eq_true rfl) rfl [.ref 1, .ref 58, .ref 173, .ref 174, .ref 176, .ref 184, .ref 188, .ref 204, .ref 220, .ref 222, .ref 223, .ref 228, .ref 229, .ref 230, .int 0, .int 0, .int 0, .int (-1)] rfl ?_
      refine r_iload_n rfl ?_
      refine r_ineg 1 rfl ?_
      refine r_iconst 0 rfl ?_
      refine r_bipush 6 rfl ?_
      refine r_callS1s (True) (.int 1) ((hp_X ++ hp_M).set 0 (.inr (10, [.ref 1, .ref 58, .ref 173, .ref 174, .ref 176, .ref 184, .ref 188, .ref 204, .ref 220, .ref 222, .ref 223, .ref 228, .ref 229, .ref 230, .int 0, .int 0, .int 0, .int (-1)])), 51333) 13 rfl [.int 1, .int 0, .int 6] [] (Nat.le_of_ble_eq_true rfl) rfl ?_ (fun _ => ?_)
      · refine Ev.mk rfl rfl ⟨Nat.le_of_ble_eq_true rfl, Or.inl rfl⟩ ?_
        show At _ none _ _ (0, [(0, .int 1), (1, .int 0), (2, .int 6)], [], ((hp_X ++ hp_M).set 0 (.inr (10, [.ref 1, .ref 58, .ref 173, .ref 174, .ref 176, .ref 184, .ref 188, .ref 204, .ref 220, .ref 222, .ref 223, .ref 228, .ref 229, .ref 230, .int 0, .int 0, .int 0, .int (-1)])), 51333)) _
        refine At.enter rfl ?_
        refine r_iload_n rfl ?_
        refine r_iload_n rfl ?_
        refine r_icf 5 rfl (by decide) ?_
        refine At.enter rfl ?_
        refine r_iload_n rfl ?_
        refine r_iload_n rfl ?_
        refine r_icf 10 rfl (by decide) ?_
        refine At.enter rfl ?_
        refine r_iconst 1 rfl ?_
        refine r_goto ?_
        refine At.enter rfl ?_
        refine r_iretz (by decide) ?_
        exact ⟨trivial, rfl, rfl⟩
      refine At.enter rfl ?_
      refine r_iff 16 rfl (by decide) ?_
      refine At.enter rfl ?_
      refine r_aload_n rfl ?_
      refine r_get (v := .ref 230) (en_gs_eq hx_0) rfl ?_
      refine r_iload_n rfl ?_
      refine r_ineg 1 rfl ?_
      refine r_dup2 ⟨rfl, rfl⟩ ?_
      refine r_iald (v := 0) (en_gs_ne (by decide) hx_230) (by decide) rfl ?_
      refine r_iconst 1 rfl ?_
      refine r_iadd 1 rfl ?_
      refine r_iast (en_gs_ne (by decide) hx_230) (by decide) (Nat.le_of_ble_eq_true rfl) ([0, 1, 0, 0, 0, 0, 0]) (by decide +kernel) ?_
      refine Ar.fall 27 rfl ?_
      refine At.enter rfl ?_
      refine r_iload_n rfl ?_
      refine r_ireti ?_
      exact ⟨trivial, rfl, rfl⟩
    refine At.enter rfl ?_
    refine r_ireti ?_
    exact ⟨congrArg (fun z => some (Value.int z)) (by unfold sp_draw; (repeat' split) <;> first | rfl | omega), (IsX.set (IsX.set IsX.base (by decide)) (by decide)), rfl⟩
  · refine At.enter rfl ?_
    refine r_iff 11 rfl (by decide) ?_
    refine At.enter rfl ?_
    refine r_aload_n rfl ?_
    refine r_iconst (-1) rfl ?_
    refine r_callV1s (True) (.int (-1)) (((hp_X ++ hp_M).set 0 (.inr (10, [.ref 1, .ref 58, .ref 173, .ref 174, .ref 176, .ref 184, .ref 188, .ref 204, .ref 220, .ref 222, .ref 223, .ref 228, .ref 229, .ref 230, .int 0, .int 0, .int 0, .int (-1)]))).set 230 (.inl (0, .inl ([0, 1, 0, 0, 0, 0, 0]))), 51333) 16 rfl [.ref 0, .int (-1)] [] (Nat.le_of_ble_eq_true rfl) rfl ?_ (fun _ => ?_)
    · refine Ev.mk rfl rfl ⟨Nat.le_of_ble_eq_true rfl, Or.inr (en_rcI hx_0 rfl)⟩ ?_
      show At _ none _ _ (0, [(0, .ref 0), (1, .int (-1))], [], (hp_X ++ hp_M, 51333)) _
      refine At.enter rfl ?_
      refine r_aload_n rfl ?_
      refine r_iload_n rfl ?_
      refine r_putf hx_0 (Nat.le_of_ble_eq_true rfl) rfl [.ref 1, .ref 58, .ref 173, .ref 174, .ref 176, .ref 184, .ref 188, .ref 204, .ref 220, .ref 222, .ref 223, .ref 228, .ref 229, .ref 230, .int 0, .int 0, .int 0, .int (-1)] rfl ?_
      refine r_iload_n rfl ?_
      refine r_ineg 1 rfl ?_
      refine r_iconst 0 rfl ?_
      refine r_bipush 6 rfl ?_
      refine r_callS1s (True) (.int 1) ((hp_X ++ hp_M).set 0 (.inr (10, [.ref 1, .ref 58, .ref 173, .ref 174, .ref 176, .ref 184, .ref 188, .ref 204, .ref 220, .ref 222, .ref 223, .ref 228, .ref 229, .ref 230, .int 0, .int 0, .int 0, .int (-1)])), 51333) 13 rfl [.int 1, .int 0, .int 6] [] (Nat.le_of_ble_eq_true rfl) rfl ?_ (fun _ => ?_)
      · refine Ev.mk rfl rfl ⟨Nat.le_of_ble_eq_true rfl, Or.inl rfl⟩ ?_
        show At _ none _ _ (0, [(0, .int 1), (1, .int 0), (2, .int 6)], [], ((hp_X ++ hp_M).set 0 (.inr (10, [.ref 1, .ref 58, .ref 173, .ref 174, .ref 176, .ref 184, .ref 188, .ref 204, .ref 220, .ref 222, .ref 223, .ref 228, .ref 229, .ref 230, .int 0, .int 0, .int 0, .int (-1)])), 51333)) _
        refine At.enter rfl ?_
        refine r_iload_n rfl ?_
        refine r_iload_n rfl ?_
        refine r_icf 5 rfl (by decide) ?_
        refine At.enter rfl ?_
        refine r_iload_n rfl ?_
        refine r_iload_n rfl ?_
        refine r_icf 10 rfl (by decide) ?_
        refine At.enter rfl ?_
        refine r_iconst 1 rfl ?_
        refine r_goto ?_
        refine At.enter rfl ?_
        refine r_iretz (by decide) ?_
        exact ⟨trivial, rfl, rfl⟩
      refine At.enter rfl ?_
      refine r_iff 16 rfl (by decide) ?_
      refine At.enter rfl ?_
      refine r_aload_n rfl ?_
      refine r_get (v := .ref 230) (en_gs_eq hx_0) rfl ?_
      refine r_iload_n rfl ?_
      refine r_ineg 1 rfl ?_
      refine r_dup2 ⟨rfl, rfl⟩ ?_
      refine r_iald (v := 0) (en_gs_ne (by decide) hx_230) (by decide) rfl ?_
      refine r_iconst 1 rfl ?_
      refine r_iadd 1 rfl ?_
      refine r_iast (en_gs_ne (by decide) hx_230) (by decide) (Nat.le_of_ble_eq_true rfl) ([0, 1, 0, 0, 0, 0, 0]) (by decide +kernel) ?_
      refine Ar.fall 27 rfl ?_
      refine At.enter rfl ?_
      refine r_iload_n rfl ?_
      refine r_ireti ?_
      exact ⟨trivial, rfl, rfl⟩
    refine At.enter rfl ?_
    refine r_ireti ?_
    exact ⟨congrArg (fun z => some (Value.int z)) (by unfold sp_draw; (repeat' split) <;> first | rfl | omega), (IsX.set (IsX.set IsX.base (by decide)) (by decide)), rfl⟩
  · refine At.enter rfl ?_
    refine r_ift (by decide) ?_
    refine At.enter rfl ?_
    refine r_aload_n rfl ?_
    refine r_get (v := .ref 204) hx_0 rfl ?_
    refine r_iconst 0 rfl ?_
    refine r_callV1v (True)  (((hp_X ++ hp_M).set 205 (.inl (0, .inl (List.replicate 12 0)))).set 206 (.inl (0, .inl (List.replicate 12 0))), 51333) 25 rfl [.ref 204, .int 0] [] (Nat.le_of_ble_eq_true rfl) rfl ?_ (fun _ => ?_)
    · refine Ev.mk rfl rfl ⟨Nat.le_of_ble_eq_true rfl, Or.inr (en_rcI hx_204 rfl)⟩ ?_
      show At _ none _ _ (0, [(0, .ref 204), (1, .int 0)], [], (hp_X ++ hp_M, 51333)) _
      refine At.enter rfl ?_
      refine r_aload_n rfl ?_
      refine r_get (v := .ref 1) hx_204 rfl ?_
      refine r_get (v := .ref 3) hx_1 rfl ?_
      refine r_iconst 0 rfl ?_
      refine r_aload_n rfl ?_
      refine r_get (v := .ref 205) hx_204 rfl ?_
      refine r_iconst 0 rfl ?_
      refine r_bipush 12 rfl ?_
      refine r_cpy rfl hx_3 hx_205 (by decide +kernel) (List.replicate 12 0) (by decide +kernel) ?_
      refine r_aload_n rfl ?_
      refine r_get (v := .ref 1) (en_gs_ne (by decide) hx_204) rfl ?_
      refine r_get (v := .ref 4) (en_gs_ne (by decide) hx_1) rfl ?_
      refine r_iconst 0 rfl ?_
      refine r_aload_n rfl ?_
      refine r_get (v := .ref 206) (en_gs_ne (by decide) hx_204) rfl ?_
      refine r_iconst 0 rfl ?_
      refine r_bipush 12 rfl ?_
      refine r_cpy rfl (en_gs_ne (by decide) hx_4) (en_gs_ne (by decide) hx_206) (by decide +kernel) (List.replicate 12 0) (by decide +kernel) ?_
      refine r_iconst 0 rfl ?_
      refine r_istore_n ([(2, .int 0), (0, .ref 204), (1, .int 0)]) rfl ?_
      refine Ar.fall 38 rfl ?_
      refine At.enter rfl ?_
      refine r_iload_n rfl ?_
      refine r_aload_n rfl ?_
      refine r_get (v := .ref 1) (en_gs_ne (by decide) (en_gs_ne (by decide) hx_204)) rfl ?_
      refine r_get (v := .int 0) (en_gs_ne (by decide) (en_gs_ne (by decide) hx_1)) rfl ?_
      refine r_ict (by decide) ?_
      refine At.enter rfl ?_
      refine r_iconst 0 rfl ?_
      refine r_istore_n ([(2, .int 0), (0, .ref 204), (1, .int 0)]) rfl ?_
      refine Ar.fall 72 rfl ?_
      refine At.enter rfl ?_
      refine r_iload_n rfl ?_
      refine r_aload_n rfl ?_
      refine r_get (v := .ref 1) (en_gs_ne (by decide) (en_gs_ne (by decide) hx_204)) rfl ?_
      refine r_get (v := .int 0) (en_gs_ne (by decide) (en_gs_ne (by decide) hx_1)) rfl ?_
      refine r_ict (by decide) ?_
      refine At.enter rfl ?_
      refine r_vret ?_
      exact ⟨trivial, rfl, rfl⟩
    refine At.enter rfl ?_
    refine r_iload_n rfl ?_
    refine r_istore_n ([(2, .int a1), (0, .ref 0), (1, .int a1)]) rfl ?_
    refine r_iconst 0 rfl ?_
    refine r_istore_n ([(3, .int 0), (2, .int a1), (0, .ref 0), (1, .int a1)]) rfl ?_
    refine Ar.fall 29 rfl ?_
    refine At.enter rfl ?_
    refine r_iload_n rfl ?_
    refine r_aload_n rfl ?_
    refine r_get (v := .ref 1) (en_gs_ne (by decide) (en_gs_ne (by decide) hx_0)) rfl ?_
    refine r_get (v := .int 0) (en_gs_ne (by decide) (en_gs_ne (by decide) hx_1)) rfl ?_
    refine r_ict (by decide) ?_
    refine At.enter rfl ?_
    refine r_iconst 0 rfl ?_
    refine r_istore_n ([(3, .int 0), (2, .int a1), (0, .ref 0), (1, .int a1)]) rfl ?_
    refine Ar.fall 66 rfl ?_
    refine At.enter rfl ?_
    refine r_iload_n rfl ?_
    refine r_aload_n rfl ?_
    refine r_get (v := .ref 1) (en_gs_ne (by decide) (en_gs_ne (by decide) hx_0)) rfl ?_
    refine r_get (v := .int 0) (en_gs_ne (by decide) (en_gs_ne (by decide) hx_1)) rfl ?_
    refine r_ict (by decide) ?_
    refine At.enter rfl ?_
    refine r_aload_n rfl ?_
    refine r_get (v := .ref 204) (en_gs_ne (by decide) (en_gs_ne (by decide) hx_0)) rfl ?_
    refine r_callV1v (True)  ((((((hp_X ++ hp_M).set 205 (.inl (0, .inl (List.replicate 12 0)))).set 206 (.inl (0, .inl (List.replicate 12 0)))).set 211 (.inl (0, .inl (List.replicate 8 (-1))))).set 212 (.inl (0, .inl (List.replicate 8 (-1))))).set 219 (.inl (0, .inl (List.replicate 800 (-1)))), 51333) 125 rfl [.ref 204] [] (Nat.le_of_ble_eq_true rfl) rfl ?_ (fun _ => ?_)
    · exact Ev.upn _ zr_rw1
    refine At.enter rfl ?_
    refine r_aload_n rfl ?_
    refine r_aload_n rfl ?_
    refine r_get (v := .ref 1) (en_gs_ne (by decide) (en_gs_ne (by decide) (en_gs_ne (by decide) (en_gs_ne (by decide) (en_gs_ne (by decide) hx_0))))) rfl ?_
    refine r_get (v := .int 0) (en_gs_ne (by decide) (en_gs_ne (by decide) (en_gs_ne (by decide) (en_gs_ne (by decide) (en_gs_ne (by decide) hx_1))))) rfl ?_
    refine r_putf (en_gs_ne (by decide) (en_gs_ne (by decide) (en_gs_ne (by decide) (en_gs_ne (by decide) (en_gs_ne (by decide) hx_0))))) (Nat.le_of_ble_eq_true rfl) rfl [.ref 1, .ref 58, .ref 173, .ref 174, .ref 176, .ref 184, .ref 188, .ref 204, .ref 220, .ref 222, .ref 223, .ref 228, .ref 229, .ref 230, .int 0, .int 0, .int 0, .int 0] rfl ?_
    refine r_aload_n rfl ?_
    refine r_get (v := .ref 204) (en_gs_eq (en_gs_ne (by decide) (en_gs_ne (by decide) (en_gs_ne (by decide) (en_gs_ne (by decide) (en_gs_ne (by decide) hx_0)))))) rfl ?_
    refine r_get (v := .ref 212) (en_gs_ne (by decide) (en_gs_ne (by decide) (en_gs_ne (by decide) (en_gs_ne (by decide) (en_gs_ne (by decide) (en_gs_ne (by decide) hx_204)))))) rfl ?_
    refine r_iconst 0 rfl ?_
    refine r_aload_n rfl ?_
    refine r_get (v := .ref 228) (en_gs_eq (en_gs_ne (by decide) (en_gs_ne (by decide) (en_gs_ne (by decide) (en_gs_ne (by decide) (en_gs_ne (by decide) hx_0)))))) rfl ?_
    refine r_iconst 0 rfl ?_
    refine r_bipush 8 rfl ?_
    refine r_cpy rfl (en_gs_ne (by decide) (en_gs_ne (by decide) (en_gs_eq (en_gs_ne (by decide) (en_gs_ne (by decide) (en_gs_ne (by decide) hx_212)))))) (en_gs_ne (by decide) (en_gs_ne (by decide) (en_gs_ne (by decide) (en_gs_ne (by decide) (en_gs_ne (by decide) (en_gs_ne (by decide) hx_228)))))) (by decide +kernel) (List.replicate 8 (-1)) (by decide +kernel) ?_
    refine r_aload_n rfl ?_
    refine r_get (v := .ref 204) (en_gs_ne (by decide) (en_gs_eq (en_gs_ne (by decide) (en_gs_ne (by decide) (en_gs_ne (by decide) (en_gs_ne (by decide) (en_gs_ne (by decide) hx_0))))))) rfl ?_
    refine r_get (v := .ref 207) (en_gs_ne (by decide) (en_gs_ne (by decide) (en_gs_ne (by decide) (en_gs_ne (by decide) (en_gs_ne (by decide) (en_gs_ne (by decide) (en_gs_ne (by decide) hx_204))))))) rfl ?_
    refine r_iconst 0 rfl ?_
    refine r_aload_n rfl ?_
    refine r_get (v := .ref 229) (en_gs_ne (by decide) (en_gs_eq (en_gs_ne (by decide) (en_gs_ne (by decide) (en_gs_ne (by decide) (en_gs_ne (by decide) (en_gs_ne (by decide) hx_0))))))) rfl ?_
    refine r_iconst 0 rfl ?_
    refine r_bipush 8 rfl ?_
    refine r_cpy rfl (en_gs_ne (by decide) (en_gs_ne (by decide) (en_gs_ne (by decide) (en_gs_ne (by decide) (en_gs_ne (by decide) (en_gs_ne (by decide) (en_gs_ne (by decide) hx_207))))))) (en_gs_ne (by decide) (en_gs_ne (by decide) (en_gs_ne (by decide) (en_gs_ne (by decide) (en_gs_ne (by decide) (en_gs_ne (by decide) (en_gs_ne (by decide) hx_229))))))) (by decide +kernel) (List.replicate 8 0) (by decide +kernel) ?_
    refine r_aload_n rfl ?_
    refine r_aload_n rfl ?_
    refine r_get (v := .ref 204) (en_gs_ne (by decide) (en_gs_ne (by decide) (en_gs_eq (en_gs_ne (by decide) (en_gs_ne (by decide) (en_gs_ne (by decide) (en_gs_ne (by decide) (en_gs_ne (by decide) hx_0)))))))) rfl ?_
    refine r_callV1s (True) (.int 0) (((((((((hp_X ++ hp_M).set 205 (.inl (0, .inl (List.replicate 12 0)))).set 206 (.inl (0, .inl (List.replicate 12 0)))).set 211 (.inl (0, .inl (List.replicate 8 (-1))))).set 212 (.inl (0, .inl (List.replicate 8 (-1))))).set 219 (.inl (0, .inl (List.replicate 800 (-1))))).set 0 (.inr (10, [.ref 1, .ref 58, .ref 173, .ref 174, .ref 176, .ref 184, .ref 188, .ref 204, .ref 220, .ref 222, .ref 223, .ref 228, .ref 229, .ref 230, .int 0, .int 0, .int 0, .int 0]))).set 228 (.inl (0, .inl (List.replicate 8 (-1))))).set 229 (.inl (0, .inl (List.replicate 8 0))), 51333) 180 rfl [.ref 204] [.ref 0] (Nat.le_of_ble_eq_true rfl) rfl ?_ (fun _ => ?_)
    · refine Ev.mk rfl rfl ⟨Nat.le_of_ble_eq_true rfl, Or.inr (en_rcI (en_gs_ne (by decide) (en_gs_ne (by decide) (en_gs_ne (by decide) (en_gs_ne (by decide) (en_gs_ne (by decide) (en_gs_ne (by decide) (en_gs_ne (by decide) (en_gs_ne (by decide) hx_204)))))))) rfl)⟩ ?_
      show At _ none _ _ (0, [(0, .ref 204)], [], (((((((((hp_X ++ hp_M).set 205 (.inl (0, .inl (List.replicate 12 0)))).set 206 (.inl (0, .inl (List.replicate 12 0)))).set 211 (.inl (0, .inl (List.replicate 8 (-1))))).set 212 (.inl (0, .inl (List.replicate 8 (-1))))).set 219 (.inl (0, .inl (List.replicate 800 (-1))))).set 0 (.inr (10, [.ref 1, .ref 58, .ref 173, .ref 174, .ref 176, .ref 184, .ref 188, .ref 204, .ref 220, .ref 222, .ref 223, .ref 228, .ref 229, .ref 230, .int 0, .int 0, .int 0, .int 0]))).set 228 (.inl (0, .inl (List.replicate 8 (-1))))).set 229 (.inl (0, .inl (List.replicate 8 0))), 51333)) _
      refine At.enter rfl ?_
      refine r_iconst 0 rfl ?_
      refine r_istore_n ([(1, .int 0), (0, .ref 204)]) rfl ?_
      refine r_iconst 0 rfl ?_
      refine r_istore_n ([(2, .int 0), (1, .int 0), (0, .ref 204)]) rfl ?_
      refine Ar.fall 4 rfl ?_
      refine At.enter rfl ?_
      refine r_iload_n rfl ?_
      refine r_aload_n rfl ?_
      refine r_get (v := .ref 1) (en_gs_ne (by decide) (en_gs_ne (by decide) (en_gs_ne (by decide) (en_gs_ne (by decide) (en_gs_ne (by decide) (en_gs_ne (by decide) (en_gs_ne (by decide) (en_gs_ne (by decide) hx_204)))))))) rfl ?_
      refine r_get (v := .int 0) (en_gs_ne (by decide) (en_gs_ne (by decide) (en_gs_ne (by decide) (en_gs_ne (by decide) (en_gs_ne (by decide) (en_gs_ne (by decide) (en_gs_ne (by decide) (en_gs_ne (by decide) hx_1)))))))) rfl ?_
      refine r_ict (by decide) ?_
      refine At.enter rfl ?_
      refine r_iload_n rfl ?_
      refine r_ireti ?_
      exact ⟨trivial, rfl, rfl⟩
    refine At.enter rfl ?_
    refine r_callV1s (True) (.int 0) (((((((((hp_X ++ hp_M).set 205 (.inl (0, .inl (List.replicate 12 0)))).set 206 (.inl (0, .inl (List.replicate 12 0)))).set 211 (.inl (0, .inl (List.replicate 8 (-1))))).set 212 (.inl (0, .inl (List.replicate 8 (-1))))).set 219 (.inl (0, .inl (List.replicate 800 (-1))))).set 0 (.inr (10, [.ref 1, .ref 58, .ref 173, .ref 174, .ref 176, .ref 184, .ref 188, .ref 204, .ref 220, .ref 222, .ref 223, .ref 228, .ref 229, .ref 230, .int 0, .int 0, .int 0, .int 0]))).set 228 (.inl (0, .inl (List.replicate 8 (-1))))).set 229 (.inl (0, .inl (List.replicate 8 0))), 51333) 183 rfl [.ref 0, .int 0] [] (Nat.le_of_ble_eq_true rfl) rfl ?_ (fun _ => ?_)
    · refine Ev.mk rfl rfl ⟨Nat.le_of_ble_eq_true rfl, Or.inr (en_rcI (en_gs_ne (by decide) (en_gs_ne (by decide) (en_gs_eq (en_gs_ne (by decide) (en_gs_ne (by decide) (en_gs_ne (by decide) (en_gs_ne (by decide) (en_gs_ne (by decide) hx_0)))))))) rfl)⟩ ?_
      show At _ none _ _ (0, [(0, .ref 0), (1, .int 0)], [], (((((((((hp_X ++ hp_M).set 205 (.inl (0, .inl (List.replicate 12 0)))).set 206 (.inl (0, .inl (List.replicate 12 0)))).set 211 (.inl (0, .inl (List.replicate 8 (-1))))).set 212 (.inl (0, .inl (List.replicate 8 (-1))))).set 219 (.inl (0, .inl (List.replicate 800 (-1))))).set 0 (.inr (10, [.ref 1, .ref 58, .ref 173, .ref 174, .ref 176, .ref 184, .ref 188, .ref 204, .ref 220, .ref 222, .ref 223, .ref 228, .ref 229, .ref 230, .int 0, .int 0, .int 0, .int 0]))).set 228 (.inl (0, .inl (List.replicate 8 (-1))))).set 229 (.inl (0, .inl (List.replicate 8 0))), 51333)) _
      refine At.enter rfl ?_
      refine r_aload_n rfl ?_
      refine r_iconst 0 rfl ?_
      refine r_putf (en_gs_ne (by decide) (en_gs_ne (by decide) (en_gs_eq (en_gs_ne (by decide) (en_gs_ne (by decide) (en_gs_ne (by decide) (en_gs_ne (by decide) (en_gs_ne (by decide) hx_0)))))))) (Nat.le_of_ble_eq_true rfl) rfl [.ref 1, .ref 58, .ref 173, .ref 174, .ref 176, .ref 184, .ref 188, .ref 204, .ref 220, .ref 222, .ref 223, .ref 228, .ref 229, .ref 230, .int 0, .int 0, .int 0, .int 0] rfl ?_
      refine Ar.hp (en_sdS (by decide) (en_sdS (by decide) en_sd0)) ?_
      refine r_iload_n rfl ?_
      refine r_ireti ?_
      exact ⟨trivial, rfl, rfl⟩
    refine At.enter rfl ?_
    refine r_ireti ?_
    exact ⟨congrArg (fun z => some (Value.int z)) (by unfold sp_draw; (repeat' split) <;> first | rfl | omega), (IsX.set (IsX.set (IsX.set (IsX.set (IsX.set (IsX.set (IsX.set (IsX.set IsX.base (by decide)) (by decide)) (by decide)) (by decide)) (by decide)) (by decide)) (by decide)) (by decide)), rfl⟩
