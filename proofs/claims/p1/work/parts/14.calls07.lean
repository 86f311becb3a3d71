set_option maxRecDepth 100000 in
set_option maxHeartbeats 4000000 in
theorem zx_X10_law (n : Nat) : Ev 14 115 [.ref 0] (hp_X ++ hp_M, n) (fun r h' => r = some (.int (-6)) ∧ IsX h'.1 ∧ h'.2 = n) := by
  refine Ev.mk rfl rfl ⟨Nat.le_of_ble_eq_true rfl, Or.inr (en_rcI hx_0 rfl)⟩ ?_
  show At _ none _ _ (0, [(0, .ref 0)], [], (hp_X ++ hp_M, n)) _
  refine At.enter rfl ?_
  refine r_aload_n rfl ?_
  refine r_get (v := .ref 1) hx_0 rfl ?_
  refine r_get (v := .int 0) hx_1 rfl ?_
  refine r_bipush 6 rfl ?_
  refine r_ict (by decide) ?_
  refine At.enter rfl ?_
  refine r_aload_n rfl ?_
  refine r_get (v := .ref 176) hx_0 rfl ?_
  refine r_callV1s (True) (.int 0) (((hp_X ++ hp_M).set 176 (.inr (5, [.ref 174, .ref 177, .int 0, .int 3, .int 0, .int 0, .int 0]))).set 177 (.inr (4, [.int 0, .ref 178, .ref 179, .int 0, .int 0, .ref 180, .ref 181, .ref 182, .ref 183])), n) 34 rfl [.ref 176] [] (Nat.le_of_ble_eq_true rfl) rfl ?_ (fun _ => ?_)
  · refine Ev.mk rfl rfl ⟨Nat.le_of_ble_eq_true rfl, Or.inr (en_rcI hx_176 rfl)⟩ ?_
    show At _ none _ _ (0, [(0, .ref 176)], [], (hp_X ++ hp_M, n)) _
    refine At.enter rfl ?_
    refine r_aload_n rfl ?_
    refine r_iconst (-1) rfl ?_
    refine r_putf hx_176 (Nat.le_of_ble_eq_true rfl) rfl [.ref 174, .ref 177, .int (-1), .int 0, .int 0, .int 0, .int 0] rfl ?_
    refine r_aload_n rfl ?_
    refine r_iconst 0 rfl ?_
    refine r_putf (en_gs_eq hx_176) (Nat.le_of_ble_eq_true rfl) rfl [.ref 174, .ref 177, .int (-1), .int 0, .int 0, .int 0, .int 0] rfl ?_
    refine Ar.hp en_sd0 ?_
    refine r_aload_n rfl ?_
    refine r_iconst 0 rfl ?_
    refine r_putf (en_gs_eq hx_176) (Nat.le_of_ble_eq_true rfl) rfl [.ref 174, .ref 177, .int (-1), .int 0, .int 0, .int 0, .int 0] rfl ?_
    refine Ar.hp en_sd0 ?_
    refine r_aload_n rfl ?_
    refine r_get (v := .ref 177) (en_gs_eq hx_176) rfl ?_
    refine r_callV1v (True)  (((hp_X ++ hp_M).set 176 (.inr (5, [.ref 174, .ref 177, .int (-1), .int 0, .int 0, .int 0, .int 0]))).set 177 (.inr (4, [.int 0, .ref 178, .ref 179, .int 0, .int 0, .ref 180, .ref 181, .ref 182, .ref 183])), n) 22 rfl [.ref 177] [] (Nat.le_of_ble_eq_true rfl) rfl ?_ (fun _ => ?_)
    · refine Ev.mk rfl rfl ⟨Nat.le_of_ble_eq_true rfl, Or.inr (en_rcI (en_gs_ne (by decide) hx_177) rfl)⟩ ?_
      show At _ none _ _ (0, [(0, .ref 177)], [], ((hp_X ++ hp_M).set 176 (.inr (5, [.ref 174, .ref 177, .int (-1), .int 0, .int 0, .int 0, .int 0])), n)) _
      refine At.enter rfl ?_
      refine r_aload_n rfl ?_
      refine r_iconst 0 rfl ?_
      refine r_putf (en_gs_ne (by decide) hx_177) (Nat.le_of_ble_eq_true rfl) rfl [.int 0, .ref 178, .ref 179, .int 0, .int 0, .ref 180, .ref 181, .ref 182, .ref 183] rfl ?_
      refine r_aload_n rfl ?_
      refine r_iconst 0 rfl ?_
      refine r_putf (en_gs_eq (en_gs_ne (by decide) hx_177)) (Nat.le_of_ble_eq_true rfl) rfl [.int 0, .ref 178, .ref 179, .int 0, .int 0, .ref 180, .ref 181, .ref 182, .ref 183] rfl ?_
      refine Ar.hp en_sd0 ?_
      refine r_aload_n rfl ?_
      refine r_iconst 0 rfl ?_
      refine r_putf (en_gs_eq (en_gs_ne (by decide) hx_177)) (Nat.le_of_ble_eq_true rfl) rfl [.int 0, .ref 178, .ref 179, .int 0, .int 0, .ref 180, .ref 181, .ref 182, .ref 183] rfl ?_
      refine Ar.hp en_sd0 ?_
      refine r_vret ?_
      exact ⟨trivial, rfl, rfl⟩
    refine At.enter rfl ?_
    refine r_aload_n rfl ?_
    refine r_callV1v (True)  (((hp_X ++ hp_M).set 176 (.inr (5, [.ref 174, .ref 177, .int (-1), .int 3, .int 0, .int 0, .int 0]))).set 177 (.inr (4, [.int 0, .ref 178, .ref 179, .int 0, .int 0, .ref 180, .ref 181, .ref 182, .ref 183])), n) 26 rfl [.ref 176] [] (Nat.le_of_ble_eq_true rfl) rfl ?_ (fun _ => ?_)
    · refine Ev.mk rfl rfl ⟨Nat.le_of_ble_eq_true rfl, Or.inr (en_rcI (en_gs_ne (by decide) (en_gs_eq hx_176)) rfl)⟩ ?_
      show At _ none _ _ (0, [(0, .ref 176)], [], (((hp_X ++ hp_M).set 176 (.inr (5, [.ref 174, .ref 177, .int (-1), .int 0, .int 0, .int 0, .int 0]))).set 177 (.inr (4, [.int 0, .ref 178, .ref 179, .int 0, .int 0, .ref 180, .ref 181, .ref 182, .ref 183])), n)) _
      refine At.enter rfl ?_
      refine r_aload_n rfl ?_
      refine r_get (v := .int 0) (en_gs_ne (by decide) (en_gs_eq hx_176)) rfl ?_
      refine r_istore_n ([(1, .int 0), (0, .ref 176)]) rfl ?_
      refine Ar.fall 5 rfl ?_
      refine At.enter rfl ?_
      refine r_iload_n rfl ?_
      refine r_aload_n rfl ?_
      refine r_get (v := .ref 174) (en_gs_ne (by decide) (en_gs_eq hx_176)) rfl ?_
      refine r_get (v := .int 0) (en_gs_ne (by decide) (en_gs_ne (by decide) hx_174)) rfl ?_
      refine r_ict (by decide) ?_
      refine At.enter rfl ?_
      refine r_aload_n rfl ?_
      refine r_iload_n rfl ?_
      refine r_putf (en_gs_ne (by decide) (en_gs_eq hx_176)) (Nat.le_of_ble_eq_true rfl) rfl [.ref 174, .ref 177, .int (-1), .int 0, .int 0, .int 0, .int 0] rfl ?_
      refine Ar.hp (en_sdS (by decide) en_sd0) ?_
      refine r_aload_n rfl ?_
      refine r_aload_n rfl ?_
      refine r_get (v := .ref 174) (en_gs_ne (by decide) (en_gs_eq hx_176)) rfl ?_
      refine r_iload_n rfl ?_
      refine r_callV1s (True) (.int (-1)) (((hp_X ++ hp_M).set 176 (.inr (5, [.ref 174, .ref 177, .int (-1), .int 0, .int 0, .int 0, .int 0]))).set 177 (.inr (4, [.int 0, .ref 178, .ref 179, .int 0, .int 0, .ref 180, .ref 181, .ref 182, .ref 183])), n) 49 rfl [.ref 174, .int 0] [.ref 176] (Nat.le_of_ble_eq_true rfl) rfl ?_ (fun _ => ?_)
      · refine Ev.mk rfl rfl ⟨Nat.le_of_ble_eq_true rfl, Or.inr (en_rcI (en_gs_ne (by decide) (en_gs_ne (by decide) hx_174)) rfl)⟩ ?_
        show At _ none _ _ (0, [(0, .ref 174), (1, .int 0)], [], (((hp_X ++ hp_M).set 176 (.inr (5, [.ref 174, .ref 177, .int (-1), .int 0, .int 0, .int 0, .int 0]))).set 177 (.inr (4, [.int 0, .ref 178, .ref 179, .int 0, .int 0, .ref 180, .ref 181, .ref 182, .ref 183])), n)) _
        refine At.enter rfl ?_
        refine r_iload_n rfl ?_
        refine r_iff 4 rfl (by decide) ?_
        refine At.enter rfl ?_
        refine r_iload_n rfl ?_
        refine r_aload_n rfl ?_
        refine r_get (v := .int 0) (en_gs_ne (by decide) (en_gs_ne (by decide) hx_174)) rfl ?_
        refine r_ict (by decide) ?_
        refine At.enter rfl ?_
        refine r_iconst (-1) rfl ?_
        refine Ar.fall 29 rfl ?_
        refine At.enter rfl ?_
        refine r_ireti ?_
        exact ⟨trivial, rfl, rfl⟩
      refine At.enter rfl ?_
      refine r_callS1s (True) (.int 3) (((hp_X ++ hp_M).set 176 (.inr (5, [.ref 174, .ref 177, .int (-1), .int 0, .int 0, .int 0, .int 0]))).set 177 (.inr (4, [.int 0, .ref 178, .ref 179, .int 0, .int 0, .ref 180, .ref 181, .ref 182, .ref 183])), n) 52 rfl [.int (-1)] [.ref 176] (Nat.le_of_ble_eq_true rfl) rfl ?_ (fun _ => ?_)
      · refine Ev.mk rfl rfl ⟨Nat.le_of_ble_eq_true rfl, Or.inl rfl⟩ ?_
        show At _ none _ _ (0, [(0, .int (-1))], [], (((hp_X ++ hp_M).set 176 (.inr (5, [.ref 174, .ref 177, .int (-1), .int 0, .int 0, .int 0, .int 0]))).set 177 (.inr (4, [.int 0, .ref 178, .ref 179, .int 0, .int 0, .ref 180, .ref 181, .ref 182, .ref 183])), n)) _
        refine At.enter rfl ?_
        refine r_iload_n rfl ?_
        refine r_iconst (-1) rfl ?_
        refine r_icf 5 rfl (by decide) ?_
        refine At.enter rfl ?_
        refine r_iconst 3 rfl ?_
        refine r_ireti ?_
        exact ⟨trivial, rfl, rfl⟩
      refine At.enter rfl ?_
      refine r_putf (en_gs_ne (by decide) (en_gs_eq hx_176)) (Nat.le_of_ble_eq_true rfl) rfl [.ref 174, .ref 177, .int (-1), .int 3, .int 0, .int 0, .int 0] rfl ?_
      refine Ar.hp (en_sdS (by decide) en_sd0) ?_
      refine r_aload_n rfl ?_
      refine r_get (v := .int 3) (en_gs_ne (by decide) (en_gs_eq hx_176)) rfl ?_
      refine r_iconst 3 rfl ?_
      refine r_ict (by decide) ?_
      refine At.enter rfl ?_
      refine r_iload_n rfl ?_
      refine r_aload_n rfl ?_
      refine r_get (v := .ref 174) (en_gs_ne (by decide) (en_gs_eq hx_176)) rfl ?_
      refine r_get (v := .int 0) (en_gs_ne (by decide) (en_gs_ne (by decide) hx_174)) rfl ?_
      refine r_ict (by decide) ?_
      refine At.enter rfl ?_
      refine r_aload_n rfl ?_
      refine r_iload_n rfl ?_
      refine r_putf (en_gs_ne (by decide) (en_gs_eq hx_176)) (Nat.le_of_ble_eq_true rfl) rfl [.ref 174, .ref 177, .int (-1), .int 3, .int 0, .int 0, .int 0] rfl ?_
      refine Ar.hp (en_sdS (by decide) en_sd0) ?_
      refine r_vret ?_
      exact ⟨trivial, rfl, rfl⟩
    refine At.enter rfl ?_
    refine r_aload_n rfl ?_
    refine r_callV1v (True)  (((hp_X ++ hp_M).set 176 (.inr (5, [.ref 174, .ref 177, .int 0, .int 3, .int 0, .int 0, .int 0]))).set 177 (.inr (4, [.int 0, .ref 178, .ref 179, .int 0, .int 0, .ref 180, .ref 181, .ref 182, .ref 183])), n) 30 rfl [.ref 176] [] (Nat.le_of_ble_eq_true rfl) rfl ?_ (fun _ => ?_)
    · refine Ev.mk rfl rfl ⟨Nat.le_of_ble_eq_true rfl, Or.inr (en_rcI (en_gs_ne (by decide) (en_gs_eq hx_176)) rfl)⟩ ?_
      show At _ none _ _ (0, [(0, .ref 176)], [], (((hp_X ++ hp_M).set 176 (.inr (5, [.ref 174, .ref 177, .int (-1), .int 3, .int 0, .int 0, .int 0]))).set 177 (.inr (4, [.int 0, .ref 178, .ref 179, .int 0, .int 0, .ref 180, .ref 181, .ref 182, .ref 183])), n)) _
      refine At.enter rfl ?_
      refine r_aload_n rfl ?_
      refine r_ldcS (by decide) 1 rfl ?_
      refine r_callV1s (True) (.int 0) (((hp_X ++ hp_M).set 176 (.inr (5, [.ref 174, .ref 177, .int (-1), .int 3, .int 0, .int 0, .int 0]))).set 177 (.inr (4, [.int 0, .ref 178, .ref 179, .int 0, .int 0, .ref 180, .ref 181, .ref 182, .ref 183])), n) 6 rfl [.ref 176, .float 1] [] (Nat.le_of_ble_eq_true rfl) rfl ?_ (fun _ => ?_)
      · refine Ev.mk rfl rfl ⟨Nat.le_of_ble_eq_true rfl, Or.inr (en_rcI (en_gs_ne (by decide) (en_gs_eq hx_176)) rfl)⟩ ?_
        show At _ none _ _ (0, [(0, .ref 176), (1, .float 1)], [], (((hp_X ++ hp_M).set 176 (.inr (5, [.ref 174, .ref 177, .int (-1), .int 3, .int 0, .int 0, .int 0]))).set 177 (.inr (4, [.int 0, .ref 178, .ref 179, .int 0, .int 0, .ref 180, .ref 181, .ref 182, .ref 183])), n)) _
        refine At.enter rfl ?_
        refine r_aload_n rfl ?_
        refine r_get (v := .int 3) (en_gs_ne (by decide) (en_gs_eq hx_176)) rfl ?_
        refine r_ift (by decide) ?_
        refine At.enter rfl ?_
        refine r_iconst 0 rfl ?_
        refine r_iretz (by decide) ?_
        exact ⟨trivial, rfl, rfl⟩
      refine At.enter rfl ?_
      refine r_ift (by decide) ?_
      refine At.enter rfl ?_
      refine r_aload_n rfl ?_
      refine r_ldcS (by decide) 2 rfl ?_
      refine r_callV1s (True) (.int 0) (((hp_X ++ hp_M).set 176 (.inr (5, [.ref 174, .ref 177, .int (-1), .int 3, .int 0, .int 0, .int 0]))).set 177 (.inr (4, [.int 0, .ref 178, .ref 179, .int 0, .int 0, .ref 180, .ref 181, .ref 182, .ref 183])), n) 19 rfl [.ref 176, .float 2] [] (Nat.le_of_ble_eq_true rfl) rfl ?_ (fun _ => ?_)
      · refine Ev.mk rfl rfl ⟨Nat.le_of_ble_eq_true rfl, Or.inr (en_rcI (en_gs_ne (by decide) (en_gs_eq hx_176)) rfl)⟩ ?_
        show At _ none _ _ (0, [(0, .ref 176), (1, .float 2)], [], (((hp_X ++ hp_M).set 176 (.inr (5, [.ref 174, .ref 177, .int (-1), .int 3, .int 0, .int 0, .int 0]))).set 177 (.inr (4, [.int 0, .ref 178, .ref 179, .int 0, .int 0, .ref 180, .ref 181, .ref 182, .ref 183])), n)) _
        refine At.enter rfl ?_
        refine r_aload_n rfl ?_
        refine r_get (v := .int 3) (en_gs_ne (by decide) (en_gs_eq hx_176)) rfl ?_
        refine r_ift (by decide) ?_
        refine At.enter rfl ?_
        refine r_iconst 0 rfl ?_
        refine r_iretz (by decide) ?_
        exact ⟨trivial, rfl, rfl⟩
      refine At.enter rfl ?_
      refine r_ift (by decide) ?_
      refine At.enter rfl ?_
      refine r_aload_n rfl ?_
      refine r_ldcS (by decide) 3 rfl ?_
      refine r_callV1s (True) (.int 0) (((hp_X ++ hp_M).set 176 (.inr (5, [.ref 174, .ref 177, .int (-1), .int 3, .int 0, .int 0, .int 0]))).set 177 (.inr (4, [.int 0, .ref 178, .ref 179, .int 0, .int 0, .ref 180, .ref 181, .ref 182, .ref 183])), n) 32 rfl [.ref 176, .float 3] [] (Nat.le_of_ble_eq_true rfl) rfl ?_ (fun _ => ?_)
      · refine Ev.mk rfl rfl ⟨Nat.le_of_ble_eq_true rfl, Or.inr (en_rcI (en_gs_ne (by decide) (en_gs_eq hx_176)) rfl)⟩ ?_
        show At _ none _ _ (0, [(0, .ref 176), (1, .float 3)], [], (((hp_X ++ hp_M).set 176 (.inr (5, [.ref 174, .ref 177, .int (-1), .int 3, .int 0, .int 0, .int 0]))).set 177 (.inr (4, [.int 0, .ref 178, .ref 179, .int 0, .int 0, .ref 180, .ref 181, .ref 182, .ref 183])), n)) _
        refine At.enter rfl ?_
        refine r_aload_n rfl ?_
        refine r_get (v := .int 3) (en_gs_ne (by decide) (en_gs_eq hx_176)) rfl ?_
        refine r_ift (by decide) ?_
        refine At.enter rfl ?_
        refine r_iconst 0 rfl ?_
        refine r_iretz (by decide) ?_
        exact ⟨trivial, rfl, rfl⟩
      refine At.enter rfl ?_
      refine r_ift (by decide) ?_
      refine At.enter rfl ?_
      refine r_iconst (-1) rfl ?_
      refine Ar.fall 40 rfl ?_
      refine At.enter rfl ?_
      refine r_istore_n ([(1, .int (-1)), (0, .ref 176)]) rfl ?_
      refine r_aload_n rfl ?_
      refine r_get (v := .ref 177) (en_gs_ne (by decide) (en_gs_eq hx_176)) rfl ?_
      refine r_get (v := .int 0) (en_gs_eq (en_gs_ne (by decide) hx_177)) rfl ?_
      refine r_istore_n ([(2, .int 0), (1, .int (-1)), (0, .ref 176)]) rfl ?_
      refine r_iload_n rfl ?_
      refine r_iconst (-1) rfl ?_
      refine r_ict (by decide) ?_
      refine At.enter rfl ?_
      refine r_aload_n rfl ?_
      refine r_callV1v (True)  (((hp_X ++ hp_M).set 176 (.inr (5, [.ref 174, .ref 177, .int 0, .int 3, .int 0, .int 0, .int 0]))).set 177 (.inr (4, [.int 0, .ref 178, .ref 179, .int 0, .int 0, .ref 180, .ref 181, .ref 182, .ref 183])), n) 64 rfl [.ref 176] [] (Nat.le_of_ble_eq_true rfl) rfl ?_ (fun _ => ?_)
      · refine Ev.mk rfl rfl ⟨Nat.le_of_ble_eq_true rfl, Or.inr (en_rcI (en_gs_ne (by decide) (en_gs_eq hx_176)) rfl)⟩ ?_
        show At _ none _ _ (0, [(0, .ref 176)], [], (((hp_X ++ hp_M).set 176 (.inr (5, [.ref 174, .ref 177, .int (-1), .int 3, .int 0, .int 0, .int 0]))).set 177 (.inr (4, [.int 0, .ref 178, .ref 179, .int 0, .int 0, .ref 180, .ref 181, .ref 182, .ref 183])), n)) _
        refine At.enter rfl ?_
        refine r_aload_n rfl ?_
        refine r_get (v := .int (-1)) (en_gs_ne (by decide) (en_gs_eq hx_176)) rfl ?_
        refine r_iconst (-1) rfl ?_
        refine r_icf 8 rfl (by decide) ?_
        refine At.enter rfl ?_
        refine r_aload_n rfl ?_
        refine r_aload_n rfl ?_
        refine r_get (v := .int 0) (en_gs_ne (by decide) (en_gs_eq hx_176)) rfl ?_
        refine r_putf (en_gs_ne (by decide) (en_gs_eq hx_176)) (Nat.le_of_ble_eq_true rfl) rfl [.ref 174, .ref 177, .int 0, .int 3, .int 0, .int 0, .int 0] rfl ?_
        refine Ar.hp (en_sdS (by decide) en_sd0) ?_
        refine Ar.fall 16 rfl ?_
        refine At.enter rfl ?_
        refine r_vret ?_
        exact ⟨trivial, rfl, rfl⟩
      refine At.enter rfl ?_
      refine r_vret ?_
      exact ⟨trivial, rfl, rfl⟩
    refine At.enter rfl ?_
    refine r_iconst 0 rfl ?_
    refine r_istore_n ([(1, .int 0), (0, .ref 176)]) rfl ?_
    refine Ar.fall 32 rfl ?_
    refine At.enter rfl ?_
    refine r_iload_n rfl ?_
    refine r_sipush 400 rfl ?_
    refine r_icf 39 rfl (by decide) ?_
    refine At.enter rfl ?_
    refine r_aload_n rfl ?_
    refine r_get (v := .int 0) (en_gs_ne (by decide) (en_gs_eq hx_176)) rfl ?_
    refine r_iconst (-1) rfl ?_
    refine r_ict (by decide) ?_
    refine At.enter rfl ?_
    refine r_aload_n rfl ?_
    refine r_get (v := .int 3) (en_gs_ne (by decide) (en_gs_eq hx_176)) rfl ?_
    refine r_iconst 3 rfl ?_
    refine r_ict (by decide) ?_
    refine At.enter rfl ?_
    refine r_aload_n rfl ?_
    refine r_get (v := .int 0) (en_gs_ne (by decide) (en_gs_eq hx_176)) rfl ?_
    refine r_iconst (-1) rfl ?_
    refine r_ict (by decide) ?_
    refine At.enter rfl ?_
    refine r_iconst 0 rfl ?_
    refine Ar.fall 95 rfl ?_
    refine At.enter rfl ?_
    refine r_iretz (by decide) ?_
    exact ⟨trivial, rfl, rfl⟩
  refine At.enter rfl ?_
  refine r_istore_n ([(1, .int 0), (0, .ref 0)]) rfl ?_
  refine r_aload_n rfl ?_
  refine r_get (v := .ref 174) (en_gs_ne (by decide) (en_gs_ne (by decide) hx_0)) rfl ?_
  refine r_iconst 0 rfl ?_
  refine r_putf (en_gs_ne (by decide) (en_gs_ne (by decide) hx_174)) (Nat.le_of_ble_eq_true rfl) rfl [.ref 175, .int 0] rfl ?_
  refine r_iload_n rfl ?_
  refine r_iff 47 rfl (by decide) ?_
  refine At.enter rfl ?_
  refine r_aload_n rfl ?_
  refine r_bipush (-6) rfl ?_
  refine r_callV1s (True) (.int (-6)) ((((((hp_X ++ hp_M).set 176 (.inr (5, [.ref 174, .ref 177, .int 0, .int 3, .int 0, .int 0, .int 0]))).set 177 (.inr (4, [.int 0, .ref 178, .ref 179, .int 0, .int 0, .ref 180, .ref 181, .ref 182, .ref 183]))).set 174 (.inr (8, [.ref 175, .int 0]))).set 0 (.inr (10, [.ref 1, .ref 58, .ref 173, .ref 174, .ref 176, .ref 184, .ref 188, .ref 204, .ref 220, .ref 222, .ref 223, .ref 228, .ref 229, .ref 230, .int 0, .int 0, .int 0, .int (-6)]))).set 230 (.inl (0, .inl ([0, 0, 0, 0, 0, 0, 1]))), n) 53 rfl [.ref 0, .int (-6)] [] (Nat.le_of_ble_eq_true rfl) rfl ?_ (fun _ => ?_)
  · refine Ev.mk rfl rfl ⟨Nat.le_of_ble_eq_true rfl, Or.inr (en_rcI (en_gs_ne (by decide) (en_gs_ne (by decide) (en_gs_ne (by decide) hx_0))) rfl)⟩ ?_
    show At _ none _ _ (0, [(0, .ref 0), (1, .int (-6))], [], ((((hp_X ++ hp_M).set 176 (.inr (5, [.ref 174, .ref 177, .int 0, .int 3, .int 0, .int 0, .int 0]))).set 177 (.inr (4, [.int 0, .ref 178, .ref 179, .int 0, .int 0, .ref 180, .ref 181, .ref 182, .ref 183]))).set 174 (.inr (8, [.ref 175, .int 0])), n)) _
    refine At.enter rfl ?_
    refine r_aload_n rfl ?_
    refine r_iload_n rfl ?_
    refine r_putf (en_gs_ne (by decide) (en_gs_ne (by decide) (en_gs_ne (by decide) hx_0))) (Nat.le_of_ble_eq_true rfl) rfl [.ref 1, .ref 58, .ref 173, .ref 174, .ref 176, .ref 184, .ref 188, .ref 204, .ref 220, .ref 222, .ref 223, .ref 228, .ref 229, .ref 230, .int 0, .int 0, .int 0, .int (-6)] rfl ?_
    refine r_iload_n rfl ?_
    refine r_ineg 6 rfl ?_
    refine r_iconst 0 rfl ?_
    refine r_bipush 6 rfl ?_
    refine r_callS1s (True) (.int 1) (((((hp_X ++ hp_M).set 176 (.inr (5, [.ref 174, .ref 177, .int 0, .int 3, .int 0, .int 0, .int 0]))).set 177 (.inr (4, [.int 0, .ref 178, .ref 179, .int 0, .int 0, .ref 180, .ref 181, .ref 182, .ref 183]))).set 174 (.inr (8, [.ref 175, .int 0]))).set 0 (.inr (10, [.ref 1, .ref 58, .ref 173, .ref 174, .ref 176, .ref 184, .ref 188, .ref 204, .ref 220, .ref 222, .ref 223, .ref 228, .ref 229, .ref 230, .int 0, .int 0, .int 0, .int (-6)])), n) 13 rfl [.int 6, .int 0, .int 6] [] (Nat.le_of_ble_eq_true rfl) rfl ?_ (fun _ => ?_)
    · refine Ev.mk rfl rfl ⟨Nat.le_of_ble_eq_true rfl, Or.inl rfl⟩ ?_
      show At _ none _ _ (0, [(0, .int 6), (1, .int 0), (2, .int 6)], [], (((((hp_X ++ hp_M).set 176 (.inr (5, [.ref 174, .ref 177, .int 0, .int 3, .int 0, .int 0, .int 0]))).set 177 (.inr (4, [.int 0, .ref 178, .ref 179, .int 0, .int 0, .ref 180, .ref 181, .ref 182, .ref 183]))).set 174 (.inr (8, [.ref 175, .int 0]))).set 0 (.inr (10, [.ref 1, .ref 58, .ref 173, .ref 174, .ref 176, .ref 184, .ref 188, .ref 204, .ref 220, .ref 222, .ref 223, .ref 228, .ref 229, .ref 230, .int 0, .int 0, .int 0, .int (-6)])), n)) _
      refine At.enter rfl ?_
      refine r_iload_n rfl ?_
      refine r_iload_n rfl ?_
      refine r_icf 5 rfl (by decide) ?_
      refine At.enter rfl ?_
      refine r_iload_n rfl ?_
      refine r_iload_n rfl ?_
      refine r_icf 10 rfl (by decide) ?_
      refine At.enter rfl ?_
      refine r_iconst 1 rfl ?_
      refine r_goto ?_
      refine At.enter rfl ?_
      refine r_iretz (by decide) ?_
      exact ⟨trivial, rfl, rfl⟩
    refine At.enter rfl ?_
    refine r_iff 16 rfl (by decide) ?_
    refine At.enter rfl ?_
    refine r_aload_n rfl ?_
    refine r_get (v := .ref 230) (en_gs_eq (en_gs_ne (by decide) (en_gs_ne (by decide) (en_gs_ne (by decide) hx_0)))) rfl ?_
    refine r_iload_n rfl ?_
    refine r_ineg 6 rfl ?_
    refine r_dup2 ⟨rfl, rfl⟩ ?_
    refine r_iald (v := 0) (en_gs_ne (by decide) (en_gs_ne (by decide) (en_gs_ne (by decide) (en_gs_ne (by decide) hx_230)))) (by decide) rfl ?_
    refine r_iconst 1 rfl ?_
    refine r_iadd 1 rfl ?_
    refine r_iast (en_gs_ne (by decide) (en_gs_ne (by decide) (en_gs_ne (by decide) (en_gs_ne (by decide) hx_230)))) (by decide) (Nat.le_of_ble_eq_true rfl) ([0, 0, 0, 0, 0, 0, 1]) (by decide +kernel) ?_
    refine Ar.fall 27 rfl ?_
    refine At.enter rfl ?_
    refine r_iload_n rfl ?_
    refine r_ireti ?_
    exact ⟨trivial, rfl, rfl⟩
  refine At.enter rfl ?_
  refine r_ireti ?_
  exact ⟨congrArg (fun z => some (Value.int z)) rfl, (IsX.set (IsX.set (IsX.set (IsX.set (IsX.set IsX.base (by decide)) (by decide)) (by decide)) (by decide)) (by decide)), rfl⟩
set_option maxRecDepth 100000 in
set_option maxHeartbeats 4000000 in
theorem zm_X11_law (a : Nat → en_E) (n : Nat) : Ev 14 210 [.ref 231] (en_pre a 231 hp_M, n) (fun r h' => r = some (.int (-6)) ∧ h'.1.length = 259 ∧ h'.2 = n) := by
  refine Ev.mk rfl rfl ⟨Nat.le_of_ble_eq_true rfl, Or.inr (en_rcI (hm_231 _) rfl)⟩ ?_
  show At _ none _ _ (0, [(0, .ref 231)], [], (en_pre a 231 hp_M, n)) _
  refine At.enter rfl ?_
  refine r_aload_n rfl ?_
  refine r_iconst 0 rfl ?_
  refine r_putf (hm_231 _) (Nat.le_of_ble_eq_true rfl) rfl [.int 0, .int 0, .ref 232, .ref 233, .ref 234, .ref 235, .int 0, .ref 236, .int 0, .int 0, .int 0, .int 0, .long 0, .int (-1), .int 0, .int 0, .ref 237, .int 0, .ref 238, .ref 239, .int 0, .ref 240, .ref 241, .int 0, .int 0, .ref 242, .ref 243, .int 0, .ref 244, .ref 245, .int 0, .long 0, .long 0, .ref 246, .ref 247, .ref 248, .int 0, .ref 249, .ref 250, .ref 251, .ref 252, .ref 253, .ref 254, .ref 255, .ref 256, .int 0, .int 0, .int 0, .long 0, .ref 257, .ref 258, .int 0] rfl ?_
  refine r_aload_n rfl ?_
  refine r_get (v := .ref 233) (en_gs_eq (hm_231 _)) rfl ?_
  refine r_iconst 2 rfl ?_
  refine r_iald (v := 0) (en_gs_ne (by decide) (hm_233 _)) (by decide) rfl ?_
  refine r_bipush 6 rfl ?_
  refine r_ict (by decide) ?_
  refine At.enter rfl ?_
  refine r_aload_n rfl ?_
  refine r_callV1v (True)  ((en_pre a 231 hp_M).set 231 (.inr (11, [.int 0, .int 0, .ref 232, .ref 233, .ref 234, .ref 235, .int 0, .ref 236, .int 0, .int 0, .int 0, .int 0, .long 0, .int (-1), .int 0, .int 0, .ref 237, .int 0, .ref 238, .ref 239, .int 0, .ref 240, .ref 241, .int 0, .int 0, .ref 242, .ref 243, .int 0, .ref 244, .ref 245, .int 0, .long 0, .long 0, .ref 246, .ref 247, .ref 248, .int 0, .ref 249, .ref 250, .ref 251, .ref 252, .ref 253, .ref 254, .ref 255, .ref 256, .int 0, .int 0, .int 0, .long 0, .ref 257, .ref 258, .int 0])), n) 32 rfl [.ref 231] [] (Nat.le_of_ble_eq_true rfl) rfl ?_ (fun _ => ?_)
  · refine Ev.mk rfl rfl ⟨Nat.le_of_ble_eq_true rfl, Or.inr (en_rcI (en_gs_eq (hm_231 _)) rfl)⟩ ?_
    show At _ none _ _ (0, [(0, .ref 231)], [], ((en_pre a 231 hp_M).set 231 (.inr (11, [.int 0, .int 0, .ref 232, .ref 233, .ref 234, .ref 235, .int 0, .ref 236, .int 0, .int 0, .int 0, .int 0, .long 0, .int (-1), .int 0, .int 0, .ref 237, .int 0, .ref 238, .ref 239, .int 0, .ref 240, .ref 241, .int 0, .int 0, .ref 242, .ref 243, .int 0, .ref 244, .ref 245, .int 0, .long 0, .long 0, .ref 246, .ref 247, .ref 248, .int 0, .ref 249, .ref 250, .ref 251, .ref 252, .ref 253, .ref 254, .ref 255, .ref 256, .int 0, .int 0, .int 0, .long 0, .ref 257, .ref 258, .int 0])), n)) _
    refine At.enter rfl ?_
    refine r_aload_n rfl ?_
    refine r_iconst 0 rfl ?_
    refine r_putf (en_gs_eq (hm_231 _)) (Nat.le_of_ble_eq_true rfl) rfl [.int 0, .int 0, .ref 232, .ref 233, .ref 234, .ref 235, .int 0, .ref 236, .int 0, .int 0, .int 0, .int 0, .long 0, .int (-1), .int 0, .int 0, .ref 237, .int 0, .ref 238, .ref 239, .int 0, .ref 240, .ref 241, .int 0, .int 0, .ref 242, .ref 243, .int 0, .ref 244, .ref 245, .int 0, .long 0, .long 0, .ref 246, .ref 247, .ref 248, .int 0, .ref 249, .ref 250, .ref 251, .ref 252, .ref 253, .ref 254, .ref 255, .ref 256, .int 0, .int 0, .int 0, .long 0, .ref 257, .ref 258, .int 0] rfl ?_
    refine Ar.hp en_sd0 ?_
    refine r_aload_n rfl ?_
    refine r_iconst 0 rfl ?_
    refine r_putf (en_gs_eq (hm_231 _)) (Nat.le_of_ble_eq_true rfl) rfl [.int 0, .int 0, .ref 232, .ref 233, .ref 234, .ref 235, .int 0, .ref 236, .int 0, .int 0, .int 0, .int 0, .long 0, .int (-1), .int 0, .int 0, .ref 237, .int 0, .ref 238, .ref 239, .int 0, .ref 240, .ref 241, .int 0, .int 0, .ref 242, .ref 243, .int 0, .ref 244, .ref 245, .int 0, .long 0, .long 0, .ref 246, .ref 247, .ref 248, .int 0, .ref 249, .ref 250, .ref 251, .ref 252, .ref 253, .ref 254, .ref 255, .ref 256, .int 0, .int 0, .int 0, .long 0, .ref 257, .ref 258, .int 0] rfl ?_
    refine Ar.hp en_sd0 ?_
    refine r_aload_n rfl ?_
    refine r_iconst (-1) rfl ?_
    refine r_putf (en_gs_eq (hm_231 _)) (Nat.le_of_ble_eq_true rfl) rfl [.int 0, .int 0, .ref 232, .ref 233, .ref 234, .ref 235, .int 0, .ref 236, .int 0, .int 0, .int 0, .int 0, .long 0, .int (-1), .int 0, .int 0, .ref 237, .int 0, .ref 238, .ref 239, .int 0, .ref 240, .ref 241, .int 0, .int 0, .ref 242, .ref 243, .int 0, .ref 244, .ref 245, .int 0, .long 0, .long 0, .ref 246, .ref 247, .ref 248, .int 0, .ref 249, .ref 250, .ref 251, .ref 252, .ref 253, .ref 254, .ref 255, .ref 256, .int 0, .int 0, .int 0, .long 0, .ref 257, .ref 258, .int 0] rfl ?_
    refine Ar.hp en_sd0 ?_
    refine r_aload_n rfl ?_
    refine r_callV1v (True)  ((en_pre a 231 hp_M).set 231 (.inr (11, [.int 0, .int 0, .ref 232, .ref 233, .ref 234, .ref 235, .int 0, .ref 236, .int 0, .int 0, .int 0, .int 0, .long 0, .int (-1), .int 0, .int 0, .ref 237, .int 0, .ref 238, .ref 239, .int 0, .ref 240, .ref 241, .int 0, .int 0, .ref 242, .ref 243, .int 0, .ref 244, .ref 245, .int 0, .long 0, .long 0, .ref 246, .ref 247, .ref 248, .int 0, .ref 249, .ref 250, .ref 251, .ref 252, .ref 253, .ref 254, .ref 255, .ref 256, .int 0, .int 0, .int 0, .long 0, .ref 257, .ref 258, .int 0])), n) 19 rfl [.ref 231] [] (Nat.le_of_ble_eq_true rfl) rfl ?_ (fun _ => ?_)
    · refine Ev.mk rfl rfl ⟨Nat.le_of_ble_eq_true rfl, Or.inr (en_rcI (en_gs_eq (hm_231 _)) rfl)⟩ ?_
      show At _ none _ _ (0, [(0, .ref 231)], [], ((en_pre a 231 hp_M).set 231 (.inr (11, [.int 0, .int 0, .ref 232, .ref 233, .ref 234, .ref 235, .int 0, .ref 236, .int 0, .int 0, .int 0, .int 0, .long 0, .int (-1), .int 0, .int 0, .ref 237, .int 0, .ref 238, .ref 239, .int 0, .ref 240, .ref 241, .int 0, .int 0, .ref 242, .ref 243, .int 0, .ref 244, .ref 245, .int 0, .long 0, .long 0, .ref 246, .ref 247, .ref 248, .int 0, .ref 249, .ref 250, .ref 251, .ref 252, .ref 253, .ref 254, .ref 255, .ref 256, .int 0, .int 0, .int 0, .long 0, .ref 257, .ref 258, .int 0])), n)) _
      refine At.enter rfl ?_
      refine r_aload_n rfl ?_
      refine r_aload_n rfl ?_
      refine r_get (v := .int 0) (en_gs_eq (hm_231 _)) rfl ?_
      refine r_putf (en_gs_eq (hm_231 _)) (Nat.le_of_ble_eq_true rfl) rfl [.int 0, .int 0, .ref 232, .ref 233, .ref 234, .ref 235, .int 0, .ref 236, .int 0, .int 0, .int 0, .int 0, .long 0, .int (-1), .int 0, .int 0, .ref 237, .int 0, .ref 238, .ref 239, .int 0, .ref 240, .ref 241, .int 0, .int 0, .ref 242, .ref 243, .int 0, .ref 244, .ref 245, .int 0, .long 0, .long 0, .ref 246, .ref 247, .ref 248, .int 0, .ref 249, .ref 250, .ref 251, .ref 252, .ref 253, .ref 254, .ref 255, .ref 256, .int 0, .int 0, .int 0, .long 0, .ref 257, .ref 258, .int 0] rfl ?_
      refine Ar.hp en_sd0 ?_
      refine Ar.fall 8 rfl ?_
      refine At.enter rfl ?_
      refine r_aload_n rfl ?_
      refine r_get (v := .int 0) (en_gs_eq (hm_231 _)) rfl ?_
      refine r_aload_n rfl ?_
      refine r_get (v := .int 0) (en_gs_eq (hm_231 _)) rfl ?_
      refine r_ict (by decide) ?_
      refine At.enter rfl ?_
      refine r_aload_n rfl ?_
      refine r_aload_n rfl ?_
      refine r_get (v := .int 0) (en_gs_eq (hm_231 _)) rfl ?_
      refine r_putf (en_gs_eq (hm_231 _)) (Nat.le_of_ble_eq_true rfl) rfl [.int 0, .int 0, .ref 232, .ref 233, .ref 234, .ref 235, .int 0, .ref 236, .int 0, .int 0, .int 0, .int 0, .long 0, .int (-1), .int 0, .int 0, .ref 237, .int 0, .ref 238, .ref 239, .int 0, .ref 240, .ref 241, .int 0, .int 0, .ref 242, .ref 243, .int 0, .ref 244, .ref 245, .int 0, .long 0, .long 0, .ref 246, .ref 247, .ref 248, .int 0, .ref 249, .ref 250, .ref 251, .ref 252, .ref 253, .ref 254, .ref 255, .ref 256, .int 0, .int 0, .int 0, .long 0, .ref 257, .ref 258, .int 0] rfl ?_
      refine Ar.hp en_sd0 ?_
      refine r_aload_n rfl ?_
      refine r_lconst 0 rfl ?_
      refine r_putf (en_gs_eq (hm_231 _)) (Nat.le_of_ble_eq_true rfl) rfl [.int 0, .int 0, .ref 232, .ref 233, .ref 234, .ref 235, .int 0, .ref 236, .int 0, .int 0, .int 0, .int 0, .long 0, .int (-1), .int 0, .int 0, .ref 237, .int 0, .ref 238, .ref 239, .int 0, .ref 240, .ref 241, .int 0, .int 0, .ref 242, .ref 243, .int 0, .ref 244, .ref 245, .int 0, .long 0, .long 0, .ref 246, .ref 247, .ref 248, .int 0, .ref 249, .ref 250, .ref 251, .ref 252, .ref 253, .ref 254, .ref 255, .ref 256, .int 0, .int 0, .int 0, .long 0, .ref 257, .ref 258, .int 0] rfl ?_
      refine Ar.hp en_sd0 ?_
      refine r_aload_n rfl ?_
      refine r_aload_n rfl ?_
      refine r_get (v := .int 0) (en_gs_eq (hm_231 _)) rfl ?_
      refine r_aload_n rfl ?_
      refine r_get (v := .int 0) (en_gs_eq (hm_231 _)) rfl ?_
      refine r_icf 71 rfl (by decide) ?_
      refine At.enter rfl ?_
      refine r_iconst 0 rfl ?_
      refine r_goto ?_
      refine At.enter rfl ?_
      refine r_putf (en_gs_eq (hm_231 _)) (Nat.le_of_ble_eq_true rfl) rfl [.int 0, .int 0, .ref 232, .ref 233, .ref 234, .ref 235, .int 0, .ref 236, .int 0, .int 0, .int 0, .int 0, .long 0, .int (-1), .int 0, .int 0, .ref 237, .int 0, .ref 238, .ref 239, .int 0, .ref 240, .ref 241, .int 0, .int 0, .ref 242, .ref 243, .int 0, .ref 244, .ref 245, .int 0, .long 0, .long 0, .ref 246, .ref 247, .ref 248, .int 0, .ref 249, .ref 250, .ref 251, .ref 252, .ref 253, .ref 254, .ref 255, .ref 256, .int 0, .int 0, .int 0, .long 0, .ref 257, .ref 258, .int 0] rfl ?_
      refine Ar.hp en_sd0 ?_
      refine r_aload_n rfl ?_
      refine r_get (v := .int 0) (en_gs_eq (hm_231 _)) rfl ?_
      refine r_iconst 3 rfl ?_
      refine r_ict (by decide) ?_
      refine At.enter rfl ?_
      refine r_aload_n rfl ?_
      refine r_get (v := .int 0) (en_gs_eq (hm_231 _)) rfl ?_
      refine r_iconst 1 rfl ?_
      refine r_ict (by decide) ?_
      refine At.enter rfl ?_
      refine r_aload_n rfl ?_
      refine r_get (v := .int 0) (en_gs_eq (hm_231 _)) rfl ?_
      refine r_iconst 2 rfl ?_
      refine r_ict (by decide) ?_
      refine At.enter rfl ?_
      refine r_vret ?_
      exact ⟨trivial, rfl, rfl⟩
    refine At.enter rfl ?_
    refine r_vret ?_
    exact ⟨trivial, rfl, rfl⟩
  refine At.enter rfl ?_
  refine r_aload_n rfl ?_
  refine r_iconst 0 rfl ?_
  refine r_putf (en_gs_eq (hm_231 _)) (Nat.le_of_ble_eq_true rfl) rfl [.int 0, .int 0, .ref 232, .ref 233, .ref 234, .ref 235, .int 0, .ref 236, .int 0, .int 0, .int 0, .int 0, .long 0, .int (-1), .int 0, .int 0, .ref 237, .int 0, .ref 238, .ref 239, .int 0, .ref 240, .ref 241, .int 0, .int 0, .ref 242, .ref 243, .int 0, .ref 244, .ref 245, .int 0, .long 0, .long 0, .ref 246, .ref 247, .ref 248, .int 0, .ref 249, .ref 250, .ref 251, .ref 252, .ref 253, .ref 254, .ref 255, .ref 256, .int 0, .int 0, .int 0, .long 0, .ref 257, .ref 258, .int 0] rfl ?_
  refine Ar.hp en_sd0 ?_
  refine r_aload_n rfl ?_
  refine r_iconst 0 rfl ?_
  refine r_putf (en_gs_eq (hm_231 _)) (Nat.le_of_ble_eq_true rfl) rfl [.int 0, .int 0, .ref 232, .ref 233, .ref 234, .ref 235, .int 0, .ref 236, .int 0, .int 0, .int 0, .int 0, .long 0, .int (-1), .int 0, .int 0, .ref 237, .int 0, .ref 238, .ref 239, .int 0, .ref 240, .ref 241, .int 0, .int 0, .ref 242, .ref 243, .int 0, .ref 244, .ref 245, .int 0, .long 0, .long 0, .ref 246, .ref 247, .ref 248, .int 0, .ref 249, .ref 250, .ref 251, .ref 252, .ref 253, .ref 254, .ref 255, .ref 256, .int 0, .int 0, .int 0, .long 0, .ref 257, .ref 258, .int 0] rfl ?_
  refine Ar.hp en_sd0 ?_
  refine r_aload_n rfl ?_
  refine r_iconst 0 rfl ?_
  refine r_putf (en_gs_eq (hm_231 _)) (Nat.le_of_ble_eq_true rfl) rfl [.int 0, .int 0, .ref 232, .ref 233, .ref 234, .ref 235, .int 0, .ref 236, .int 0, .int 0, .int 0, .int 0, .long 0, .int (-1), .int 0, .int 0, .ref 237, .int 0, .ref 238, .ref 239, .int 0, .ref 240, .ref 241, .int 0, .int 0, .ref 242, .ref 243, .int 0, .ref 244, .ref 245, .int 0, .long 0, .long 0, .ref 246, .ref 247, .ref 248, .int 0, .ref 249, .ref 250, .ref 251, .ref 252, .ref 253, .ref 254, .ref 255, .ref 256, .int 0, .int 0, .int 0, .long 0, .ref 257, .ref 258, .int 0] rfl ?_
  refine Ar.hp en_sd0 ?_
  refine r_aload_n rfl ?_
  refine r_callV1v (True)  ((en_pre a 231 hp_M).set 231 (.inr (11, [.int 0, .int 0, .ref 232, .ref 233, .ref 234, .ref 235, .int 0, .ref 236, .int 0, .int 0, .int 0, .int 0, .long 0, .int 0, .int 1, .int 0, .ref 237, .int 0, .ref 238, .ref 239, .int 0, .ref 240, .ref 241, .int 0, .int 0, .ref 242, .ref 243, .int 0, .ref 244, .ref 245, .int 0, .long 0, .long 0, .ref 246, .ref 247, .ref 248, .int 0, .ref 249, .ref 250, .ref 251, .ref 252, .ref 253, .ref 254, .ref 255, .ref 256, .int 0, .int 0, .int 0, .long 0, .ref 257, .ref 258, .int 0])), n) 51 rfl [.ref 231] [] (Nat.le_of_ble_eq_true rfl) rfl ?_ (fun _ => ?_)
  · refine Ev.mk rfl rfl ⟨Nat.le_of_ble_eq_true rfl, Or.inr (en_rcI (en_gs_eq (hm_231 _)) rfl)⟩ ?_
    show At _ none _ _ (0, [(0, .ref 231)], [], ((en_pre a 231 hp_M).set 231 (.inr (11, [.int 0, .int 0, .ref 232, .ref 233, .ref 234, .ref 235, .int 0, .ref 236, .int 0, .int 0, .int 0, .int 0, .long 0, .int (-1), .int 0, .int 0, .ref 237, .int 0, .ref 238, .ref 239, .int 0, .ref 240, .ref 241, .int 0, .int 0, .ref 242, .ref 243, .int 0, .ref 244, .ref 245, .int 0, .long 0, .long 0, .ref 246, .ref 247, .ref 248, .int 0, .ref 249, .ref 250, .ref 251, .ref 252, .ref 253, .ref 254, .ref 255, .ref 256, .int 0, .int 0, .int 0, .long 0, .ref 257, .ref 258, .int 0])), n)) _
    refine At.enter rfl ?_
    refine r_iconst (-1) rfl ?_
    refine r_istore_n ([(1, .int (-1)), (0, .ref 231)]) rfl ?_
    refine r_iconst 0 rfl ?_
    refine r_istore_n ([(2, .int 0), (1, .int (-1)), (0, .ref 231)]) rfl ?_
    refine Ar.fall 4 rfl ?_
    refine At.enter rfl ?_
    refine r_iload_n rfl ?_
    refine r_iconst 3 rfl ?_
    refine r_icf 9 rfl (by decide) ?_
    refine At.enter rfl ?_
    refine r_aload_n rfl ?_
    refine r_aload_n rfl ?_
    refine r_get (v := .ref 243) (en_gs_eq (hm_231 _)) rfl ?_
    refine r_iload_n rfl ?_
    refine r_lald (v := 6605428) (en_gs_ne (by decide) (hm_243 _)) (by decide) rfl ?_
    refine r_callV1s (True) (.int 0) ((en_pre a 231 hp_M).set 231 (.inr (11, [.int 0, .int 0, .ref 232, .ref 233, .ref 234, .ref 235, .int 0, .ref 236, .int 0, .int 0, .int 0, .int 0, .long 0, .int (-1), .int 0, .int 0, .ref 237, .int 0, .ref 238, .ref 239, .int 0, .ref 240, .ref 241, .int 0, .int 0, .ref 242, .ref 243, .int 0, .ref 244, .ref 245, .int 0, .long 0, .long 0, .ref 246, .ref 247, .ref 248, .int 0, .ref 249, .ref 250, .ref 251, .ref 252, .ref 253, .ref 254, .ref 255, .ref 256, .int 0, .int 0, .int 0, .long 0, .ref 257, .ref 258, .int 0])), n) 19 rfl [.ref 231, .long 6605428] [] (Nat.le_of_ble_eq_true rfl) rfl ?_ (fun _ => ?_)
    · refine Ev.mk rfl rfl ⟨Nat.le_of_ble_eq_true rfl, Or.inr (en_rcI (en_gs_eq (hm_231 _)) rfl)⟩ ?_
      show At _ none _ _ (0, [(0, .ref 231), (1, .long 6605428)], [], ((en_pre a 231 hp_M).set 231 (.inr (11, [.int 0, .int 0, .ref 232, .ref 233, .ref 234, .ref 235, .int 0, .ref 236, .int 0, .int 0, .int 0, .int 0, .long 0, .int (-1), .int 0, .int 0, .ref 237, .int 0, .ref 238, .ref 239, .int 0, .ref 240, .ref 241, .int 0, .int 0, .ref 242, .ref 243, .int 0, .ref 244, .ref 245, .int 0, .long 0, .long 0, .ref 246, .ref 247, .ref 248, .int 0, .ref 249, .ref 250, .ref 251, .ref 252, .ref 253, .ref 254, .ref 255, .ref 256, .int 0, .int 0, .int 0, .long 0, .ref 257, .ref 258, .int 0])), n)) _
      refine At.enter rfl ?_
      refine r_aload_n rfl ?_
      refine r_get (v := .int 0) (en_gs_eq (hm_231 _)) rfl ?_
      refine r_iconst 1 rfl ?_
      refine r_ict (by decide) ?_
      refine At.enter rfl ?_
      refine r_iconst 0 rfl ?_
      refine Ar.fall 22 rfl ?_
      refine At.enter rfl ?_
      refine r_iretz (by decide) ?_
      exact ⟨trivial, rfl, rfl⟩
    refine At.enter rfl ?_
    refine r_ift (by decide) ?_
    refine At.enter rfl ?_
    refine r_iload_n rfl ?_
    refine Ar.fall 27 rfl ?_
    refine At.enter rfl ?_
    refine r_istore_n ([(1, .int (-1)), (2, .int 0), (0, .ref 231)]) rfl ?_
    refine r_iinc rfl 1 rfl ([(2, .int 1), (1, .int (-1)), (0, .ref 231)]) rfl ?_
    refine r_goto ?_
    refine At.enter rfl ?_
    refine r_iload_n rfl ?_
    refine r_iconst 3 rfl ?_
    refine r_icf 9 rfl (by decide) ?_
    refine At.enter rfl ?_
    refine r_aload_n rfl ?_
    refine r_aload_n rfl ?_
    refine r_get (v := .ref 243) (en_gs_eq (hm_231 _)) rfl ?_
    refine r_iload_n rfl ?_
    refine r_lald (v := 6309) (en_gs_ne (by decide) (hm_243 _)) (by decide) rfl ?_
    refine r_callV1s (True) (.int 0) ((en_pre a 231 hp_M).set 231 (.inr (11, [.int 0, .int 0, .ref 232, .ref 233, .ref 234, .ref 235, .int 0, .ref 236, .int 0, .int 0, .int 0, .int 0, .long 0, .int (-1), .int 0, .int 0, .ref 237, .int 0, .ref 238, .ref 239, .int 0, .ref 240, .ref 241, .int 0, .int 0, .ref 242, .ref 243, .int 0, .ref 244, .ref 245, .int 0, .long 0, .long 0, .ref 246, .ref 247, .ref 248, .int 0, .ref 249, .ref 250, .ref 251, .ref 252, .ref 253, .ref 254, .ref 255, .ref 256, .int 0, .int 0, .int 0, .long 0, .ref 257, .ref 258, .int 0])), n) 19 rfl [.ref 231, .long 6309] [] (Nat.le_of_ble_eq_true rfl) rfl ?_ (fun _ => ?_)
    · refine Ev.mk rfl rfl ⟨Nat.le_of_ble_eq_true rfl, Or.inr (en_rcI (en_gs_eq (hm_231 _)) rfl)⟩ ?_
      show At _ none _ _ (0, [(0, .ref 231), (1, .long 6309)], [], ((en_pre a 231 hp_M).set 231 (.inr (11, [.int 0, .int 0, .ref 232, .ref 233, .ref 234, .ref 235, .int 0, .ref 236, .int 0, .int 0, .int 0, .int 0, .long 0, .int (-1), .int 0, .int 0, .ref 237, .int 0, .ref 238, .ref 239, .int 0, .ref 240, .ref 241, .int 0, .int 0, .ref 242, .ref 243, .int 0, .ref 244, .ref 245, .int 0, .long 0, .long 0, .ref 246, .ref 247, .ref 248, .int 0, .ref 249, .ref 250, .ref 251, .ref 252, .ref 253, .ref 254, .ref 255, .ref 256, .int 0, .int 0, .int 0, .long 0, .ref 257, .ref 258, .int 0])), n)) _
      refine At.enter rfl ?_
      refine r_aload_n rfl ?_
      refine r_get (v := .int 0) (en_gs_eq (hm_231 _)) rfl ?_
      refine r_iconst 1 rfl ?_
      refine r_ict (by decide) ?_
      refine At.enter rfl ?_
      refine r_iconst 0 rfl ?_
      refine Ar.fall 22 rfl ?_
      refine At.enter rfl ?_
      refine r_iretz (by decide) ?_
      exact ⟨trivial, rfl, rfl⟩
    refine At.enter rfl ?_
    refine r_ift (by decide) ?_
    refine At.enter rfl ?_
    refine r_iload_n rfl ?_
    refine Ar.fall 27 rfl ?_
    refine At.enter rfl ?_
    refine r_istore_n ([(1, .int (-1)), (2, .int 1), (0, .ref 231)]) rfl ?_
    refine r_iinc rfl 2 rfl ([(2, .int 2), (1, .int (-1)), (0, .ref 231)]) rfl ?_
    refine r_goto ?_
    refine At.enter rfl ?_
    refine r_iload_n rfl ?_
    refine r_iconst 3 rfl ?_
    refine r_icf 9 rfl (by decide) ?_
    refine At.enter rfl ?_
    refine r_aload_n rfl ?_
    refine r_aload_n rfl ?_
    refine r_get (v := .ref 243) (en_gs_eq (hm_231 _)) rfl ?_
    refine r_iload_n rfl ?_
    refine r_lald (v := 67155) (en_gs_ne (by decide) (hm_243 _)) (by decide) rfl ?_
    refine r_callV1s (True) (.int 0) ((en_pre a 231 hp_M).set 231 (.inr (11, [.int 0, .int 0, .ref 232, .ref 233, .ref 234, .ref 235, .int 0, .ref 236, .int 0, .int 0, .int 0, .int 0, .long 0, .int (-1), .int 0, .int 0, .ref 237, .int 0, .ref 238, .ref 239, .int 0, .ref 240, .ref 241, .int 0, .int 0, .ref 242, .ref 243, .int 0, .ref 244, .ref 245, .int 0, .long 0, .long 0, .ref 246, .ref 247, .ref 248, .int 0, .ref 249, .ref 250, .ref 251, .ref 252, .ref 253, .ref 254, .ref 255, .ref 256, .int 0, .int 0, .int 0, .long 0, .ref 257, .ref 258, .int 0])), n) 19 rfl [.ref 231, .long 67155] [] (Nat.le_of_ble_eq_true rfl) rfl ?_ (fun _ => ?_)
    · refine Ev.mk rfl rfl ⟨Nat.le_of_ble_eq_true rfl, Or.inr (en_rcI (en_gs_eq (hm_231 _)) rfl)⟩ ?_
      show At _ none _ _ (0, [(0, .ref 231), (1, .long 67155)], [], ((en_pre a 231 hp_M).set 231 (.inr (11, [.int 0, .int 0, .ref 232, .ref 233, .ref 234, .ref 235, .int 0, .ref 236, .int 0, .int 0, .int 0, .int 0, .long 0, .int (-1), .int 0, .int 0, .ref 237, .int 0, .ref 238, .ref 239, .int 0, .ref 240, .ref 241, .int 0, .int 0, .ref 242, .ref 243, .int 0, .ref 244, .ref 245, .int 0, .long 0, .long 0, .ref 246, .ref 247, .ref 248, .int 0, .ref 249, .ref 250, .ref 251, .ref 252, .ref 253, .ref 254, .ref 255, .ref 256, .int 0, .int 0, .int 0, .long 0, .ref 257, .ref 258, .int 0])), n)) _
      refine At.enter rfl ?_
      refine r_aload_n rfl ?_
      refine r_get (v := .int 0) (en_gs_eq (hm_231 _)) rfl ?_
      refine r_iconst 1 rfl ?_
      refine r_ict (by decide) ?_
      refine At.enter rfl ?_
      refine r_iconst 0 rfl ?_
      refine Ar.fall 22 rfl ?_
      refine At.enter rfl ?_
      refine r_iretz (by decide) ?_
      exact ⟨trivial, rfl, rfl⟩
    refine At.enter rfl ?_
    refine r_ift (by decide) ?_
    refine At.enter rfl ?_
    refine r_iload_n rfl ?_
    refine Ar.fall 27 rfl ?_
    refine At.enter rfl ?_
    refine r_istore_n ([(1, .int (-1)), (2, .int 2), (0, .ref 231)]) rfl ?_
    refine r_iinc rfl 3 rfl ([(2, .int 3), (1, .int (-1)), (0, .ref 231)]) rfl ?_
    refine r_goto ?_
    refine At.enter rfl ?_
    refine r_iload_n rfl ?_
    refine r_iconst 3 rfl ?_
    refine r_ict (by decide) ?_
    refine At.enter rfl ?_
    refine r_aload_n rfl ?_
    refine r_iload_n rfl ?_
    refine r_iconst (-1) rfl ?_
    refine r_ict (by decide) ?_
    refine At.enter rfl ?_
    refine r_iconst 0 rfl ?_
    refine Ar.fall 54 rfl ?_
    refine At.enter rfl ?_
    refine r_callV1v (True)  ((en_pre a 231 hp_M).set 231 (.inr (11, [.int 0, .int 0, .ref 232, .ref 233, .ref 234, .ref 235, .int 0, .ref 236, .int 0, .int 0, .int 0, .int 0, .long 0, .int 0, .int 1, .int 0, .ref 237, .int 0, .ref 238, .ref 239, .int 0, .ref 240, .ref 241, .int 0, .int 0, .ref 242, .ref 243, .int 0, .ref 244, .ref 245, .int 0, .long 0, .long 0, .ref 246, .ref 247, .ref 248, .int 0, .ref 249, .ref 250, .ref 251, .ref 252, .ref 253, .ref 254, .ref 255, .ref 256, .int 0, .int 0, .int 0, .long 0, .ref 257, .ref 258, .int 0])), n) 57 rfl [.ref 231, .int 0] [] (Nat.le_of_ble_eq_true rfl) rfl ?_ (fun _ => ?_)
    · refine Ev.mk rfl rfl ⟨Nat.le_of_ble_eq_true rfl, Or.inr (en_rcI (en_gs_eq (hm_231 _)) rfl)⟩ ?_
      show At _ none _ _ (0, [(0, .ref 231), (1, .int 0)], [], ((en_pre a 231 hp_M).set 231 (.inr (11, [.int 0, .int 0, .ref 232, .ref 233, .ref 234, .ref 235, .int 0, .ref 236, .int 0, .int 0, .int 0, .int 0, .long 0, .int (-1), .int 0, .int 0, .ref 237, .int 0, .ref 238, .ref 239, .int 0, .ref 240, .ref 241, .int 0, .int 0, .ref 242, .ref 243, .int 0, .ref 244, .ref 245, .int 0, .long 0, .long 0, .ref 246, .ref 247, .ref 248, .int 0, .ref 249, .ref 250, .ref 251, .ref 252, .ref 253, .ref 254, .ref 255, .ref 256, .int 0, .int 0, .int 0, .long 0, .ref 257, .ref 258, .int 0])), n)) _
      refine At.enter rfl ?_
      refine r_aload_n rfl ?_
      refine r_get (v := .int 0) (en_gs_eq (hm_231 _)) rfl ?_
      refine r_iff 7 rfl (by decide) ?_
      refine At.enter rfl ?_
      refine r_iload_n rfl ?_
      refine r_iff 11 rfl (by decide) ?_
      refine At.enter rfl ?_
      refine r_aload_n rfl ?_
      refine r_iconst 1 rfl ?_
      refine r_putf (en_gs_eq (hm_231 _)) (Nat.le_of_ble_eq_true rfl) rfl [.int 0, .int 0, .ref 232, .ref 233, .ref 234, .ref 235, .int 0, .ref 236, .int 0, .int 0, .int 0, .int 0, .long 0, .int (-1), .int 1, .int 0, .ref 237, .int 0, .ref 238, .ref 239, .int 0, .ref 240, .ref 241, .int 0, .int 0, .ref 242, .ref 243, .int 0, .ref 244, .ref 245, .int 0, .long 0, .long 0, .ref 246, .ref 247, .ref 248, .int 0, .ref 249, .ref 250, .ref 251, .ref 252, .ref 253, .ref 254, .ref 255, .ref 256, .int 0, .int 0, .int 0, .long 0, .ref 257, .ref 258, .int 0] rfl ?_
      refine Ar.hp en_sd0 ?_
      refine r_aload_n rfl ?_
      refine r_aload_n rfl ?_
      refine r_get (v := .int 0) (en_gs_eq (hm_231 _)) rfl ?_
      refine r_putf (en_gs_eq (hm_231 _)) (Nat.le_of_ble_eq_true rfl) rfl [.int 0, .int 0, .ref 232, .ref 233, .ref 234, .ref 235, .int 0, .ref 236, .int 0, .int 0, .int 0, .int 0, .long 0, .int 0, .int 1, .int 0, .ref 237, .int 0, .ref 238, .ref 239, .int 0, .ref 240, .ref 241, .int 0, .int 0, .ref 242, .ref 243, .int 0, .ref 244, .ref 245, .int 0, .long 0, .long 0, .ref 246, .ref 247, .ref 248, .int 0, .ref 249, .ref 250, .ref 251, .ref 252, .ref 253, .ref 254, .ref 255, .ref 256, .int 0, .int 0, .int 0, .long 0, .ref 257, .ref 258, .int 0] rfl ?_
      refine Ar.hp en_sd0 ?_
      refine Ar.fall 24 rfl ?_
      refine At.enter rfl ?_
      refine r_aload_n rfl ?_
      refine r_get (v := .int 1) (en_gs_eq (hm_231 _)) rfl ?_
      refine r_ift (by decide) ?_
      refine At.enter rfl ?_
      refine r_vret ?_
      exact ⟨trivial, rfl, rfl⟩
    refine At.enter rfl ?_
    refine r_aload_n rfl ?_
    refine r_get (v := .int 1) (en_gs_eq (hm_231 _)) rfl ?_
    refine r_iff 64 rfl (by decide) ?_
    refine At.enter rfl ?_
    refine r_vret ?_
    exact ⟨trivial, rfl, rfl⟩
  refine At.enter rfl ?_
  refine r_aload_n rfl ?_
  refine r_get (v := .int 1) (en_gs_eq (hm_231 _)) rfl ?_
  refine r_ift (by decide) ?_
  refine At.enter rfl ?_
  refine r_aload_n rfl ?_
  refine r_get (v := .int 1) (en_gs_eq (hm_231 _)) rfl ?_
  refine r_ift (by decide) ?_
  refine At.enter rfl ?_
  refine r_aload_n rfl ?_
  refine r_iconst 0 rfl ?_
  refine r_putf (en_gs_eq (hm_231 _)) (Nat.le_of_ble_eq_true rfl) rfl [.int 0, .int 0, .ref 232, .ref 233, .ref 234, .ref 235, .int 0, .ref 236, .int 0, .int 0, .int 0, .int 0, .long 0, .int 0, .int 1, .int 0, .ref 237, .int 0, .ref 238, .ref 239, .int 0, .ref 240, .ref 241, .int 0, .int 0, .ref 242, .ref 243, .int 0, .ref 244, .ref 245, .int 0, .long 0, .long 0, .ref 246, .ref 247, .ref 248, .int 0, .ref 249, .ref 250, .ref 251, .ref 252, .ref 253, .ref 254, .ref 255, .ref 256, .int 0, .int 0, .int 0, .long 0, .ref 257, .ref 258, .int 0] rfl ?_
  refine Ar.hp en_sd0 ?_
  refine r_aload_n rfl ?_
  refine r_get (v := .int 1) (en_gs_eq (hm_231 _)) rfl ?_
  refine r_iff 109 rfl (by decide) ?_
  refine At.enter rfl ?_
  refine r_aload_n rfl ?_
  refine r_bipush (-6) rfl ?_
  refine r_callV1s (True) (.int (-6)) (((en_pre a 231 hp_M).set 231 (.inr (11, [.int 0, .int (-6), .ref 232, .ref 233, .ref 234, .ref 235, .int 0, .ref 236, .int 0, .int 0, .int 0, .int 0, .long 0, .int 0, .int 1, .int 0, .ref 237, .int 0, .ref 238, .ref 239, .int 0, .ref 240, .ref 241, .int 0, .int 0, .ref 242, .ref 243, .int 0, .ref 244, .ref 245, .int 0, .long 0, .long 0, .ref 246, .ref 247, .ref 248, .int 0, .ref 249, .ref 250, .ref 251, .ref 252, .ref 253, .ref 254, .ref 255, .ref 256, .int 0, .int 0, .int 0, .long 0, .ref 257, .ref 258, .int 0]))).set 232 (.inl (0, .inl ([0, 0, 0, 0, 0, 0, 1]))), n) 115 rfl [.ref 231, .int (-6)] [] (Nat.le_of_ble_eq_true rfl) rfl ?_ (fun _ => ?_)
  · refine Ev.mk rfl rfl ⟨Nat.le_of_ble_eq_true rfl, Or.inr (en_rcI (en_gs_eq (hm_231 _)) rfl)⟩ ?_
    show At _ none _ _ (0, [(0, .ref 231), (1, .int (-6))], [], ((en_pre a 231 hp_M).set 231 (.inr (11, [.int 0, .int 0, .ref 232, .ref 233, .ref 234, .ref 235, .int 0, .ref 236, .int 0, .int 0, .int 0, .int 0, .long 0, .int 0, .int 1, .int 0, .ref 237, .int 0, .ref 238, .ref 239, .int 0, .ref 240, .ref 241, .int 0, .int 0, .ref 242, .ref 243, .int 0, .ref 244, .ref 245, .int 0, .long 0, .long 0, .ref 246, .ref 247, .ref 248, .int 0, .ref 249, .ref 250, .ref 251, .ref 252, .ref 253, .ref 254, .ref 255, .ref 256, .int 0, .int 0, .int 0, .long 0, .ref 257, .ref 258, .int 0])), n)) _
    refine At.enter rfl ?_
    refine r_aload_n rfl ?_
    refine r_iload_n rfl ?_
    refine r_iff 5 rfl (by decide) ?_
    refine At.enter rfl ?_
    refine r_iload_n rfl ?_
    refine r_goto ?_
    refine At.enter rfl ?_
    refine r_putf (en_gs_eq (hm_231 _)) (Nat.le_of_ble_eq_true rfl) rfl [.int 0, .int (-6), .ref 232, .ref 233, .ref 234, .ref 235, .int 0, .ref 236, .int 0, .int 0, .int 0, .int 0, .long 0, .int 0, .int 1, .int 0, .ref 237, .int 0, .ref 238, .ref 239, .int 0, .ref 240, .ref 241, .int 0, .int 0, .ref 242, .ref 243, .int 0, .ref 244, .ref 245, .int 0, .long 0, .long 0, .ref 246, .ref 247, .ref 248, .int 0, .ref 249, .ref 250, .ref 251, .ref 252, .ref 253, .ref 254, .ref 255, .ref 256, .int 0, .int 0, .int 0, .long 0, .ref 257, .ref 258, .int 0] rfl ?_
    refine Ar.hp en_sd0 ?_
    refine r_iload_n rfl ?_
    refine r_iff 17 rfl (by decide) ?_
    refine At.enter rfl ?_
    refine r_aload_n rfl ?_
    refine r_get (v := .ref 232) (en_gs_eq (hm_231 _)) rfl ?_
    refine r_iload_n rfl ?_
    refine r_ineg 6 rfl ?_
    refine r_dup2 ⟨rfl, rfl⟩ ?_
    refine r_iald (v := 0) (en_gs_ne (by decide) (hm_232 _)) (by decide) rfl ?_
    refine r_iconst 1 rfl ?_
    refine r_iadd 1 rfl ?_
    refine r_iast (en_gs_ne (by decide) (hm_232 _)) (by decide) (Nat.le_of_ble_eq_true rfl) ([0, 0, 0, 0, 0, 0, 1]) (by decide +kernel) ?_
    refine Ar.fall 28 rfl ?_
    refine At.enter rfl ?_
    refine r_iload_n rfl ?_
    refine r_ireti ?_
    exact ⟨trivial, rfl, rfl⟩
  refine At.enter rfl ?_
  refine r_ireti ?_
  exact ⟨congrArg (fun z => some (Value.int z)) rfl, (en_lset (en_lset (en_prel a))), rfl⟩
set_option maxRecDepth 100000 in
set_option maxHeartbeats 4000000 in
theorem zx_X10_fault (n : Nat) : Ev 14 116 [.ref 0] (hp_X ++ hp_M, n) (fun r h' => r = some (.int (-1)) ∧ IsX h'.1 ∧ h'.2 = n) := by
  refine Ev.mk rfl rfl ⟨Nat.le_of_ble_eq_true rfl, Or.inr (en_rcI hx_0 rfl)⟩ ?_
  show At _ none _ _ (0, [(0, .ref 0)], [], (hp_X ++ hp_M, n)) _
  refine At.enter rfl ?_
  refine r_aload_n rfl ?_
  refine r_get (v := .ref 176) hx_0 rfl ?_
  refine r_get (v := .int (-1)) hx_176 rfl ?_
  refine r_ireti ?_
  exact ⟨congrArg (fun z => some (Value.int z)) rfl, IsX.base, rfl⟩
set_option maxRecDepth 100000 in
set_option maxHeartbeats 4000000 in
theorem zm_X11_fault (a : Nat → en_E) (n : Nat) : Ev 14 194 [.ref 231] (en_pre a 231 hp_M, n) (fun r h' => r = some (.int (-1)) ∧ h'.1.length = 259 ∧ h'.2 = n) := by
  refine Ev.mk rfl rfl ⟨Nat.le_of_ble_eq_true rfl, Or.inr (en_rcI (hm_231 _) rfl)⟩ ?_
  show At _ none _ _ (0, [(0, .ref 231)], [], (en_pre a 231 hp_M, n)) _
  refine At.enter rfl ?_
  refine r_aload_n rfl ?_
  refine r_iconst 0 rfl ?_
  refine r_putf (hm_231 _) (Nat.le_of_ble_eq_true rfl) rfl [.int 0, .int 0, .ref 232, .ref 233, .ref 234, .ref 235, .int 0, .ref 236, .int 0, .int 0, .int 0, .int 0, .long 0, .int (-1), .int 0, .int 0, .ref 237, .int 0, .ref 238, .ref 239, .int 0, .ref 240, .ref 241, .int 0, .int 0, .ref 242, .ref 243, .int 0, .ref 244, .ref 245, .int 0, .long 0, .long 0, .ref 246, .ref 247, .ref 248, .int 0, .ref 249, .ref 250, .ref 251, .ref 252, .ref 253, .ref 254, .ref 255, .ref 256, .int 0, .int 0, .int 0, .long 0, .ref 257, .ref 258, .int 0] rfl ?_
  refine r_aload_n rfl ?_
  refine r_get (v := .int (-1)) (en_gs_eq (hm_231 _)) rfl ?_
  refine r_ireti ?_
  exact ⟨congrArg (fun z => some (Value.int z)) rfl, (en_lset (en_prel a)), rfl⟩
