set_option maxRecDepth 100000 in
set_option maxHeartbeats 4000000 in
theorem zx_X10_home (a1 : Int32) : Ev 14 126 [.ref 0, .int a1] (hp_X ++ hp_M, 51333) (fun r h' => r = some (.int (sp_home a1)) ∧ IsX h'.1 ∧ h'.2 = 51333) := by
  refine Ev.mk rfl rfl ⟨Nat.le_of_ble_eq_true rfl, Or.inr (en_rcI hx_0 rfl)⟩ ?_
  show At _ none _ _ (0, [(0, .ref 0), (1, .int a1)], [], (hp_X ++ hp_M, 51333)) _
  refine At.enter rfl ?_
  refine r_iload_n rfl ?_
  refine r_iconst 0 rfl ?_
  refine r_iconst 2 rfl ?_
  refine r_callS3s (((a1).toInt < (0))) (((a1).toInt ≥ (0)) ∧ ((a1).toInt > (2))) (((a1).toInt ≥ (0)) ∧ ((a1).toInt ≤ (2))) (.int 0) (.int 0) (.int 1) (hp_X ++ hp_M, 51333) (hp_X ++ hp_M, 51333) (hp_X ++ hp_M, 51333) 6 rfl [.int a1, .int 0, .int 2] [] (Nat.le_of_ble_eq_true rfl) rfl ?_ (fun c1_ => ?_) (fun ⟨c1_, c2_⟩ => ?_) (fun ⟨c1_, c2_⟩ => ?_)
  · refine Ev.mk rfl rfl ⟨Nat.le_of_ble_eq_true rfl, Or.inl rfl⟩ ?_
    show At _ none _ _ (0, [(0, .int a1), (1, .int 0), (2, .int 2)], [], (hp_X ++ hp_M, 51333)) _
    refine At.enter rfl ?_
    refine r_iload_n rfl ?_
    refine r_iload_n rfl ?_
    refine r_ics 5 rfl (fun c1 => ?_) (fun c1 => ?_)
    · have c1_ : (a1).toInt < (0) := (by have z := en_i_lt_t c1; (try simp only [Int32.toInt_toInt64] at z); exact z)
      refine At.enter rfl ?_
      refine r_iconst 0 rfl ?_
      refine Ar.fall 15 rfl ?_
      refine At.enter rfl ?_
      refine r_iretz (by decide) ?_
      exact Or.inl ⟨c1_, rfl, rfl⟩
    · have c1_ : (a1).toInt ≥ (0) := (by have z := en_i_lt_f c1; (try simp only [Int32.toInt_toInt64] at z); exact z)
      refine At.enter rfl ?_
      refine r_iload_n rfl ?_
      refine r_iload_n rfl ?_
      refine r_ics 10 rfl (fun c2 => ?_) (fun c2 => ?_)
      · have c2_ : (a1).toInt > (2) := (by have z := en_i_gt_t c2; (try simp only [Int32.toInt_toInt64] at z); exact z)
        refine At.enter rfl ?_
        refine r_iconst 0 rfl ?_
        refine Ar.fall 15 rfl ?_
        refine At.enter rfl ?_
        refine r_iretz (by decide) ?_
        exact Or.inr (Or.inl ⟨⟨c1_, c2_⟩, rfl, rfl⟩)
      · have c2_ : (a1).toInt ≤ (2) := (by have z := en_i_gt_f c2; (try simp only [Int32.toInt_toInt64] at z); exact z)
        refine At.enter rfl ?_
        refine r_iconst 1 rfl ?_
        refine r_goto ?_
        refine At.enter rfl ?_
        refine r_iretz (by decide) ?_
        exact Or.inr (Or.inr (⟨⟨c1_, c2_⟩, rfl, rfl⟩))
  · refine At.enter rfl ?_
    refine r_ift (by decide) ?_
    refine At.enter rfl ?_
    refine r_iconst (-1) rfl ?_
    refine Ar.fall 21 rfl ?_
    refine At.enter rfl ?_
    refine r_ireti ?_
    exact ⟨congrArg (fun z => some (Value.int z)) (by unfold sp_home; (repeat' split) <;> first | rfl | omega), IsX.base, rfl⟩
  · refine At.enter rfl ?_
    refine r_ift (by decide) ?_
    refine At.enter rfl ?_
    refine r_iconst (-1) rfl ?_
    refine Ar.fall 21 rfl ?_
    refine At.enter rfl ?_
    refine r_ireti ?_
    exact ⟨congrArg (fun z => some (Value.int z)) (by unfold sp_home; (repeat' split) <;> first | rfl | omega), IsX.base, rfl⟩
  · refine At.enter rfl ?_
    refine r_iff 9 rfl (by decide) ?_
    refine At.enter rfl ?_
    refine r_aload_n rfl ?_
    refine r_get (v := .ref 222) hx_0 rfl ?_
    refine r_iload_n rfl ?_
    refine r_callV3s (((a1).toInt ≠ (0)) ∧ ((a1).toInt ≠ (1))) (((a1).toInt ≠ (0)) ∧ ((a1).toInt = (1))) (((a1).toInt = (0))) (.int 1) (.int 0) (.int 0) (((((((((((hp_X ++ hp_M).set 222 (.inr (6, [.ref 1, .ref 204, .int 1, .int 0, .int 0, .int 1]))).set 205 (.inl (0, .inl (List.replicate 12 0)))).set 206 (.inl (0, .inl (List.replicate 12 0)))).set 211 (.inl (0, .inl (List.replicate 8 (-1))))).set 212 (.inl (0, .inl (List.replicate 8 (-1))))).set 214 (.inl (0, .inl (List.replicate 8 0)))).set 213 (.inl (0, .inl (List.replicate 8 0)))).set 215 (.inl (0, .inl (List.replicate 12 0)))).set 216 (.inl (0, .inl (List.replicate 12 0)))).set 210 (.inl (0, .inl (List.replicate 8 0))), 51333) (((((((((((hp_X ++ hp_M).set 222 (.inr (6, [.ref 1, .ref 204, .int 1, .int 0, .int 0, .int 1]))).set 205 (.inl (0, .inl (List.replicate 12 0)))).set 206 (.inl (0, .inl (List.replicate 12 0)))).set 211 (.inl (0, .inl (List.replicate 8 (-1))))).set 212 (.inl (0, .inl (List.replicate 8 (-1))))).set 214 (.inl (0, .inl (List.replicate 8 0)))).set 213 (.inl (0, .inl (List.replicate 8 0)))).set 215 (.inl (0, .inl (List.replicate 12 0)))).set 216 (.inl (0, .inl (List.replicate 12 0)))).set 210 (.inl (0, .inl (List.replicate 8 0))), 51333) (((((((((((hp_X ++ hp_M).set 222 (.inr (6, [.ref 1, .ref 204, .int 1, .int 0, .int 0, .int 1]))).set 205 (.inl (0, .inl (List.replicate 12 0)))).set 206 (.inl (0, .inl (List.replicate 12 0)))).set 211 (.inl (0, .inl (List.replicate 8 (-1))))).set 212 (.inl (0, .inl (List.replicate 8 (-1))))).set 214 (.inl (0, .inl (List.replicate 8 0)))).set 213 (.inl (0, .inl (List.replicate 8 0)))).set 215 (.inl (0, .inl (List.replicate 12 0)))).set 216 (.inl (0, .inl (List.replicate 12 0)))).set 210 (.inl (0, .inl (List.replicate 8 0))), 51333) 17 rfl [.ref 222, .int a1] [] (Nat.le_of_ble_eq_true rfl) rfl ?_ (fun ⟨c3_, c4_⟩ => ?_) (fun ⟨c3_, c4_⟩ => ?_) (fun c3_ => ?_)
    · refine Ev.mk rfl rfl ⟨Nat.le_of_ble_eq_true rfl, Or.inr (en_rcI hx_222 rfl)⟩ ?_
      show At _ none _ _ (0, [(0, .ref 222), (1, .int a1)], [], (hp_X ++ hp_M, 51333)) _
      refine At.enter rfl ?_
      refine r_aload_n rfl ?_
      refine r_get (v := .int 0) hx_222 rfl ?_
      refine r_iff 7 rfl (by decide) ?_
      refine At.enter rfl ?_
      refine r_aload_n rfl ?_
      refine r_iconst 1 rfl ?_
      refine r_putf hx_222 (Nat.le_of_ble_eq_true rfl) rfl [.ref 1, .ref 204, .int 1, .int 0, .int 0, .int 0] rfl ?_
      refine r_aload_n rfl ?_
      refine r_callV1v (True)  (((((((((((hp_X ++ hp_M).set 222 (.inr (6, [.ref 1, .ref 204, .int 1, .int 0, .int 0, .int 1]))).set 205 (.inl (0, .inl (List.replicate 12 0)))).set 206 (.inl (0, .inl (List.replicate 12 0)))).set 211 (.inl (0, .inl (List.replicate 8 (-1))))).set 212 (.inl (0, .inl (List.replicate 8 (-1))))).set 214 (.inl (0, .inl (List.replicate 8 0)))).set 213 (.inl (0, .inl (List.replicate 8 0)))).set 215 (.inl (0, .inl (List.replicate 12 0)))).set 216 (.inl (0, .inl (List.replicate 12 0)))).set 210 (.inl (0, .inl (List.replicate 8 0))), 51333) 16 rfl [.ref 222] [] (Nat.le_of_ble_eq_true rfl) rfl ?_ (fun _ => ?_)
      · refine Ev.mk rfl rfl ⟨Nat.le_of_ble_eq_true rfl, Or.inr (en_rcI (en_gs_eq hx_222) rfl)⟩ ?_
        show At _ none _ _ (0, [(0, .ref 222)], [], ((hp_X ++ hp_M).set 222 (.inr (6, [.ref 1, .ref 204, .int 1, .int 0, .int 0, .int 0])), 51333)) _
        refine At.enter rfl ?_
        refine r_aload_n rfl ?_
        refine r_iconst 0 rfl ?_
        refine r_putf (en_gs_eq hx_222) (Nat.le_of_ble_eq_true rfl) rfl [.ref 1, .ref 204, .int 1, .int 0, .int 0, .int 0] rfl ?_
        refine Ar.hp en_sd0 ?_
        refine r_aload_n rfl ?_
        refine r_iconst (-1) rfl ?_
        refine r_putf (en_gs_eq hx_222) (Nat.le_of_ble_eq_true rfl) rfl [.ref 1, .ref 204, .int 1, .int 0, .int (-1), .int 0] rfl ?_
        refine Ar.hp en_sd0 ?_
        refine r_aload_n rfl ?_
        refine r_iconst (-1) rfl ?_
        refine r_putf (en_gs_eq hx_222) (Nat.le_of_ble_eq_true rfl) rfl [.ref 1, .ref 204, .int 1, .int (-1), .int (-1), .int 0] rfl ?_
        refine Ar.hp en_sd0 ?_
        refine r_iconst 0 rfl ?_
        refine r_istore_n ([(1, .int 0), (0, .ref 222)]) rfl ?_
        refine r_iconst 0 rfl ?_
        refine r_istore_n ([(2, .int 0), (1, .int 0), (0, .ref 222)]) rfl ?_
        refine Ar.fall 19 rfl ?_
        refine At.enter rfl ?_
        refine r_iload_n rfl ?_
        refine r_aload_n rfl ?_
        refine r_get (v := .ref 1) (en_gs_eq hx_222) rfl ?_
        refine r_get (v := .int 0) (en_gs_ne (by decide) hx_1) rfl ?_
        refine r_ict (by decide) ?_
        refine At.enter rfl ?_
        refine r_iconst 1 rfl ?_
        refine r_aload_n rfl ?_
        refine r_get (v := .ref 1) (en_gs_eq hx_222) rfl ?_
        refine r_get (v := .int 0) (en_gs_ne (by decide) hx_1) rfl ?_
        refine r_ishl 1 rfl ?_
        refine r_iconst 1 rfl ?_
        refine r_isub 0 rfl ?_
        refine r_istore_n ([(2, .int 0), (1, .int 0), (0, .ref 222)]) rfl ?_
        refine r_iconst 0 rfl ?_
        refine r_istore_n ([(3, .int 0), (2, .int 0), (1, .int 0), (0, .ref 222)]) rfl ?_
        refine Ar.fall 76 rfl ?_
        refine At.enter rfl ?_
        refine r_iload_n rfl ?_
        refine r_iconst 3 rfl ?_
        refine r_icf 81 rfl (by decide) ?_
        refine At.enter rfl ?_
        refine r_aload_n rfl ?_
        refine r_get (v := .int 0) (en_gs_eq hx_222) rfl ?_
        refine r_iff 88 rfl (by decide) ?_
        refine At.enter rfl ?_
        refine r_iconst 0 rfl ?_
        refine r_istore ([(4, .int 0), (3, .int 0), (2, .int 0), (1, .int 0), (0, .ref 222)]) rfl ?_
        refine Ar.fall 91 rfl ?_
        refine At.enter rfl ?_
        refine r_iload rfl ?_
        refine r_iconst 1 rfl ?_
        refine r_aload_n rfl ?_
        refine r_get (v := .ref 1) (en_gs_eq hx_222) rfl ?_
        refine r_get (v := .int 0) (en_gs_ne (by decide) hx_1) rfl ?_
        refine r_ishl 1 rfl ?_
        refine r_icf 105 rfl (by decide) ?_
        refine At.enter rfl ?_
        refine r_iload rfl ?_
        refine r_callS1s (True) (.int 0) ((hp_X ++ hp_M).set 222 (.inr (6, [.ref 1, .ref 204, .int 1, .int (-1), .int (-1), .int 0])), 51333) 110 rfl [.int 0] [] (Nat.le_of_ble_eq_true rfl) rfl ?_ (fun _ => ?_)
        · refine Ev.mk rfl rfl ⟨Nat.le_of_ble_eq_true rfl, Or.inl rfl⟩ ?_
          show At _ none _ _ (0, [(0, .int 0)], [], ((hp_X ++ hp_M).set 222 (.inr (6, [.ref 1, .ref 204, .int 1, .int (-1), .int (-1), .int 0])), 51333)) _
          refine At.enter rfl ?_
          refine r_iload_n rfl ?_
          refine r_iload_n rfl ?_
          refine r_iconst 1 rfl ?_
          refine r_iushr 0 rfl ?_
          refine r_ldcw 1431655765 rfl ?_
          refine r_iand 0 rfl ?_
          refine r_isub 0 rfl ?_
          refine r_istore_n ([(0, .int 0)]) rfl ?_
          refine r_iload_n rfl ?_
          refine r_ldcw 858993459 rfl ?_
          refine r_iand 0 rfl ?_
          refine r_iload_n rfl ?_
          refine r_iconst 2 rfl ?_
          refine r_iushr 0 rfl ?_
          refine r_ldcw 858993459 rfl ?_
          refine r_iand 0 rfl ?_
          refine r_iadd 0 rfl ?_
          refine r_istore_n ([(0, .int 0)]) rfl ?_
          refine r_iload_n rfl ?_
          refine r_iload_n rfl ?_
          refine r_iconst 4 rfl ?_
          refine r_iushr 0 rfl ?_
          refine r_iadd 0 rfl ?_
          refine r_ldcw 252645135 rfl ?_
          refine r_iand 0 rfl ?_
          refine r_istore_n ([(0, .int 0)]) rfl ?_
          refine r_iload_n rfl ?_
          refine r_iload_n rfl ?_
          refine r_bipush 8 rfl ?_
          refine r_iushr 0 rfl ?_
          refine r_iadd 0 rfl ?_
          refine r_istore_n ([(0, .int 0)]) rfl ?_
          refine r_iload_n rfl ?_
          refine r_iload_n rfl ?_
          refine r_bipush 16 rfl ?_
          refine r_iushr 0 rfl ?_
          refine r_iadd 0 rfl ?_
          refine r_istore_n ([(0, .int 0)]) rfl ?_
          refine r_iload_n rfl ?_
          refine r_bipush 63 rfl ?_
          refine r_iand 0 rfl ?_
          refine r_ireti ?_
          exact ⟨trivial, rfl, rfl⟩
        refine At.enter rfl ?_
        refine r_iload_n rfl ?_
        refine r_icf 114 rfl (by decide) ?_
        refine At.enter rfl ?_
        refine r_iload rfl ?_
        refine r_iload_n rfl ?_
        refine r_iand 0 rfl ?_
        refine r_ift (by decide) ?_
        refine At.enter rfl ?_
        refine r_aload_n rfl ?_
        refine r_get (v := .ref 204) (en_gs_eq hx_222) rfl ?_
        refine r_iload rfl ?_
        refine r_callV1v (True)  ((((hp_X ++ hp_M).set 222 (.inr (6, [.ref 1, .ref 204, .int 1, .int (-1), .int (-1), .int 0]))).set 205 (.inl (0, .inl (List.replicate 12 0)))).set 206 (.inl (0, .inl (List.replicate 12 0))), 51333) 133 rfl [.ref 204, .int 0] [] (Nat.le_of_ble_eq_true rfl) rfl ?_ (fun _ => ?_)
        · refine Ev.mk rfl rfl ⟨Nat.le_of_ble_eq_true rfl, Or.inr (en_rcI (en_gs_ne (by decide) hx_204) rfl)⟩ ?_
          show At _ none _ _ (0, [(0, .ref 204), (1, .int 0)], [], ((hp_X ++ hp_M).set 222 (.inr (6, [.ref 1, .ref 204, .int 1, .int (-1), .int (-1), .int 0])), 51333)) _
          refine At.enter rfl ?_
          refine r_aload_n rfl ?_
          refine r_get (v := .ref 1) (en_gs_ne (by decide) hx_204) rfl ?_
          refine r_get (v := .ref 3) (en_gs_ne (by decide) hx_1) rfl ?_
          refine r_iconst 0 rfl ?_
          refine r_aload_n rfl ?_
          refine r_get (v := .ref 205) (en_gs_ne (by decide) hx_204) rfl ?_
          refine r_iconst 0 rfl ?_
          refine r_bipush 12 rfl ?_
          refine r_cpy rfl (en_gs_ne (by decide) hx_3) (en_gs_ne (by decide) hx_205) (by decide +kernel) (List.replicate 12 0) (by decide +kernel) ?_
          refine r_aload_n rfl ?_
          refine r_get (v := .ref 1) (en_gs_ne (by decide) (en_gs_ne (by decide) hx_204)) rfl ?_
          refine r_get (v := .ref 4) (en_gs_ne (by decide) (en_gs_ne (by decide) hx_1)) rfl ?_
          refine r_iconst 0 rfl ?_
          refine r_aload_n rfl ?_
          refine r_get (v := .ref 206) (en_gs_ne (by decide) (en_gs_ne (by decide) hx_204)) rfl ?_
          refine r_iconst 0 rfl ?_
          refine r_bipush 12 rfl ?_
          refine r_cpy rfl (en_gs_ne (by decide) (en_gs_ne (by decide) hx_4)) (en_gs_ne (by decide) (en_gs_ne (by decide) hx_206)) (by decide +kernel) (List.replicate 12 0) (by decide +kernel) ?_
          refine r_iconst 0 rfl ?_
          refine r_istore_n ([(2, .int 0), (0, .ref 204), (1, .int 0)]) rfl ?_
          refine Ar.fall 38 rfl ?_
          refine At.enter rfl ?_
          refine r_iload_n rfl ?_
          refine r_aload_n rfl ?_
          refine r_get (v := .ref 1) (en_gs_ne (by decide) (en_gs_ne (by decide) (en_gs_ne (by decide) hx_204))) rfl ?_
          refine r_get (v := .int 0) (en_gs_ne (by decide) (en_gs_ne (by decide) (en_gs_ne (by decide) hx_1))) rfl ?_
          refine r_ict (by decide) ?_
          refine At.enter rfl ?_
          refine r_iconst 0 rfl ?_
          refine r_istore_n ([(2, .int 0), (0, .ref 204), (1, .int 0)]) rfl ?_
          refine Ar.fall 72 rfl ?_
          refine At.enter rfl ?_
          refine r_iload_n rfl ?_
          refine r_aload_n rfl ?_
          refine r_get (v := .ref 1) (en_gs_ne (by decide) (en_gs_ne (by decide) (en_gs_ne (by decide) hx_204))) rfl ?_
          refine r_get (v := .int 0) (en_gs_ne (by decide) (en_gs_ne (by decide) (en_gs_ne (by decide) hx_1))) rfl ?_
          refine r_ict (by decide) ?_
          refine At.enter rfl ?_
          refine r_vret ?_
          exact ⟨trivial, rfl, rfl⟩
        refine At.enter rfl ?_
        refine r_aload_n rfl ?_
        refine r_get (v := .ref 204) (en_gs_ne (by decide) (en_gs_ne (by decide) (en_gs_eq hx_222))) rfl ?_
        refine r_iload_n rfl ?_
        refine r_bipush 99 rfl ?_
        refine r_callV1s (True) (.int 1) (((((((((((hp_X ++ hp_M).set 222 (.inr (6, [.ref 1, .ref 204, .int 1, .int (-1), .int (-1), .int 0]))).set 205 (.inl (0, .inl (List.replicate 12 0)))).set 206 (.inl (0, .inl (List.replicate 12 0)))).set 211 (.inl (0, .inl (List.replicate 8 (-1))))).set 212 (.inl (0, .inl (List.replicate 8 (-1))))).set 214 (.inl (0, .inl (List.replicate 8 0)))).set 213 (.inl (0, .inl (List.replicate 8 0)))).set 215 (.inl (0, .inl (List.replicate 12 0)))).set 216 (.inl (0, .inl (List.replicate 12 0)))).set 210 (.inl (0, .inl (List.replicate 8 0))), 51333) 143 rfl [.ref 204, .int 0, .int 99] [] (Nat.le_of_ble_eq_true rfl) rfl ?_ (fun _ => ?_)
        · refine Ev.mk rfl rfl ⟨Nat.le_of_ble_eq_true rfl, Or.inr (en_rcI (en_gs_ne (by decide) (en_gs_ne (by decide) (en_gs_ne (by decide) hx_204))) rfl)⟩ ?_
          show At _ none _ _ (0, [(0, .ref 204), (1, .int 0), (2, .int 99)], [], ((((hp_X ++ hp_M).set 222 (.inr (6, [.ref 1, .ref 204, .int 1, .int (-1), .int (-1), .int 0]))).set 205 (.inl (0, .inl (List.replicate 12 0)))).set 206 (.inl (0, .inl (List.replicate 12 0))), 51333)) _
          refine At.enter rfl ?_
          refine r_aload_n rfl ?_
          refine r_iload_n rfl ?_
          refine r_iload_n rfl ?_
          refine r_callV1s (True) (.int 1) ((((hp_X ++ hp_M).set 222 (.inr (6, [.ref 1, .ref 204, .int 1, .int (-1), .int (-1), .int 0]))).set 205 (.inl (0, .inl (List.replicate 12 0)))).set 206 (.inl (0, .inl (List.replicate 12 0))), 51333) 6 rfl [.ref 204, .int 0, .int 99] [] (Nat.le_of_ble_eq_true rfl) rfl ?_ (fun _ => ?_)
          · refine Ev.mk rfl rfl ⟨Nat.le_of_ble_eq_true rfl, Or.inr (en_rcI (en_gs_ne (by decide) (en_gs_ne (by decide) (en_gs_ne (by decide) hx_204))) rfl)⟩ ?_
            show At _ none _ _ (0, [(0, .ref 204), (1, .int 0), (2, .int 99)], [], ((((hp_X ++ hp_M).set 222 (.inr (6, [.ref 1, .ref 204, .int 1, .int (-1), .int (-1), .int 0]))).set 205 (.inl (0, .inl (List.replicate 12 0)))).set 206 (.inl (0, .inl (List.replicate 12 0))), 51333)) _
            refine At.enter rfl ?_
            refine r_iconst 0 rfl ?_
            refine r_istore_n ([(3, .int 0), (0, .ref 204), (1, .int 0), (2, .int 99)]) rfl ?_
            refine Ar.fall 2 rfl ?_
            refine At.enter rfl ?_
            refine r_iload_n rfl ?_
            refine r_aload_n rfl ?_
            refine r_get (v := .ref 1) (en_gs_ne (by decide) (en_gs_ne (by decide) (en_gs_ne (by decide) hx_204))) rfl ?_
            refine r_get (v := .int 0) (en_gs_ne (by decide) (en_gs_ne (by decide) (en_gs_ne (by decide) hx_1))) rfl ?_
            refine r_ict (by decide) ?_
            refine At.enter rfl ?_
            refine r_iconst 1 rfl ?_
            refine r_iretz (by decide) ?_
            exact ⟨trivial, rfl, rfl⟩
          refine At.enter rfl ?_
          refine r_ift (by decide) ?_
          refine At.enter rfl ?_
          refine r_aload_n rfl ?_
          refine r_callV1v (True)  (((((((((((hp_X ++ hp_M).set 222 (.inr (6, [.ref 1, .ref 204, .int 1, .int (-1), .int (-1), .int 0]))).set 205 (.inl (0, .inl (List.replicate 12 0)))).set 206 (.inl (0, .inl (List.replicate 12 0)))).set 211 (.inl (0, .inl (List.replicate 8 (-1))))).set 212 (.inl (0, .inl (List.replicate 8 (-1))))).set 214 (.inl (0, .inl (List.replicate 8 0)))).set 213 (.inl (0, .inl (List.replicate 8 0)))).set 215 (.inl (0, .inl (List.replicate 12 0)))).set 216 (.inl (0, .inl (List.replicate 12 0)))).set 210 (.inl (0, .inl (List.replicate 8 0))), 51333) 15 rfl [.ref 204] [] (Nat.le_of_ble_eq_true rfl) rfl ?_ (fun _ => ?_)
          · refine Ev.mk rfl rfl ⟨Nat.le_of_ble_eq_true rfl, Or.inr (en_rcI (en_gs_ne (by decide) (en_gs_ne (by decide) (en_gs_ne (by decide) hx_204))) rfl)⟩ ?_
            show At _ none _ _ (0, [(0, .ref 204)], [], ((((hp_X ++ hp_M).set 222 (.inr (6, [.ref 1, .ref 204, .int 1, .int (-1), .int (-1), .int 0]))).set 205 (.inl (0, .inl (List.replicate 12 0)))).set 206 (.inl (0, .inl (List.replicate 12 0))), 51333)) _
            refine At.enter rfl ?_
            refine r_aload_n rfl ?_
            refine r_get (v := .ref 211) (en_gs_ne (by decide) (en_gs_ne (by decide) (en_gs_ne (by decide) hx_204))) rfl ?_
            refine r_iconst (-1) rfl ?_
            refine r_callS1v (True)  (((((hp_X ++ hp_M).set 222 (.inr (6, [.ref 1, .ref 204, .int 1, .int (-1), .int (-1), .int 0]))).set 205 (.inl (0, .inl (List.replicate 12 0)))).set 206 (.inl (0, .inl (List.replicate 12 0)))).set 211 (.inl (0, .inl (List.replicate 8 (-1)))), 51333) 8 rfl [.ref 211, .int (-1)] [] (Nat.le_of_ble_eq_true rfl) rfl ?_ (fun _ => ?_)
            · refine Ev.mk rfl rfl ⟨Nat.le_of_ble_eq_true rfl, Or.inl rfl⟩ ?_
              show At _ none _ _ (0, [(0, .ref 211), (1, .int (-1))], [], ((((hp_X ++ hp_M).set 222 (.inr (6, [.ref 1, .ref 204, .int 1, .int (-1), .int (-1), .int 0]))).set 205 (.inl (0, .inl (List.replicate 12 0)))).set 206 (.inl (0, .inl (List.replicate 12 0))), 51333)) _
              refine At.enter rfl ?_
              refine r_iconst 0 rfl ?_
              refine r_istore_n ([(2, .int 0), (0, .ref 211), (1, .int (-1))]) rfl ?_
              refine r_aload_n rfl ?_
              refine r_alen (en_gs_ne (by decide) (en_gs_ne (by decide) (en_gs_ne (by decide) hx_211))) (by decide) 8 rfl ?_
              refine r_istore_n ([(3, .int 8), (2, .int 0), (0, .ref 211), (1, .int (-1))]) rfl ?_
              refine Ar.fall 5 rfl ?_
              refine At.enter rfl ?_
              refine r_iload_n rfl ?_
              refine r_iload_n rfl ?_
              refine r_icf 10 rfl (by decide) ?_
              refine At.enter rfl ?_
              refine r_aload_n rfl ?_
              refine r_iload_n rfl ?_
              refine r_iload_n rfl ?_
              refine r_iast (en_gs_ne (by decide) (en_gs_ne (by decide) (en_gs_ne (by decide) hx_211))) (by decide) (Nat.le_of_ble_eq_true rfl) ([(-1)] ++ List.replicate 7 0) (by decide +kernel) ?_
              refine r_iinc rfl 1 rfl ([(2, .int 1), (3, .int 8), (0, .ref 211), (1, .int (-1))]) rfl ?_
              refine r_goto ?_
              refine At.enter rfl ?_
              refine r_iload_n rfl ?_
              refine r_iload_n rfl ?_
              refine r_icf 10 rfl (by decide) ?_
              refine At.enter rfl ?_
              refine r_aload_n rfl ?_
              refine r_iload_n rfl ?_
              refine r_iload_n rfl ?_
              refine r_iast (en_gs_eq (en_gs_ne (by decide) (en_gs_ne (by decide) (en_gs_ne (by decide) hx_211)))) (by decide) (Nat.le_of_ble_eq_true rfl) ([(-1), (-1), 0, 0, 0, 0, 0, 0]) (by decide +kernel) ?_
              refine Ar.hp en_sd0 ?_
              refine r_iinc rfl 2 rfl ([(2, .int 2), (3, .int 8), (0, .ref 211), (1, .int (-1))]) rfl ?_
              refine r_goto ?_
              refine At.enter rfl ?_
              refine r_iload_n rfl ?_
              refine r_iload_n rfl ?_
              refine r_icf 10 rfl (by decide) ?_
              refine At.enter rfl ?_
              refine r_aload_n rfl ?_
              refine r_iload_n rfl ?_
              refine r_iload_n rfl ?_
              refine r_iast (en_gs_eq (en_gs_ne (by decide) (en_gs_ne (by decide) (en_gs_ne (by decide) hx_211)))) (by decide) (Nat.le_of_ble_eq_true rfl) ([(-1), (-1), (-1), 0, 0, 0, 0, 0]) (by decide +kernel) ?_
              refine Ar.hp en_sd0 ?_
              refine r_iinc rfl 3 rfl ([(2, .int 3), (3, .int 8), (0, .ref 211), (1, .int (-1))]) rfl ?_
              refine r_goto ?_
              refine At.enter rfl ?_
              refine r_iload_n rfl ?_
              refine r_iload_n rfl ?_
              refine r_icf 10 rfl (by decide) ?_
              refine At.enter rfl ?_
              refine r_aload_n rfl ?_
              refine r_iload_n rfl ?_
              refine r_iload_n rfl ?_
              refine r_iast (en_gs_eq (en_gs_ne (by decide) (en_gs_ne (by decide) (en_gs_ne (by decide) hx_211)))) (by decide) (Nat.le_of_ble_eq_true rfl) ([(-1), (-1), (-1), (-1), 0, 0, 0, 0]) (by decide +kernel) ?_
              refine Ar.hp en_sd0 ?_
              refine r_iinc rfl 4 rfl ([(2, .int 4), (3, .int 8), (0, .ref 211), (1, .int (-1))]) rfl ?_
              refine r_goto ?_
              refine At.enter rfl ?_
              refine r_iload_n rfl ?_
              refine r_iload_n rfl ?_
              refine r_icf 10 rfl (by decide) ?_
              refine At.enter rfl ?_
              refine r_aload_n rfl ?_
              refine r_iload_n rfl ?_
              refine r_iload_n rfl ?_
              refine r_iast (en_gs_eq (en_gs_ne (by decide) (en_gs_ne (by decide) (en_gs_ne (by decide) hx_211)))) (by decide) (Nat.le_of_ble_eq_true rfl) ([(-1), (-1), (-1), (-1), (-1), 0, 0, 0]) (by decide +kernel) ?_
              refine Ar.hp en_sd0 ?_
              refine r_iinc rfl 5 rfl ([(2, .int 5), (3, .int 8), (0, .ref 211), (1, .int (-1))]) rfl ?_
              refine r_goto ?_
              refine At.enter rfl ?_
              refine r_iload_n rfl ?_
              refine r_iload_n rfl ?_
              refine r_icf 10 rfl (by decide) ?_
              refine At.enter rfl ?_
              refine r_aload_n rfl ?_
              refine r_iload_n rfl ?_
              refine r_iload_n rfl ?_
              refine r_iast (en_gs_eq (en_gs_ne (by decide) (en_gs_ne (by decide) (en_gs_ne (by decide) hx_211)))) (by decide) (Nat.le_of_ble_eq_true rfl) ([(-1), (-1), (-1), (-1), (-1), (-1), 0, 0]) (by decide +kernel) ?_
              refine Ar.hp en_sd0 ?_
              refine r_iinc rfl 6 rfl ([(2, .int 6), (3, .int 8), (0, .ref 211), (1, .int (-1))]) rfl ?_
              refine r_goto ?_
              refine At.enter rfl ?_
              refine r_iload_n rfl ?_
              refine r_iload_n rfl ?_
              refine r_icf 10 rfl (by decide) ?_
              refine At.enter rfl ?_
              refine r_aload_n rfl ?_
              refine r_iload_n rfl ?_
              refine r_iload_n rfl ?_
              refine r_iast (en_gs_eq (en_gs_ne (by decide) (en_gs_ne (by decide) (en_gs_ne (by decide) hx_211)))) (by decide) (Nat.le_of_ble_eq_true rfl) ([(-1), (-1), (-1), (-1), (-1), (-1), (-1), 0]) (by decide +kernel) ?_
              refine Ar.hp en_sd0 ?_
              refine r_iinc rfl 7 rfl ([(2, .int 7), (3, .int 8), (0, .ref 211), (1, .int (-1))]) rfl ?_
              refine r_goto ?_
              refine At.enter rfl ?_
              refine r_iload_n rfl ?_
              refine r_iload_n rfl ?_
              refine r_icf 10 rfl (by decide) ?_
              refine At.enter rfl ?_
              refine r_aload_n rfl ?_
              refine r_iload_n rfl ?_
              refine r_iload_n rfl ?_
              refine r_iast (en_gs_eq (en_gs_ne (by decide) (en_gs_ne (by decide) (en_gs_ne (by decide) hx_211)))) (by decide) (Nat.le_of_ble_eq_true rfl) (List.replicate 8 (-1)) (by decide +kernel) ?_
              refine Ar.hp en_sd0 ?_
              refine r_iinc rfl 8 rfl ([(2, .int 8), (3, .int 8), (0, .ref 211), (1, .int (-1))]) rfl ?_
              refine r_goto ?_
              refine At.enter rfl ?_
              refine r_iload_n rfl ?_
              refine r_iload_n rfl ?_
              refine r_ict (by decide) ?_
              refine At.enter rfl ?_
              refine r_vret ?_
              exact ⟨trivial, rfl, rfl⟩
            refine At.enter rfl ?_
            refine r_aload_n rfl ?_
            refine r_get (v := .ref 212) (en_gs_ne (by decide) (en_gs_ne (by decide) (en_gs_ne (by decide) (en_gs_ne (by decide) hx_204)))) rfl ?_
            refine r_iconst (-1) rfl ?_
            refine r_callS1v (True)  ((((((hp_X ++ hp_M).set 222 (.inr (6, [.ref 1, .ref 204, .int 1, .int (-1), .int (-1), .int 0]))).set 205 (.inl (0, .inl (List.replicate 12 0)))).set 206 (.inl (0, .inl (List.replicate 12 0)))).set 211 (.inl (0, .inl (List.replicate 8 (-1))))).set 212 (.inl (0, .inl (List.replicate 8 (-1)))), 51333) 16 rfl [.ref 212, .int (-1)] [] (Nat.le_of_ble_eq_true rfl) rfl ?_ (fun _ => ?_)
            · refine Ev.mk rfl rfl ⟨Nat.le_of_ble_eq_true rfl, Or.inl rfl⟩ ?_
              show At _ none _ _ (0, [(0, .ref 212), (1, .int (-1))], [], (((((hp_X ++ hp_M).set 222 (.inr (6, [.ref 1, .ref 204, .int 1, .int (-1), .int (-1), .int 0]))).set 205 (.inl (0, .inl (List.replicate 12 0)))).set 206 (.inl (0, .inl (List.replicate 12 0)))).set 211 (.inl (0, .inl (List.replicate 8 (-1)))), 51333)) _
              refine At.enter rfl ?_
              refine r_iconst 0 rfl ?_
              refine r_istore_n ([(2, .int 0), (0, .ref 212), (1, .int (-1))]) rfl ?_
              refine r_aload_n rfl ?_
              refine r_alen (en_gs_ne (by decide) (en_gs_ne (by decide) (en_gs_ne (by decide) (en_gs_ne (by decide) hx_212)))) (by decide) 8 rfl ?_
              refine r_istore_n ([(3, .int 8), (2, .int 0), (0, .ref 212), (1, .int (-1))]) rfl ?_
              refine Ar.fall 5 rfl ?_
              refine At.enter rfl ?_
              refine r_iload_n rfl ?_
              refine r_iload_n rfl ?_
              refine r_icf 10 rfl (by decide) ?_
              refine At.enter rfl ?_
              refine r_aload_n rfl ?_
              refine r_iload_n rfl ?_
              refine r_iload_n rfl ?_
              refine r_iast (en_gs_ne (by decide) (en_gs_ne (by decide) (en_gs_ne (by decide) (en_gs_ne (by decide) hx_212)))) (by decide) (Nat.le_of_ble_eq_true rfl) ([(-1)] ++ List.replicate 7 0) (by decide +kernel) ?_
              refine r_iinc rfl 1 rfl ([(2, .int 1), (3, .int 8), (0, .ref 212), (1, .int (-1))]) rfl ?_
              refine r_goto ?_
              refine At.enter rfl ?_
              refine r_iload_n rfl ?_
              refine r_iload_n rfl ?_
              refine r_icf 10 rfl (by decide) ?_
              refine At.enter rfl ?_
              refine r_aload_n rfl ?_
              refine r_iload_n rfl ?_
              refine r_iload_n rfl ?_
              refine r_iast (en_gs_eq (en_gs_ne (by decide) (en_gs_ne (by decide) (en_gs_ne (by decide) (en_gs_ne (by decide) hx_212))))) (by decide) (Nat.le_of_ble_eq_true rfl) ([(-1), (-1), 0, 0, 0, 0, 0, 0]) (by decide +kernel) ?_
              refine Ar.hp en_sd0 ?_
              refine r_iinc rfl 2 rfl ([(2, .int 2), (3, .int 8), (0, .ref 212), (1, .int (-1))]) rfl ?_
              refine r_goto ?_
              refine At.enter rfl ?_
              refine r_iload_n rfl ?_
              refine r_iload_n rfl ?_
              refine r_icf 10 rfl (by decide) ?_
              refine At.enter rfl ?_
              refine r_aload_n rfl ?_
              refine r_iload_n rfl ?_
              refine r_iload_n rfl ?_
              refine r_iast (en_gs_eq (en_gs_ne (by decide) (en_gs_ne (by decide) (en_gs_ne (by decide) (en_gs_ne (by decide) hx_212))))) (by decide) (Nat.le_of_ble_eq_true rfl) ([(-1), (-1), (-1), 0, 0, 0, 0, 0]) (by decide +kernel) ?_
              refine Ar.hp en_sd0 ?_
              refine r_iinc rfl 3 rfl ([(2, .int 3), (3, .int 8), (0, .ref 212), (1, .int (-1))]) rfl ?_
              refine r_goto ?_
              refine At.enter rfl ?_
              refine r_iload_n rfl ?_
              refine r_iload_n rfl ?_
              refine r_icf 10 rfl (by decide) ?_
              refine At.enter rfl ?_
              refine r_aload_n rfl ?_
              refine r_iload_n rfl ?_
              refine r_iload_n rfl ?_
              refine r_iast (en_gs_eq (en_gs_ne (by decide) (en_gs_ne (by decide) (en_gs_ne (by decide) (en_gs_ne (by decide) hx_212))))) (by decide) (Nat.le_of_ble_eq_true rfl) ([(-1), (-1), (-1), (-1), 0, 0, 0, 0]) (by decide +kernel) ?_
              refine Ar.hp en_sd0 ?_
              refine r_iinc rfl 4 rfl ([(2, .int 4), (3, .int 8), (0, .ref 212), (1, .int (-1))]) rfl ?_
              refine r_goto ?_
              refine At.enter rfl ?_
              refine r_iload_n rfl ?_
              refine r_iload_n rfl ?_
              refine r_icf 10 rfl (by decide) ?_
              refine At.enter rfl ?_
              refine r_aload_n rfl ?_
              refine r_iload_n rfl ?_
              refine r_iload_n rfl ?_
              refine r_iast (en_gs_eq (en_gs_ne (by decide) (en_gs_ne (by decide) (en_gs_ne (by decide) (en_gs_ne (by decide) hx_212))))) (by decide) (Nat.le_of_ble_eq_true rfl) ([(-1), (-1), (-1), (-1), (-1), 0, 0, 0]) (by decide +kernel) ?_
              refine Ar.hp en_sd0 ?_
              refine r_iinc rfl 5 rfl ([(2, .int 5), (3, .int 8), (0, .ref 212), (1, .int (-1))]) rfl ?_
              refine r_goto ?_
              refine At.enter rfl ?_
              refine r_iload_n rfl ?_
              refine r_iload_n rfl ?_
              refine r_icf 10 rfl (by decide) ?_
              refine At.enter rfl ?_
              refine r_aload_n rfl ?_
              refine r_iload_n rfl ?_
              refine r_iload_n rfl ?_
              refine r_iast (en_gs_eq (en_gs_ne (by decide) (en_gs_ne (by decide) (en_gs_ne (by decide) (en_gs_ne (by decide) hx_212))))) (by decide) (Nat.le_of_ble_eq_true rfl) ([(-1), (-1), (-1), (-1), (-1), (-1), 0, 0]) (by decide +kernel) ?_
              refine Ar.hp en_sd0 ?_
              refine r_iinc rfl 6 rfl ([(2, .int 6), (3, .int 8), (0, .ref 212), (1, .int (-1))]) rfl ?_
              refine r_goto ?_
              refine At.enter rfl ?_
              refine r_iload_n rfl ?_
              refine r_iload_n rfl ?_
              refine r_icf 10 rfl (by decide) ?_
              refine At.enter rfl ?_
              refine r_aload_n rfl ?_
              refine r_iload_n rfl ?_
              refine r_iload_n rfl ?_
              refine r_iast (en_gs_eq (en_gs_ne (by decide) (en_gs_ne (by decide) (en_gs_ne (by decide) (en_gs_ne (by decide) hx_212))))) (by decide) (Nat.le_of_ble_eq_true rfl) ([(-1), (-1), (-1), (-1), (-1), (-1), (-1), 0]) (by decide +kernel) ?_
              refine Ar.hp en_sd0 ?_
              refine r_iinc rfl 7 rfl ([(2, .int 7), (3, .int 8), (0, .ref 212), (1, .int (-1))]) rfl ?_
              refine r_goto ?_
              refine At.enter rfl ?_
              refine r_iload_n rfl ?_
              refine r_iload_n rfl ?_
              refine r_icf 10 rfl (by decide) ?_
              refine At.enter rfl ?_
              refine r_aload_n rfl ?_
              refine r_iload_n rfl ?_
              refine r_iload_n rfl ?_
              refine r_iast (en_gs_eq (en_gs_ne (by decide) (en_gs_ne (by decide) (en_gs_ne (by decide) (en_gs_ne (by decide) hx_212))))) (by decide) (Nat.le_of_ble_eq_true rfl) (List.replicate 8 (-1)) (by decide +kernel) ?_
              refine Ar.hp en_sd0 ?_
              refine r_iinc rfl 8 rfl ([(2, .int 8), (3, .int 8), (0, .ref 212), (1, .int (-1))]) rfl ?_
              refine r_goto ?_
              refine At.enter rfl ?_
              refine r_iload_n rfl ?_
              refine r_iload_n rfl ?_
              refine r_ict (by decide) ?_
              refine At.enter rfl ?_
              refine r_vret ?_
              exact ⟨trivial, rfl, rfl⟩
            refine At.enter rfl ?_
            refine r_aload_n rfl ?_
            refine r_get (v := .ref 214) (en_gs_ne (by decide) (en_gs_ne (by decide) (en_gs_ne (by decide) (en_gs_ne (by decide) (en_gs_ne (by decide) hx_204))))) rfl ?_
            refine r_iconst 0 rfl ?_
            refine r_callS1v (True)  (((((((hp_X ++ hp_M).set 222 (.inr (6, [.ref 1, .ref 204, .int 1, .int (-1), .int (-1), .int 0]))).set 205 (.inl (0, .inl (List.replicate 12 0)))).set 206 (.inl (0, .inl (List.replicate 12 0)))).set 211 (.inl (0, .inl (List.replicate 8 (-1))))).set 212 (.inl (0, .inl (List.replicate 8 (-1))))).set 214 (.inl (0, .inl (List.replicate 8 0))), 51333) 24 rfl [.ref 214, .int 0] [] (Nat.le_of_ble_eq_true rfl) rfl ?_ (fun _ => ?_)
            · refine Ev.mk rfl rfl ⟨Nat.le_of_ble_eq_true rfl, Or.inl rfl⟩ ?_
              show At _ none _ _ (0, [(0, .ref 214), (1, .int 0)], [], ((((((hp_X ++ hp_M).set 222 (.inr (6, [.ref 1, .ref 204, .int 1, .int (-1), .int (-1), .int 0]))).set 205 (.inl (0, .inl (List.replicate 12 0)))).set 206 (.inl (0, .inl (List.replicate 12 0)))).set 211 (.inl (0, .inl (List.replicate 8 (-1))))).set 212 (.inl (0, .inl (List.replicate 8 (-1)))), 51333)) _
              refine At.enter rfl ?_
              refine r_iconst 0 rfl ?_
              refine r_istore_n ([(2, .int 0), (0, .ref 214), (1, .int 0)]) rfl ?_
              refine r_aload_n rfl ?_
              refine r_alen (en_gs_ne (by decide) (en_gs_ne (by decide) (en_gs_ne (by decide) (en_gs_ne (by decide) (en_gs_ne (by decide) hx_214))))) (by decide) 8 rfl ?_
              refine r_istore_n ([(3, .int 8), (2, .int 0), (0, .ref 214), (1, .int 0)]) rfl ?_
              refine Ar.fall 5 rfl ?_
              refine At.enter rfl ?_
              refine r_iload_n rfl ?_
              refine r_iload_n rfl ?_
              refine r_icf 10 rfl (by decide) ?_
              refine At.enter rfl ?_
              refine r_aload_n rfl ?_
              refine r_iload_n rfl ?_
              refine r_iload_n rfl ?_
              refine r_iast (en_gs_ne (by decide) (en_gs_ne (by decide) (en_gs_ne (by decide) (en_gs_ne (by decide) (en_gs_ne (by decide) hx_214))))) (by decide) (Nat.le_of_ble_eq_true rfl) (List.replicate 8 0) (by decide +kernel) ?_
              refine r_iinc rfl 1 rfl ([(2, .int 1), (3, .int 8), (0, .ref 214), (1, .int 0)]) rfl ?_
              refine r_goto ?_
              refine At.enter rfl ?_
              refine r_iload_n rfl ?_
              refine r_iload_n rfl ?_
              refine r_icf 10 rfl (by decide) ?_
              refine At.enter rfl ?_
              refine r_aload_n rfl ?_
              refine r_iload_n rfl ?_
              refine r_iload_n rfl ?_
              refine r_iast (en_gs_eq (en_gs_ne (by decide) (en_gs_ne (by decide) (en_gs_ne (by decide) (en_gs_ne (by decide) (en_gs_ne (by decide) hx_214)))))) (by decide) (Nat.le_of_ble_eq_true rfl) (List.replicate 8 0) (by decide +kernel) ?_
              refine Ar.hp en_sd0 ?_
              refine r_iinc rfl 2 rfl ([(2, .int 2), (3, .int 8), (0, .ref 214), (1, .int 0)]) rfl ?_
              refine r_goto ?_
              refine At.enter rfl ?_
              refine r_iload_n rfl ?_
              refine r_iload_n rfl ?_
              refine r_icf 10 rfl (by decide) ?_
              refine At.enter rfl ?_
              refine r_aload_n rfl ?_
              refine r_iload_n rfl ?_
              refine r_iload_n rfl ?_
              refine r_iast (en_gs_eq (en_gs_ne (by decide) (en_gs_ne (by decide) (en_gs_ne (by decide) (en_gs_ne (by decide) (en_gs_ne (by decide) hx_214)))))) (by decide) (Nat.le_of_ble_eq_true rfl) (List.replicate 8 0) (by decide +kernel) ?_
              refine Ar.hp en_sd0 ?_
              refine r_iinc rfl 3 rfl ([(2, .int 3), (3, .int 8), (0, .ref 214), (1, .int 0)]) rfl ?_
              refine r_goto ?_
              refine At.enter rfl ?_
              refine r_iload_n rfl ?_
              refine r_iload_n rfl ?_
              refine r_icf 10 rfl (by decide) ?_
              refine At.enter rfl ?_
              refine r_aload_n rfl ?_
              refine r_iload_n rfl ?_
              refine r_iload_n rfl ?_
              refine r_iast (en_gs_eq (en_gs_ne (by decide) (en_gs_ne (by decide) (en_gs_ne (by decide) (en_gs_ne (by decide) (en_gs_ne (by decide) hx_214)))))) (by decide) (Nat.le_of_ble_eq_true rfl) (List.replicate 8 0) (by decide +kernel) ?_
              refine Ar.hp en_sd0 ?_
              refine r_iinc rfl 4 rfl ([(2, .int 4), (3, .int 8), (0, .ref 214), (1, .int 0)]) rfl ?_
              refine r_goto ?_
              refine At.enter rfl ?_
              refine r_iload_n rfl ?_
              refine r_iload_n rfl ?_
              refine r_icf 10 rfl (by decide) ?_
              refine At.enter rfl ?_
              refine r_aload_n rfl ?_
              refine r_iload_n rfl ?_
              refine r_iload_n rfl ?_
              refine r_iast (en_gs_eq (en_gs_ne (by decide) (en_gs_ne (by decide) (en_gs_ne (by decide) (en_gs_ne (by decide) (en_gs_ne (by decide) hx_214)))))) (by decide) (Nat.le_of_ble_eq_true rfl) (List.replicate 8 0) (by decide +kernel) ?_
              refine Ar.hp en_sd0 ?_
              refine r_iinc rfl 5 rfl ([(2, .int 5), (3, .int 8), (0, .ref 214), (1, .int 0)]) rfl ?_
              refine r_goto ?_
              refine At.enter rfl ?_
              refine r_iload_n rfl ?_
              refine r_iload_n rfl ?_
              refine r_icf 10 rfl (by decide) ?_
              refine At.enter rfl ?_
              refine r_aload_n rfl ?_
              refine r_iload_n rfl ?_
              refine r_iload_n rfl ?_
              refine r_iast (en_gs_eq (en_gs_ne (by decide) (en_gs_ne (by decide) (en_gs_ne (by decide) (en_gs_ne (by decide) (en_gs_ne (by decide) hx_214)))))) (by decide) (Nat.le_of_ble_eq_true rfl) (List.replicate 8 0) (by decide +kernel) ?_
              refine Ar.hp en_sd0 ?_
              refine r_iinc rfl 6 rfl ([(2, .int 6), (3, .int 8), (0, .ref 214), (1, .int 0)]) rfl ?_
              refine r_goto ?_
              refine At.enter rfl ?_
              refine r_iload_n rfl ?_
              refine r_iload_n rfl ?_
              refine r_icf 10 rfl (by decide) ?_
              refine At.enter rfl ?_
              refine r_aload_n rfl ?_
              refine r_iload_n rfl ?_
              refine r_iload_n rfl ?_
              refine r_iast (en_gs_eq (en_gs_ne (by decide) (en_gs_ne (by decide) (en_gs_ne (by decide) (en_gs_ne (by decide) (en_gs_ne (by decide) hx_214)))))) (by decide) (Nat.le_of_ble_eq_true rfl) (List.replicate 8 0) (by decide +kernel) ?_
              refine Ar.hp en_sd0 ?_
              refine r_iinc rfl 7 rfl ([(2, .int 7), (3, .int 8), (0, .ref 214), (1, .int 0)]) rfl ?_
              refine r_goto ?_
              refine At.enter rfl ?_
              refine r_iload_n rfl ?_
              refine r_iload_n rfl ?_
              refine r_icf 10 rfl (by decide) ?_
              refine At.enter rfl ?_
              refine r_aload_n rfl ?_
              refine r_iload_n rfl ?_
              refine r_iload_n rfl ?_
              refine r_iast (en_gs_eq (en_gs_ne (by decide) (en_gs_ne (by decide) (en_gs_ne (by decide) (en_gs_ne (by decide) (en_gs_ne (by decide) hx_214)))))) (by decide) (Nat.le_of_ble_eq_true rfl) (List.replicate 8 0) (by decide +kernel) ?_
              refine Ar.hp en_sd0 ?_
              refine r_iinc rfl 8 rfl ([(2, .int 8), (3, .int 8), (0, .ref 214), (1, .int 0)]) rfl ?_
              refine r_goto ?_
              refine At.enter rfl ?_
              refine r_iload_n rfl ?_
              refine r_iload_n rfl ?_
              refine r_ict (by decide) ?_
              refine At.enter rfl ?_
              refine r_vret ?_
              exact ⟨trivial, rfl, rfl⟩
            refine At.enter rfl ?_
            refine r_aload_n rfl ?_
            refine r_get (v := .ref 213) (en_gs_ne (by decide) (en_gs_ne (by decide) (en_gs_ne (by decide) (en_gs_ne (by decide) (en_gs_ne (by decide) (en_gs_ne (by decide) hx_204)))))) rfl ?_
            refine r_iconst 0 rfl ?_
            refine r_callS1v (True)  ((((((((hp_X ++ hp_M).set 222 (.inr (6, [.ref 1, .ref 204, .int 1, .int (-1), .int (-1), .int 0]))).set 205 (.inl (0, .inl (List.replicate 12 0)))).set 206 (.inl (0, .inl (List.replicate 12 0)))).set 211 (.inl (0, .inl (List.replicate 8 (-1))))).set 212 (.inl (0, .inl (List.replicate 8 (-1))))).set 214 (.inl (0, .inl (List.replicate 8 0)))).set 213 (.inl (0, .inl (List.replicate 8 0))), 51333) 32 rfl [.ref 213, .int 0] [] (Nat.le_of_ble_eq_true rfl) rfl ?_ (fun _ => ?_)
            · refine Ev.mk rfl rfl ⟨Nat.le_of_ble_eq_true rfl, Or.inl rfl⟩ ?_
              show At _ none _ _ (0, [(0, .ref 213), (1, .int 0)], [], (((((((hp_X ++ hp_M).set 222 (.inr (6, [.ref 1, .ref 204, .int 1, .int (-1), .int (-1), .int 0]))).set 205 (.inl (0, .inl (List.replicate 12 0)))).set 206 (.inl (0, .inl (List.replicate 12 0)))).set 211 (.inl (0, .inl (List.replicate 8 (-1))))).set 212 (.inl (0, .inl (List.replicate 8 (-1))))).set 214 (.inl (0, .inl (List.replicate 8 0))), 51333)) _
              refine At.enter rfl ?_
              refine r_iconst 0 rfl ?_
              refine r_istore_n ([(2, .int 0), (0, .ref 213), (1, .int 0)]) rfl ?_
              refine r_aload_n rfl ?_
              refine r_alen (en_gs_ne (by decide) (en_gs_ne (by decide) (en_gs_ne (by decide) (en_gs_ne (by decide) (en_gs_ne (by decide) (en_gs_ne (by decide) hx_213)))))) (by decide) 8 rfl ?_
              refine r_istore_n ([(3, .int 8), (2, .int 0), (0, .ref 213), (1, .int 0)]) rfl ?_
              refine Ar.fall 5 rfl ?_
              refine At.enter rfl ?_
              refine r_iload_n rfl ?_
              refine r_iload_n rfl ?_
              refine r_icf 10 rfl (by decide) ?_
              refine At.enter rfl ?_
              refine r_aload_n rfl ?_
              refine r_iload_n rfl ?_
              refine r_iload_n rfl ?_
              refine r_iast (en_gs_ne (by decide) (en_gs_ne (by decide) (en_gs_ne (by decide) (en_gs_ne (by decide) (en_gs_ne (by decide) (en_gs_ne (by decide) hx_213)))))) (by decide) (Nat.le_of_ble_eq_true rfl) (List.replicate 8 0) (by decide +kernel) ?_
              refine r_iinc rfl 1 rfl ([(2, .int 1), (3, .int 8), (0, .ref 213), (1, .int 0)]) rfl ?_
              refine r_goto ?_
              refine At.enter rfl ?_
              refine r_iload_n rfl ?_
              refine r_iload_n rfl ?_
              refine r_icf 10 rfl (by decide) ?_
              refine At.enter rfl ?_
              refine r_aload_n rfl ?_
              refine r_iload_n rfl ?_
              refine r_iload_n rfl ?_
              refine r_iast (en_gs_eq (en_gs_ne (by decide) (en_gs_ne (by decide) (en_gs_ne (by decide) (en_gs_ne (by decide) (en_gs_ne (by decide) (en_gs_ne (by decide) hx_213))))))) (by decide) (Nat.le_of_ble_eq_true rfl) (List.replicate 8 0) (by decide +kernel) ?_
              refine Ar.hp en_sd0 ?_
              refine r_iinc rfl 2 rfl ([(2, .int 2), (3, .int 8), (0, .ref 213), (1, .int 0)]) rfl ?_
              refine r_goto ?_
              refine At.enter rfl ?_
              refine r_iload_n rfl ?_
              refine r_iload_n rfl ?_
              refine r_icf 10 rfl (by decide) ?_
              refine At.enter rfl ?_
              refine r_aload_n rfl ?_
              refine r_iload_n rfl ?_
              refine r_iload_n rfl ?_
              refine r_iast (en_gs_eq (en_gs_ne (by decide) (en_gs_ne (by decide) (en_gs_ne (by decide) (en_gs_ne (by decide) (en_gs_ne (by decide) (en_gs_ne (by decide) hx_213))))))) (by decide) (Nat.le_of_ble_eq_true rfl) (List.replicate 8 0) (by decide +kernel) ?_
              refine Ar.hp en_sd0 ?_
              refine r_iinc rfl 3 rfl ([(2, .int 3), (3, .int 8), (0, .ref 213), (1, .int 0)]) rfl ?_
              refine r_goto ?_
              refine At.enter rfl ?_
              refine r_iload_n rfl ?_
              refine r_iload_n rfl ?_
              refine r_icf 10 rfl (by decide) ?_
              refine At.enter rfl ?_
              refine r_aload_n rfl ?_
              refine r_iload_n rfl ?_
              refine r_iload_n rfl ?_
              refine r_iast (en_gs_eq (en_gs_ne (by decide) (en_gs_ne (by decide) (en_gs_ne (by decide) (en_gs_ne (by decide) (en_gs_ne (by decide) (en_gs_ne (by decide) hx_213))))))) (by decide) (Nat.le_of_ble_eq_true rfl) (List.replicate 8 0) (by decide +kernel) ?_
              refine Ar.hp en_sd0 ?_
              refine r_iinc rfl 4 rfl ([(2, .int 4), (3, .int 8), (0, .ref 213), (1, .int 0)]) rfl ?_
              refine r_goto ?_
              refine At.enter rfl ?_
              refine r_iload_n rfl ?_
              refine r_iload_n rfl ?_
              refine r_icf 10 rfl (by decide) ?_
              refine At.enter rfl ?_
              refine r_aload_n rfl ?_
              refine r_iload_n rfl ?_
              refine r_iload_n rfl ?_
              refine r_iast (en_gs_eq (en_gs_ne (by decide) (en_gs_ne (by decide) (en_gs_ne (by decide) (en_gs_ne (by decide) (en_gs_ne (by decide) (en_gs_ne (by decide) hx_213))))))) (by decide) (Nat.le_of_ble_eq_true rfl) (List.replicate 8 0) (by decide +kernel) ?_
              refine Ar.hp en_sd0 ?_
              refine r_iinc rfl 5 rfl ([(2, .int 5), (3, .int 8), (0, .ref 213), (1, .int 0)]) rfl ?_
              refine r_goto ?_
              refine At.enter rfl ?_
              refine r_iload_n rfl ?_
              refine r_iload_n rfl ?_
              refine r_icf 10 rfl (by decide) ?_
              refine At.enter rfl ?_
              refine r_aload_n rfl ?_
              refine r_iload_n rfl ?_
              refine r_iload_n rfl ?_
              refine r_iast (en_gs_eq (en_gs_ne (by decide) (en_gs_ne (by decide) (en_gs_ne (by decide) (en_gs_ne (by decide) (en_gs_ne (by decide) (en_gs_ne (by decide) hx_213))))))) (by decide) (Nat.le_of_ble_eq_true rfl) (List.replicate 8 0) (by decide +kernel) ?_
              refine Ar.hp en_sd0 ?_
              refine r_iinc rfl 6 rfl ([(2, .int 6), (3, .int 8), (0, .ref 213), (1, .int 0)]) rfl ?_
              refine r_goto ?_
              refine At.enter rfl ?_
              refine r_iload_n rfl ?_
              refine r_iload_n rfl ?_
              refine r_icf 10 rfl (by decide) ?_
              refine At.enter rfl ?_
              refine r_aload_n rfl ?_
              refine r_iload_n rfl ?_
              refine r_iload_n rfl ?_
              refine r_iast (en_gs_eq (en_gs_ne (by decide) (en_gs_ne (by decide) (en_gs_ne (by decide) (en_gs_ne (by decide) (en_gs_ne (by decide) (en_gs_ne (by decide) hx_213))))))) (by decide) (Nat.le_of_ble_eq_true rfl) (List.replicate 8 0) (by decide +kernel) ?_
              refine Ar.hp en_sd0 ?_
              refine r_iinc rfl 7 rfl ([(2, .int 7), (3, .int 8), (0, .ref 213), (1, .int 0)]) rfl ?_
              refine r_goto ?_
              refine At.enter rfl ?_
              refine r_iload_n rfl ?_
              refine r_iload_n rfl ?_
              refine r_icf 10 rfl (by decide) ?_
              refine At.enter rfl ?_
              refine r_aload_n rfl ?_
              refine r_iload_n rfl ?_
              refine r_iload_n rfl ?_
              refine r_iast (en_gs_eq (en_gs_ne (by decide) (en_gs_ne (by decide) (en_gs_ne (by decide) (en_gs_ne (by decide) (en_gs_ne (by decide) (en_gs_ne (by decide) hx_213))))))) (by decide) (Nat.le_of_ble_eq_true rfl) (List.replicate 8 0) (by decide +kernel) ?_
              refine Ar.hp en_sd0 ?_
              refine r_iinc rfl 8 rfl ([(2, .int 8), (3, .int 8), (0, .ref 213), (1, .int 0)]) rfl ?_
              refine r_goto ?_
              refine At.enter rfl ?_
              refine r_iload_n rfl ?_
              refine r_iload_n rfl ?_
              refine r_ict (by decide) ?_
              refine At.enter rfl ?_
              refine r_vret ?_
              exact ⟨trivial, rfl, rfl⟩
            refine At.enter rfl ?_
            refine r_aload_n rfl ?_
            refine r_get (v := .ref 215) (en_gs_ne (by decide) (en_gs_ne (by decide) (en_gs_ne (by decide) (en_gs_ne (by decide) (en_gs_ne (by decide) (en_gs_ne (by decide) (en_gs_ne (by decide) hx_204))))))) rfl ?_
            refine r_iconst 0 rfl ?_
            refine r_callS1v (True)  (((((((((hp_X ++ hp_M).set 222 (.inr (6, [.ref 1, .ref 204, .int 1, .int (-1), .int (-1), .int 0]))).set 205 (.inl (0, .inl (List.replicate 12 0)))).set 206 (.inl (0, .inl (List.replicate 12 0)))).set 211 (.inl (0, .inl (List.replicate 8 (-1))))).set 212 (.inl (0, .inl (List.replicate 8 (-1))))).set 214 (.inl (0, .inl (List.replicate 8 0)))).set 213 (.inl (0, .inl (List.replicate 8 0)))).set 215 (.inl (0, .inl (List.replicate 12 0))), 51333) 40 rfl [.ref 215, .int 0] [] (Nat.le_of_ble_eq_true rfl) rfl ?_ (fun _ => ?_)
            · refine Ev.mk rfl rfl ⟨Nat.le_of_ble_eq_true rfl, Or.inl rfl⟩ ?_
              show At _ none _ _ (0, [(0, .ref 215), (1, .int 0)], [], ((((((((hp_X ++ hp_M).set 222 (.inr (6, [.ref 1, .ref 204, .int 1, .int (-1), .int (-1), .int 0]))).set 205 (.inl (0, .inl (List.replicate 12 0)))).set 206 (.inl (0, .inl (List.replicate 12 0)))).set 211 (.inl (0, .inl (List.replicate 8 (-1))))).set 212 (.inl (0, .inl (List.replicate 8 (-1))))).set 214 (.inl (0, .inl (List.replicate 8 0)))).set 213 (.inl (0, .inl (List.replicate 8 0))), 51333)) _
              refine At.enter rfl ?_
              refine r_iconst 0 rfl ?_
              refine r_istore_n ([(2, .int 0), (0, .ref 215), (1, .int 0)]) rfl ?_
              refine r_aload_n rfl ?_
              refine r_alen (en_gs_ne (by decide) (en_gs_ne (by decide) (en_gs_ne (by decide) (en_gs_ne (by decide) (en_gs_ne (by decide) (en_gs_ne (by decide) (en_gs_ne (by decide) hx_215))))))) (by decide) 12 rfl ?_
              refine r_istore_n ([(3, .int 12), (2, .int 0), (0, .ref 215), (1, .int 0)]) rfl ?_
              refine Ar.fall 5 rfl ?_
              refine At.enter rfl ?_
              refine r_iload_n rfl ?_
              refine r_iload_n rfl ?_
              refine r_icf 10 rfl (by decide) ?_
              refine At.enter rfl ?_
              refine r_aload_n rfl ?_
              refine r_iload_n rfl ?_
              refine r_iload_n rfl ?_
              refine r_iast (en_gs_ne (by decide) (en_gs_ne (by decide) (en_gs_ne (by decide) (en_gs_ne (by decide) (en_gs_ne (by decide) (en_gs_ne (by decide) (en_gs_ne (by decide) hx_215))))))) (by decide) (Nat.le_of_ble_eq_true rfl) (List.replicate 12 0) (by decide +kernel) ?_
              refine r_iinc rfl 1 rfl ([(2, .int 1), (3, .int 12), (0, .ref 215), (1, .int 0)]) rfl ?_
              refine r_goto ?_
              refine At.enter rfl ?_
              refine r_iload_n rfl ?_
              refine r_iload_n rfl ?_
              refine r_icf 10 rfl (by decide) ?_
              refine At.enter rfl ?_
              refine r_aload_n rfl ?_
              refine r_iload_n rfl ?_
              refine r_iload_n rfl ?_
              refine r_iast (en_gs_eq (en_gs_ne (by decide) (en_gs_ne (by decide) (en_gs_ne (by decide) (en_gs_ne (by decide) (en_gs_ne (by decide) (en_gs_ne (by decide) (en_gs_ne (by decide) hx_215)))))))) (by decide) (Nat.le_of_ble_eq_true rfl) (List.replicate 12 0) (by decide +kernel) ?_
              refine Ar.hp en_sd0 ?_
              refine r_iinc rfl 2 rfl ([(2, .int 2), (3, .int 12), (0, .ref 215), (1, .int 0)]) rfl ?_
              refine r_goto ?_
              refine At.enter rfl ?_
              refine r_iload_n rfl ?_
              refine r_iload_n rfl ?_
              refine r_icf 10 rfl (by decide) ?_
              refine At.enter rfl ?_
              refine r_aload_n rfl ?_
              refine r_iload_n rfl ?_
              refine r_iload_n rfl ?_
              refine r_iast (en_gs_eq (en_gs_ne (by decide) (en_gs_ne (by decide) (en_gs_ne (by decide) (en_gs_ne (by decide) (en_gs_ne (by decide) (en_gs_ne (by decide) (en_gs_ne (by decide) hx_215)))))))) (by decide) (Nat.le_of_ble_eq_true rfl) (List.replicate 12 0) (by decide +kernel) ?_
              refine Ar.hp en_sd0 ?_
              refine r_iinc rfl 3 rfl ([(2, .int 3), (3, .int 12), (0, .ref 215), (1, .int 0)]) rfl ?_
              refine r_goto ?_
              refine At.enter rfl ?_
              refine r_iload_n rfl ?_
              refine r_iload_n rfl ?_
              refine r_icf 10 rfl (by decide) ?_
              refine At.enter rfl ?_
              refine r_aload_n rfl ?_
              refine r_iload_n rfl ?_
              refine r_iload_n rfl ?_
              refine r_iast (en_gs_eq (en_gs_ne (by decide) (en_gs_ne (by decide) (en_gs_ne (by decide) (en_gs_ne (by decide) (en_gs_ne (by decide) (en_gs_ne (by decide) (en_gs_ne (by decide) hx_215)))))))) (by decide) (Nat.le_of_ble_eq_true rfl) (List.replicate 12 0) (by decide +kernel) ?_
              refine Ar.hp en_sd0 ?_
              refine r_iinc rfl 4 rfl ([(2, .int 4), (3, .int 12), (0, .ref 215), (1, .int 0)]) rfl ?_
              refine r_goto ?_
              refine At.enter rfl ?_
              refine r_iload_n rfl ?_
              refine r_iload_n rfl ?_
              refine r_icf 10 rfl (by decide) ?_
              refine At.enter rfl ?_
              refine r_aload_n rfl ?_
              refine r_iload_n rfl ?_
              refine r_iload_n rfl ?_
              refine r_iast (en_gs_eq (en_gs_ne (by decide) (en_gs_ne (by decide) (en_gs_ne (by decide) (en_gs_ne (by decide) (en_gs_ne (by decide) (en_gs_ne (by decide) (en_gs_ne (by decide) hx_215)))))))) (by decide) (Nat.le_of_ble_eq_true rfl) (List.replicate 12 0) (by decide +kernel) ?_
              refine Ar.hp en_sd0 ?_
              refine r_iinc rfl 5 rfl ([(2, .int 5), (3, .int 12), (0, .ref 215), (1, .int 0)]) rfl ?_
              refine r_goto ?_
              refine At.enter rfl ?_
              refine r_iload_n rfl ?_
              refine r_iload_n rfl ?_
              refine r_icf 10 rfl (by decide) ?_
              refine At.enter rfl ?_
              refine r_aload_n rfl ?_
              refine r_iload_n rfl ?_
              refine r_iload_n rfl ?_
              refine r_iast (en_gs_eq (en_gs_ne (by decide) (en_gs_ne (by decide) (en_gs_ne (by decide) (en_gs_ne (by decide) (en_gs_ne (by decide) (en_gs_ne (by decide) (en_gs_ne (by decide) hx_215)))))))) (by decide) (Nat.le_of_ble_eq_true rfl) (List.replicate 12 0) (by decide +kernel) ?_
              refine Ar.hp en_sd0 ?_
              refine r_iinc rfl 6 rfl ([(2, .int 6), (3, .int 12), (0, .ref 215), (1, .int 0)]) rfl ?_
              refine r_goto ?_
              refine At.enter rfl ?_
              refine r_iload_n rfl ?_
              refine r_iload_n rfl ?_
              refine r_icf 10 rfl (by decide) ?_
              refine At.enter rfl ?_
              refine r_aload_n rfl ?_
              refine r_iload_n rfl ?_
              refine r_iload_n rfl ?_
              refine r_iast (en_gs_eq (en_gs_ne (by decide) (en_gs_ne (by decide) (en_gs_ne (by decide) (en_gs_ne (by decide) (en_gs_ne (by decide) (en_gs_ne (by decide) (en_gs_ne (by decide) hx_215)))))))) (by decide) (Nat.le_of_ble_eq_true rfl) (List.replicate 12 0) (by decide +kernel) ?_
              refine Ar.hp en_sd0 ?_
              refine r_iinc rfl 7 rfl ([(2, .int 7), (3, .int 12), (0, .ref 215), (1, .int 0)]) rfl ?_
              refine r_goto ?_
              refine At.enter rfl ?_
              refine r_iload_n rfl ?_
              refine r_iload_n rfl ?_
              refine r_icf 10 rfl (by decide) ?_
              refine At.enter rfl ?_
              refine r_aload_n rfl ?_
              refine r_iload_n rfl ?_
              refine r_iload_n rfl ?_
              refine r_iast (en_gs_eq (en_gs_ne (by decide) (en_gs_ne (by decide) (en_gs_ne (by decide) (en_gs_ne (by decide) (en_gs_ne (by decide) (en_gs_ne (by decide) (en_gs_ne (by decide) hx_215)))))))) (by decide) (Nat.le_of_ble_eq_true rfl) (List.replicate 12 0) (by decide +kernel) ?_
              refine Ar.hp en_sd0 ?_
              refine r_iinc rfl 8 rfl ([(2, .int 8), (3, .int 12), (0, .ref 215), (1, .int 0)]) rfl ?_
              refine r_goto ?_
              refine At.enter rfl ?_
              refine r_iload_n rfl ?_
              refine r_iload_n rfl ?_
              refine r_icf 10 rfl (by decide) ?_
              refine At.enter rfl ?_
              refine r_aload_n rfl ?_
              refine r_iload_n rfl ?_
              refine r_iload_n rfl ?_
              refine r_iast (en_gs_eq (en_gs_ne (by decide) (en_gs_ne (by decide) (en_gs_ne (by decide) (en_gs_ne (by decide) (en_gs_ne (by decide) (en_gs_ne (by decide) (en_gs_ne (by decide) hx_215)))))))) (by decide) (Nat.le_of_ble_eq_true rfl) (List.replicate 12 0) (by decide +kernel) ?_
              refine Ar.hp en_sd0 ?_
              refine r_iinc rfl 9 rfl ([(2, .int 9), (3, .int 12), (0, .ref 215), (1, .int 0)]) rfl ?_
              refine r_goto ?_
              refine At.enter rfl ?_
              refine r_iload_n rfl ?_
              refine r_iload_n rfl ?_
              refine r_icf 10 rfl (by decide) ?_
              refine At.enter rfl ?_
              refine r_aload_n rfl ?_
              refine r_iload_n rfl ?_
              refine r_iload_n rfl ?_
              refine r_iast (en_gs_eq (en_gs_ne (by decide) (en_gs_ne (by decide) (en_gs_ne (by decide) (en_gs_ne (by decide) (en_gs_ne (by decide) (en_gs_ne (by decide) (en_gs_ne (by decide) hx_215)))))))) (by decide) (Nat.le_of_ble_eq_true rfl) (List.replicate 12 0) (by decide +kernel) ?_
              refine Ar.hp en_sd0 ?_
              refine r_iinc rfl 10 rfl ([(2, .int 10), (3, .int 12), (0, .ref 215), (1, .int 0)]) rfl ?_
              refine r_goto ?_
              refine At.enter rfl ?_
              refine r_iload_n rfl ?_
              refine r_iload_n rfl ?_
              refine r_icf 10 rfl (by decide) ?_
              refine At.enter rfl ?_
              refine r_aload_n rfl ?_
              refine r_iload_n rfl ?_
              refine r_iload_n rfl ?_
              refine r_iast (en_gs_eq (en_gs_ne (by decide) (en_gs_ne (by decide) (en_gs_ne (by decide) (en_gs_ne (by decide) (en_gs_ne (by decide) (en_gs_ne (by decide) (en_gs_ne (by decide) hx_215)))))))) (by decide) (Nat.le_of_ble_eq_true rfl) (List.replicate 12 0) (by decide +kernel) ?_
              refine Ar.hp en_sd0 ?_
              refine r_iinc rfl 11 rfl ([(2, .int 11), (3, .int 12), (0, .ref 215), (1, .int 0)]) rfl ?_
              refine r_goto ?_
              refine At.enter rfl ?_
              refine r_iload_n rfl ?_
              refine r_iload_n rfl ?_
              refine r_icf 10 rfl (by decide) ?_
              refine At.enter rfl ?_
              refine r_aload_n rfl ?_
              refine r_iload_n rfl ?_
              refine r_iload_n rfl ?_
              refine r_iast (en_gs_eq (en_gs_ne (by decide) (en_gs_ne (by decide) (en_gs_ne (by decide) (en_gs_ne (by decide) (en_gs_ne (by decide) (en_gs_ne (by decide) (en_gs_ne (by decide) hx_215)))))))) (by decide) (Nat.le_of_ble_eq_true rfl) (List.replicate 12 0) (by decide +kernel) ?_
              refine Ar.hp en_sd0 ?_
              refine r_iinc rfl 12 rfl ([(2, .int 12), (3, .int 12), (0, .ref 215), (1, .int 0)]) rfl ?_
              refine r_goto ?_
              refine At.enter rfl ?_
              refine r_iload_n rfl ?_
              refine r_iload_n rfl ?_
              refine r_ict (by decide) ?_
              refine At.enter rfl ?_
              refine r_vret ?_
              exact ⟨trivial, rfl, rfl⟩
            refine At.enter rfl ?_
            refine r_aload_n rfl ?_
            refine r_get (v := .ref 216) (en_gs_ne (by decide) (en_gs_ne (by decide) (en_gs_ne (by decide) (en_gs_ne (by decide) (en_gs_ne (by decide) (en_gs_ne (by decide) (en_gs_ne (by decide) (en_gs_ne (by decide) hx_204)))))))) rfl ?_
            refine r_iconst 0 rfl ?_
            refine r_callS1v (True)  ((((((((((hp_X ++ hp_M).set 222 (.inr (6, [.ref 1, .ref 204, .int 1, .int (-1), .int (-1), .int 0]))).set 205 (.inl (0, .inl (List.replicate 12 0)))).set 206 (.inl (0, .inl (List.replicate 12 0)))).set 211 (.inl (0, .inl (List.replicate 8 (-1))))).set 212 (.inl (0, .inl (List.replicate 8 (-1))))).set 214 (.inl (0, .inl (List.replicate 8 0)))).set 213 (.inl (0, .inl (List.replicate 8 0)))).set 215 (.inl (0, .inl (List.replicate 12 0)))).set 216 (.inl (0, .inl (List.replicate 12 0))), 51333) 48 rfl [.ref 216, .int 0] [] (Nat.le_of_ble_eq_true rfl) rfl ?_ (fun _ => ?_)
            · refine Ev.mk rfl rfl ⟨Nat.le_of_ble_eq_true rfl, Or.inl rfl⟩ ?_
              show At _ none _ _ (0, [(0, .ref 216), (1, .int 0)], [], (((((((((hp_X ++ hp_M).set 222 (.inr (6, [.ref 1, .ref 204, .int 1, .int (-1), .int (-1), .int 0]))).set 205 (.inl (0, .inl (List.replicate 12 0)))).set 206 (.inl (0, .inl (List.replicate 12 0)))).set 211 (.inl (0, .inl (List.replicate 8 (-1))))).set 212 (.inl (0, .inl (List.replicate 8 (-1))))).set 214 (.inl (0, .inl (List.replicate 8 0)))).set 213 (.inl (0, .inl (List.replicate 8 0)))).set 215 (.inl (0, .inl (List.replicate 12 0))), 51333)) _
              refine At.enter rfl ?_
              refine r_iconst 0 rfl ?_
              refine r_istore_n ([(2, .int 0), (0, .ref 216), (1, .int 0)]) rfl ?_
              refine r_aload_n rfl ?_
              refine r_alen (en_gs_ne (by decide) (en_gs_ne (by decide) (en_gs_ne (by decide) (en_gs_ne (by decide) (en_gs_ne (by decide) (en_gs_ne (by decide) (en_gs_ne (by decide) (en_gs_ne (by decide) hx_216)))))))) (by decide) 12 rfl ?_
              refine r_istore_n ([(3, .int 12), (2, .int 0), (0, .ref 216), (1, .int 0)]) rfl ?_
              refine Ar.fall 5 rfl ?_
              refine At.enter rfl ?_
              refine r_iload_n rfl ?_
              refine r_iload_n rfl ?_
              refine r_icf 10 rfl (by decide) ?_
              refine At.enter rfl ?_
              refine r_aload_n rfl ?_
              refine r_iload_n rfl ?_
              refine r_iload_n rfl ?_
              refine r_iast (en_gs_ne (by decide) (en_gs_ne (by decide) (en_gs_ne (by decide) (en_gs_ne (by decide) (en_gs_ne (by decide) (en_gs_ne (by decide) (en_gs_ne (by decide) (en_gs_ne (by decide) hx_216)))))))) (by decide) (Nat.le_of_ble_eq_true rfl) (List.replicate 12 0) (by decide +kernel) ?_
              refine r_iinc rfl 1 rfl ([(2, .int 1), (3, .int 12), (0, .ref 216), (1, .int 0)]) rfl ?_
              refine r_goto ?_
              refine At.enter rfl ?_
              refine r_iload_n rfl ?_
              refine r_iload_n rfl ?_
              refine r_icf 10 rfl (by decide) ?_
              refine At.enter rfl ?_
              refine r_aload_n rfl ?_
              refine r_iload_n rfl ?_
              refine r_iload_n rfl ?_
              refine r_iast (en_gs_eq (en_gs_ne (by decide) (en_gs_ne (by decide) (en_gs_ne (by decide) (en_gs_ne (by decide) (en_gs_ne (by decide) (en_gs_ne (by decide) (en_gs_ne (by decide) (en_gs_ne (by decide) hx_216))))))))) (by decide) (Nat.le_of_ble_eq_true rfl) (List.replicate 12 0) (by decide +kernel) ?_
              refine Ar.hp en_sd0 ?_
              refine r_iinc rfl 2 rfl ([(2, .int 2), (3, .int 12), (0, .ref 216), (1, .int 0)]) rfl ?_
              refine r_goto ?_
              refine At.enter rfl ?_
              refine r_iload_n rfl ?_
              refine r_iload_n rfl ?_
              refine r_icf 10 rfl (by decide) ?_
              refine At.enter rfl ?_
              refine r_aload_n rfl ?_
              refine r_iload_n rfl ?_
              refine r_iload_n rfl ?_
              refine r_iast (en_gs_eq (en_gs_ne (by decide) (en_gs_ne (by decide) (en_gs_ne (by decide) (en_gs_ne (by decide) (en_gs_ne (by decide) (en_gs_ne (by decide) (en_gs_ne (by decide) (en_gs_ne (by decide) hx_216))))))))) (by decide) (Nat.le_of_ble_eq_true rfl) (List.replicate 12 0) (by decide +kernel) ?_
              refine Ar.hp en_sd0 ?_
              refine r_iinc rfl 3 rfl ([(2, .int 3), (3, .int 12), (0, .ref 216), (1, .int 0)]) rfl ?_
              refine r_goto ?_
              refine At.enter rfl ?_
              refine r_iload_n rfl ?_
              refine r_iload_n rfl ?_
              refine r_icf 10 rfl (by decide) ?_
              refine At.enter rfl ?_
              refine r_aload_n rfl ?_
              refine r_iload_n rfl ?_
              refine r_iload_n rfl ?_
              refine r_iast (en_gs_eq (en_gs_ne (by decide) (en_gs_ne (by decide) (en_gs_ne (by decide) (en_gs_ne (by decide) (en_gs_ne (by decide) (en_gs_ne (by decide) (en_gs_ne (by decide) (en_gs_ne (by decide) hx_216))))))))) (by decide) (Nat.le_of_ble_eq_true rfl) (List.replicate 12 0) (by decide +kernel) ?_
              refine Ar.hp en_sd0 ?_
              refine r_iinc rfl 4 rfl ([(2, .int 4), (3, .int 12), (0, .ref 216), (1, .int 0)]) rfl ?_
              refine r_goto ?_
              refine At.enter rfl ?_
              refine r_iload_n rfl ?_
              refine r_iload_n rfl ?_
              refine r_icf 10 rfl (by decide) ?_
              refine At.enter rfl ?_
              refine r_aload_n rfl ?_
              refine r_iload_n rfl ?_
              refine r_iload_n rfl ?_
              refine r_iast (en_gs_eq (en_gs_ne (by decide) (en_gs_ne (by decide) (en_gs_ne (by decide) (en_gs_ne (by decide) (en_gs_ne (by decide) (en_gs_ne (by decide) (en_gs_ne (by decide) (en_gs_ne (by decide) hx_216))))))))) (by decide) (Nat.le_of_ble_eq_true rfl) (List.replicate 12 0) (by decide +kernel) ?_
              refine Ar.hp en_sd0 ?_
              refine r_iinc rfl 5 rfl ([(2, .int 5), (3, .int 12), (0, .ref 216), (1, .int 0)]) rfl ?_
              refine r_goto ?_
              refine At.enter rfl ?_
              refine r_iload_n rfl ?_
              refine r_iload_n rfl ?_
              refine r_icf 10 rfl (by decide) ?_
              refine At.enter rfl ?_
              refine r_aload_n rfl ?_
              refine r_iload_n rfl ?_
              refine r_iload_n rfl ?_
              refine r_iast (en_gs_eq (en_gs_ne (by decide) (en_gs_ne (by decide) (en_gs_ne (by decide) (en_gs_ne (by decide) (en_gs_ne (by decide) (en_gs_ne (by decide) (en_gs_ne (by decide) (en_gs_ne (by decide) hx_216))))))))) (by decide) (Nat.le_of_ble_eq_true rfl) (List.replicate 12 0) (by decide +kernel) ?_
              refine Ar.hp en_sd0 ?_
              refine r_iinc rfl 6 rfl ([(2, .int 6), (3, .int 12), (0, .ref 216), (1, .int 0)]) rfl ?_
              refine r_goto ?_
              refine At.enter rfl ?_
              refine r_iload_n rfl ?_
              refine r_iload_n rfl ?_
              refine r_icf 10 rfl (by decide) ?_
              refine At.enter rfl ?_
              refine r_aload_n rfl ?_
              refine r_iload_n rfl ?_
              refine r_iload_n rfl ?_
              refine r_iast (en_gs_eq (en_gs_ne (by decide) (en_gs_ne (by decide) (en_gs_ne (by decide) (en_gs_ne (by decide) (en_gs_ne (by decide) (en_gs_ne (by decide) (en_gs_ne (by decide) (en_gs_ne (by decide) hx_216))))))))) (by decide) (Nat.le_of_ble_eq_true rfl) (List.replicate 12 0) (by decide +kernel) ?_
              refine Ar.hp en_sd0 ?_
              refine r_iinc rfl 7 rfl ([(2, .int 7), (3, .int 12), (0, .ref 216), (1, .int 0)]) rfl ?_
              refine r_goto ?_
              refine At.enter rfl ?_
              refine r_iload_n rfl ?_
              refine r_iload_n rfl ?_
              refine r_icf 10 rfl (by decide) ?_
              refine At.enter rfl ?_
              refine r_aload_n rfl ?_
              refine r_iload_n rfl ?_
              refine r_iload_n rfl ?_
              refine r_iast (en_gs_eq (en_gs_ne (by decide) (en_gs_ne (by decide) (en_gs_ne (by decide) (en_gs_ne (by decide) (en_gs_ne (by decide) (en_gs_ne (by decide) (en_gs_ne (by decide) (en_gs_ne (by decide) hx_216))))))))) (by decide) (Nat.le_of_ble_eq_true rfl) (List.replicate 12 0) (by decide +kernel) ?_
              refine Ar.hp en_sd0 ?_
              refine r_iinc rfl 8 rfl ([(2, .int 8), (3, .int 12), (0, .ref 216), (1, .int 0)]) rfl ?_
              refine r_goto ?_
              refine At.enter rfl ?_
              refine r_iload_n rfl ?_
              refine r_iload_n rfl ?_
              refine r_icf 10 rfl (by decide) ?_
              refine At.enter rfl ?_
              refine r_aload_n rfl ?_
              refine r_iload_n rfl ?_
              refine r_iload_n rfl ?_
              refine r_iast (en_gs_eq (en_gs_ne (by decide) (en_gs_ne (by decide) (en_gs_ne (by decide) (en_gs_ne (by decide) (en_gs_ne (by decide) (en_gs_ne (by decide) (en_gs_ne (by decide) (en_gs_ne (by decide) hx_216))))))))) (by decide) (Nat.le_of_ble_eq_true rfl) (List.replicate 12 0) (by decide +kernel) ?_
              refine Ar.hp en_sd0 ?_
              refine r_iinc rfl 9 rfl ([(2, .int 9), (3, .int 12), (0, .ref 216), (1, .int 0)]) rfl ?_
              refine r_goto ?_
              refine At.enter rfl ?_
              refine r_iload_n rfl ?_
              refine r_iload_n rfl ?_
              refine r_icf 10 rfl (by decide) ?_
              refine At.enter rfl ?_
              refine r_aload_n rfl ?_
              refine r_iload_n rfl ?_
              refine r_iload_n rfl ?_
              refine r_iast (en_gs_eq (en_gs_ne (by decide) (en_gs_ne (by decide) (en_gs_ne (by decide) (en_gs_ne (by decide) (en_gs_ne (by decide) (en_gs_ne (by decide) (en_gs_ne (by decide) (en_gs_ne (by decide) hx_216))))))))) (by decide) (Nat.le_of_ble_eq_true rfl) (List.replicate 12 0) (by decide +kernel) ?_
              refine Ar.hp en_sd0 ?_
              refine r_iinc rfl 10 rfl ([(2, .int 10), (3, .int 12), (0, .ref 216), (1, .int 0)]) rfl ?_
              refine r_goto ?_
              refine At.enter rfl ?_
              refine r_iload_n rfl ?_
              refine r_iload_n rfl ?_
              refine r_icf 10 rfl (by decide) ?_
              refine At.enter rfl ?_
              refine r_aload_n rfl ?_
              refine r_iload_n rfl ?_
              refine r_iload_n rfl ?_
              refine r_iast (en_gs_eq (en_gs_ne (by decide) (en_gs_ne (by decide) (en_gs_ne (by decide) (en_gs_ne (by decide) (en_gs_ne (by decide) (en_gs_ne (by decide) (en_gs_ne (by decide) (en_gs_ne (by decide) hx_216))))))))) (by decide) (Nat.le_of_ble_eq_true rfl) (List.replicate 12 0) (by decide +kernel) ?_
              refine Ar.hp en_sd0 ?_
              refine r_iinc rfl 11 rfl ([(2, .int 11), (3, .int 12), (0, .ref 216), (1, .int 0)]) rfl ?_
              refine r_goto ?_
              refine At.enter rfl ?_
              refine r_iload_n rfl ?_
              refine r_iload_n rfl ?_
              refine r_icf 10 rfl (by decide) ?_
              refine At.enter rfl ?_
              refine r_aload_n rfl ?_
              refine r_iload_n rfl ?_
              refine r_iload_n rfl ?_
              refine r_iast (en_gs_eq (en_gs_ne (by decide) (en_gs_ne (by decide) (en_gs_ne (by decide) (en_gs_ne (by decide) (en_gs_ne (by decide) (en_gs_ne (by decide) (en_gs_ne (by decide) (en_gs_ne (by decide) hx_216))))))))) (by decide) (Nat.le_of_ble_eq_true rfl) (List.replicate 12 0) (by decide +kernel) ?_
              refine Ar.hp en_sd0 ?_
              refine r_iinc rfl 12 rfl ([(2, .int 12), (3, .int 12), (0, .ref 216), (1, .int 0)]) rfl ?_
              refine r_goto ?_
              refine At.enter rfl ?_
              refine r_iload_n rfl ?_
              refine r_iload_n rfl ?_
              refine r_ict (by decide) ?_
              refine At.enter rfl ?_
              refine r_vret ?_
              exact ⟨trivial, rfl, rfl⟩
            refine At.enter rfl ?_
            refine r_aload_n rfl ?_
            refine r_get (v := .ref 209) (en_gs_ne (by decide) (en_gs_ne (by decide) (en_gs_ne (by decide) (en_gs_ne (by decide) (en_gs_ne (by decide) (en_gs_ne (by decide) (en_gs_ne (by decide) (en_gs_ne (by decide) (en_gs_ne (by decide) hx_204))))))))) rfl ?_
            refine r_iconst 0 rfl ?_
            refine r_aload_n rfl ?_
            refine r_get (v := .ref 210) (en_gs_ne (by decide) (en_gs_ne (by decide) (en_gs_ne (by decide) (en_gs_ne (by decide) (en_gs_ne (by decide) (en_gs_ne (by decide) (en_gs_ne (by decide) (en_gs_ne (by decide) (en_gs_ne (by decide) hx_204))))))))) rfl ?_
            refine r_iconst 0 rfl ?_
            refine r_bipush 8 rfl ?_
            refine r_cpy rfl (en_gs_ne (by decide) (en_gs_ne (by decide) (en_gs_ne (by decide) (en_gs_ne (by decide) (en_gs_ne (by decide) (en_gs_ne (by decide) (en_gs_ne (by decide) (en_gs_ne (by decide) (en_gs_ne (by decide) hx_209))))))))) (en_gs_ne (by decide) (en_gs_ne (by decide) (en_gs_ne (by decide) (en_gs_ne (by decide) (en_gs_ne (by decide) (en_gs_ne (by decide) (en_gs_ne (by decide) (en_gs_ne (by decide) (en_gs_ne (by decide) hx_210))))))))) (by decide +kernel) (List.replicate 8 0) (by decide +kernel) ?_
            refine r_vret ?_
            exact ⟨trivial, rfl, rfl⟩
          refine At.enter rfl ?_
          refine r_iload_n rfl ?_
          refine r_istore_n ([(3, .int 0), (0, .ref 204), (1, .int 0), (2, .int 99)]) rfl ?_
          refine r_aload_n rfl ?_
          refine r_callV1s (True) (.int 0) (((((((((((hp_X ++ hp_M).set 222 (.inr (6, [.ref 1, .ref 204, .int 1, .int (-1), .int (-1), .int 0]))).set 205 (.inl (0, .inl (List.replicate 12 0)))).set 206 (.inl (0, .inl (List.replicate 12 0)))).set 211 (.inl (0, .inl (List.replicate 8 (-1))))).set 212 (.inl (0, .inl (List.replicate 8 (-1))))).set 214 (.inl (0, .inl (List.replicate 8 0)))).set 213 (.inl (0, .inl (List.replicate 8 0)))).set 215 (.inl (0, .inl (List.replicate 12 0)))).set 216 (.inl (0, .inl (List.replicate 12 0)))).set 210 (.inl (0, .inl (List.replicate 8 0))), 51333) 21 rfl [.ref 204] [] (Nat.le_of_ble_eq_true rfl) rfl ?_ (fun _ => ?_)
          · refine Ev.mk rfl rfl ⟨Nat.le_of_ble_eq_true rfl, Or.inr (en_rcI (en_gs_ne (by decide) (en_gs_ne (by decide) (en_gs_ne (by decide) (en_gs_ne (by decide) (en_gs_ne (by decide) (en_gs_ne (by decide) (en_gs_ne (by decide) (en_gs_ne (by decide) (en_gs_ne (by decide) (en_gs_ne (by decide) hx_204)))))))))) rfl)⟩ ?_
            show At _ none _ _ (0, [(0, .ref 204)], [], (((((((((((hp_X ++ hp_M).set 222 (.inr (6, [.ref 1, .ref 204, .int 1, .int (-1), .int (-1), .int 0]))).set 205 (.inl (0, .inl (List.replicate 12 0)))).set 206 (.inl (0, .inl (List.replicate 12 0)))).set 211 (.inl (0, .inl (List.replicate 8 (-1))))).set 212 (.inl (0, .inl (List.replicate 8 (-1))))).set 214 (.inl (0, .inl (List.replicate 8 0)))).set 213 (.inl (0, .inl (List.replicate 8 0)))).set 215 (.inl (0, .inl (List.replicate 12 0)))).set 216 (.inl (0, .inl (List.replicate 12 0)))).set 210 (.inl (0, .inl (List.replicate 8 0))), 51333)) _
            refine At.enter rfl ?_
            refine r_iconst 0 rfl ?_
            refine r_istore_n ([(1, .int 0), (0, .ref 204)]) rfl ?_
            refine r_iconst 0 rfl ?_
            refine r_istore_n ([(2, .int 0), (1, .int 0), (0, .ref 204)]) rfl ?_
            refine Ar.fall 4 rfl ?_
            refine At.enter rfl ?_
            refine r_iload_n rfl ?_
            refine r_aload_n rfl ?_
            refine r_get (v := .ref 1) (en_gs_ne (by decide) (en_gs_ne (by decide) (en_gs_ne (by decide) (en_gs_ne (by decide) (en_gs_ne (by decide) (en_gs_ne (by decide) (en_gs_ne (by decide) (en_gs_ne (by decide) (en_gs_ne (by decide) (en_gs_ne (by decide) hx_204)))))))))) rfl ?_
            refine r_get (v := .int 0) (en_gs_ne (by decide) (en_gs_ne (by decide) (en_gs_ne (by decide) (en_gs_ne (by decide) (en_gs_ne (by decide) (en_gs_ne (by decide) (en_gs_ne (by decide) (en_gs_ne (by decide) (en_gs_ne (by decide) (en_gs_ne (by decide) hx_1)))))))))) rfl ?_
            refine r_ict (by decide) ?_
            refine At.enter rfl ?_
            refine r_iload_n rfl ?_
            refine r_ireti ?_
            exact ⟨trivial, rfl, rfl⟩
          refine At.enter rfl ?_
          refine r_istore ([(4, .int 0), (3, .int 0), (0, .ref 204), (1, .int 0), (2, .int 99)]) rfl ?_
          refine r_aload_n rfl ?_
          refine r_get (v := .ref 1) (en_gs_ne (by decide) (en_gs_ne (by decide) (en_gs_ne (by decide) (en_gs_ne (by decide) (en_gs_ne (by decide) (en_gs_ne (by decide) (en_gs_ne (by decide) (en_gs_ne (by decide) (en_gs_ne (by decide) (en_gs_ne (by decide) hx_204)))))))))) rfl ?_
          refine r_callV1s (True) (.ref 7) (((((((((((hp_X ++ hp_M).set 222 (.inr (6, [.ref 1, .ref 204, .int 1, .int (-1), .int (-1), .int 0]))).set 205 (.inl (0, .inl (List.replicate 12 0)))).set 206 (.inl (0, .inl (List.replicate 12 0)))).set 211 (.inl (0, .inl (List.replicate 8 (-1))))).set 212 (.inl (0, .inl (List.replicate 8 (-1))))).set 214 (.inl (0, .inl (List.replicate 8 0)))).set 213 (.inl (0, .inl (List.replicate 8 0)))).set 215 (.inl (0, .inl (List.replicate 12 0)))).set 216 (.inl (0, .inl (List.replicate 12 0)))).set 210 (.inl (0, .inl (List.replicate 8 0))), 51333) 30 rfl [.ref 1] [] (Nat.le_of_ble_eq_true rfl) rfl ?_ (fun _ => ?_)
          · refine Ev.mk rfl rfl ⟨Nat.le_of_ble_eq_true rfl, Or.inr (en_rcI (en_gs_ne (by decide) (en_gs_ne (by decide) (en_gs_ne (by decide) (en_gs_ne (by decide) (en_gs_ne (by decide) (en_gs_ne (by decide) (en_gs_ne (by decide) (en_gs_ne (by decide) (en_gs_ne (by decide) (en_gs_ne (by decide) hx_1)))))))))) rfl)⟩ ?_
            show At _ none _ _ (0, [(0, .ref 1)], [], (((((((((((hp_X ++ hp_M).set 222 (.inr (6, [.ref 1, .ref 204, .int 1, .int (-1), .int (-1), .int 0]))).set 205 (.inl (0, .inl (List.replicate 12 0)))).set 206 (.inl (0, .inl (List.replicate 12 0)))).set 211 (.inl (0, .inl (List.replicate 8 (-1))))).set 212 (.inl (0, .inl (List.replicate 8 (-1))))).set 214 (.inl (0, .inl (List.replicate 8 0)))).set 213 (.inl (0, .inl (List.replicate 8 0)))).set 215 (.inl (0, .inl (List.replicate 12 0)))).set 216 (.inl (0, .inl (List.replicate 12 0)))).set 210 (.inl (0, .inl (List.replicate 8 0))), 51333)) _
            refine At.enter rfl ?_
            refine r_aload_n rfl ?_
            refine r_aload_n rfl ?_
            refine r_get (v := .int (-1)) (en_gs_ne (by decide) (en_gs_ne (by decide) (en_gs_ne (by decide) (en_gs_ne (by decide) (en_gs_ne (by decide) (en_gs_ne (by decide) (en_gs_ne (by decide) (en_gs_ne (by decide) (en_gs_ne (by decide) (en_gs_ne (by decide) hx_1)))))))))) rfl ?_
            refine r_callV1s (True) (.ref 7) (((((((((((hp_X ++ hp_M).set 222 (.inr (6, [.ref 1, .ref 204, .int 1, .int (-1), .int (-1), .int 0]))).set 205 (.inl (0, .inl (List.replicate 12 0)))).set 206 (.inl (0, .inl (List.replicate 12 0)))).set 211 (.inl (0, .inl (List.replicate 8 (-1))))).set 212 (.inl (0, .inl (List.replicate 8 (-1))))).set 214 (.inl (0, .inl (List.replicate 8 0)))).set 213 (.inl (0, .inl (List.replicate 8 0)))).set 215 (.inl (0, .inl (List.replicate 12 0)))).set 216 (.inl (0, .inl (List.replicate 12 0)))).set 210 (.inl (0, .inl (List.replicate 8 0))), 51333) 8 rfl [.ref 1, .int (-1)] [] (Nat.le_of_ble_eq_true rfl) rfl ?_ (fun _ => ?_)
            · refine Ev.mk rfl rfl ⟨Nat.le_of_ble_eq_true rfl, Or.inr (en_rcI (en_gs_ne (by decide) (en_gs_ne (by decide) (en_gs_ne (by decide) (en_gs_ne (by decide) (en_gs_ne (by decide) (en_gs_ne (by decide) (en_gs_ne (by decide) (en_gs_ne (by decide) (en_gs_ne (by decide) (en_gs_ne (by decide) hx_1)))))))))) rfl)⟩ ?_
              show At _ none _ _ (0, [(0, .ref 1), (1, .int (-1))], [], (((((((((((hp_X ++ hp_M).set 222 (.inr (6, [.ref 1, .ref 204, .int 1, .int (-1), .int (-1), .int 0]))).set 205 (.inl (0, .inl (List.replicate 12 0)))).set 206 (.inl (0, .inl (List.replicate 12 0)))).set 211 (.inl (0, .inl (List.replicate 8 (-1))))).set 212 (.inl (0, .inl (List.replicate 8 (-1))))).set 214 (.inl (0, .inl (List.replicate 8 0)))).set 213 (.inl (0, .inl (List.replicate 8 0)))).set 215 (.inl (0, .inl (List.replicate 12 0)))).set 216 (.inl (0, .inl (List.replicate 12 0)))).set 210 (.inl (0, .inl (List.replicate 8 0))), 51333)) _
              refine At.enter rfl ?_
              refine r_iload_n rfl ?_
              refine r_ift (by decide) ?_
              refine At.enter rfl ?_
              refine r_null ?_
              refine Ar.fall 20 rfl ?_
              refine At.enter rfl ?_
              refine r_zstore_n ([(2, .null), (0, .ref 1), (1, .int (-1))]) rfl ?_
              refine r_zload_n rfl ?_
              refine r_nnz 25 rfl ?_
              refine At.enter rfl ?_
              refine r_aload_n rfl ?_
              refine r_get (v := .ref 7) (en_gs_ne (by decide) (en_gs_ne (by decide) (en_gs_ne (by decide) (en_gs_ne (by decide) (en_gs_ne (by decide) (en_gs_ne (by decide) (en_gs_ne (by decide) (en_gs_ne (by decide) (en_gs_ne (by decide) (en_gs_ne (by decide) hx_1)))))))))) rfl ?_
              refine r_goto ?_
              refine At.enter rfl ?_
              refine r_aret ?_
              exact ⟨trivial, rfl, rfl⟩
            refine At.enter rfl ?_
            refine r_aret ?_
            exact ⟨trivial, rfl, rfl⟩
          refine At.enter rfl ?_
          refine r_callV1s (True) (.int 0) (((((((((((hp_X ++ hp_M).set 222 (.inr (6, [.ref 1, .ref 204, .int 1, .int (-1), .int (-1), .int 0]))).set 205 (.inl (0, .inl (List.replicate 12 0)))).set 206 (.inl (0, .inl (List.replicate 12 0)))).set 211 (.inl (0, .inl (List.replicate 8 (-1))))).set 212 (.inl (0, .inl (List.replicate 8 (-1))))).set 214 (.inl (0, .inl (List.replicate 8 0)))).set 213 (.inl (0, .inl (List.replicate 8 0)))).set 215 (.inl (0, .inl (List.replicate 12 0)))).set 216 (.inl (0, .inl (List.replicate 12 0)))).set 210 (.inl (0, .inl (List.replicate 8 0))), 51333) 33 rfl [.ref 7] [] (Nat.le_of_ble_eq_true rfl) rfl ?_ (fun _ => ?_)
          · refine Ev.mk rfl rfl ⟨Nat.le_of_ble_eq_true rfl, Or.inr (en_rcI (en_gs_ne (by decide) (en_gs_ne (by decide) (en_gs_ne (by decide) (en_gs_ne (by decide) (en_gs_ne (by decide) (en_gs_ne (by decide) (en_gs_ne (by decide) (en_gs_ne (by decide) (en_gs_ne (by decide) (en_gs_ne (by decide) hx_7)))))))))) rfl)⟩ ?_
            show At _ none _ _ (0, [(0, .ref 7)], [], (((((((((((hp_X ++ hp_M).set 222 (.inr (6, [.ref 1, .ref 204, .int 1, .int (-1), .int (-1), .int 0]))).set 205 (.inl (0, .inl (List.replicate 12 0)))).set 206 (.inl (0, .inl (List.replicate 12 0)))).set 211 (.inl (0, .inl (List.replicate 8 (-1))))).set 212 (.inl (0, .inl (List.replicate 8 (-1))))).set 214 (.inl (0, .inl (List.replicate 8 0)))).set 213 (.inl (0, .inl (List.replicate 8 0)))).set 215 (.inl (0, .inl (List.replicate 12 0)))).set 216 (.inl (0, .inl (List.replicate 12 0)))).set 210 (.inl (0, .inl (List.replicate 8 0))), 51333)) _
            refine At.enter rfl ?_
            refine r_iconst 0 rfl ?_
            refine r_istore_n ([(1, .int 0), (0, .ref 7)]) rfl ?_
            refine Ar.fall 2 rfl ?_
            refine At.enter rfl ?_
            refine r_iload_n rfl ?_
            refine r_aload_n rfl ?_
            refine r_get (v := .int 0) (en_gs_ne (by decide) (en_gs_ne (by decide) (en_gs_ne (by decide) (en_gs_ne (by decide) (en_gs_ne (by decide) (en_gs_ne (by decide) (en_gs_ne (by decide) (en_gs_ne (by decide) (en_gs_ne (by decide) (en_gs_ne (by decide) hx_7)))))))))) rfl ?_
            refine r_ict (by decide) ?_
            refine At.enter rfl ?_
            refine r_iconst 0 rfl ?_
            refine r_iretz (by decide) ?_
            exact ⟨trivial, rfl, rfl⟩
          refine At.enter rfl ?_
          refine r_iff 36 rfl (by decide) ?_
          refine At.enter rfl ?_
          refine r_iconst 1 rfl ?_
          refine r_goto ?_
          refine At.enter rfl ?_
          refine r_istore ([(5, .int 1), (4, .int 0), (3, .int 0), (0, .ref 204), (1, .int 0), (2, .int 99)]) rfl ?_
          refine r_iconst 0 rfl ?_
          refine r_istore ([(6, .int 0), (5, .int 1), (4, .int 0), (3, .int 0), (0, .ref 204), (1, .int 0), (2, .int 99)]) rfl ?_
          refine Ar.fall 46 rfl ?_
          refine At.enter rfl ?_
          refine r_iload rfl ?_
          refine r_bipush 100 rfl ?_
          refine r_icf 53 rfl (by decide) ?_
          refine At.enter rfl ?_
          refine r_iload_n rfl ?_
          refine r_ift (by decide) ?_
          refine At.enter rfl ?_
          refine r_iload_n rfl ?_
          refine r_iff 191 rfl (by decide) ?_
          refine At.enter rfl ?_
          refine r_iconst 1 rfl ?_
          refine r_goto ?_
          refine At.enter rfl ?_
          refine r_iretz (by decide) ?_
          exact ⟨trivial, rfl, rfl⟩
        refine At.enter rfl ?_
        refine r_iff 146 rfl (by decide) ?_
        refine At.enter rfl ?_
        refine r_aload_n rfl ?_
        refine r_aload_n rfl ?_
        refine r_get (v := .int 0) (en_gs_ne (by decide) (en_gs_ne (by decide) (en_gs_ne (by decide) (en_gs_ne (by decide) (en_gs_ne (by decide) (en_gs_ne (by decide) (en_gs_ne (by decide) (en_gs_ne (by decide) (en_gs_ne (by decide) (en_gs_eq hx_222)))))))))) rfl ?_
        refine r_iff 154 rfl (by decide) ?_
        refine At.enter rfl ?_
        refine r_iload rfl ?_
        refine r_goto ?_
        refine At.enter rfl ?_
        refine r_putf (en_gs_ne (by decide) (en_gs_ne (by decide) (en_gs_ne (by decide) (en_gs_ne (by decide) (en_gs_ne (by decide) (en_gs_ne (by decide) (en_gs_ne (by decide) (en_gs_ne (by decide) (en_gs_ne (by decide) (en_gs_eq hx_222)))))))))) (Nat.le_of_ble_eq_true rfl) rfl [.ref 1, .ref 204, .int 1, .int (-1), .int 0, .int 0] rfl ?_
        refine Ar.hp (en_sdS (by decide) (en_sdS (by decide) (en_sdS (by decide) (en_sdS (by decide) (en_sdS (by decide) (en_sdS (by decide) (en_sdS (by decide) (en_sdS (by decide) (en_sdS (by decide) en_sd0))))))))) ?_
        refine r_aload_n rfl ?_
        refine r_iload_n rfl ?_
        refine r_putf (en_gs_ne (by decide) (en_gs_ne (by decide) (en_gs_ne (by decide) (en_gs_ne (by decide) (en_gs_ne (by decide) (en_gs_ne (by decide) (en_gs_ne (by decide) (en_gs_ne (by decide) (en_gs_ne (by decide) (en_gs_eq hx_222)))))))))) (Nat.le_of_ble_eq_true rfl) rfl [.ref 1, .ref 204, .int 1, .int 0, .int 0, .int 0] rfl ?_
        refine Ar.hp (en_sdS (by decide) (en_sdS (by decide) (en_sdS (by decide) (en_sdS (by decide) (en_sdS (by decide) (en_sdS (by decide) (en_sdS (by decide) (en_sdS (by decide) (en_sdS (by decide) en_sd0))))))))) ?_
        refine r_aload_n rfl ?_
        refine r_dup rfl ?_
        refine r_get (v := .int 0) (en_gs_ne (by decide) (en_gs_ne (by decide) (en_gs_ne (by decide) (en_gs_ne (by decide) (en_gs_ne (by decide) (en_gs_ne (by decide) (en_gs_ne (by decide) (en_gs_ne (by decide) (en_gs_ne (by decide) (en_gs_eq hx_222)))))))))) rfl ?_
        refine r_iconst 1 rfl ?_
        refine r_iadd 1 rfl ?_
        refine r_putf (en_gs_ne (by decide) (en_gs_ne (by decide) (en_gs_ne (by decide) (en_gs_ne (by decide) (en_gs_ne (by decide) (en_gs_ne (by decide) (en_gs_ne (by decide) (en_gs_ne (by decide) (en_gs_ne (by decide) (en_gs_eq hx_222)))))))))) (Nat.le_of_ble_eq_true rfl) rfl [.ref 1, .ref 204, .int 1, .int 0, .int 0, .int 1] rfl ?_
        refine Ar.hp (en_sdS (by decide) (en_sdS (by decide) (en_sdS (by decide) (en_sdS (by decide) (en_sdS (by decide) (en_sdS (by decide) (en_sdS (by decide) (en_sdS (by decide) (en_sdS (by decide) en_sd0))))))))) ?_
        refine Ar.fall 181 rfl ?_
        refine At.enter rfl ?_
        refine r_iinc rfl 1 rfl ([(4, .int 1), (3, .int 0), (2, .int 0), (1, .int 0), (0, .ref 222)]) rfl ?_
        refine r_goto ?_
        refine At.enter rfl ?_
        refine r_iload rfl ?_
        refine r_iconst 1 rfl ?_
        refine r_aload_n rfl ?_
        refine r_get (v := .ref 1) (en_gs_ne (by decide) (en_gs_ne (by decide) (en_gs_ne (by decide) (en_gs_ne (by decide) (en_gs_ne (by decide) (en_gs_ne (by decide) (en_gs_ne (by decide) (en_gs_ne (by decide) (en_gs_ne (by decide) (en_gs_eq hx_222)))))))))) rfl ?_
        refine r_get (v := .int 0) (en_gs_ne (by decide) (en_gs_ne (by decide) (en_gs_ne (by decide) (en_gs_ne (by decide) (en_gs_ne (by decide) (en_gs_ne (by decide) (en_gs_ne (by decide) (en_gs_ne (by decide) (en_gs_ne (by decide) (en_gs_ne (by decide) hx_1)))))))))) rfl ?_
        refine r_ishl 1 rfl ?_
        refine r_ict (by decide) ?_
        refine At.enter rfl ?_
        refine r_iinc rfl 1 rfl ([(3, .int 1), (4, .int 1), (2, .int 0), (1, .int 0), (0, .ref 222)]) rfl ?_
        refine r_goto ?_
        refine At.enter rfl ?_
        refine r_iload_n rfl ?_
        refine r_iconst 3 rfl ?_
        refine r_icf 81 rfl (by decide) ?_
        refine At.enter rfl ?_
        refine r_aload_n rfl ?_
        refine r_get (v := .int 1) (en_gs_ne (by decide) (en_gs_ne (by decide) (en_gs_ne (by decide) (en_gs_ne (by decide) (en_gs_ne (by decide) (en_gs_ne (by decide) (en_gs_ne (by decide) (en_gs_ne (by decide) (en_gs_ne (by decide) (en_gs_eq hx_222)))))))))) rfl ?_
        refine r_ift (by decide) ?_
        refine At.enter rfl ?_
        refine r_vret ?_
        exact ⟨trivial, rfl, rfl⟩
      refine At.enter rfl ?_
      refine r_iload_n rfl ?_
      refine r_ifs 20 rfl (fun c3 => ?_) (fun c3 => ?_)
      · have c3_ : (a1).toInt ≠ (0) := (by have z := en_k_ne_t c3; (try simp only [Int32.toInt_toInt64] at z); exact z)
        refine At.enter rfl ?_
        refine r_iload_n rfl ?_
        refine r_iconst 1 rfl ?_
        refine r_ics 32 rfl (fun c4 => ?_) (fun c4 => ?_)
        · have c4_ : (a1).toInt ≠ (1) := (by have z := en_i_ne_t c4; (try simp only [Int32.toInt_toInt64] at z); exact z)
          refine At.enter rfl ?_
          refine r_aload_n rfl ?_
          refine r_get (v := .int 1) (en_gs_ne (by decide) (en_gs_ne (by decide) (en_gs_ne (by decide) (en_gs_ne (by decide) (en_gs_ne (by decide) (en_gs_ne (by decide) (en_gs_ne (by decide) (en_gs_ne (by decide) (en_gs_ne (by decide) (en_gs_eq hx_222)))))))))) rfl ?_
          refine Ar.fall 43 rfl ?_
          refine At.enter rfl ?_
          refine r_ireti ?_
          exact Or.inl ⟨⟨c3_, c4_⟩, rfl, rfl⟩
        · have c4_ : (a1).toInt = (1) := (by have z := en_i_ne_f c4; (try simp only [Int32.toInt_toInt64] at z); exact z)
          refine At.enter rfl ?_
          refine r_aload_n rfl ?_
          refine r_get (v := .int 0) (en_gs_ne (by decide) (en_gs_ne (by decide) (en_gs_ne (by decide) (en_gs_ne (by decide) (en_gs_ne (by decide) (en_gs_ne (by decide) (en_gs_ne (by decide) (en_gs_ne (by decide) (en_gs_ne (by decide) (en_gs_eq hx_222)))))))))) rfl ?_
          refine r_goto ?_
          refine At.enter rfl ?_
          refine r_ireti ?_
          exact Or.inr (Or.inl ⟨⟨c3_, c4_⟩, rfl, rfl⟩)
      · have c3_ : (a1).toInt = (0) := (by have z := en_k_ne_f c3; (try simp only [Int32.toInt_toInt64] at z); exact z)
        refine At.enter rfl ?_
        refine r_aload_n rfl ?_
        refine r_get (v := .int 0) (en_gs_ne (by decide) (en_gs_ne (by decide) (en_gs_ne (by decide) (en_gs_ne (by decide) (en_gs_ne (by decide) (en_gs_ne (by decide) (en_gs_ne (by decide) (en_gs_ne (by decide) (en_gs_ne (by decide) (en_gs_eq hx_222)))))))))) rfl ?_
        refine r_goto ?_
        refine At.enter rfl ?_
        refine r_ireti ?_
        exact Or.inr (Or.inr (⟨c3_, rfl, rfl⟩))
    · refine At.enter rfl ?_
      refine r_goto ?_
      refine At.enter rfl ?_
      refine r_ireti ?_
      exact ⟨congrArg (fun z => some (Value.int z)) (by unfold sp_home; (repeat' split) <;> first | rfl | omega), (IsX.set (IsX.set (IsX.set (IsX.set (IsX.set (IsX.set (IsX.set (IsX.set (IsX.set (IsX.set IsX.base (by decide)) (by decide)) (by decide)) (by decide)) (by decide)) (by decide)) (by decide)) (by decide)) (by decide)) (by decide)), rfl⟩
    · refine At.enter rfl ?_
      refine r_goto ?_
      refine At.enter rfl ?_
      refine r_ireti ?_
      exact ⟨congrArg (fun z => some (Value.int z)) (by unfold sp_home; (repeat' split) <;> first | rfl | omega), (IsX.set (IsX.set (IsX.set (IsX.set (IsX.set (IsX.set (IsX.set (IsX.set (IsX.set (IsX.set IsX.base (by decide)) (by decide)) (by decide)) (by decide)) (by decide)) (by decide)) (by decide)) (by decide)) (by decide)) (by decide)), rfl⟩
    · refine At.enter rfl ?_
      refine r_goto ?_
      refine At.enter rfl ?_
      refine r_ireti ?_
      exact ⟨congrArg (fun z => some (Value.int z)) (by unfold sp_home; (repeat' split) <;> first | rfl | omega), (IsX.set (IsX.set (IsX.set (IsX.set (IsX.set (IsX.set (IsX.set (IsX.set (IsX.set (IsX.set IsX.base (by decide)) (by decide)) (by decide)) (by decide)) (by decide)) (by decide)) (by decide)) (by decide)) (by decide)) (by decide)), rfl⟩
