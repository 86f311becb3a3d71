set_option maxRecDepth 100000 in
set_option maxHeartbeats 4000000 in
theorem zx_X10_restless (n : Nat) : Ev 14 131 [.ref 0] (hp_X ++ hp_M, n) (fun r h' => r = some (.int (-1)) ∧ IsX h'.1 ∧ h'.2 = n) := by
  refine Ev.mk rfl rfl ⟨Nat.le_of_ble_eq_true rfl, Or.inr (en_rcI hx_0 rfl)⟩ ?_
  show At _ none _ _ (0, [(0, .ref 0)], [], (hp_X ++ hp_M, n)) _
  refine At.enter rfl ?_
  refine r_aload_n rfl ?_
  refine r_get (v := .ref 223) hx_0 rfl ?_
  refine r_callV1s (True) (.int (-1)) (((hp_X ++ hp_M).set 224 (.inl (0, .inl (List.replicate 12 0)))).set 223 (.inr (2, [.ref 1, .ref 185, .ref 224, .ref 225, .ref 226, .int 1, .int 0, .int 0, .int 0, .int 0, .int 0, .int 0, .ref 227])), n) 7 rfl [.ref 223] [] (Nat.le_of_ble_eq_true rfl) rfl ?_ (fun _ => ?_)
  · refine Ev.mk rfl rfl ⟨Nat.le_of_ble_eq_true rfl, Or.inr (en_rcI hx_223 rfl)⟩ ?_
    show At _ none _ _ (0, [(0, .ref 223)], [], (hp_X ++ hp_M, n)) _
    refine At.enter rfl ?_
    refine r_aload_n rfl ?_
    refine r_callV1v (True)  (((hp_X ++ hp_M).set 224 (.inl (0, .inl (List.replicate 12 0)))).set 223 (.inr (2, [.ref 1, .ref 185, .ref 224, .ref 225, .ref 226, .int 1, .int 0, .int 0, .int 0, .int 0, .int 0, .int 0, .ref 227])), n) 4 rfl [.ref 223] [] (Nat.le_of_ble_eq_true rfl) rfl ?_ (fun _ => ?_)
    · refine Ev.mk rfl rfl ⟨Nat.le_of_ble_eq_true rfl, Or.inr (en_rcI hx_223 rfl)⟩ ?_
      show At _ none _ _ (0, [(0, .ref 223)], [], (hp_X ++ hp_M, n)) _
      refine At.enter rfl ?_
      refine r_aload_n rfl ?_
      refine r_get (v := .ref 1) hx_223 rfl ?_
      refine r_get (v := .ref 4) hx_1 rfl ?_
      refine r_iconst 0 rfl ?_
      refine r_aload_n rfl ?_
      refine r_get (v := .ref 224) hx_223 rfl ?_
      refine r_iconst 0 rfl ?_
      refine r_bipush 12 rfl ?_
      refine r_cpy rfl hx_4 hx_224 (by decide +kernel) (List.replicate 12 0) (by decide +kernel) ?_
      refine r_aload_n rfl ?_
      refine r_get (v := .int 0) (en_gs_ne (by decide) hx_223) rfl ?_
      refine r_iff 25 rfl (by decide) ?_
      refine At.enter rfl ?_
      refine r_aload_n rfl ?_
      refine r_iconst 1 rfl ?_
      refine r_putf (en_gs_ne (by decide) hx_223) (Nat.le_of_ble_eq_true rfl) rfl [.ref 1, .ref 185, .ref 224, .ref 225, .ref 226, .int 1, .int 0, .int 0, .int 0, .int 0, .int 0, .int 0, .ref 227] rfl ?_
      refine r_aload_n rfl ?_
      refine r_aload_n rfl ?_
      refine r_get (v := .ref 1) (en_gs_eq (en_gs_ne (by decide) hx_223)) rfl ?_
      refine r_callV1s (True) (.ref 7) (((hp_X ++ hp_M).set 224 (.inl (0, .inl (List.replicate 12 0)))).set 223 (.inr (2, [.ref 1, .ref 185, .ref 224, .ref 225, .ref 226, .int 1, .int 0, .int 0, .int 0, .int 0, .int 0, .int 0, .ref 227])), n) 38 rfl [.ref 1] [.ref 223] (Nat.le_of_ble_eq_true rfl) rfl ?_ (fun _ => ?_)
      · refine Ev.mk rfl rfl ⟨Nat.le_of_ble_eq_true rfl, Or.inr (en_rcI (en_gs_ne (by decide) (en_gs_ne (by decide) hx_1)) rfl)⟩ ?_
        show At _ none _ _ (0, [(0, .ref 1)], [], (((hp_X ++ hp_M).set 224 (.inl (0, .inl (List.replicate 12 0)))).set 223 (.inr (2, [.ref 1, .ref 185, .ref 224, .ref 225, .ref 226, .int 1, .int 0, .int 0, .int 0, .int 0, .int 0, .int 0, .ref 227])), n)) _
        refine At.enter rfl ?_
        refine r_aload_n rfl ?_
        refine r_aload_n rfl ?_
        refine r_get (v := .int (-1)) (en_gs_ne (by decide) (en_gs_ne (by decide) hx_1)) rfl ?_
        refine r_callV1s (True) (.ref 7) (((hp_X ++ hp_M).set 224 (.inl (0, .inl (List.replicate 12 0)))).set 223 (.inr (2, [.ref 1, .ref 185, .ref 224, .ref 225, .ref 226, .int 1, .int 0, .int 0, .int 0, .int 0, .int 0, .int 0, .ref 227])), n) 8 rfl [.ref 1, .int (-1)] [] (Nat.le_of_ble_eq_true rfl) rfl ?_ (fun _ => ?_)
        · refine Ev.mk rfl rfl ⟨Nat.le_of_ble_eq_true rfl, Or.inr (en_rcI (en_gs_ne (by decide) (en_gs_ne (by decide) hx_1)) rfl)⟩ ?_
          show At _ none _ _ (0, [(0, .ref 1), (1, .int (-1))], [], (((hp_X ++ hp_M).set 224 (.inl (0, .inl (List.replicate 12 0)))).set 223 (.inr (2, [.ref 1, .ref 185, .ref 224, .ref 225, .ref 226, .int 1, .int 0, .int 0, .int 0, .int 0, .int 0, .int 0, .ref 227])), n)) _
          refine At.enter rfl ?_
          refine r_iload_n rfl ?_
          refine r_ift (by decide) ?_
          refine At.enter rfl ?_
          refine r_null ?_
          refine Ar.fall 20 rfl ?_
          refine At.enter rfl ?_
          refine r_zstore_n ([(2, .null), (0, .ref 1), (1, .int (-1))]) rfl ?_
          refine r_zload_n rfl ?_
          refine r_nnz 25 rfl ?_
          refine At.enter rfl ?_
          refine r_aload_n rfl ?_
          refine r_get (v := .ref 7) (en_gs_ne (by decide) (en_gs_ne (by decide) hx_1)) rfl ?_
          refine r_goto ?_
          refine At.enter rfl ?_
          refine r_aret ?_
          exact ⟨trivial, rfl, rfl⟩
        refine At.enter rfl ?_
        refine r_aret ?_
        exact ⟨trivial, rfl, rfl⟩
      refine At.enter rfl ?_
      refine r_iconst 1 rfl ?_
      refine r_callV1s (True) (.int 0) (((hp_X ++ hp_M).set 224 (.inl (0, .inl (List.replicate 12 0)))).set 223 (.inr (2, [.ref 1, .ref 185, .ref 224, .ref 225, .ref 226, .int 1, .int 0, .int 0, .int 0, .int 0, .int 0, .int 0, .ref 227])), n) 42 rfl [.ref 7, .int 1] [.ref 223] (Nat.le_of_ble_eq_true rfl) rfl ?_ (fun _ => ?_)
      · refine Ev.mk rfl rfl ⟨Nat.le_of_ble_eq_true rfl, Or.inr (en_rcI (en_gs_ne (by decide) (en_gs_ne (by decide) hx_7)) rfl)⟩ ?_
        show At _ none _ _ (0, [(0, .ref 7), (1, .int 1)], [], (((hp_X ++ hp_M).set 224 (.inl (0, .inl (List.replicate 12 0)))).set 223 (.inr (2, [.ref 1, .ref 185, .ref 224, .ref 225, .ref 226, .int 1, .int 0, .int 0, .int 0, .int 0, .int 0, .int 0, .ref 227])), n)) _
        refine At.enter rfl ?_
        refine r_aload_n rfl ?_
        refine r_get (v := .int 0) (en_gs_ne (by decide) (en_gs_ne (by decide) hx_7)) rfl ?_
        refine r_iload_n rfl ?_
        refine r_callS1s (True) (.int 0) (((hp_X ++ hp_M).set 224 (.inl (0, .inl (List.replicate 12 0)))).set 223 (.inr (2, [.ref 1, .ref 185, .ref 224, .ref 225, .ref 226, .int 1, .int 0, .int 0, .int 0, .int 0, .int 0, .int 0, .ref 227])), n) 8 rfl [.int 0, .int 1] [] (Nat.le_of_ble_eq_true rfl) rfl ?_ (fun _ => ?_)
        · refine Ev.mk rfl rfl ⟨Nat.le_of_ble_eq_true rfl, Or.inl rfl⟩ ?_
          show At _ none _ _ (0, [(0, .int 0), (1, .int 1)], [], (((hp_X ++ hp_M).set 224 (.inl (0, .inl (List.replicate 12 0)))).set 223 (.inr (2, [.ref 1, .ref 185, .ref 224, .ref 225, .ref 226, .int 1, .int 0, .int 0, .int 0, .int 0, .int 0, .int 0, .ref 227])), n)) _
          refine At.enter rfl ?_
          refine r_iload_n rfl ?_
          refine r_iload_n rfl ?_
          refine r_ishr 0 rfl ?_
          refine r_iconst 1 rfl ?_
          refine r_iand 0 rfl ?_
          refine r_ift (by decide) ?_
          refine At.enter rfl ?_
          refine r_iconst 0 rfl ?_
          refine Ar.fall 13 rfl ?_
          refine At.enter rfl ?_
          refine r_iretz (by decide) ?_
          exact ⟨trivial, rfl, rfl⟩
        refine At.enter rfl ?_
        refine r_iretz (by decide) ?_
        exact ⟨trivial, rfl, rfl⟩
      refine At.enter rfl ?_
      refine r_putf (en_gs_eq (en_gs_ne (by decide) hx_223)) (Nat.le_of_ble_eq_true rfl) rfl [.ref 1, .ref 185, .ref 224, .ref 225, .ref 226, .int 1, .int 0, .int 0, .int 0, .int 0, .int 0, .int 0, .ref 227] rfl ?_
      refine Ar.hp en_sd0 ?_
      refine r_aload_n rfl ?_
      refine r_get (v := .int 0) (en_gs_eq (en_gs_ne (by decide) hx_223)) rfl ?_
      refine r_ift (by decide) ?_
      refine At.enter rfl ?_
      refine r_vret ?_
      exact ⟨trivial, rfl, rfl⟩
    refine At.enter rfl ?_
    refine r_iconst 0 rfl ?_
    refine r_istore_n ([(1, .int 0), (0, .ref 223)]) rfl ?_
    refine Ar.fall 6 rfl ?_
    refine At.enter rfl ?_
    refine r_iload_n rfl ?_
    refine r_aload_n rfl ?_
    refine r_get (v := .ref 1) (en_gs_eq (en_gs_ne (by decide) hx_223)) rfl ?_
    refine r_get (v := .int 0) (en_gs_ne (by decide) (en_gs_ne (by decide) hx_1)) rfl ?_
    refine r_ict (by decide) ?_
    refine At.enter rfl ?_
    refine r_iconst (-1) rfl ?_
    refine r_ireti ?_
    exact ⟨trivial, rfl, rfl⟩
  refine At.enter rfl ?_
  refine r_ireti ?_
  exact ⟨congrArg (fun z => some (Value.int z)) rfl, (IsX.set (IsX.set IsX.base (by decide)) (by decide)), rfl⟩
set_option maxRecDepth 100000 in
set_option maxHeartbeats 4000000 in
theorem zm_X11_restless (a : Nat → en_E) (n : Nat) : Ev 14 251 [.ref 231] (en_pre a 231 hp_M, n) (fun r h' => r = some (.int (-1)) ∧ h'.1.length = 259 ∧ h'.2 = n) := by
  refine Ev.mk rfl rfl ⟨Nat.le_of_ble_eq_true rfl, Or.inr (en_rcI (hm_231 _) rfl)⟩ ?_
  show At _ none _ _ (0, [(0, .ref 231)], [], (en_pre a 231 hp_M, n)) _
  refine At.enter rfl ?_
  refine r_aload_n rfl ?_
  refine r_iconst 0 rfl ?_
  refine r_putf (hm_231 _) (Nat.le_of_ble_eq_true rfl) rfl [.int 0, .int 0, .ref 232, .ref 233, .ref 234, .ref 235, .int 0, .ref 236, .int 0, .int 0, .int 0, .int 0, .long 0, .int (-1), .int 0, .int 0, .ref 237, .int 0, .ref 238, .ref 239, .int 0, .ref 240, .ref 241, .int 0, .int 0, .ref 242, .ref 243, .int 0, .ref 244, .ref 245, .int 0, .long 0, .long 0, .ref 246, .ref 247, .ref 248, .int 0, .ref 249, .ref 250, .ref 251, .ref 252, .ref 253, .ref 254, .ref 255, .ref 256, .int 0, .int 0, .int 0, .long 0, .ref 257, .ref 258, .int 0] rfl ?_
  refine r_aload_n rfl ?_
  refine r_callV1v (True)  (((((en_pre a 231 hp_M).set 231 (.inr (11, [.int 0, .int 0, .ref 232, .ref 233, .ref 234, .ref 235, .int 0, .ref 236, .int 0, .int 0, .int 0, .int 0, .long 0, .int (-1), .int 0, .int 0, .ref 237, .int 0, .ref 238, .ref 239, .int 0, .ref 240, .ref 241, .int 0, .int 0, .ref 242, .ref 243, .int 0, .ref 244, .ref 245, .int 0, .long 0, .long 0, .ref 246, .ref 247, .ref 248, .int 0, .ref 249, .ref 250, .ref 251, .ref 252, .ref 253, .ref 254, .ref 255, .ref 256, .int 0, .int 0, .int 0, .long 0, .ref 257, .ref 258, .int 0]))).set 246 (.inl (0, .inl (List.replicate 12 0)))).set 247 (.inl (0, .inl (List.replicate 12 0)))).set 248 (.inl (0, .inl (List.replicate 8 0))), n) 9 rfl [.ref 231] [] (Nat.le_of_ble_eq_true rfl) rfl ?_ (fun _ => ?_)
  · refine Ev.mk rfl rfl ⟨Nat.le_of_ble_eq_true rfl, Or.inr (en_rcI (en_gs_eq (hm_231 _)) rfl)⟩ ?_
    show At _ none _ _ (0, [(0, .ref 231)], [], ((en_pre a 231 hp_M).set 231 (.inr (11, [.int 0, .int 0, .ref 232, .ref 233, .ref 234, .ref 235, .int 0, .ref 236, .int 0, .int 0, .int 0, .int 0, .long 0, .int (-1), .int 0, .int 0, .ref 237, .int 0, .ref 238, .ref 239, .int 0, .ref 240, .ref 241, .int 0, .int 0, .ref 242, .ref 243, .int 0, .ref 244, .ref 245, .int 0, .long 0, .long 0, .ref 246, .ref 247, .ref 248, .int 0, .ref 249, .ref 250, .ref 251, .ref 252, .ref 253, .ref 254, .ref 255, .ref 256, .int 0, .int 0, .int 0, .long 0, .ref 257, .ref 258, .int 0])), n)) _
    refine At.enter rfl ?_
    refine r_iconst 0 rfl ?_
    refine r_istore_n ([(1, .int 0), (0, .ref 231)]) rfl ?_
    refine Ar.fall 2 rfl ?_
    refine At.enter rfl ?_
    refine r_iload_n rfl ?_
    refine r_bipush 12 rfl ?_
    refine r_icf 8 rfl (by decide) ?_
    refine At.enter rfl ?_
    refine r_aload_n rfl ?_
    refine r_get (v := .ref 246) (en_gs_eq (hm_231 _)) rfl ?_
    refine r_iload_n rfl ?_
    refine r_aload_n rfl ?_
    refine r_iload_n rfl ?_
    refine r_iconst 1 rfl ?_
    refine r_callV1s (True) (.int 0) ((en_pre a 231 hp_M).set 231 (.inr (11, [.int 0, .int 0, .ref 232, .ref 233, .ref 234, .ref 235, .int 0, .ref 236, .int 0, .int 0, .int 0, .int 0, .long 0, .int (-1), .int 0, .int 0, .ref 237, .int 0, .ref 238, .ref 239, .int 0, .ref 240, .ref 241, .int 0, .int 0, .ref 242, .ref 243, .int 0, .ref 244, .ref 245, .int 0, .long 0, .long 0, .ref 246, .ref 247, .ref 248, .int 0, .ref 249, .ref 250, .ref 251, .ref 252, .ref 253, .ref 254, .ref 255, .ref 256, .int 0, .int 0, .int 0, .long 0, .ref 257, .ref 258, .int 0])), n) 19 rfl [.ref 231, .int 0, .int 1] [.int 0, .ref 246] (Nat.le_of_ble_eq_true rfl) rfl ?_ (fun _ => ?_)
    · refine Ev.mk rfl rfl ⟨Nat.le_of_ble_eq_true rfl, Or.inr (en_rcI (en_gs_eq (hm_231 _)) rfl)⟩ ?_
      show At _ none _ _ (0, [(0, .ref 231), (1, .int 0), (2, .int 1)], [], ((en_pre a 231 hp_M).set 231 (.inr (11, [.int 0, .int 0, .ref 232, .ref 233, .ref 234, .ref 235, .int 0, .ref 236, .int 0, .int 0, .int 0, .int 0, .long 0, .int (-1), .int 0, .int 0, .ref 237, .int 0, .ref 238, .ref 239, .int 0, .ref 240, .ref 241, .int 0, .int 0, .ref 242, .ref 243, .int 0, .ref 244, .ref 245, .int 0, .long 0, .long 0, .ref 246, .ref 247, .ref 248, .int 0, .ref 249, .ref 250, .ref 251, .ref 252, .ref 253, .ref 254, .ref 255, .ref 256, .int 0, .int 0, .int 0, .long 0, .ref 257, .ref 258, .int 0])), n)) _
      refine At.enter rfl ?_
      refine r_aload_n rfl ?_
      refine r_get (v := .ref 233) (en_gs_eq (hm_231 _)) rfl ?_
      refine r_bipush 10 rfl ?_
      refine r_iconst 3 rfl ?_
      refine r_iload_n rfl ?_
      refine r_imul 0 (by decide) ?_
      refine r_iadd 10 rfl ?_
      refine r_iload_n rfl ?_
      refine r_iadd 11 rfl ?_
      refine r_iald (v := 0) (en_gs_ne (by decide) (hm_233 _)) (by decide) rfl ?_
      refine r_ireti ?_
      exact ⟨trivial, rfl, rfl⟩
    refine At.enter rfl ?_
    refine r_iast (en_gs_ne (by decide) (hm_246 _)) (by decide) (Nat.le_of_ble_eq_true rfl) (List.replicate 12 0) (by decide +kernel) ?_
    refine r_aload_n rfl ?_
    refine r_get (v := .ref 247) (en_gs_ne (by decide) (en_gs_eq (hm_231 _))) rfl ?_
    refine r_iload_n rfl ?_
    refine r_aload_n rfl ?_
    refine r_iload_n rfl ?_
    refine r_iconst 2 rfl ?_
    refine r_callV1s (True) (.int 0) (((en_pre a 231 hp_M).set 231 (.inr (11, [.int 0, .int 0, .ref 232, .ref 233, .ref 234, .ref 235, .int 0, .ref 236, .int 0, .int 0, .int 0, .int 0, .long 0, .int (-1), .int 0, .int 0, .ref 237, .int 0, .ref 238, .ref 239, .int 0, .ref 240, .ref 241, .int 0, .int 0, .ref 242, .ref 243, .int 0, .ref 244, .ref 245, .int 0, .long 0, .long 0, .ref 246, .ref 247, .ref 248, .int 0, .ref 249, .ref 250, .ref 251, .ref 252, .ref 253, .ref 254, .ref 255, .ref 256, .int 0, .int 0, .int 0, .long 0, .ref 257, .ref 258, .int 0]))).set 246 (.inl (0, .inl (List.replicate 12 0))), n) 31 rfl [.ref 231, .int 0, .int 2] [.int 0, .ref 247] (Nat.le_of_ble_eq_true rfl) rfl ?_ (fun _ => ?_)
    · refine Ev.mk rfl rfl ⟨Nat.le_of_ble_eq_true rfl, Or.inr (en_rcI (en_gs_ne (by decide) (en_gs_eq (hm_231 _))) rfl)⟩ ?_
      show At _ none _ _ (0, [(0, .ref 231), (1, .int 0), (2, .int 2)], [], (((en_pre a 231 hp_M).set 231 (.inr (11, [.int 0, .int 0, .ref 232, .ref 233, .ref 234, .ref 235, .int 0, .ref 236, .int 0, .int 0, .int 0, .int 0, .long 0, .int (-1), .int 0, .int 0, .ref 237, .int 0, .ref 238, .ref 239, .int 0, .ref 240, .ref 241, .int 0, .int 0, .ref 242, .ref 243, .int 0, .ref 244, .ref 245, .int 0, .long 0, .long 0, .ref 246, .ref 247, .ref 248, .int 0, .ref 249, .ref 250, .ref 251, .ref 252, .ref 253, .ref 254, .ref 255, .ref 256, .int 0, .int 0, .int 0, .long 0, .ref 257, .ref 258, .int 0]))).set 246 (.inl (0, .inl (List.replicate 12 0))), n)) _
      refine At.enter rfl ?_
      refine r_aload_n rfl ?_
      refine r_get (v := .ref 233) (en_gs_ne (by decide) (en_gs_eq (hm_231 _))) rfl ?_
      refine r_bipush 10 rfl ?_
      refine r_iconst 3 rfl ?_
      refine r_iload_n rfl ?_
      refine r_imul 0 (by decide) ?_
      refine r_iadd 10 rfl ?_
      refine r_iload_n rfl ?_
      refine r_iadd 12 rfl ?_
      refine r_iald (v := 0) (en_gs_ne (by decide) (en_gs_ne (by decide) (hm_233 _))) (by decide) (en_gr2 7 rfl (by decide +kernel) (by decide +kernel)) ?_
      refine r_ireti ?_
      exact ⟨trivial, rfl, rfl⟩
    refine At.enter rfl ?_
    refine r_iast (en_gs_ne (by decide) (en_gs_ne (by decide) (hm_247 _))) (by decide) (Nat.le_of_ble_eq_true rfl) (List.replicate 12 0) (by decide +kernel) ?_
    refine r_iinc rfl 1 rfl ([(1, .int 1), (0, .ref 231)]) rfl ?_
    refine r_goto ?_
    refine At.enter rfl ?_
    refine r_iload_n rfl ?_
    refine r_bipush 12 rfl ?_
    refine r_icf 8 rfl (by decide) ?_
    refine At.enter rfl ?_
    refine r_aload_n rfl ?_
    refine r_get (v := .ref 246) (en_gs_ne (by decide) (en_gs_ne (by decide) (en_gs_eq (hm_231 _)))) rfl ?_
    refine r_iload_n rfl ?_
    refine r_aload_n rfl ?_
    refine r_iload_n rfl ?_
    refine r_iconst 1 rfl ?_
    refine r_callV1s (True) (.int 0) ((((en_pre a 231 hp_M).set 231 (.inr (11, [.int 0, .int 0, .ref 232, .ref 233, .ref 234, .ref 235, .int 0, .ref 236, .int 0, .int 0, .int 0, .int 0, .long 0, .int (-1), .int 0, .int 0, .ref 237, .int 0, .ref 238, .ref 239, .int 0, .ref 240, .ref 241, .int 0, .int 0, .ref 242, .ref 243, .int 0, .ref 244, .ref 245, .int 0, .long 0, .long 0, .ref 246, .ref 247, .ref 248, .int 0, .ref 249, .ref 250, .ref 251, .ref 252, .ref 253, .ref 254, .ref 255, .ref 256, .int 0, .int 0, .int 0, .long 0, .ref 257, .ref 258, .int 0]))).set 246 (.inl (0, .inl (List.replicate 12 0)))).set 247 (.inl (0, .inl (List.replicate 12 0))), n) 19 rfl [.ref 231, .int 1, .int 1] [.int 1, .ref 246] (Nat.le_of_ble_eq_true rfl) rfl ?_ (fun _ => ?_)
    · refine Ev.mk rfl rfl ⟨Nat.le_of_ble_eq_true rfl, Or.inr (en_rcI (en_gs_ne (by decide) (en_gs_ne (by decide) (en_gs_eq (hm_231 _)))) rfl)⟩ ?_
      show At _ none _ _ (0, [(0, .ref 231), (1, .int 1), (2, .int 1)], [], ((((en_pre a 231 hp_M).set 231 (.inr (11, [.int 0, .int 0, .ref 232, .ref 233, .ref 234, .ref 235, .int 0, .ref 236, .int 0, .int 0, .int 0, .int 0, .long 0, .int (-1), .int 0, .int 0, .ref 237, .int 0, .ref 238, .ref 239, .int 0, .ref 240, .ref 241, .int 0, .int 0, .ref 242, .ref 243, .int 0, .ref 244, .ref 245, .int 0, .long 0, .long 0, .ref 246, .ref 247, .ref 248, .int 0, .ref 249, .ref 250, .ref 251, .ref 252, .ref 253, .ref 254, .ref 255, .ref 256, .int 0, .int 0, .int 0, .long 0, .ref 257, .ref 258, .int 0]))).set 246 (.inl (0, .inl (List.replicate 12 0)))).set 247 (.inl (0, .inl (List.replicate 12 0))), n)) _
      refine At.enter rfl ?_
      refine r_aload_n rfl ?_
      refine r_get (v := .ref 233) (en_gs_ne (by decide) (en_gs_ne (by decide) (en_gs_eq (hm_231 _)))) rfl ?_
      refine r_bipush 10 rfl ?_
      refine r_iconst 3 rfl ?_
      refine r_iload_n rfl ?_
      refine r_imul 3 (by decide) ?_
      refine r_iadd 13 rfl ?_
      refine r_iload_n rfl ?_
      refine r_iadd 14 rfl ?_
      refine r_iald (v := 0) (en_gs_ne (by decide) (en_gs_ne (by decide) (en_gs_ne (by decide) (hm_233 _)))) (by decide) (en_gr2 7 rfl (by decide +kernel) (by decide +kernel)) ?_
      refine r_ireti ?_
      exact ⟨trivial, rfl, rfl⟩
    refine At.enter rfl ?_
    refine r_iast (en_gs_ne (by decide) (en_gs_eq (en_gs_ne (by decide) (hm_246 _)))) (by decide) (Nat.le_of_ble_eq_true rfl) (List.replicate 12 0) (by decide +kernel) ?_
    refine Ar.hp (en_sdS (by decide) en_sd0) ?_
    refine r_aload_n rfl ?_
    refine r_get (v := .ref 247) (en_gs_ne (by decide) (en_gs_ne (by decide) (en_gs_eq (hm_231 _)))) rfl ?_
    refine r_iload_n rfl ?_
    refine r_aload_n rfl ?_
    refine r_iload_n rfl ?_
    refine r_iconst 2 rfl ?_
    refine r_callV1s (True) (.int 0) ((((en_pre a 231 hp_M).set 231 (.inr (11, [.int 0, .int 0, .ref 232, .ref 233, .ref 234, .ref 235, .int 0, .ref 236, .int 0, .int 0, .int 0, .int 0, .long 0, .int (-1), .int 0, .int 0, .ref 237, .int 0, .ref 238, .ref 239, .int 0, .ref 240, .ref 241, .int 0, .int 0, .ref 242, .ref 243, .int 0, .ref 244, .ref 245, .int 0, .long 0, .long 0, .ref 246, .ref 247, .ref 248, .int 0, .ref 249, .ref 250, .ref 251, .ref 252, .ref 253, .ref 254, .ref 255, .ref 256, .int 0, .int 0, .int 0, .long 0, .ref 257, .ref 258, .int 0]))).set 246 (.inl (0, .inl (List.replicate 12 0)))).set 247 (.inl (0, .inl (List.replicate 12 0))), n) 31 rfl [.ref 231, .int 1, .int 2] [.int 1, .ref 247] (Nat.le_of_ble_eq_true rfl) rfl ?_ (fun _ => ?_)
    · refine Ev.mk rfl rfl ⟨Nat.le_of_ble_eq_true rfl, Or.inr (en_rcI (en_gs_ne (by decide) (en_gs_ne (by decide) (en_gs_eq (hm_231 _)))) rfl)⟩ ?_
      show At _ none _ _ (0, [(0, .ref 231), (1, .int 1), (2, .int 2)], [], ((((en_pre a 231 hp_M).set 231 (.inr (11, [.int 0, .int 0, .ref 232, .ref 233, .ref 234, .ref 235, .int 0, .ref 236, .int 0, .int 0, .int 0, .int 0, .long 0, .int (-1), .int 0, .int 0, .ref 237, .int 0, .ref 238, .ref 239, .int 0, .ref 240, .ref 241, .int 0, .int 0, .ref 242, .ref 243, .int 0, .ref 244, .ref 245, .int 0, .long 0, .long 0, .ref 246, .ref 247, .ref 248, .int 0, .ref 249, .ref 250, .ref 251, .ref 252, .ref 253, .ref 254, .ref 255, .ref 256, .int 0, .int 0, .int 0, .long 0, .ref 257, .ref 258, .int 0]))).set 246 (.inl (0, .inl (List.replicate 12 0)))).set 247 (.inl (0, .inl (List.replicate 12 0))), n)) _
      refine At.enter rfl ?_
      refine r_aload_n rfl ?_
      refine r_get (v := .ref 233) (en_gs_ne (by decide) (en_gs_ne (by decide) (en_gs_eq (hm_231 _)))) rfl ?_
      refine r_bipush 10 rfl ?_
      refine r_iconst 3 rfl ?_
      refine r_iload_n rfl ?_
      refine r_imul 3 (by decide) ?_
      refine r_iadd 13 rfl ?_
      refine r_iload_n rfl ?_
      refine r_iadd 15 rfl ?_
      refine r_iald (v := 0) (en_gs_ne (by decide) (en_gs_ne (by decide) (en_gs_ne (by decide) (hm_233 _)))) (by decide) (en_gr2 7 rfl (by decide +kernel) (by decide +kernel)) ?_
      refine r_ireti ?_
      exact ⟨trivial, rfl, rfl⟩
    refine At.enter rfl ?_
    refine r_iast (en_gs_eq (en_gs_ne (by decide) (en_gs_ne (by decide) (hm_247 _)))) (by decide) (Nat.le_of_ble_eq_true rfl) (List.replicate 12 0) (by decide +kernel) ?_
    refine Ar.hp en_sd0 ?_
    refine r_iinc rfl 2 rfl ([(1, .int 2), (0, .ref 231)]) rfl ?_
    refine r_goto ?_
    refine At.enter rfl ?_
    refine r_iload_n rfl ?_
    refine r_bipush 12 rfl ?_
    refine r_icf 8 rfl (by decide) ?_
    refine At.enter rfl ?_
    refine r_aload_n rfl ?_
    refine r_get (v := .ref 246) (en_gs_ne (by decide) (en_gs_ne (by decide) (en_gs_eq (hm_231 _)))) rfl ?_
    refine r_iload_n rfl ?_
    refine r_aload_n rfl ?_
    refine r_iload_n rfl ?_
    refine r_iconst 1 rfl ?_
    refine r_callV1s (True) (.int 0) ((((en_pre a 231 hp_M).set 231 (.inr (11, [.int 0, .int 0, .ref 232, .ref 233, .ref 234, .ref 235, .int 0, .ref 236, .int 0, .int 0, .int 0, .int 0, .long 0, .int (-1), .int 0, .int 0, .ref 237, .int 0, .ref 238, .ref 239, .int 0, .ref 240, .ref 241, .int 0, .int 0, .ref 242, .ref 243, .int 0, .ref 244, .ref 245, .int 0, .long 0, .long 0, .ref 246, .ref 247, .ref 248, .int 0, .ref 249, .ref 250, .ref 251, .ref 252, .ref 253, .ref 254, .ref 255, .ref 256, .int 0, .int 0, .int 0, .long 0, .ref 257, .ref 258, .int 0]))).set 246 (.inl (0, .inl (List.replicate 12 0)))).set 247 (.inl (0, .inl (List.replicate 12 0))), n) 19 rfl [.ref 231, .int 2, .int 1] [.int 2, .ref 246] (Nat.le_of_ble_eq_true rfl) rfl ?_ (fun _ => ?_)
    · refine Ev.mk rfl rfl ⟨Nat.le_of_ble_eq_true rfl, Or.inr (en_rcI (en_gs_ne (by decide) (en_gs_ne (by decide) (en_gs_eq (hm_231 _)))) rfl)⟩ ?_
      show At _ none _ _ (0, [(0, .ref 231), (1, .int 2), (2, .int 1)], [], ((((en_pre a 231 hp_M).set 231 (.inr (11, [.int 0, .int 0, .ref 232, .ref 233, .ref 234, .ref 235, .int 0, .ref 236, .int 0, .int 0, .int 0, .int 0, .long 0, .int (-1), .int 0, .int 0, .ref 237, .int 0, .ref 238, .ref 239, .int 0, .ref 240, .ref 241, .int 0, .int 0, .ref 242, .ref 243, .int 0, .ref 244, .ref 245, .int 0, .long 0, .long 0, .ref 246, .ref 247, .ref 248, .int 0, .ref 249, .ref 250, .ref 251, .ref 252, .ref 253, .ref 254, .ref 255, .ref 256, .int 0, .int 0, .int 0, .long 0, .ref 257, .ref 258, .int 0]))).set 246 (.inl (0, .inl (List.replicate 12 0)))).set 247 (.inl (0, .inl (List.replicate 12 0))), n)) _
      refine At.enter rfl ?_
      refine r_aload_n rfl ?_
      refine r_get (v := .ref 233) (en_gs_ne (by decide) (en_gs_ne (by decide) (en_gs_eq (hm_231 _)))) rfl ?_
      refine r_bipush 10 rfl ?_
      refine r_iconst 3 rfl ?_
      refine r_iload_n rfl ?_
      refine r_imul 6 (by decide) ?_
      refine r_iadd 16 rfl ?_
      refine r_iload_n rfl ?_
      refine r_iadd 17 rfl ?_
      refine r_iald (v := 0) (en_gs_ne (by decide) (en_gs_ne (by decide) (en_gs_ne (by decide) (hm_233 _)))) (by decide) (en_gr2 7 rfl (by decide +kernel) (by decide +kernel)) ?_
      refine r_ireti ?_
      exact ⟨trivial, rfl, rfl⟩
    refine At.enter rfl ?_
    refine r_iast (en_gs_ne (by decide) (en_gs_eq (en_gs_ne (by decide) (hm_246 _)))) (by decide) (Nat.le_of_ble_eq_true rfl) (List.replicate 12 0) (by decide +kernel) ?_
    refine Ar.hp (en_sdS (by decide) en_sd0) ?_
    refine r_aload_n rfl ?_
    refine r_get (v := .ref 247) (en_gs_ne (by decide) (en_gs_ne (by decide) (en_gs_eq (hm_231 _)))) rfl ?_
    refine r_iload_n rfl ?_
    refine r_aload_n rfl ?_
    refine r_iload_n rfl ?_
    refine r_iconst 2 rfl ?_
    refine r_callV1s (True) (.int 0) ((((en_pre a 231 hp_M).set 231 (.inr (11, [.int 0, .int 0, .ref 232, .ref 233, .ref 234, .ref 235, .int 0, .ref 236, .int 0, .int 0, .int 0, .int 0, .long 0, .int (-1), .int 0, .int 0, .ref 237, .int 0, .ref 238, .ref 239, .int 0, .ref 240, .ref 241, .int 0, .int 0, .ref 242, .ref 243, .int 0, .ref 244, .ref 245, .int 0, .long 0, .long 0, .ref 246, .ref 247, .ref 248, .int 0, .ref 249, .ref 250, .ref 251, .ref 252, .ref 253, .ref 254, .ref 255, .ref 256, .int 0, .int 0, .int 0, .long 0, .ref 257, .ref 258, .int 0]))).set 246 (.inl (0, .inl (List.replicate 12 0)))).set 247 (.inl (0, .inl (List.replicate 12 0))), n) 31 rfl [.ref 231, .int 2, .int 2] [.int 2, .ref 247] (Nat.le_of_ble_eq_true rfl) rfl ?_ (fun _ => ?_)
    · refine Ev.mk rfl rfl ⟨Nat.le_of_ble_eq_true rfl, Or.inr (en_rcI (en_gs_ne (by decide) (en_gs_ne (by decide) (en_gs_eq (hm_231 _)))) rfl)⟩ ?_
      show At _ none _ _ (0, [(0, .ref 231), (1, .int 2), (2, .int 2)], [], ((((en_pre a 231 hp_M).set 231 (.inr (11, [.int 0, .int 0, .ref 232, .ref 233, .ref 234, .ref 235, .int 0, .ref 236, .int 0, .int 0, .int 0, .int 0, .long 0, .int (-1), .int 0, .int 0, .ref 237, .int 0, .ref 238, .ref 239, .int 0, .ref 240, .ref 241, .int 0, .int 0, .ref 242, .ref 243, .int 0, .ref 244, .ref 245, .int 0, .long 0, .long 0, .ref 246, .ref 247, .ref 248, .int 0, .ref 249, .ref 250, .ref 251, .ref 252, .ref 253, .ref 254, .ref 255, .ref 256, .int 0, .int 0, .int 0, .long 0, .ref 257, .ref 258, .int 0]))).set 246 (.inl (0, .inl (List.replicate 12 0)))).set 247 (.inl (0, .inl (List.replicate 12 0))), n)) _
      refine At.enter rfl ?_
      refine r_aload_n rfl ?_
      refine r_get (v := .ref 233) (en_gs_ne (by decide) (en_gs_ne (by decide) (en_gs_eq (hm_231 _)))) rfl ?_
      refine r_bipush 10 rfl ?_
      refine r_iconst 3 rfl ?_
      refine r_iload_n rfl ?_
      refine r_imul 6 (by decide) ?_
      refine r_iadd 16 rfl ?_
      refine r_iload_n rfl ?_
      refine r_iadd 18 rfl ?_
      refine r_iald (v := 0) (en_gs_ne (by decide) (en_gs_ne (by decide) (en_gs_ne (by decide) (hm_233 _)))) (by decide) (en_gr2 7 rfl (by decide +kernel) (by decide +kernel)) ?_
      refine r_ireti ?_
      exact ⟨trivial, rfl, rfl⟩
    refine At.enter rfl ?_
    refine r_iast (en_gs_eq (en_gs_ne (by decide) (en_gs_ne (by decide) (hm_247 _)))) (by decide) (Nat.le_of_ble_eq_true rfl) (List.replicate 12 0) (by decide +kernel) ?_
    refine Ar.hp en_sd0 ?_
    refine r_iinc rfl 3 rfl ([(1, .int 3), (0, .ref 231)]) rfl ?_
    refine r_goto ?_
    refine At.enter rfl ?_
    refine r_iload_n rfl ?_
    refine r_bipush 12 rfl ?_
    refine r_icf 8 rfl (by decide) ?_
    refine At.enter rfl ?_
    refine r_aload_n rfl ?_
    refine r_get (v := .ref 246) (en_gs_ne (by decide) (en_gs_ne (by decide) (en_gs_eq (hm_231 _)))) rfl ?_
    refine r_iload_n rfl ?_
    refine r_aload_n rfl ?_
    refine r_iload_n rfl ?_
    refine r_iconst 1 rfl ?_
    refine r_callV1s (True) (.int 0) ((((en_pre a 231 hp_M).set 231 (.inr (11, [.int 0, .int 0, .ref 232, .ref 233, .ref 234, .ref 235, .int 0, .ref 236, .int 0, .int 0, .int 0, .int 0, .long 0, .int (-1), .int 0, .int 0, .ref 237, .int 0, .ref 238, .ref 239, .int 0, .ref 240, .ref 241, .int 0, .int 0, .ref 242, .ref 243, .int 0, .ref 244, .ref 245, .int 0, .long 0, .long 0, .ref 246, .ref 247, .ref 248, .int 0, .ref 249, .ref 250, .ref 251, .ref 252, .ref 253, .ref 254, .ref 255, .ref 256, .int 0, .int 0, .int 0, .long 0, .ref 257, .ref 258, .int 0]))).set 246 (.inl (0, .inl (List.replicate 12 0)))).set 247 (.inl (0, .inl (List.replicate 12 0))), n) 19 rfl [.ref 231, .int 3, .int 1] [.int 3, .ref 246] (Nat.le_of_ble_eq_true rfl) rfl ?_ (fun _ => ?_)
    · refine Ev.mk rfl rfl ⟨Nat.le_of_ble_eq_true rfl, Or.inr (en_rcI (en_gs_ne (by decide) (en_gs_ne (by decide) (en_gs_eq (hm_231 _)))) rfl)⟩ ?_
      show At _ none _ _ (0, [(0, .ref 231), (1, .int 3), (2, .int 1)], [], ((((en_pre a 231 hp_M).set 231 (.inr (11, [.int 0, .int 0, .ref 232, .ref 233, .ref 234, .ref 235, .int 0, .ref 236, .int 0, .int 0, .int 0, .int 0, .long 0, .int (-1), .int 0, .int 0, .ref 237, .int 0, .ref 238, .ref 239, .int 0, .ref 240, .ref 241, .int 0, .int 0, .ref 242, .ref 243, .int 0, .ref 244, .ref 245, .int 0, .long 0, .long 0, .ref 246, .ref 247, .ref 248, .int 0, .ref 249, .ref 250, .ref 251, .ref 252, .ref 253, .ref 254, .ref 255, .ref 256, .int 0, .int 0, .int 0, .long 0, .ref 257, .ref 258, .int 0]))).set 246 (.inl (0, .inl (List.replicate 12 0)))).set 247 (.inl (0, .inl (List.replicate 12 0))), n)) _
      refine At.enter rfl ?_
      refine r_aload_n rfl ?_
      refine r_get (v := .ref 233) (en_gs_ne (by decide) (en_gs_ne (by decide) (en_gs_eq (hm_231 _)))) rfl ?_
      refine r_bipush 10 rfl ?_
      refine r_iconst 3 rfl ?_
      refine r_iload_n rfl ?_
      refine r_imul 9 (by decide) ?_
      refine r_iadd 19 rfl ?_
      refine r_iload_n rfl ?_
      refine r_iadd 20 rfl ?_
      refine r_iald (v := 0) (en_gs_ne (by decide) (en_gs_ne (by decide) (en_gs_ne (by decide) (hm_233 _)))) (by decide) (en_gr2 7 rfl (by decide +kernel) (by decide +kernel)) ?_
      refine r_ireti ?_
      exact ⟨trivial, rfl, rfl⟩
    refine At.enter rfl ?_
    refine r_iast (en_gs_ne (by decide) (en_gs_eq (en_gs_ne (by decide) (hm_246 _)))) (by decide) (Nat.le_of_ble_eq_true rfl) (List.replicate 12 0) (by decide +kernel) ?_
    refine Ar.hp (en_sdS (by decide) en_sd0) ?_
    refine r_aload_n rfl ?_
    refine r_get (v := .ref 247) (en_gs_ne (by decide) (en_gs_ne (by decide) (en_gs_eq (hm_231 _)))) rfl ?_
    refine r_iload_n rfl ?_
    refine r_aload_n rfl ?_
    refine r_iload_n rfl ?_
    refine r_iconst 2 rfl ?_
    refine r_callV1s (True) (.int 0) ((((en_pre a 231 hp_M).set 231 (.inr (11, [.int 0, .int 0, .ref 232, .ref 233, .ref 234, .ref 235, .int 0, .ref 236, .int 0, .int 0, .int 0, .int 0, .long 0, .int (-1), .int 0, .int 0, .ref 237, .int 0, .ref 238, .ref 239, .int 0, .ref 240, .ref 241, .int 0, .int 0, .ref 242, .ref 243, .int 0, .ref 244, .ref 245, .int 0, .long 0, .long 0, .ref 246, .ref 247, .ref 248, .int 0, .ref 249, .ref 250, .ref 251, .ref 252, .ref 253, .ref 254, .ref 255, .ref 256, .int 0, .int 0, .int 0, .long 0, .ref 257, .ref 258, .int 0]))).set 246 (.inl (0, .inl (List.replicate 12 0)))).set 247 (.inl (0, .inl (List.replicate 12 0))), n) 31 rfl [.ref 231, .int 3, .int 2] [.int 3, .ref 247] (Nat.le_of_ble_eq_true rfl) rfl ?_ (fun _ => ?_)
    · refine Ev.mk rfl rfl ⟨Nat.le_of_ble_eq_true rfl, Or.inr (en_rcI (en_gs_ne (by decide) (en_gs_ne (by decide) (en_gs_eq (hm_231 _)))) rfl)⟩ ?_
      show At _ none _ _ (0, [(0, .ref 231), (1, .int 3), (2, .int 2)], [], ((((en_pre a 231 hp_M).set 231 (.inr (11, [.int 0, .int 0, .ref 232, .ref 233, .ref 234, .ref 235, .int 0, .ref 236, .int 0, .int 0, .int 0, .int 0, .long 0, .int (-1), .int 0, .int 0, .ref 237, .int 0, .ref 238, .ref 239, .int 0, .ref 240, .ref 241, .int 0, .int 0, .ref 242, .ref 243, .int 0, .ref 244, .ref 245, .int 0, .long 0, .long 0, .ref 246, .ref 247, .ref 248, .int 0, .ref 249, .ref 250, .ref 251, .ref 252, .ref 253, .ref 254, .ref 255, .ref 256, .int 0, .int 0, .int 0, .long 0, .ref 257, .ref 258, .int 0]))).set 246 (.inl (0, .inl (List.replicate 12 0)))).set 247 (.inl (0, .inl (List.replicate 12 0))), n)) _
      refine At.enter rfl ?_
      refine r_aload_n rfl ?_
      refine r_get (v := .ref 233) (en_gs_ne (by decide) (en_gs_ne (by decide) (en_gs_eq (hm_231 _)))) rfl ?_
      refine r_bipush 10 rfl ?_
      refine r_iconst 3 rfl ?_
      refine r_iload_n rfl ?_
      refine r_imul 9 (by decide) ?_
      refine r_iadd 19 rfl ?_
      refine r_iload_n rfl ?_
      refine r_iadd 21 rfl ?_
      refine r_iald (v := 0) (en_gs_ne (by decide) (en_gs_ne (by decide) (en_gs_ne (by decide) (hm_233 _)))) (by decide) (en_gr2 7 rfl (by decide +kernel) (by decide +kernel)) ?_
      refine r_ireti ?_
      exact ⟨trivial, rfl, rfl⟩
    refine At.enter rfl ?_
    refine r_iast (en_gs_eq (en_gs_ne (by decide) (en_gs_ne (by decide) (hm_247 _)))) (by decide) (Nat.le_of_ble_eq_true rfl) (List.replicate 12 0) (by decide +kernel) ?_
    refine Ar.hp en_sd0 ?_
    refine r_iinc rfl 4 rfl ([(1, .int 4), (0, .ref 231)]) rfl ?_
    refine r_goto ?_
    refine At.enter rfl ?_
    refine r_iload_n rfl ?_
    refine r_bipush 12 rfl ?_
    refine r_icf 8 rfl (by decide) ?_
    refine At.enter rfl ?_
    refine r_aload_n rfl ?_
    refine r_get (v := .ref 246) (en_gs_ne (by decide) (en_gs_ne (by decide) (en_gs_eq (hm_231 _)))) rfl ?_
    refine r_iload_n rfl ?_
    refine r_aload_n rfl ?_
    refine r_iload_n rfl ?_
    refine r_iconst 1 rfl ?_
    refine r_callV1s (True) (.int 0) ((((en_pre a 231 hp_M).set 231 (.inr (11, [.int 0, .int 0, .ref 232, .ref 233, .ref 234, .ref 235, .int 0, .ref 236, .int 0, .int 0, .int 0, .int 0, .long 0, .int (-1), .int 0, .int 0, .ref 237, .int 0, .ref 238, .ref 239, .int 0, .ref 240, .ref 241, .int 0, .int 0, .ref 242, .ref 243, .int 0, .ref 244, .ref 245, .int 0, .long 0, .long 0, .ref 246, .ref 247, .ref 248, .int 0, .ref 249, .ref 250, .ref 251, .ref 252, .ref 253, .ref 254, .ref 255, .ref 256, .int 0, .int 0, .int 0, .long 0, .ref 257, .ref 258, .int 0]))).set 246 (.inl (0, .inl (List.replicate 12 0)))).set 247 (.inl (0, .inl (List.replicate 12 0))), n) 19 rfl [.ref 231, .int 4, .int 1] [.int 4, .ref 246] (Nat.le_of_ble_eq_true rfl) rfl ?_ (fun _ => ?_)
    · refine Ev.mk rfl rfl ⟨Nat.le_of_ble_eq_true rfl, Or.inr (en_rcI (en_gs_ne (by decide) (en_gs_ne (by decide) (en_gs_eq (hm_231 _)))) rfl)⟩ ?_
      show At _ none _ _ (0, [(0, .ref 231), (1, .int 4), (2, .int 1)], [], ((((en_pre a 231 hp_M).set 231 (.inr (11, [.int 0, .int 0, .ref 232, .ref 233, .ref 234, .ref 235, .int 0, .ref 236, .int 0, .int 0, .int 0, .int 0, .long 0, .int (-1), .int 0, .int 0, .ref 237, .int 0, .ref 238, .ref 239, .int 0, .ref 240, .ref 241, .int 0, .int 0, .ref 242, .ref 243, .int 0, .ref 244, .ref 245, .int 0, .long 0, .long 0, .ref 246, .ref 247, .ref 248, .int 0, .ref 249, .ref 250, .ref 251, .ref 252, .ref 253, .ref 254, .ref 255, .ref 256, .int 0, .int 0, .int 0, .long 0, .ref 257, .ref 258, .int 0]))).set 246 (.inl (0, .inl (List.replicate 12 0)))).set 247 (.inl (0, .inl (List.replicate 12 0))), n)) _
      refine At.enter rfl ?_
      refine r_aload_n rfl ?_
      refine r_get (v := .ref 233) (en_gs_ne (by decide) (en_gs_ne (by decide) (en_gs_eq (hm_231 _)))) rfl ?_
      refine r_bipush 10 rfl ?_
      refine r_iconst 3 rfl ?_
      refine r_iload_n rfl ?_
      refine r_imul 12 (by decide) ?_
      refine r_iadd 22 rfl ?_
      refine r_iload_n rfl ?_
      refine r_iadd 23 rfl ?_
      refine r_iald (v := 0) (en_gs_ne (by decide) (en_gs_ne (by decide) (en_gs_ne (by decide) (hm_233 _)))) (by decide) (en_gr2 7 rfl (by decide +kernel) (by decide +kernel)) ?_
      refine r_ireti ?_
      exact ⟨trivial, rfl, rfl⟩
    refine At.enter rfl ?_
    refine r_iast (en_gs_ne (by decide) (en_gs_eq (en_gs_ne (by decide) (hm_246 _)))) (by decide) (Nat.le_of_ble_eq_true rfl) (List.replicate 12 0) (by decide +kernel) ?_
    refine Ar.hp (en_sdS (by decide) en_sd0) ?_
    refine r_aload_n rfl ?_
    refine r_get (v := .ref 247) (en_gs_ne (by decide) (en_gs_ne (by decide) (en_gs_eq (hm_231 _)))) rfl ?_
    refine r_iload_n rfl ?_
    refine r_aload_n rfl ?_
    refine r_iload_n rfl ?_
    refine r_iconst 2 rfl ?_
    refine r_callV1s (True) (.int 0) ((((en_pre a 231 hp_M).set 231 (.inr (11, [.int 0, .int 0, .ref 232, .ref 233, .ref 234, .ref 235, .int 0, .ref 236, .int 0, .int 0, .int 0, .int 0, .long 0, .int (-1), .int 0, .int 0, .ref 237, .int 0, .ref 238, .ref 239, .int 0, .ref 240, .ref 241, .int 0, .int 0, .ref 242, .ref 243, .int 0, .ref 244, .ref 245, .int 0, .long 0, .long 0, .ref 246, .ref 247, .ref 248, .int 0, .ref 249, .ref 250, .ref 251, .ref 252, .ref 253, .ref 254, .ref 255, .ref 256, .int 0, .int 0, .int 0, .long 0, .ref 257, .ref 258, .int 0]))).set 246 (.inl (0, .inl (List.replicate 12 0)))).set 247 (.inl (0, .inl (List.replicate 12 0))), n) 31 rfl [.ref 231, .int 4, .int 2] [.int 4, .ref 247] (Nat.le_of_ble_eq_true rfl) rfl ?_ (fun _ => ?_)
    · refine Ev.mk rfl rfl ⟨Nat.le_of_ble_eq_true rfl, Or.inr (en_rcI (en_gs_ne (by decide) (en_gs_ne (by decide) (en_gs_eq (hm_231 _)))) rfl)⟩ ?_
      show At _ none _ _ (0, [(0, .ref 231), (1, .int 4), (2, .int 2)], [], ((((en_pre a 231 hp_M).set 231 (.inr (11, [.int 0, .int 0, .ref 232, .ref 233, .ref 234, .ref 235, .int 0, .ref 236, .int 0, .int 0, .int 0, .int 0, .long 0, .int (-1), .int 0, .int 0, .ref 237, .int 0, .ref 238, .ref 239, .int 0, .ref 240, .ref 241, .int 0, .int 0, .ref 242, .ref 243, .int 0, .ref 244, .ref 245, .int 0, .long 0, .long 0, .ref 246, .ref 247, .ref 248, .int 0, .ref 249, .ref 250, .ref 251, .ref 252, .ref 253, .ref 254, .ref 255, .ref 256, .int 0, .int 0, .int 0, .long 0, .ref 257, .ref 258, .int 0]))).set 246 (.inl (0, .inl (List.replicate 12 0)))).set 247 (.inl (0, .inl (List.replicate 12 0))), n)) _
      refine At.enter rfl ?_
      refine r_aload_n rfl ?_
      refine r_get (v := .ref 233) (en_gs_ne (by decide) (en_gs_ne (by decide) (en_gs_eq (hm_231 _)))) rfl ?_
      refine r_bipush 10 rfl ?_
      refine r_iconst 3 rfl ?_
      refine r_iload_n rfl ?_
      refine r_imul 12 (by decide) ?_
      refine r_iadd 22 rfl ?_
      refine r_iload_n rfl ?_
      refine r_iadd 24 rfl ?_
      refine r_iald (v := 0) (en_gs_ne (by decide) (en_gs_ne (by decide) (en_gs_ne (by decide) (hm_233 _)))) (by decide) (en_gr2 7 rfl (by decide +kernel) (by decide +kernel)) ?_
      refine r_ireti ?_
      exact ⟨trivial, rfl, rfl⟩
    refine At.enter rfl ?_
    refine r_iast (en_gs_eq (en_gs_ne (by decide) (en_gs_ne (by decide) (hm_247 _)))) (by decide) (Nat.le_of_ble_eq_true rfl) (List.replicate 12 0) (by decide +kernel) ?_
    refine Ar.hp en_sd0 ?_
    refine r_iinc rfl 5 rfl ([(1, .int 5), (0, .ref 231)]) rfl ?_
    refine r_goto ?_
    refine At.enter rfl ?_
    refine r_iload_n rfl ?_
    refine r_bipush 12 rfl ?_
    refine r_icf 8 rfl (by decide) ?_
    refine At.enter rfl ?_
    refine r_aload_n rfl ?_
    refine r_get (v := .ref 246) (en_gs_ne (by decide) (en_gs_ne (by decide) (en_gs_eq (hm_231 _)))) rfl ?_
    refine r_iload_n rfl ?_
    refine r_aload_n rfl ?_
    refine r_iload_n rfl ?_
    refine r_iconst 1 rfl ?_
    refine r_callV1s (True) (.int 0) ((((en_pre a 231 hp_M).set 231 (.inr (11, [.int 0, .int 0, .ref 232, .ref 233, .ref 234, .ref 235, .int 0, .ref 236, .int 0, .int 0, .int 0, .int 0, .long 0, .int (-1), .int 0, .int 0, .ref 237, .int 0, .ref 238, .ref 239, .int 0, .ref 240, .ref 241, .int 0, .int 0, .ref 242, .ref 243, .int 0, .ref 244, .ref 245, .int 0, .long 0, .long 0, .ref 246, .ref 247, .ref 248, .int 0, .ref 249, .ref 250, .ref 251, .ref 252, .ref 253, .ref 254, .ref 255, .ref 256, .int 0, .int 0, .int 0, .long 0, .ref 257, .ref 258, .int 0]))).set 246 (.inl (0, .inl (List.replicate 12 0)))).set 247 (.inl (0, .inl (List.replicate 12 0))), n) 19 rfl [.ref 231, .int 5, .int 1] [.int 5, .ref 246] (Nat.le_of_ble_eq_true rfl) rfl ?_ (fun _ => ?_)
    · refine Ev.mk rfl rfl ⟨Nat.le_of_ble_eq_true rfl, Or.inr (en_rcI (en_gs_ne (by decide) (en_gs_ne (by decide) (en_gs_eq (hm_231 _)))) rfl)⟩ ?_
      show At _ none _ _ (0, [(0, .ref 231), (1, .int 5), (2, .int 1)], [], ((((en_pre a 231 hp_M).set 231 (.inr (11, [.int 0, .int 0, .ref 232, .ref 233, .ref 234, .ref 235, .int 0, .ref 236, .int 0, .int 0, .int 0, .int 0, .long 0, .int (-1), .int 0, .int 0, .ref 237, .int 0, .ref 238, .ref 239, .int 0, .ref 240, .ref 241, .int 0, .int 0, .ref 242, .ref 243, .int 0, .ref 244, .ref 245, .int 0, .long 0, .long 0, .ref 246, .ref 247, .ref 248, .int 0, .ref 249, .ref 250, .ref 251, .ref 252, .ref 253, .ref 254, .ref 255, .ref 256, .int 0, .int 0, .int 0, .long 0, .ref 257, .ref 258, .int 0]))).set 246 (.inl (0, .inl (List.replicate 12 0)))).set 247 (.inl (0, .inl (List.replicate 12 0))), n)) _
      refine At.enter rfl ?_
      refine r_aload_n rfl ?_
      refine r_get (v := .ref 233) (en_gs_ne (by decide) (en_gs_ne (by decide) (en_gs_eq (hm_231 _)))) rfl ?_
      refine r_bipush 10 rfl ?_
      refine r_iconst 3 rfl ?_
      refine r_iload_n rfl ?_
      refine r_imul 15 (by decide) ?_
      refine r_iadd 25 rfl ?_
      refine r_iload_n rfl ?_
      refine r_iadd 26 rfl ?_
      refine r_iald (v := 0) (en_gs_ne (by decide) (en_gs_ne (by decide) (en_gs_ne (by decide) (hm_233 _)))) (by decide) (en_gr2 7 rfl (by decide +kernel) (by decide +kernel)) ?_
      refine r_ireti ?_
      exact ⟨trivial, rfl, rfl⟩
    refine At.enter rfl ?_
    refine r_iast (en_gs_ne (by decide) (en_gs_eq (en_gs_ne (by decide) (hm_246 _)))) (by decide) (Nat.le_of_ble_eq_true rfl) (List.replicate 12 0) (by decide +kernel) ?_
    refine Ar.hp (en_sdS (by decide) en_sd0) ?_
    refine r_aload_n rfl ?_
    refine r_get (v := .ref 247) (en_gs_ne (by decide) (en_gs_ne (by decide) (en_gs_eq (hm_231 _)))) rfl ?_
    refine r_iload_n rfl ?_
    refine r_aload_n rfl ?_
    refine r_iload_n rfl ?_
    refine r_iconst 2 rfl ?_
    refine r_callV1s (True) (.int 0) ((((en_pre a 231 hp_M).set 231 (.inr (11, [.int 0, .int 0, .ref 232, .ref 233, .ref 234, .ref 235, .int 0, .ref 236, .int 0, .int 0, .int 0, .int 0, .long 0, .int (-1), .int 0, .int 0, .ref 237, .int 0, .ref 238, .ref 239, .int 0, .ref 240, .ref 241, .int 0, .int 0, .ref 242, .ref 243, .int 0, .ref 244, .ref 245, .int 0, .long 0, .long 0, .ref 246, .ref 247, .ref 248, .int 0, .ref 249, .ref 250, .ref 251, .ref 252, .ref 253, .ref 254, .ref 255, .ref 256, .int 0, .int 0, .int 0, .long 0, .ref 257, .ref 258, .int 0]))).set 246 (.inl (0, .inl (List.replicate 12 0)))).set 247 (.inl (0, .inl (List.replicate 12 0))), n) 31 rfl [.ref 231, .int 5, .int 2] [.int 5, .ref 247] (Nat.le_of_ble_eq_true rfl) rfl ?_ (fun _ => ?_)
    · refine Ev.mk rfl rfl ⟨Nat.le_of_ble_eq_true rfl, Or.inr (en_rcI (en_gs_ne (by decide) (en_gs_ne (by decide) (en_gs_eq (hm_231 _)))) rfl)⟩ ?_
      show At _ none _ _ (0, [(0, .ref 231), (1, .int 5), (2, .int 2)], [], ((((en_pre a 231 hp_M).set 231 (.inr (11, [.int 0, .int 0, .ref 232, .ref 233, .ref 234, .ref 235, .int 0, .ref 236, .int 0, .int 0, .int 0, .int 0, .long 0, .int (-1), .int 0, .int 0, .ref 237, .int 0, .ref 238, .ref 239, .int 0, .ref 240, .ref 241, .int 0, .int 0, .ref 242, .ref 243, .int 0, .ref 244, .ref 245, .int 0, .long 0, .long 0, .ref 246, .ref 247, .ref 248, .int 0, .ref 249, .ref 250, .ref 251, .ref 252, .ref 253, .ref 254, .ref 255, .ref 256, .int 0, .int 0, .int 0, .long 0, .ref 257, .ref 258, .int 0]))).set 246 (.inl (0, .inl (List.replicate 12 0)))).set 247 (.inl (0, .inl (List.replicate 12 0))), n)) _
      refine At.enter rfl ?_
      refine r_aload_n rfl ?_
      refine r_get (v := .ref 233) (en_gs_ne (by decide) (en_gs_ne (by decide) (en_gs_eq (hm_231 _)))) rfl ?_
      refine r_bipush 10 rfl ?_
      refine r_iconst 3 rfl ?_
      refine r_iload_n rfl ?_
      refine r_imul 15 (by decide) ?_
      refine r_iadd 25 rfl ?_
      refine r_iload_n rfl ?_
      refine r_iadd 27 rfl ?_
      refine r_iald (v := 0) (en_gs_ne (by decide) (en_gs_ne (by decide) (en_gs_ne (by decide) (hm_233 _)))) (by decide) (en_gr2 7 rfl (by decide +kernel) (by decide +kernel)) ?_
      refine r_ireti ?_
      exact ⟨trivial, rfl, rfl⟩
    refine At.enter rfl ?_
    refine r_iast (en_gs_eq (en_gs_ne (by decide) (en_gs_ne (by decide) (hm_247 _)))) (by decide) (Nat.le_of_ble_eq_true rfl) (List.replicate 12 0) (by decide +kernel) ?_
    refine Ar.hp en_sd0 ?_
    refine r_iinc rfl 6 rfl ([(1, .int 6), (0, .ref 231)]) rfl ?_
    refine r_goto ?_
    refine At.enter rfl ?_
    refine r_iload_n rfl ?_
    refine r_bipush 12 rfl ?_
    refine r_icf 8 rfl (by decide) ?_
    refine At.enter rfl ?_
    refine r_aload_n rfl ?_
    refine r_get (v := .ref 246) (en_gs_ne (by decide) (en_gs_ne (by decide) (en_gs_eq (hm_231 _)))) rfl ?_
    refine r_iload_n rfl ?_
    refine r_aload_n rfl ?_
    refine r_iload_n rfl ?_
    refine r_iconst 1 rfl ?_
    refine r_callV1s (True) (.int 0) ((((en_pre a 231 hp_M).set 231 (.inr (11, [.int 0, .int 0, .ref 232, .ref 233, .ref 234, .ref 235, .int 0, .ref 236, .int 0, .int 0, .int 0, .int 0, .long 0, .int (-1), .int 0, .int 0, .ref 237, .int 0, .ref 238, .ref 239, .int 0, .ref 240, .ref 241, .int 0, .int 0, .ref 242, .ref 243, .int 0, .ref 244, .ref 245, .int 0, .long 0, .long 0, .ref 246, .ref 247, .ref 248, .int 0, .ref 249, .ref 250, .ref 251, .ref 252, .ref 253, .ref 254, .ref 255, .ref 256, .int 0, .int 0, .int 0, .long 0, .ref 257, .ref 258, .int 0]))).set 246 (.inl (0, .inl (List.replicate 12 0)))).set 247 (.inl (0, .inl (List.replicate 12 0))), n) 19 rfl [.ref 231, .int 6, .int 1] [.int 6, .ref 246] (Nat.le_of_ble_eq_true rfl) rfl ?_ (fun _ => ?_)
    · refine Ev.mk rfl rfl ⟨Nat.le_of_ble_eq_true rfl, Or.inr (en_rcI (en_gs_ne (by decide) (en_gs_ne (by decide) (en_gs_eq (hm_231 _)))) rfl)⟩ ?_
      show At _ none _ _ (0, [(0, .ref 231), (1, .int 6), (2, .int 1)], [], ((((en_pre a 231 hp_M).set 231 (.inr (11, [.int 0, .int 0, .ref 232, .ref 233, .ref 234, .ref 235, .int 0, .ref 236, .int 0, .int 0, .int 0, .int 0, .long 0, .int (-1), .int 0, .int 0, .ref 237, .int 0, .ref 238, .ref 239, .int 0, .ref 240, .ref 241, .int 0, .int 0, .ref 242, .ref 243, .int 0, .ref 244, .ref 245, .int 0, .long 0, .long 0, .ref 246, .ref 247, .ref 248, .int 0, .ref 249, .ref 250, .ref 251, .ref 252, .ref 253, .ref 254, .ref 255, .ref 256, .int 0, .int 0, .int 0, .long 0, .ref 257, .ref 258, .int 0]))).set 246 (.inl (0, .inl (List.replicate 12 0)))).set 247 (.inl (0, .inl (List.replicate 12 0))), n)) _
      refine At.enter rfl ?_
      refine r_aload_n rfl ?_
      refine r_get (v := .ref 233) (en_gs_ne (by decide) (en_gs_ne (by decide) (en_gs_eq (hm_231 _)))) rfl ?_
      refine r_bipush 10 rfl ?_
      refine r_iconst 3 rfl ?_
      refine r_iload_n rfl ?_
      refine r_imul 18 (by decide) ?_
      refine r_iadd 28 rfl ?_
      refine r_iload_n rfl ?_
      refine r_iadd 29 rfl ?_
      refine r_iald (v := 0) (en_gs_ne (by decide) (en_gs_ne (by decide) (en_gs_ne (by decide) (hm_233 _)))) (by decide) (en_gr2 7 rfl (by decide +kernel) (by decide +kernel)) ?_
      refine r_ireti ?_
      exact ⟨trivial, rfl, rfl⟩
    refine At.enter rfl ?_
    refine r_iast (en_gs_ne (by decide) (en_gs_eq (en_gs_ne (by decide) (hm_246 _)))) (by decide) (Nat.le_of_ble_eq_true rfl) (List.replicate 12 0) (by decide +kernel) ?_
    refine Ar.hp (en_sdS (by decide) en_sd0) ?_
    refine r_aload_n rfl ?_
    refine r_get (v := .ref 247) (en_gs_ne (by decide) (en_gs_ne (by decide) (en_gs_eq (hm_231 _)))) rfl ?_
    refine r_iload_n rfl ?_
    refine r_aload_n rfl ?_
    refine r_iload_n rfl ?_
    refine r_iconst 2 rfl ?_
    refine r_callV1s (True) (.int 0) ((((en_pre a 231 hp_M).set 231 (.inr (11, [.int 0, .int 0, .ref 232, .ref 233, .ref 234, .ref 235, .int 0, .ref 236, .int 0, .int 0, .int 0, .int 0, .long 0, .int (-1), .int 0, .int 0, .ref 237, .int 0, .ref 238, .ref 239, .int 0, .ref 240, .ref 241, .int 0, .int 0, .ref 242, .ref 243, .int 0, .ref 244, .ref 245, .int 0, .long 0, .long 0, .ref 246, .ref 247, .ref 248, .int 0, .ref 249, .ref 250, .ref 251, .ref 252, .ref 253, .ref 254, .ref 255, .ref 256, .int 0, .int 0, .int 0, .long 0, .ref 257, .ref 258, .int 0]))).set 246 (.inl (0, .inl (List.replicate 12 0)))).set 247 (.inl (0, .inl (List.replicate 12 0))), n) 31 rfl [.ref 231, .int 6, .int 2] [.int 6, .ref 247] (Nat.le_of_ble_eq_true rfl) rfl ?_ (fun _ => ?_)
    · refine Ev.mk rfl rfl ⟨Nat.le_of_ble_eq_true rfl, Or.inr (en_rcI (en_gs_ne (by decide) (en_gs_ne (by decide) (en_gs_eq (hm_231 _)))) rfl)⟩ ?_
      show At _ none _ _ (0, [(0, .ref 231), (1, .int 6), (2, .int 2)], [], ((((en_pre a 231 hp_M).set 231 (.inr (11, [.int 0, .int 0, .ref 232, .ref 233, .ref 234, .ref 235, .int 0, .ref 236, .int 0, .int 0, .int 0, .int 0, .long 0, .int (-1), .int 0, .int 0, .ref 237, .int 0, .ref 238, .ref 239, .int 0, .ref 240, .ref 241, .int 0, .int 0, .ref 242, .ref 243, .int 0, .ref 244, .ref 245, .int 0, .long 0, .long 0, .ref 246, .ref 247, .ref 248, .int 0, .ref 249, .ref 250, .ref 251, .ref 252, .ref 253, .ref 254, .ref 255, .ref 256, .int 0, .int 0, .int 0, .long 0, .ref 257, .ref 258, .int 0]))).set 246 (.inl (0, .inl (List.replicate 12 0)))).set 247 (.inl (0, .inl (List.replicate 12 0))), n)) _
      refine At.enter rfl ?_
      refine r_aload_n rfl ?_
      refine r_get (v := .ref 233) (en_gs_ne (by decide) (en_gs_ne (by decide) (en_gs_eq (hm_231 _)))) rfl ?_
      refine r_bipush 10 rfl ?_
      refine r_iconst 3 rfl ?_
      refine r_iload_n rfl ?_
      refine r_imul 18 (by decide) ?_
      refine r_iadd 28 rfl ?_
      refine r_iload_n rfl ?_
      refine r_iadd 30 rfl ?_
      refine r_iald (v := 0) (en_gs_ne (by decide) (en_gs_ne (by decide) (en_gs_ne (by decide) (hm_233 _)))) (by decide) (en_gr2 7 rfl (by decide +kernel) (by decide +kernel)) ?_
      refine r_ireti ?_
      exact ⟨trivial, rfl, rfl⟩
    refine At.enter rfl ?_
    refine r_iast (en_gs_eq (en_gs_ne (by decide) (en_gs_ne (by decide) (hm_247 _)))) (by decide) (Nat.le_of_ble_eq_true rfl) (List.replicate 12 0) (by decide +kernel) ?_
    refine Ar.hp en_sd0 ?_
    refine r_iinc rfl 7 rfl ([(1, .int 7), (0, .ref 231)]) rfl ?_
    refine r_goto ?_
    refine At.enter rfl ?_
    refine r_iload_n rfl ?_
    refine r_bipush 12 rfl ?_
    refine r_icf 8 rfl (by decide) ?_
    refine At.enter rfl ?_
    refine r_aload_n rfl ?_
    refine r_get (v := .ref 246) (en_gs_ne (by decide) (en_gs_ne (by decide) (en_gs_eq (hm_231 _)))) rfl ?_
    refine r_iload_n rfl ?_
    refine r_aload_n rfl ?_
    refine r_iload_n rfl ?_
    refine r_iconst 1 rfl ?_
    refine r_callV1s (True) (.int 0) ((((en_pre a 231 hp_M).set 231 (.inr (11, [.int 0, .int 0, .ref 232, .ref 233, .ref 234, .ref 235, .int 0, .ref 236, .int 0, .int 0, .int 0, .int 0, .long 0, .int (-1), .int 0, .int 0, .ref 237, .int 0, .ref 238, .ref 239, .int 0, .ref 240, .ref 241, .int 0, .int 0, .ref 242, .ref 243, .int 0, .ref 244, .ref 245, .int 0, .long 0, .long 0, .ref 246, .ref 247, .ref 248, .int 0, .ref 249, .ref 250, .ref 251, .ref 252, .ref 253, .ref 254, .ref 255, .ref 256, .int 0, .int 0, .int 0, .long 0, .ref 257, .ref 258, .int 0]))).set 246 (.inl (0, .inl (List.replicate 12 0)))).set 247 (.inl (0, .inl (List.replicate 12 0))), n) 19 rfl [.ref 231, .int 7, .int 1] [.int 7, .ref 246] (Nat.le_of_ble_eq_true rfl) rfl ?_ (fun _ => ?_)
    · refine Ev.mk rfl rfl ⟨Nat.le_of_ble_eq_true rfl, Or.inr (en_rcI (en_gs_ne (by decide) (en_gs_ne (by decide) (en_gs_eq (hm_231 _)))) rfl)⟩ ?_
      show At _ none _ _ (0, [(0, .ref 231), (1, .int 7), (2, .int 1)], [], ((((en_pre a 231 hp_M).set 231 (.inr (11, [.int 0, .int 0, .ref 232, .ref 233, .ref 234, .ref 235, .int 0, .ref 236, .int 0, .int 0, .int 0, .int 0, .long 0, .int (-1), .int 0, .int 0, .ref 237, .int 0, .ref 238, .ref 239, .int 0, .ref 240, .ref 241, .int 0, .int 0, .ref 242, .ref 243, .int 0, .ref 244, .ref 245, .int 0, .long 0, .long 0, .ref 246, .ref 247, .ref 248, .int 0, .ref 249, .ref 250, .ref 251, .ref 252, .ref 253, .ref 254, .ref 255, .ref 256, .int 0, .int 0, .int 0, .long 0, .ref 257, .ref 258, .int 0]))).set 246 (.inl (0, .inl (List.replicate 12 0)))).set 247 (.inl (0, .inl (List.replicate 12 0))), n)) _
      refine At.enter rfl ?_
      refine r_aload_n rfl ?_
      refine r_get (v := .ref 233) (en_gs_ne (by decide) (en_gs_ne (by decide) (en_gs_eq (hm_231 _)))) rfl ?_
      refine r_bipush 10 rfl ?_
      refine r_iconst 3 rfl ?_
      refine r_iload_n rfl ?_
      refine r_imul 21 (by decide) ?_
      refine r_iadd 31 rfl ?_
      refine r_iload_n rfl ?_
      refine r_iadd 32 rfl ?_
      refine r_iald (v := 0) (en_gs_ne (by decide) (en_gs_ne (by decide) (en_gs_ne (by decide) (hm_233 _)))) (by decide) (en_gr2 7 rfl (by decide +kernel) (by decide +kernel)) ?_
      refine r_ireti ?_
      exact ⟨trivial, rfl, rfl⟩
    refine At.enter rfl ?_
    refine r_iast (en_gs_ne (by decide) (en_gs_eq (en_gs_ne (by decide) (hm_246 _)))) (by decide) (Nat.le_of_ble_eq_true rfl) (List.replicate 12 0) (by decide +kernel) ?_
    refine Ar.hp (en_sdS (by decide) en_sd0) ?_
    refine r_aload_n rfl ?_
    refine r_get (v := .ref 247) (en_gs_ne (by decide) (en_gs_ne (by decide) (en_gs_eq (hm_231 _)))) rfl ?_
    refine r_iload_n rfl ?_
    refine r_aload_n rfl ?_
    refine r_iload_n rfl ?_
    refine r_iconst 2 rfl ?_
    refine r_callV1s (True) (.int 0) ((((en_pre a 231 hp_M).set 231 (.inr (11, [.int 0, .int 0, .ref 232, .ref 233, .ref 234, .ref 235, .int 0, .ref 236, .int 0, .int 0, .int 0, .int 0, .long 0, .int (-1), .int 0, .int 0, .ref 237, .int 0, .ref 238, .ref 239, .int 0, .ref 240, .ref 241, .int 0, .int 0, .ref 242, .ref 243, .int 0, .ref 244, .ref 245, .int 0, .long 0, .long 0, .ref 246, .ref 247, .ref 248, .int 0, .ref 249, .ref 250, .ref 251, .ref 252, .ref 253, .ref 254, .ref 255, .ref 256, .int 0, .int 0, .int 0, .long 0, .ref 257, .ref 258, .int 0]))).set 246 (.inl (0, .inl (List.replicate 12 0)))).set 247 (.inl (0, .inl (List.replicate 12 0))), n) 31 rfl [.ref 231, .int 7, .int 2] [.int 7, .ref 247] (Nat.le_of_ble_eq_true rfl) rfl ?_ (fun _ => ?_)
    · refine Ev.mk rfl rfl ⟨Nat.le_of_ble_eq_true rfl, Or.inr (en_rcI (en_gs_ne (by decide) (en_gs_ne (by decide) (en_gs_eq (hm_231 _)))) rfl)⟩ ?_
      show At _ none _ _ (0, [(0, .ref 231), (1, .int 7), (2, .int 2)], [], ((((en_pre a 231 hp_M).set 231 (.inr (11, [.int 0, .int 0, .ref 232, .ref 233, .ref 234, .ref 235, .int 0, .ref 236, .int 0, .int 0, .int 0, .int 0, .long 0, .int (-1), .int 0, .int 0, .ref 237, .int 0, .ref 238, .ref 239, .int 0, .ref 240, .ref 241, .int 0, .int 0, .ref 242, .ref 243, .int 0, .ref 244, .ref 245, .int 0, .long 0, .long 0, .ref 246, .ref 247, .ref 248, .int 0, .ref 249, .ref 250, .ref 251, .ref 252, .ref 253, .ref 254, .ref 255, .ref 256, .int 0, .int 0, .int 0, .long 0, .ref 257, .ref 258, .int 0]))).set 246 (.inl (0, .inl (List.replicate 12 0)))).set 247 (.inl (0, .inl (List.replicate 12 0))), n)) _
      refine At.enter rfl ?_
      refine r_aload_n rfl ?_
      refine r_get (v := .ref 233) (en_gs_ne (by decide) (en_gs_ne (by decide) (en_gs_eq (hm_231 _)))) rfl ?_
      refine r_bipush 10 rfl ?_
      refine r_iconst 3 rfl ?_
      refine r_iload_n rfl ?_
      refine r_imul 21 (by decide) ?_
      refine r_iadd 31 rfl ?_
      refine r_iload_n rfl ?_
      refine r_iadd 33 rfl ?_
      refine r_iald (v := 0) (en_gs_ne (by decide) (en_gs_ne (by decide) (en_gs_ne (by decide) (hm_233 _)))) (by decide) (en_gr2 7 rfl (by decide +kernel) (by decide +kernel)) ?_
      refine r_ireti ?_
      exact ⟨trivial, rfl, rfl⟩
    refine At.enter rfl ?_
    refine r_iast (en_gs_eq (en_gs_ne (by decide) (en_gs_ne (by decide) (hm_247 _)))) (by decide) (Nat.le_of_ble_eq_true rfl) (List.replicate 12 0) (by decide +kernel) ?_
    refine Ar.hp en_sd0 ?_
    refine r_iinc rfl 8 rfl ([(1, .int 8), (0, .ref 231)]) rfl ?_
    refine r_goto ?_
    refine At.enter rfl ?_
    refine r_iload_n rfl ?_
    refine r_bipush 12 rfl ?_
    refine r_icf 8 rfl (by decide) ?_
    refine At.enter rfl ?_
    refine r_aload_n rfl ?_
    refine r_get (v := .ref 246) (en_gs_ne (by decide) (en_gs_ne (by decide) (en_gs_eq (hm_231 _)))) rfl ?_
    refine r_iload_n rfl ?_
    refine r_aload_n rfl ?_
    refine r_iload_n rfl ?_
    refine r_iconst 1 rfl ?_
    refine r_callV1s (True) (.int 0) ((((en_pre a 231 hp_M).set 231 (.inr (11, [.int 0, .int 0, .ref 232, .ref 233, .ref 234, .ref 235, .int 0, .ref 236, .int 0, .int 0, .int 0, .int 0, .long 0, .int (-1), .int 0, .int 0, .ref 237, .int 0, .ref 238, .ref 239, .int 0, .ref 240, .ref 241, .int 0, .int 0, .ref 242, .ref 243, .int 0, .ref 244, .ref 245, .int 0, .long 0, .long 0, .ref 246, .ref 247, .ref 248, .int 0, .ref 249, .ref 250, .ref 251, .ref 252, .ref 253, .ref 254, .ref 255, .ref 256, .int 0, .int 0, .int 0, .long 0, .ref 257, .ref 258, .int 0]))).set 246 (.inl (0, .inl (List.replicate 12 0)))).set 247 (.inl (0, .inl (List.replicate 12 0))), n) 19 rfl [.ref 231, .int 8, .int 1] [.int 8, .ref 246] (Nat.le_of_ble_eq_true rfl) rfl ?_ (fun _ => ?_)
    · refine Ev.mk rfl rfl ⟨Nat.le_of_ble_eq_true rfl, Or.inr (en_rcI (en_gs_ne (by decide) (en_gs_ne (by decide) (en_gs_eq (hm_231 _)))) rfl)⟩ ?_
      show At _ none _ _ (0, [(0, .ref 231), (1, .int 8), (2, .int 1)], [], ((((en_pre a 231 hp_M).set 231 (.inr (11, [.int 0, .int 0, .ref 232, .ref 233, .ref 234, .ref 235, .int 0, .ref 236, .int 0, .int 0, .int 0, .int 0, .long 0, .int (-1), .int 0, .int 0, .ref 237, .int 0, .ref 238, .ref 239, .int 0, .ref 240, .ref 241, .int 0, .int 0, .ref 242, .ref 243, .int 0, .ref 244, .ref 245, .int 0, .long 0, .long 0, .ref 246, .ref 247, .ref 248, .int 0, .ref 249, .ref 250, .ref 251, .ref 252, .ref 253, .ref 254, .ref 255, .ref 256, .int 0, .int 0, .int 0, .long 0, .ref 257, .ref 258, .int 0]))).set 246 (.inl (0, .inl (List.replicate 12 0)))).set 247 (.inl (0, .inl (List.replicate 12 0))), n)) _
      refine At.enter rfl ?_
      refine r_aload_n rfl ?_
      refine r_get (v := .ref 233) (en_gs_ne (by decide) (en_gs_ne (by decide) (en_gs_eq (hm_231 _)))) rfl ?_
      refine r_bipush 10 rfl ?_
      refine r_iconst 3 rfl ?_
      refine r_iload_n rfl ?_
      refine r_imul 24 (by decide) ?_
      refine r_iadd 34 rfl ?_
      refine r_iload_n rfl ?_
      refine r_iadd 35 rfl ?_
      refine r_iald (v := 0) (en_gs_ne (by decide) (en_gs_ne (by decide) (en_gs_ne (by decide) (hm_233 _)))) (by decide) (en_gr2 7 rfl (by decide +kernel) (by decide +kernel)) ?_
      refine r_ireti ?_
      exact ⟨trivial, rfl, rfl⟩
    refine At.enter rfl ?_
    refine r_iast (en_gs_ne (by decide) (en_gs_eq (en_gs_ne (by decide) (hm_246 _)))) (by decide) (Nat.le_of_ble_eq_true rfl) (List.replicate 12 0) (by decide +kernel) ?_
    refine Ar.hp (en_sdS (by decide) en_sd0) ?_
    refine r_aload_n rfl ?_
    refine r_get (v := .ref 247) (en_gs_ne (by decide) (en_gs_ne (by decide) (en_gs_eq (hm_231 _)))) rfl ?_
    refine r_iload_n rfl ?_
    refine r_aload_n rfl ?_
    refine r_iload_n rfl ?_
    refine r_iconst 2 rfl ?_
    refine r_callV1s (True) (.int 0) ((((en_pre a 231 hp_M).set 231 (.inr (11, [.int 0, .int 0, .ref 232, .ref 233, .ref 234, .ref 235, .int 0, .ref 236, .int 0, .int 0, .int 0, .int 0, .long 0, .int (-1), .int 0, .int 0, .ref 237, .int 0, .ref 238, .ref 239, .int 0, .ref 240, .ref 241, .int 0, .int 0, .ref 242, .ref 243, .int 0, .ref 244, .ref 245, .int 0, .long 0, .long 0, .ref 246, .ref 247, .ref 248, .int 0, .ref 249, .ref 250, .ref 251, .ref 252, .ref 253, .ref 254, .ref 255, .ref 256, .int 0, .int 0, .int 0, .long 0, .ref 257, .ref 258, .int 0]))).set 246 (.inl (0, .inl (List.replicate 12 0)))).set 247 (.inl (0, .inl (List.replicate 12 0))), n) 31 rfl [.ref 231, .int 8, .int 2] [.int 8, .ref 247] (Nat.le_of_ble_eq_true rfl) rfl ?_ (fun _ => ?_)
    · refine Ev.mk rfl rfl ⟨Nat.le_of_ble_eq_true rfl, Or.inr (en_rcI (en_gs_ne (by decide) (en_gs_ne (by decide) (en_gs_eq (hm_231 _)))) rfl)⟩ ?_
      show At _ none _ _ (0, [(0, .ref 231), (1, .int 8), (2, .int 2)], [], ((((en_pre a 231 hp_M).set 231 (.inr (11, [.int 0, .int 0, .ref 232, .ref 233, .ref 234, .ref 235, .int 0, .ref 236, .int 0, .int 0, .int 0, .int 0, .long 0, .int (-1), .int 0, .int 0, .ref 237, .int 0, .ref 238, .ref 239, .int 0, .ref 240, .ref 241, .int 0, .int 0, .ref 242, .ref 243, .int 0, .ref 244, .ref 245, .int 0, .long 0, .long 0, .ref 246, .ref 247, .ref 248, .int 0, .ref 249, .ref 250, .ref 251, .ref 252, .ref 253, .ref 254, .ref 255, .ref 256, .int 0, .int 0, .int 0, .long 0, .ref 257, .ref 258, .int 0]))).set 246 (.inl (0, .inl (List.replicate 12 0)))).set 247 (.inl (0, .inl (List.replicate 12 0))), n)) _
      refine At.enter rfl ?_
      refine r_aload_n rfl ?_
      refine r_get (v := .ref 233) (en_gs_ne (by decide) (en_gs_ne (by decide) (en_gs_eq (hm_231 _)))) rfl ?_
      refine r_bipush 10 rfl ?_
      refine r_iconst 3 rfl ?_
      refine r_iload_n rfl ?_
      refine r_imul 24 (by decide) ?_
      refine r_iadd 34 rfl ?_
      refine r_iload_n rfl ?_
      refine r_iadd 36 rfl ?_
      refine r_iald (v := 0) (en_gs_ne (by decide) (en_gs_ne (by decide) (en_gs_ne (by decide) (hm_233 _)))) (by decide) (en_gr2 7 rfl (by decide +kernel) (by decide +kernel)) ?_
      refine r_ireti ?_
      exact ⟨trivial, rfl, rfl⟩
    refine At.enter rfl ?_
    refine r_iast (en_gs_eq (en_gs_ne (by decide) (en_gs_ne (by decide) (hm_247 _)))) (by decide) (Nat.le_of_ble_eq_true rfl) (List.replicate 12 0) (by decide +kernel) ?_
    refine Ar.hp en_sd0 ?_
    refine r_iinc rfl 9 rfl ([(1, .int 9), (0, .ref 231)]) rfl ?_
    refine r_goto ?_
    refine At.enter rfl ?_
    refine r_iload_n rfl ?_
    refine r_bipush 12 rfl ?_
    refine r_icf 8 rfl (by decide) ?_
    refine At.enter rfl ?_
    refine r_aload_n rfl ?_
    refine r_get (v := .ref 246) (en_gs_ne (by decide) (en_gs_ne (by decide) (en_gs_eq (hm_231 _)))) rfl ?_
    refine r_iload_n rfl ?_
    refine r_aload_n rfl ?_
    refine r_iload_n rfl ?_
    refine r_iconst 1 rfl ?_
    refine r_callV1s (True) (.int 0) ((((en_pre a 231 hp_M).set 231 (.inr (11, [.int 0, .int 0, .ref 232, .ref 233, .ref 234, .ref 235, .int 0, .ref 236, .int 0, .int 0, .int 0, .int 0, .long 0, .int (-1), .int 0, .int 0, .ref 237, .int 0, .ref 238, .ref 239, .int 0, .ref 240, .ref 241, .int 0, .int 0, .ref 242, .ref 243, .int 0, .ref 244, .ref 245, .int 0, .long 0, .long 0, .ref 246, .ref 247, .ref 248, .int 0, .ref 249, .ref 250, .ref 251, .ref 252, .ref 253, .ref 254, .ref 255, .ref 256, .int 0, .int 0, .int 0, .long 0, .ref 257, .ref 258, .int 0]))).set 246 (.inl (0, .inl (List.replicate 12 0)))).set 247 (.inl (0, .inl (List.replicate 12 0))), n) 19 rfl [.ref 231, .int 9, .int 1] [.int 9, .ref 246] (Nat.le_of_ble_eq_true rfl) rfl ?_ (fun _ => ?_)
    · refine Ev.mk rfl rfl ⟨Nat.le_of_ble_eq_true rfl, Or.inr (en_rcI (en_gs_ne (by decide) (en_gs_ne (by decide) (en_gs_eq (hm_231 _)))) rfl)⟩ ?_
      show At _ none _ _ (0, [(0, .ref 231), (1, .int 9), (2, .int 1)], [], ((((en_pre a 231 hp_M).set 231 (.inr (11, [.int 0, .int 0, .ref 232, .ref 233, .ref 234, .ref 235, .int 0, .ref 236, .int 0, .int 0, .int 0, .int 0, .long 0, .int (-1), .int 0, .int 0, .ref 237, .int 0, .ref 238, .ref 239, .int 0, .ref 240, .ref 241, .int 0, .int 0, .ref 242, .ref 243, .int 0, .ref 244, .ref 245, .int 0, .long 0, .long 0, .ref 246, .ref 247, .ref 248, .int 0, .ref 249, .ref 250, .ref 251, .ref 252, .ref 253, .ref 254, .ref 255, .ref 256, .int 0, .int 0, .int 0, .long 0, .ref 257, .ref 258, .int 0]))).set 246 (.inl (0, .inl (List.replicate 12 0)))).set 247 (.inl (0, .inl (List.replicate 12 0))), n)) _
      refine At.enter rfl ?_
      refine r_aload_n rfl ?_
      refine r_get (v := .ref 233) (en_gs_ne (by decide) (en_gs_ne (by decide) (en_gs_eq (hm_231 _)))) rfl ?_
      refine r_bipush 10 rfl ?_
      refine r_iconst 3 rfl ?_
      refine r_iload_n rfl ?_
      refine r_imul 27 (by decide) ?_
      refine r_iadd 37 rfl ?_
      refine r_iload_n rfl ?_
      refine r_iadd 38 rfl ?_
      refine r_iald (v := 0) (en_gs_ne (by decide) (en_gs_ne (by decide) (en_gs_ne (by decide) (hm_233 _)))) (by decide) (en_gr2 7 rfl (by decide +kernel) (by decide +kernel)) ?_
      refine r_ireti ?_
      exact ⟨trivial, rfl, rfl⟩
    refine At.enter rfl ?_
    refine r_iast (en_gs_ne (by decide) (en_gs_eq (en_gs_ne (by decide) (hm_246 _)))) (by decide) (Nat.le_of_ble_eq_true rfl) (List.replicate 12 0) (by decide +kernel) ?_
    refine Ar.hp (en_sdS (by decide) en_sd0) ?_
    refine r_aload_n rfl ?_
    refine r_get (v := .ref 247) (en_gs_ne (by decide) (en_gs_ne (by decide) (en_gs_eq (hm_231 _)))) rfl ?_
    refine r_iload_n rfl ?_
    refine r_aload_n rfl ?_
    refine r_iload_n rfl ?_
    refine r_iconst 2 rfl ?_
    refine r_callV1s (True) (.int 0) ((((en_pre a 231 hp_M).set 231 (.inr (11, [.int 0, .int 0, .ref 232, .ref 233, .ref 234, .ref 235, .int 0, .ref 236, .int 0, .int 0, .int 0, .int 0, .long 0, .int (-1), .int 0, .int 0, .ref 237, .int 0, .ref 238, .ref 239, .int 0, .ref 240, .ref 241, .int 0, .int 0, .ref 242, .ref 243, .int 0, .ref 244, .ref 245, .int 0, .long 0, .long 0, .ref 246, .ref 247, .ref 248, .int 0, .ref 249, .ref 250, .ref 251, .ref 252, .ref 253, .ref 254, .ref 255, .ref 256, .int 0, .int 0, .int 0, .long 0, .ref 257, .ref 258, .int 0]))).set 246 (.inl (0, .inl (List.replicate 12 0)))).set 247 (.inl (0, .inl (List.replicate 12 0))), n) 31 rfl [.ref 231, .int 9, .int 2] [.int 9, .ref 247] (Nat.le_of_ble_eq_true rfl) rfl ?_ (fun _ => ?_)
    · refine Ev.mk rfl rfl ⟨Nat.le_of_ble_eq_true rfl, Or.inr (en_rcI (en_gs_ne (by decide) (en_gs_ne (by decide) (en_gs_eq (hm_231 _)))) rfl)⟩ ?_
      show At _ none _ _ (0, [(0, .ref 231), (1, .int 9), (2, .int 2)], [], ((((en_pre a 231 hp_M).set 231 (.inr (11, [.int 0, .int 0, .ref 232, .ref 233, .ref 234, .ref 235, .int 0, .ref 236, .int 0, .int 0, .int 0, .int 0, .long 0, .int (-1), .int 0, .int 0, .ref 237, .int 0, .ref 238, .ref 239, .int 0, .ref 240, .ref 241, .int 0, .int 0, .ref 242, .ref 243, .int 0, .ref 244, .ref 245, .int 0, .long 0, .long 0, .ref 246, .ref 247, .ref 248, .int 0, .ref 249, .ref 250, .ref 251, .ref 252, .ref 253, .ref 254, .ref 255, .ref 256, .int 0, .int 0, .int 0, .long 0, .ref 257, .ref 258, .int 0]))).set 246 (.inl (0, .inl (List.replicate 12 0)))).set 247 (.inl (0, .inl (List.replicate 12 0))), n)) _
      refine At.enter rfl ?_
      refine r_aload_n rfl ?_
      refine r_get (v := .ref 233) (en_gs_ne (by decide) (en_gs_ne (by decide) (en_gs_eq (hm_231 _)))) rfl ?_
      refine r_bipush 10 rfl ?_
      refine r_iconst 3 rfl ?_
      refine r_iload_n rfl ?_
      refine r_imul 27 (by decide) ?_
      refine r_iadd 37 rfl ?_
      refine r_iload_n rfl ?_
      refine r_iadd 39 rfl ?_
      refine r_iald (v := 0) (en_gs_ne (by decide) (en_gs_ne (by decide) (en_gs_ne (by decide) (hm_233 _)))) (by decide) (en_gr2 7 rfl (by decide +kernel) (by decide +kernel)) ?_
      refine r_ireti ?_
      exact ⟨trivial, rfl, rfl⟩
    refine At.enter rfl ?_
    refine r_iast (en_gs_eq (en_gs_ne (by decide) (en_gs_ne (by decide) (hm_247 _)))) (by decide) (Nat.le_of_ble_eq_true rfl) (List.replicate 12 0) (by decide +kernel) ?_
    refine Ar.hp en_sd0 ?_
    refine r_iinc rfl 10 rfl ([(1, .int 10), (0, .ref 231)]) rfl ?_
    refine r_goto ?_
    refine At.enter rfl ?_
    refine r_iload_n rfl ?_
    refine r_bipush 12 rfl ?_
    refine r_icf 8 rfl (by decide) ?_
    refine At.enter rfl ?_
    refine r_aload_n rfl ?_
    refine r_get (v := .ref 246) (en_gs_ne (by decide) (en_gs_ne (by decide) (en_gs_eq (hm_231 _)))) rfl ?_
    refine r_iload_n rfl ?_
    refine r_aload_n rfl ?_
    refine r_iload_n rfl ?_
    refine r_iconst 1 rfl ?_
    refine r_callV1s (True) (.int 0) ((((en_pre a 231 hp_M).set 231 (.inr (11, [.int 0, .int 0, .ref 232, .ref 233, .ref 234, .ref 235, .int 0, .ref 236, .int 0, .int 0, .int 0, .int 0, .long 0, .int (-1), .int 0, .int 0, .ref 237, .int 0, .ref 238, .ref 239, .int 0, .ref 240, .ref 241, .int 0, .int 0, .ref 242, .ref 243, .int 0, .ref 244, .ref 245, .int 0, .long 0, .long 0, .ref 246, .ref 247, .ref 248, .int 0, .ref 249, .ref 250, .ref 251, .ref 252, .ref 253, .ref 254, .ref 255, .ref 256, .int 0, .int 0, .int 0, .long 0, .ref 257, .ref 258, .int 0]))).set 246 (.inl (0, .inl (List.replicate 12 0)))).set 247 (.inl (0, .inl (List.replicate 12 0))), n) 19 rfl [.ref 231, .int 10, .int 1] [.int 10, .ref 246] (Nat.le_of_ble_eq_true rfl) rfl ?_ (fun _ => ?_)
    · refine Ev.mk rfl rfl ⟨Nat.le_of_ble_eq_true rfl, Or.inr (en_rcI (en_gs_ne (by decide) (en_gs_ne (by decide) (en_gs_eq (hm_231 _)))) rfl)⟩ ?_
      show At _ none _ _ (0, [(0, .ref 231), (1, .int 10), (2, .int 1)], [], ((((en_pre a 231 hp_M).set 231 (.inr (11, [.int 0, .int 0, .ref 232, .ref 233, .ref 234, .ref 235, .int 0, .ref 236, .int 0, .int 0, .int 0, .int 0, .long 0, .int (-1), .int 0, .int 0, .ref 237, .int 0, .ref 238, .ref 239, .int 0, .ref 240, .ref 241, .int 0, .int 0, .ref 242, .ref 243, .int 0, .ref 244, .ref 245, .int 0, .long 0, .long 0, .ref 246, .ref 247, .ref 248, .int 0, .ref 249, .ref 250, .ref 251, .ref 252, .ref 253, .ref 254, .ref 255, .ref 256, .int 0, .int 0, .int 0, .long 0, .ref 257, .ref 258, .int 0]))).set 246 (.inl (0, .inl (List.replicate 12 0)))).set 247 (.inl (0, .inl (List.replicate 12 0))), n)) _
      refine At.enter rfl ?_
      refine r_aload_n rfl ?_
      refine r_get (v := .ref 233) (en_gs_ne (by decide) (en_gs_ne (by decide) (en_gs_eq (hm_231 _)))) rfl ?_
      refine r_bipush 10 rfl ?_
      refine r_iconst 3 rfl ?_
      refine r_iload_n rfl ?_
      refine r_imul 30 (by decide) ?_
      refine r_iadd 40 rfl ?_
      refine r_iload_n rfl ?_
      refine r_iadd 41 rfl ?_
      refine r_iald (v := 0) (en_gs_ne (by decide) (en_gs_ne (by decide) (en_gs_ne (by decide) (hm_233 _)))) (by decide) (en_gr2 7 rfl (by decide +kernel) (by decide +kernel)) ?_
      refine r_ireti ?_
      exact ⟨trivial, rfl, rfl⟩
    refine At.enter rfl ?_
    refine r_iast (en_gs_ne (by decide) (en_gs_eq (en_gs_ne (by decide) (hm_246 _)))) (by decide) (Nat.le_of_ble_eq_true rfl) (List.replicate 12 0) (by decide +kernel) ?_
    refine Ar.hp (en_sdS (by decide) en_sd0) ?_
    refine r_aload_n rfl ?_
    refine r_get (v := .ref 247) (en_gs_ne (by decide) (en_gs_ne (by decide) (en_gs_eq (hm_231 _)))) rfl ?_
    refine r_iload_n rfl ?_
    refine r_aload_n rfl ?_
    refine r_iload_n rfl ?_
    refine r_iconst 2 rfl ?_
    refine r_callV1s (True) (.int 0) ((((en_pre a 231 hp_M).set 231 (.inr (11, [.int 0, .int 0, .ref 232, .ref 233, .ref 234, .ref 235, .int 0, .ref 236, .int 0, .int 0, .int 0, .int 0, .long 0, .int (-1), .int 0, .int 0, .ref 237, .int 0, .ref 238, .ref 239, .int 0, .ref 240, .ref 241, .int 0, .int 0, .ref 242, .ref 243, .int 0, .ref 244, .ref 245, .int 0, .long 0, .long 0, .ref 246, .ref 247, .ref 248, .int 0, .ref 249, .ref 250, .ref 251, .ref 252, .ref 253, .ref 254, .ref 255, .ref 256, .int 0, .int 0, .int 0, .long 0, .ref 257, .ref 258, .int 0]))).set 246 (.inl (0, .inl (List.replicate 12 0)))).set 247 (.inl (0, .inl (List.replicate 12 0))), n) 31 rfl [.ref 231, .int 10, .int 2] [.int 10, .ref 247] (Nat.le_of_ble_eq_true rfl) rfl ?_ (fun _ => ?_)
    · refine Ev.mk rfl rfl ⟨Nat.le_of_ble_eq_true rfl, Or.inr (en_rcI (en_gs_ne (by decide) (en_gs_ne (by decide) (en_gs_eq (hm_231 _)))) rfl)⟩ ?_
      show At _ none _ _ (0, [(0, .ref 231), (1, .int 10), (2, .int 2)], [], ((((en_pre a 231 hp_M).set 231 (.inr (11, [.int 0, .int 0, .ref 232, .ref 233, .ref 234, .ref 235, .int 0, .ref 236, .int 0, .int 0, .int 0, .int 0, .long 0, .int (-1), .int 0, .int 0, .ref 237, .int 0, .ref 238, .ref 239, .int 0, .ref 240, .ref 241, .int 0, .int 0, .ref 242, .ref 243, .int 0, .ref 244, .ref 245, .int 0, .long 0, .long 0, .ref 246, .ref 247, .ref 248, .int 0, .ref 249, .ref 250, .ref 251, .ref 252, .ref 253, .ref 254, .ref 255, .ref 256, .int 0, .int 0, .int 0, .long 0, .ref 257, .ref 258, .int 0]))).set 246 (.inl (0, .inl (List.replicate 12 0)))).set 247 (.inl (0, .inl (List.replicate 12 0))), n)) _
      refine At.enter rfl ?_
      refine r_aload_n rfl ?_
      refine r_get (v := .ref 233) (en_gs_ne (by decide) (en_gs_ne (by decide) (en_gs_eq (hm_231 _)))) rfl ?_
      refine r_bipush 10 rfl ?_
      refine r_iconst 3 rfl ?_
      refine r_iload_n rfl ?_
      refine r_imul 30 (by decide) ?_
      refine r_iadd 40 rfl ?_
      refine r_iload_n rfl ?_
      refine r_iadd 42 rfl ?_
      refine r_iald (v := 0) (en_gs_ne (by decide) (en_gs_ne (by decide) (en_gs_ne (by decide) (hm_233 _)))) (by decide) (en_gr2 7 rfl (by decide +kernel) (by decide +kernel)) ?_
      refine r_ireti ?_
      exact ⟨trivial, rfl, rfl⟩
    refine At.enter rfl ?_
    refine r_iast (en_gs_eq (en_gs_ne (by decide) (en_gs_ne (by decide) (hm_247 _)))) (by decide) (Nat.le_of_ble_eq_true rfl) (List.replicate 12 0) (by decide +kernel) ?_
    refine Ar.hp en_sd0 ?_
    refine r_iinc rfl 11 rfl ([(1, .int 11), (0, .ref 231)]) rfl ?_
    refine r_goto ?_
    refine At.enter rfl ?_
    refine r_iload_n rfl ?_
    refine r_bipush 12 rfl ?_
    refine r_icf 8 rfl (by decide) ?_
    refine At.enter rfl ?_
    refine r_aload_n rfl ?_
    refine r_get (v := .ref 246) (en_gs_ne (by decide) (en_gs_ne (by decide) (en_gs_eq (hm_231 _)))) rfl ?_
    refine r_iload_n rfl ?_
    refine r_aload_n rfl ?_
    refine r_iload_n rfl ?_
    refine r_iconst 1 rfl ?_
    refine r_callV1s (True) (.int 0) ((((en_pre a 231 hp_M).set 231 (.inr (11, [.int 0, .int 0, .ref 232, .ref 233, .ref 234, .ref 235, .int 0, .ref 236, .int 0, .int 0, .int 0, .int 0, .long 0, .int (-1), .int 0, .int 0, .ref 237, .int 0, .ref 238, .ref 239, .int 0, .ref 240, .ref 241, .int 0, .int 0, .ref 242, .ref 243, .int 0, .ref 244, .ref 245, .int 0, .long 0, .long 0, .ref 246, .ref 247, .ref 248, .int 0, .ref 249, .ref 250, .ref 251, .ref 252, .ref 253, .ref 254, .ref 255, .ref 256, .int 0, .int 0, .int 0, .long 0, .ref 257, .ref 258, .int 0]))).set 246 (.inl (0, .inl (List.replicate 12 0)))).set 247 (.inl (0, .inl (List.replicate 12 0))), n) 19 rfl [.ref 231, .int 11, .int 1] [.int 11, .ref 246] (Nat.le_of_ble_eq_true rfl) rfl ?_ (fun _ => ?_)
    · refine Ev.mk rfl rfl ⟨Nat.le_of_ble_eq_true rfl, Or.inr (en_rcI (en_gs_ne (by decide) (en_gs_ne (by decide) (en_gs_eq (hm_231 _)))) rfl)⟩ ?_
      show At _ none _ _ (0, [(0, .ref 231), (1, .int 11), (2, .int 1)], [], ((((en_pre a 231 hp_M).set 231 (.inr (11, [.int 0, .int 0, .ref 232, .ref 233, .ref 234, .ref 235, .int 0, .ref 236, .int 0, .int 0, .int 0, .int 0, .long 0, .int (-1), .int 0, .int 0, .ref 237, .int 0, .ref 238, .ref 239, .int 0, .ref 240, .ref 241, .int 0, .int 0, .ref 242, .ref 243, .int 0, .ref 244, .ref 245, .int 0, .long 0, .long 0, .ref 246, .ref 247, .ref 248, .int 0, .ref 249, .ref 250, .ref 251, .ref 252, .ref 253, .ref 254, .ref 255, .ref 256, .int 0, .int 0, .int 0, .long 0, .ref 257, .ref 258, .int 0]))).set 246 (.inl (0, .inl (List.replicate 12 0)))).set 247 (.inl (0, .inl (List.replicate 12 0))), n)) _
      refine At.enter rfl ?_
      refine r_aload_n rfl ?_
      refine r_get (v := .ref 233) (en_gs_ne (by decide) (en_gs_ne (by decide) (en_gs_eq (hm_231 _)))) rfl ?_
      refine r_bipush 10 rfl ?_
      refine r_iconst 3 rfl ?_
      refine r_iload_n rfl ?_
      refine r_imul 33 (by decide) ?_
      refine r_iadd 43 rfl ?_
      refine r_iload_n rfl ?_
      refine r_iadd 44 rfl ?_
      refine r_iald (v := 0) (en_gs_ne (by decide) (en_gs_ne (by decide) (en_gs_ne (by decide) (hm_233 _)))) (by decide) (en_gr2 7 rfl (by decide +kernel) (by decide +kernel)) ?_
      refine r_ireti ?_
      exact ⟨trivial, rfl, rfl⟩
    refine At.enter rfl ?_
    refine r_iast (en_gs_ne (by decide) (en_gs_eq (en_gs_ne (by decide) (hm_246 _)))) (by decide) (Nat.le_of_ble_eq_true rfl) (List.replicate 12 0) (by decide +kernel) ?_
    refine Ar.hp (en_sdS (by decide) en_sd0) ?_
    refine r_aload_n rfl ?_
    refine r_get (v := .ref 247) (en_gs_ne (by decide) (en_gs_ne (by decide) (en_gs_eq (hm_231 _)))) rfl ?_
    refine r_iload_n rfl ?_
    refine r_aload_n rfl ?_
    refine r_iload_n rfl ?_
    refine r_iconst 2 rfl ?_
    refine r_callV1s (True) (.int 0) ((((en_pre a 231 hp_M).set 231 (.inr (11, [.int 0, .int 0, .ref 232, .ref 233, .ref 234, .ref 235, .int 0, .ref 236, .int 0, .int 0, .int 0, .int 0, .long 0, .int (-1), .int 0, .int 0, .ref 237, .int 0, .ref 238, .ref 239, .int 0, .ref 240, .ref 241, .int 0, .int 0, .ref 242, .ref 243, .int 0, .ref 244, .ref 245, .int 0, .long 0, .long 0, .ref 246, .ref 247, .ref 248, .int 0, .ref 249, .ref 250, .ref 251, .ref 252, .ref 253, .ref 254, .ref 255, .ref 256, .int 0, .int 0, .int 0, .long 0, .ref 257, .ref 258, .int 0]))).set 246 (.inl (0, .inl (List.replicate 12 0)))).set 247 (.inl (0, .inl (List.replicate 12 0))), n) 31 rfl [.ref 231, .int 11, .int 2] [.int 11, .ref 247] (Nat.le_of_ble_eq_true rfl) rfl ?_ (fun _ => ?_)
    · refine Ev.mk rfl rfl ⟨Nat.le_of_ble_eq_true rfl, Or.inr (en_rcI (en_gs_ne (by decide) (en_gs_ne (by decide) (en_gs_eq (hm_231 _)))) rfl)⟩ ?_
      show At _ none _ _ (0, [(0, .ref 231), (1, .int 11), (2, .int 2)], [], ((((en_pre a 231 hp_M).set 231 (.inr (11, [.int 0, .int 0, .ref 232, .ref 233, .ref 234, .ref 235, .int 0, .ref 236, .int 0, .int 0, .int 0, .int 0, .long 0, .int (-1), .int 0, .int 0, .ref 237, .int 0, .ref 238, .ref 239, .int 0, .ref 240, .ref 241, .int 0, .int 0, .ref 242, .ref 243, .int 0, .ref 244, .ref 245, .int 0, .long 0, .long 0, .ref 246, .ref 247, .ref 248, .int 0, .ref 249, .ref 250, .ref 251, .ref 252, .ref 253, .ref 254, .ref 255, .ref 256, .int 0, .int 0, .int 0, .long 0, .ref 257, .ref 258, .int 0]))).set 246 (.inl (0, .inl (List.replicate 12 0)))).set 247 (.inl (0, .inl (List.replicate 12 0))), n)) _
      refine At.enter rfl ?_
      refine r_aload_n rfl ?_
      refine r_get (v := .ref 233) (en_gs_ne (by decide) (en_gs_ne (by decide) (en_gs_eq (hm_231 _)))) rfl ?_
      refine r_bipush 10 rfl ?_
      refine r_iconst 3 rfl ?_
      refine r_iload_n rfl ?_
      refine r_imul 33 (by decide) ?_
      refine r_iadd 43 rfl ?_
      refine r_iload_n rfl ?_
      refine r_iadd 45 rfl ?_
      refine r_iald (v := 0) (en_gs_ne (by decide) (en_gs_ne (by decide) (en_gs_ne (by decide) (hm_233 _)))) (by decide) (en_gr2 7 rfl (by decide +kernel) (by decide +kernel)) ?_
      refine r_ireti ?_
      exact ⟨trivial, rfl, rfl⟩
    refine At.enter rfl ?_
    refine r_iast (en_gs_eq (en_gs_ne (by decide) (en_gs_ne (by decide) (hm_247 _)))) (by decide) (Nat.le_of_ble_eq_true rfl) (List.replicate 12 0) (by decide +kernel) ?_
    refine Ar.hp en_sd0 ?_
    refine r_iinc rfl 12 rfl ([(1, .int 12), (0, .ref 231)]) rfl ?_
    refine r_goto ?_
    refine At.enter rfl ?_
    refine r_iload_n rfl ?_
    refine r_bipush 12 rfl ?_
    refine r_ict (by decide) ?_
    refine At.enter rfl ?_
    refine r_iconst 0 rfl ?_
    refine r_istore_n ([(1, .int 0), (0, .ref 231)]) rfl ?_
    refine Ar.fall 40 rfl ?_
    refine At.enter rfl ?_
    refine r_iload_n rfl ?_
    refine r_bipush 8 rfl ?_
    refine r_icf 46 rfl (by decide) ?_
    refine At.enter rfl ?_
    refine r_aload_n rfl ?_
    refine r_get (v := .ref 248) (en_gs_ne (by decide) (en_gs_ne (by decide) (en_gs_eq (hm_231 _)))) rfl ?_
    refine r_iload_n rfl ?_
    refine r_aload_n rfl ?_
    refine r_iload_n rfl ?_
    refine r_iconst 3 rfl ?_
    refine r_callV1s (True) (.int 0) ((((en_pre a 231 hp_M).set 231 (.inr (11, [.int 0, .int 0, .ref 232, .ref 233, .ref 234, .ref 235, .int 0, .ref 236, .int 0, .int 0, .int 0, .int 0, .long 0, .int (-1), .int 0, .int 0, .ref 237, .int 0, .ref 238, .ref 239, .int 0, .ref 240, .ref 241, .int 0, .int 0, .ref 242, .ref 243, .int 0, .ref 244, .ref 245, .int 0, .long 0, .long 0, .ref 246, .ref 247, .ref 248, .int 0, .ref 249, .ref 250, .ref 251, .ref 252, .ref 253, .ref 254, .ref 255, .ref 256, .int 0, .int 0, .int 0, .long 0, .ref 257, .ref 258, .int 0]))).set 246 (.inl (0, .inl (List.replicate 12 0)))).set 247 (.inl (0, .inl (List.replicate 12 0))), n) 57 rfl [.ref 231, .int 0, .int 3] [.int 0, .ref 248] (Nat.le_of_ble_eq_true rfl) rfl ?_ (fun _ => ?_)
    · refine Ev.mk rfl rfl ⟨Nat.le_of_ble_eq_true rfl, Or.inr (en_rcI (en_gs_ne (by decide) (en_gs_ne (by decide) (en_gs_eq (hm_231 _)))) rfl)⟩ ?_
      show At _ none _ _ (0, [(0, .ref 231), (1, .int 0), (2, .int 3)], [], ((((en_pre a 231 hp_M).set 231 (.inr (11, [.int 0, .int 0, .ref 232, .ref 233, .ref 234, .ref 235, .int 0, .ref 236, .int 0, .int 0, .int 0, .int 0, .long 0, .int (-1), .int 0, .int 0, .ref 237, .int 0, .ref 238, .ref 239, .int 0, .ref 240, .ref 241, .int 0, .int 0, .ref 242, .ref 243, .int 0, .ref 244, .ref 245, .int 0, .long 0, .long 0, .ref 246, .ref 247, .ref 248, .int 0, .ref 249, .ref 250, .ref 251, .ref 252, .ref 253, .ref 254, .ref 255, .ref 256, .int 0, .int 0, .int 0, .long 0, .ref 257, .ref 258, .int 0]))).set 246 (.inl (0, .inl (List.replicate 12 0)))).set 247 (.inl (0, .inl (List.replicate 12 0))), n)) _
      refine At.enter rfl ?_
      refine r_aload_n rfl ?_
      refine r_get (v := .ref 233) (en_gs_ne (by decide) (en_gs_ne (by decide) (en_gs_eq (hm_231 _)))) rfl ?_
      refine r_bipush 46 rfl ?_
      refine r_bipush 6 rfl ?_
      refine r_iload_n rfl ?_
      refine r_imul 0 (by decide) ?_
      refine r_iadd 46 rfl ?_
      refine r_iload_n rfl ?_
      refine r_iadd 49 rfl ?_
      refine r_iald (v := 0) (en_gs_ne (by decide) (en_gs_ne (by decide) (en_gs_ne (by decide) (hm_233 _)))) (by decide) (en_gr2 7 rfl (by decide +kernel) (by decide +kernel)) ?_
      refine r_ireti ?_
      exact ⟨trivial, rfl, rfl⟩
    refine At.enter rfl ?_
    refine r_iast (en_gs_ne (by decide) (en_gs_ne (by decide) (en_gs_ne (by decide) (hm_248 _)))) (by decide) (Nat.le_of_ble_eq_true rfl) (List.replicate 8 0) (by decide +kernel) ?_
    refine r_iinc rfl 1 rfl ([(1, .int 1), (0, .ref 231)]) rfl ?_
    refine r_goto ?_
    refine At.enter rfl ?_
    refine r_iload_n rfl ?_
    refine r_bipush 8 rfl ?_
    refine r_icf 46 rfl (by decide) ?_
    refine At.enter rfl ?_
    refine r_aload_n rfl ?_
    refine r_get (v := .ref 248) (en_gs_ne (by decide) (en_gs_ne (by decide) (en_gs_ne (by decide) (en_gs_eq (hm_231 _))))) rfl ?_
    refine r_iload_n rfl ?_
    refine r_aload_n rfl ?_
    refine r_iload_n rfl ?_
    refine r_iconst 3 rfl ?_
    refine r_callV1s (True) (.int 0) (((((en_pre a 231 hp_M).set 231 (.inr (11, [.int 0, .int 0, .ref 232, .ref 233, .ref 234, .ref 235, .int 0, .ref 236, .int 0, .int 0, .int 0, .int 0, .long 0, .int (-1), .int 0, .int 0, .ref 237, .int 0, .ref 238, .ref 239, .int 0, .ref 240, .ref 241, .int 0, .int 0, .ref 242, .ref 243, .int 0, .ref 244, .ref 245, .int 0, .long 0, .long 0, .ref 246, .ref 247, .ref 248, .int 0, .ref 249, .ref 250, .ref 251, .ref 252, .ref 253, .ref 254, .ref 255, .ref 256, .int 0, .int 0, .int 0, .long 0, .ref 257, .ref 258, .int 0]))).set 246 (.inl (0, .inl (List.replicate 12 0)))).set 247 (.inl (0, .inl (List.replicate 12 0)))).set 248 (.inl (0, .inl (List.replicate 8 0))), n) 57 rfl [.ref 231, .int 1, .int 3] [.int 1, .ref 248] (Nat.le_of_ble_eq_true rfl) rfl ?_ (fun _ => ?_)
    · refine Ev.mk rfl rfl ⟨Nat.le_of_ble_eq_true rfl, Or.inr (en_rcI (en_gs_ne (by decide) (en_gs_ne (by decide) (en_gs_ne (by decide) (en_gs_eq (hm_231 _))))) rfl)⟩ ?_
      show At _ none _ _ (0, [(0, .ref 231), (1, .int 1), (2, .int 3)], [], (((((en_pre a 231 hp_M).set 231 (.inr (11, [.int 0, .int 0, .ref 232, .ref 233, .ref 234, .ref 235, .int 0, .ref 236, .int 0, .int 0, .int 0, .int 0, .long 0, .int (-1), .int 0, .int 0, .ref 237, .int 0, .ref 238, .ref 239, .int 0, .ref 240, .ref 241, .int 0, .int 0, .ref 242, .ref 243, .int 0, .ref 244, .ref 245, .int 0, .long 0, .long 0, .ref 246, .ref 247, .ref 248, .int 0, .ref 249, .ref 250, .ref 251, .ref 252, .ref 253, .ref 254, .ref 255, .ref 256, .int 0, .int 0, .int 0, .long 0, .ref 257, .ref 258, .int 0]))).set 246 (.inl (0, .inl (List.replicate 12 0)))).set 247 (.inl (0, .inl (List.replicate 12 0)))).set 248 (.inl (0, .inl (List.replicate 8 0))), n)) _
      refine At.enter rfl ?_
      refine r_aload_n rfl ?_
      refine r_get (v := .ref 233) (en_gs_ne (by decide) (en_gs_ne (by decide) (en_gs_ne (by decide) (en_gs_eq (hm_231 _))))) rfl ?_
      refine r_bipush 46 rfl ?_
      refine r_bipush 6 rfl ?_
      refine r_iload_n rfl ?_
      refine r_imul 6 (by decide) ?_
      refine r_iadd 52 rfl ?_
      refine r_iload_n rfl ?_
      refine r_iadd 55 rfl ?_
      refine r_iald (v := 0) (en_gs_ne (by decide) (en_gs_ne (by decide) (en_gs_ne (by decide) (en_gs_ne (by decide) (hm_233 _))))) (by decide) (en_gr2 7 rfl (by decide +kernel) (by decide +kernel)) ?_
      refine r_ireti ?_
      exact ⟨trivial, rfl, rfl⟩
    refine At.enter rfl ?_
    refine r_iast (en_gs_eq (en_gs_ne (by decide) (en_gs_ne (by decide) (en_gs_ne (by decide) (hm_248 _))))) (by decide) (Nat.le_of_ble_eq_true rfl) (List.replicate 8 0) (by decide +kernel) ?_
    refine Ar.hp en_sd0 ?_
    refine r_iinc rfl 2 rfl ([(1, .int 2), (0, .ref 231)]) rfl ?_
    refine r_goto ?_
    refine At.enter rfl ?_
    refine r_iload_n rfl ?_
    refine r_bipush 8 rfl ?_
    refine r_icf 46 rfl (by decide) ?_
    refine At.enter rfl ?_
    refine r_aload_n rfl ?_
    refine r_get (v := .ref 248) (en_gs_ne (by decide) (en_gs_ne (by decide) (en_gs_ne (by decide) (en_gs_eq (hm_231 _))))) rfl ?_
    refine r_iload_n rfl ?_
    refine r_aload_n rfl ?_
    refine r_iload_n rfl ?_
    refine r_iconst 3 rfl ?_
    refine r_callV1s (True) (.int 0) (((((en_pre a 231 hp_M).set 231 (.inr (11, [.int 0, .int 0, .ref 232, .ref 233, .ref 234, .ref 235, .int 0, .ref 236, .int 0, .int 0, .int 0, .int 0, .long 0, .int (-1), .int 0, .int 0, .ref 237, .int 0, .ref 238, .ref 239, .int 0, .ref 240, .ref 241, .int 0, .int 0, .ref 242, .ref 243, .int 0, .ref 244, .ref 245, .int 0, .long 0, .long 0, .ref 246, .ref 247, .ref 248, .int 0, .ref 249, .ref 250, .ref 251, .ref 252, .ref 253, .ref 254, .ref 255, .ref 256, .int 0, .int 0, .int 0, .long 0, .ref 257, .ref 258, .int 0]))).set 246 (.inl (0, .inl (List.replicate 12 0)))).set 247 (.inl (0, .inl (List.replicate 12 0)))).set 248 (.inl (0, .inl (List.replicate 8 0))), n) 57 rfl [.ref 231, .int 2, .int 3] [.int 2, .ref 248] (Nat.le_of_ble_eq_true rfl) rfl ?_ (fun _ => ?_)
    · refine Ev.mk rfl rfl ⟨Nat.le_of_ble_eq_true rfl, Or.inr (en_rcI (en_gs_ne (by decide) (en_gs_ne (by decide) (en_gs_ne (by decide) (en_gs_eq (hm_231 _))))) rfl)⟩ ?_
      show At _ none _ _ (0, [(0, .ref 231), (1, .int 2), (2, .int 3)], [], (((((en_pre a 231 hp_M).set 231 (.inr (11, [.int 0, .int 0, .ref 232, .ref 233, .ref 234, .ref 235, .int 0, .ref 236, .int 0, .int 0, .int 0, .int 0, .long 0, .int (-1), .int 0, .int 0, .ref 237, .int 0, .ref 238, .ref 239, .int 0, .ref 240, .ref 241, .int 0, .int 0, .ref 242, .ref 243, .int 0, .ref 244, .ref 245, .int 0, .long 0, .long 0, .ref 246, .ref 247, .ref 248, .int 0, .ref 249, .ref 250, .ref 251, .ref 252, .ref 253, .ref 254, .ref 255, .ref 256, .int 0, .int 0, .int 0, .long 0, .ref 257, .ref 258, .int 0]))).set 246 (.inl (0, .inl (List.replicate 12 0)))).set 247 (.inl (0, .inl (List.replicate 12 0)))).set 248 (.inl (0, .inl (List.replicate 8 0))), n)) _
      refine At.enter rfl ?_
      refine r_aload_n rfl ?_
      refine r_get (v := .ref 233) (en_gs_ne (by decide) (en_gs_ne (by decide) (en_gs_ne (by decide) (en_gs_eq (hm_231 _))))) rfl ?_
      refine r_bipush 46 rfl ?_
      refine r_bipush 6 rfl ?_
      refine r_iload_n rfl ?_
      refine r_imul 12 (by decide) ?_
      refine r_iadd 58 rfl ?_
      refine r_iload_n rfl ?_
      refine r_iadd 61 rfl ?_
      refine r_iald (v := 0) (en_gs_ne (by decide) (en_gs_ne (by decide) (en_gs_ne (by decide) (en_gs_ne (by decide) (hm_233 _))))) (by decide) (en_gr2 7 rfl (by decide +kernel) (by decide +kernel)) ?_
      refine r_ireti ?_
      exact ⟨trivial, rfl, rfl⟩
    refine At.enter rfl ?_
    refine r_iast (en_gs_eq (en_gs_ne (by decide) (en_gs_ne (by decide) (en_gs_ne (by decide) (hm_248 _))))) (by decide) (Nat.le_of_ble_eq_true rfl) (List.replicate 8 0) (by decide +kernel) ?_
    refine Ar.hp en_sd0 ?_
    refine r_iinc rfl 3 rfl ([(1, .int 3), (0, .ref 231)]) rfl ?_
    refine r_goto ?_
    refine At.enter rfl ?_
    refine r_iload_n rfl ?_
    refine r_bipush 8 rfl ?_
    refine r_icf 46 rfl (by decide) ?_
    refine At.enter rfl ?_
    refine r_aload_n rfl ?_
    refine r_get (v := .ref 248) (en_gs_ne (by decide) (en_gs_ne (by decide) (en_gs_ne (by decide) (en_gs_eq (hm_231 _))))) rfl ?_
    refine r_iload_n rfl ?_
    refine r_aload_n rfl ?_
    refine r_iload_n rfl ?_
    refine r_iconst 3 rfl ?_
    refine r_callV1s (True) (.int 0) (((((en_pre a 231 hp_M).set 231 (.inr (11, [.int 0, .int 0, .ref 232, .ref 233, .ref 234, .ref 235, .int 0, .ref 236, .int 0, .int 0, .int 0, .int 0, .long 0, .int (-1), .int 0, .int 0, .ref 237, .int 0, .ref 238, .ref 239, .int 0, .ref 240, .ref 241, .int 0, .int 0, .ref 242, .ref 243, .int 0, .ref 244, .ref 245, .int 0, .long 0, .long 0, .ref 246, .ref 247, .ref 248, .int 0, .ref 249, .ref 250, .ref 251, .ref 252, .ref 253, .ref 254, .ref 255, .ref 256, .int 0, .int 0, .int 0, .long 0, .ref 257, .ref 258, .int 0]))).set 246 (.inl (0, .inl (List.replicate 12 0)))).set 247 (.inl (0, .inl (List.replicate 12 0)))).set 248 (.inl (0, .inl (List.replicate 8 0))), n) 57 rfl [.ref 231, .int 3, .int 3] [.int 3, .ref 248] (Nat.le_of_ble_eq_true rfl) rfl ?_ (fun _ => ?_)
    · refine Ev.mk rfl rfl ⟨Nat.le_of_ble_eq_true rfl, Or.inr (en_rcI (en_gs_ne (by decide) (en_gs_ne (by decide) (en_gs_ne (by decide) (en_gs_eq (hm_231 _))))) rfl)⟩ ?_
      show At _ none _ _ (0, [(0, .ref 231), (1, .int 3), (2, .int 3)], [], (((((en_pre a 231 hp_M).set 231 (.inr (11, [.int 0, .int 0, .ref 232, .ref 233, .ref 234, .ref 235, .int 0, .ref 236, .int 0, .int 0, .int 0, .int 0, .long 0, .int (-1), .int 0, .int 0, .ref 237, .int 0, .ref 238, .ref 239, .int 0, .ref 240, .ref 241, .int 0, .int 0, .ref 242, .ref 243, .int 0, .ref 244, .ref 245, .int 0, .long 0, .long 0, .ref 246, .ref 247, .ref 248, .int 0, .ref 249, .ref 250, .ref 251, .ref 252, .ref 253, .ref 254, .ref 255, .ref 256, .int 0, .int 0, .int 0, .long 0, .ref 257, .ref 258, .int 0]))).set 246 (.inl (0, .inl (List.replicate 12 0)))).set 247 (.inl (0, .inl (List.replicate 12 0)))).set 248 (.inl (0, .inl (List.replicate 8 0))), n)) _
      refine At.enter rfl ?_
      refine r_aload_n rfl ?_
      refine r_get (v := .ref 233) (en_gs_ne (by decide) (en_gs_ne (by decide) (en_gs_ne (by decide) (en_gs_eq (hm_231 _))))) rfl ?_
      refine r_bipush 46 rfl ?_
      refine r_bipush 6 rfl ?_
      refine r_iload_n rfl ?_
      refine r_imul 18 (by decide) ?_
      refine r_iadd 64 rfl ?_
      refine r_iload_n rfl ?_
      refine r_iadd 67 rfl ?_
      refine r_iald (v := 0) (en_gs_ne (by decide) (en_gs_ne (by decide) (en_gs_ne (by decide) (en_gs_ne (by decide) (hm_233 _))))) (by decide) (en_gr2 7 rfl (by decide +kernel) (by decide +kernel)) ?_
      refine r_ireti ?_
      exact ⟨trivial, rfl, rfl⟩
    refine At.enter rfl ?_
    refine r_iast (en_gs_eq (en_gs_ne (by decide) (en_gs_ne (by decide) (en_gs_ne (by decide) (hm_248 _))))) (by decide) (Nat.le_of_ble_eq_true rfl) (List.replicate 8 0) (by decide +kernel) ?_
    refine Ar.hp en_sd0 ?_
    refine r_iinc rfl 4 rfl ([(1, .int 4), (0, .ref 231)]) rfl ?_
    refine r_goto ?_
    refine At.enter rfl ?_
    refine r_iload_n rfl ?_
    refine r_bipush 8 rfl ?_
    refine r_icf 46 rfl (by decide) ?_
    refine At.enter rfl ?_
    refine r_aload_n rfl ?_
    refine r_get (v := .ref 248) (en_gs_ne (by decide) (en_gs_ne (by decide) (en_gs_ne (by decide) (en_gs_eq (hm_231 _))))) rfl ?_
    refine r_iload_n rfl ?_
    refine r_aload_n rfl ?_
    refine r_iload_n rfl ?_
    refine r_iconst 3 rfl ?_
    refine r_callV1s (True) (.int 0) (((((en_pre a 231 hp_M).set 231 (.inr (11, [.int 0, .int 0, .ref 232, .ref 233, .ref 234, .ref 235, .int 0, .ref 236, .int 0, .int 0, .int 0, .int 0, .long 0, .int (-1), .int 0, .int 0, .ref 237, .int 0, .ref 238, .ref 239, .int 0, .ref 240, .ref 241, .int 0, .int 0, .ref 242, .ref 243, .int 0, .ref 244, .ref 245, .int 0, .long 0, .long 0, .ref 246, .ref 247, .ref 248, .int 0, .ref 249, .ref 250, .ref 251, .ref 252, .ref 253, .ref 254, .ref 255, .ref 256, .int 0, .int 0, .int 0, .long 0, .ref 257, .ref 258, .int 0]))).set 246 (.inl (0, .inl (List.replicate 12 0)))).set 247 (.inl (0, .inl (List.replicate 12 0)))).set 248 (.inl (0, .inl (List.replicate 8 0))), n) 57 rfl [.ref 231, .int 4, .int 3] [.int 4, .ref 248] (Nat.le_of_ble_eq_true rfl) rfl ?_ (fun _ => ?_)
    · refine Ev.mk rfl rfl ⟨Nat.le_of_ble_eq_true rfl, Or.inr (en_rcI (en_gs_ne (by decide) (en_gs_ne (by decide) (en_gs_ne (by decide) (en_gs_eq (hm_231 _))))) rfl)⟩ ?_
      show At _ none _ _ (0, [(0, .ref 231), (1, .int 4), (2, .int 3)], [], (((((en_pre a 231 hp_M).set 231 (.inr (11, [.int 0, .int 0, .ref 232, .ref 233, .ref 234, .ref 235, .int 0, .ref 236, .int 0, .int 0, .int 0, .int 0, .long 0, .int (-1), .int 0, .int 0, .ref 237, .int 0, .ref 238, .ref 239, .int 0, .ref 240, .ref 241, .int 0, .int 0, .ref 242, .ref 243, .int 0, .ref 244, .ref 245, .int 0, .long 0, .long 0, .ref 246, .ref 247, .ref 248, .int 0, .ref 249, .ref 250, .ref 251, .ref 252, .ref 253, .ref 254, .ref 255, .ref 256, .int 0, .int 0, .int 0, .long 0, .ref 257, .ref 258, .int 0]))).set 246 (.inl (0, .inl (List.replicate 12 0)))).set 247 (.inl (0, .inl (List.replicate 12 0)))).set 248 (.inl (0, .inl (List.replicate 8 0))), n)) _
      refine At.enter rfl ?_
      refine r_aload_n rfl ?_
      refine r_get (v := .ref 233) (en_gs_ne (by decide) (en_gs_ne (by decide) (en_gs_ne (by decide) (en_gs_eq (hm_231 _))))) rfl ?_
      refine r_bipush 46 rfl ?_
      refine r_bipush 6 rfl ?_
      refine r_iload_n rfl ?_
      refine r_imul 24 (by decide) ?_
      refine r_iadd 70 rfl ?_
      refine r_iload_n rfl ?_
      refine r_iadd 73 rfl ?_
      refine r_iald (v := 0) (en_gs_ne (by decide) (en_gs_ne (by decide) (en_gs_ne (by decide) (en_gs_ne (by decide) (hm_233 _))))) (by decide) (en_gr2 7 rfl (by decide +kernel) (by decide +kernel)) ?_
      refine r_ireti ?_
      exact ⟨trivial, rfl, rfl⟩
    refine At.enter rfl ?_
    refine r_iast (en_gs_eq (en_gs_ne (by decide) (en_gs_ne (by decide) (en_gs_ne (by decide) (hm_248 _))))) (by decide) (Nat.le_of_ble_eq_true rfl) (List.replicate 8 0) (by decide +kernel) ?_
    refine Ar.hp en_sd0 ?_
    refine r_iinc rfl 5 rfl ([(1, .int 5), (0, .ref 231)]) rfl ?_
    refine r_goto ?_
    refine At.enter rfl ?_
    refine r_iload_n rfl ?_
    refine r_bipush 8 rfl ?_
    refine r_icf 46 rfl (by decide) ?_
    refine At.enter rfl ?_
    refine r_aload_n rfl ?_
    refine r_get (v := .ref 248) (en_gs_ne (by decide) (en_gs_ne (by decide) (en_gs_ne (by decide) (en_gs_eq (hm_231 _))))) rfl ?_
    refine r_iload_n rfl ?_
    refine r_aload_n rfl ?_
    refine r_iload_n rfl ?_
    refine r_iconst 3 rfl ?_
    refine r_callV1s (True) (.int 0) (((((en_pre a 231 hp_M).set 231 (.inr (11, [.int 0, .int 0, .ref 232, .ref 233, .ref 234, .ref 235, .int 0, .ref 236, .int 0, .int 0, .int 0, .int 0, .long 0, .int (-1), .int 0, .int 0, .ref 237, .int 0, .ref 238, .ref 239, .int 0, .ref 240, .ref 241, .int 0, .int 0, .ref 242, .ref 243, .int 0, .ref 244, .ref 245, .int 0, .long 0, .long 0, .ref 246, .ref 247, .ref 248, .int 0, .ref 249, .ref 250, .ref 251, .ref 252, .ref 253, .ref 254, .ref 255, .ref 256, .int 0, .int 0, .int 0, .long 0, .ref 257, .ref 258, .int 0]))).set 246 (.inl (0, .inl (List.replicate 12 0)))).set 247 (.inl (0, .inl (List.replicate 12 0)))).set 248 (.inl (0, .inl (List.replicate 8 0))), n) 57 rfl [.ref 231, .int 5, .int 3] [.int 5, .ref 248] (Nat.le_of_ble_eq_true rfl) rfl ?_ (fun _ => ?_)
    · refine Ev.mk rfl rfl ⟨Nat.le_of_ble_eq_true rfl, Or.inr (en_rcI (en_gs_ne (by decide) (en_gs_ne (by decide) (en_gs_ne (by decide) (en_gs_eq (hm_231 _))))) rfl)⟩ ?_
      show At _ none _ _ (0, [(0, .ref 231), (1, .int 5), (2, .int 3)], [], (((((en_pre a 231 hp_M).set 231 (.inr (11, [.int 0, .int 0, .ref 232, .ref 233, .ref 234, .ref 235, .int 0, .ref 236, .int 0, .int 0, .int 0, .int 0, .long 0, .int (-1), .int 0, .int 0, .ref 237, .int 0, .ref 238, .ref 239, .int 0, .ref 240, .ref 241, .int 0, .int 0, .ref 242, .ref 243, .int 0, .ref 244, .ref 245, .int 0, .long 0, .long 0, .ref 246, .ref 247, .ref 248, .int 0, .ref 249, .ref 250, .ref 251, .ref 252, .ref 253, .ref 254, .ref 255, .ref 256, .int 0, .int 0, .int 0, .long 0, .ref 257, .ref 258, .int 0]))).set 246 (.inl (0, .inl (List.replicate 12 0)))).set 247 (.inl (0, .inl (List.replicate 12 0)))).set 248 (.inl (0, .inl (List.replicate 8 0))), n)) _
      refine At.enter rfl ?_
      refine r_aload_n rfl ?_
      refine r_get (v := .ref 233) (en_gs_ne (by decide) (en_gs_ne (by decide) (en_gs_ne (by decide) (en_gs_eq (hm_231 _))))) rfl ?_
      refine r_bipush 46 rfl ?_
      refine r_bipush 6 rfl ?_
      refine r_iload_n rfl ?_
      refine r_imul 30 (by decide) ?_
      refine r_iadd 76 rfl ?_
      refine r_iload_n rfl ?_
      refine r_iadd 79 rfl ?_
      refine r_iald (v := 0) (en_gs_ne (by decide) (en_gs_ne (by decide) (en_gs_ne (by decide) (en_gs_ne (by decide) (hm_233 _))))) (by decide) (en_gr2 7 rfl (by decide +kernel) (by decide +kernel)) ?_
      refine r_ireti ?_
      exact ⟨trivial, rfl, rfl⟩
    refine At.enter rfl ?_
    refine r_iast (en_gs_eq (en_gs_ne (by decide) (en_gs_ne (by decide) (en_gs_ne (by decide) (hm_248 _))))) (by decide) (Nat.le_of_ble_eq_true rfl) (List.replicate 8 0) (by decide +kernel) ?_
    refine Ar.hp en_sd0 ?_
    refine r_iinc rfl 6 rfl ([(1, .int 6), (0, .ref 231)]) rfl ?_
    refine r_goto ?_
    refine At.enter rfl ?_
    refine r_iload_n rfl ?_
    refine r_bipush 8 rfl ?_
    refine r_icf 46 rfl (by decide) ?_
    refine At.enter rfl ?_
    refine r_aload_n rfl ?_
    refine r_get (v := .ref 248) (en_gs_ne (by decide) (en_gs_ne (by decide) (en_gs_ne (by decide) (en_gs_eq (hm_231 _))))) rfl ?_
    refine r_iload_n rfl ?_
    refine r_aload_n rfl ?_
    refine r_iload_n rfl ?_
    refine r_iconst 3 rfl ?_
    refine r_callV1s (True) (.int 0) (((((en_pre a 231 hp_M).set 231 (.inr (11, [.int 0, .int 0, .ref 232, .ref 233, .ref 234, .ref 235, .int 0, .ref 236, .int 0, .int 0, .int 0, .int 0, .long 0, .int (-1), .int 0, .int 0, .ref 237, .int 0, .ref 238, .ref 239, .int 0, .ref 240, .ref 241, .int 0, .int 0, .ref 242, .ref 243, .int 0, .ref 244, .ref 245, .int 0, .long 0, .long 0, .ref 246, .ref 247, .ref 248, .int 0, .ref 249, .ref 250, .ref 251, .ref 252, .ref 253, .ref 254, .ref 255, .ref 256, .int 0, .int 0, .int 0, .long 0, .ref 257, .ref 258, .int 0]))).set 246 (.inl (0, .inl (List.replicate 12 0)))).set 247 (.inl (0, .inl (List.replicate 12 0)))).set 248 (.inl (0, .inl (List.replicate 8 0))), n) 57 rfl [.ref 231, .int 6, .int 3] [.int 6, .ref 248] (Nat.le_of_ble_eq_true rfl) rfl ?_ (fun _ => ?_)
    · refine Ev.mk rfl rfl ⟨Nat.le_of_ble_eq_true rfl, Or.inr (en_rcI (en_gs_ne (by decide) (en_gs_ne (by decide) (en_gs_ne (by decide) (en_gs_eq (hm_231 _))))) rfl)⟩ ?_
      show At _ none _ _ (0, [(0, .ref 231), (1, .int 6), (2, .int 3)], [], (((((en_pre a 231 hp_M).set 231 (.inr (11, [.int 0, .int 0, .ref 232, .ref 233, .ref 234, .ref 235, .int 0, .ref 236, .int 0, .int 0, .int 0, .int 0, .long 0, .int (-1), .int 0, .int 0, .ref 237, .int 0, .ref 238, .ref 239, .int 0, .ref 240, .ref 241, .int 0, .int 0, .ref 242, .ref 243, .int 0, .ref 244, .ref 245, .int 0, .long 0, .long 0, .ref 246, .ref 247, .ref 248, .int 0, .ref 249, .ref 250, .ref 251, .ref 252, .ref 253, .ref 254, .ref 255, .ref 256, .int 0, .int 0, .int 0, .long 0, .ref 257, .ref 258, .int 0]))).set 246 (.inl (0, .inl (List.replicate 12 0)))).set 247 (.inl (0, .inl (List.replicate 12 0)))).set 248 (.inl (0, .inl (List.replicate 8 0))), n)) _
      refine At.enter rfl ?_
      refine r_aload_n rfl ?_
      refine r_get (v := .ref 233) (en_gs_ne (by decide) (en_gs_ne (by decide) (en_gs_ne (by decide) (en_gs_eq (hm_231 _))))) rfl ?_
      refine r_bipush 46 rfl ?_
      refine r_bipush 6 rfl ?_
      refine r_iload_n rfl ?_
      refine r_imul 36 (by decide) ?_
      refine r_iadd 82 rfl ?_
      refine r_iload_n rfl ?_
      refine r_iadd 85 rfl ?_
      refine r_iald (v := 0) (en_gs_ne (by decide) (en_gs_ne (by decide) (en_gs_ne (by decide) (en_gs_ne (by decide) (hm_233 _))))) (by decide) (en_gr2 7 rfl (by decide +kernel) (by decide +kernel)) ?_
      refine r_ireti ?_
      exact ⟨trivial, rfl, rfl⟩
    refine At.enter rfl ?_
    refine r_iast (en_gs_eq (en_gs_ne (by decide) (en_gs_ne (by decide) (en_gs_ne (by decide) (hm_248 _))))) (by decide) (Nat.le_of_ble_eq_true rfl) (List.replicate 8 0) (by decide +kernel) ?_
    refine Ar.hp en_sd0 ?_
    refine r_iinc rfl 7 rfl ([(1, .int 7), (0, .ref 231)]) rfl ?_
    refine r_goto ?_
    refine At.enter rfl ?_
    refine r_iload_n rfl ?_
    refine r_bipush 8 rfl ?_
    refine r_icf 46 rfl (by decide) ?_
    refine At.enter rfl ?_
    refine r_aload_n rfl ?_
    refine r_get (v := .ref 248) (en_gs_ne (by decide) (en_gs_ne (by decide) (en_gs_ne (by decide) (en_gs_eq (hm_231 _))))) rfl ?_
    refine r_iload_n rfl ?_
    refine r_aload_n rfl ?_
    refine r_iload_n rfl ?_
    refine r_iconst 3 rfl ?_
    refine r_callV1s (True) (.int 0) (((((en_pre a 231 hp_M).set 231 (.inr (11, [.int 0, .int 0, .ref 232, .ref 233, .ref 234, .ref 235, .int 0, .ref 236, .int 0, .int 0, .int 0, .int 0, .long 0, .int (-1), .int 0, .int 0, .ref 237, .int 0, .ref 238, .ref 239, .int 0, .ref 240, .ref 241, .int 0, .int 0, .ref 242, .ref 243, .int 0, .ref 244, .ref 245, .int 0, .long 0, .long 0, .ref 246, .ref 247, .ref 248, .int 0, .ref 249, .ref 250, .ref 251, .ref 252, .ref 253, .ref 254, .ref 255, .ref 256, .int 0, .int 0, .int 0, .long 0, .ref 257, .ref 258, .int 0]))).set 246 (.inl (0, .inl (List.replicate 12 0)))).set 247 (.inl (0, .inl (List.replicate 12 0)))).set 248 (.inl (0, .inl (List.replicate 8 0))), n) 57 rfl [.ref 231, .int 7, .int 3] [.int 7, .ref 248] (Nat.le_of_ble_eq_true rfl) rfl ?_ (fun _ => ?_)
    · refine Ev.mk rfl rfl ⟨Nat.le_of_ble_eq_true rfl, Or.inr (en_rcI (en_gs_ne (by decide) (en_gs_ne (by decide) (en_gs_ne (by decide) (en_gs_eq (hm_231 _))))) rfl)⟩ ?_
      show At _ none _ _ (0, [(0, .ref 231), (1, .int 7), (2, .int 3)], [], (((((en_pre a 231 hp_M).set 231 (.inr (11, [.int 0, .int 0, .ref 232, .ref 233, .ref 234, .ref 235, .int 0, .ref 236, .int 0, .int 0, .int 0, .int 0, .long 0, .int (-1), .int 0, .int 0, .ref 237, .int 0, .ref 238, .ref 239, .int 0, .ref 240, .ref 241, .int 0, .int 0, .ref 242, .ref 243, .int 0, .ref 244, .ref 245, .int 0, .long 0, .long 0, .ref 246, .ref 247, .ref 248, .int 0, .ref 249, .ref 250, .ref 251, .ref 252, .ref 253, .ref 254, .ref 255, .ref 256, .int 0, .int 0, .int 0, .long 0, .ref 257, .ref 258, .int 0]))).set 246 (.inl (0, .inl (List.replicate 12 0)))).set 247 (.inl (0, .inl (List.replicate 12 0)))).set 248 (.inl (0, .inl (List.replicate 8 0))), n)) _
      refine At.enter rfl ?_
      refine r_aload_n rfl ?_
      refine r_get (v := .ref 233) (en_gs_ne (by decide) (en_gs_ne (by decide) (en_gs_ne (by decide) (en_gs_eq (hm_231 _))))) rfl ?_
      refine r_bipush 46 rfl ?_
      refine r_bipush 6 rfl ?_
      refine r_iload_n rfl ?_
      refine r_imul 42 (by decide) ?_
      refine r_iadd 88 rfl ?_
      refine r_iload_n rfl ?_
      refine r_iadd 91 rfl ?_
      refine r_iald (v := 0) (en_gs_ne (by decide) (en_gs_ne (by decide) (en_gs_ne (by decide) (en_gs_ne (by decide) (hm_233 _))))) (by decide) (en_gr2 7 rfl (by decide +kernel) (by decide +kernel)) ?_
      refine r_ireti ?_
      exact ⟨trivial, rfl, rfl⟩
    refine At.enter rfl ?_
    refine r_iast (en_gs_eq (en_gs_ne (by decide) (en_gs_ne (by decide) (en_gs_ne (by decide) (hm_248 _))))) (by decide) (Nat.le_of_ble_eq_true rfl) (List.replicate 8 0) (by decide +kernel) ?_
    refine Ar.hp en_sd0 ?_
    refine r_iinc rfl 8 rfl ([(1, .int 8), (0, .ref 231)]) rfl ?_
    refine r_goto ?_
    refine At.enter rfl ?_
    refine r_iload_n rfl ?_
    refine r_bipush 8 rfl ?_
    refine r_ict (by decide) ?_
    refine At.enter rfl ?_
    refine r_aload_n rfl ?_
    refine r_iconst 0 rfl ?_
    refine r_putf (en_gs_ne (by decide) (en_gs_ne (by decide) (en_gs_ne (by decide) (en_gs_eq (hm_231 _))))) (Nat.le_of_ble_eq_true rfl) rfl [.int 0, .int 0, .ref 232, .ref 233, .ref 234, .ref 235, .int 0, .ref 236, .int 0, .int 0, .int 0, .int 0, .long 0, .int (-1), .int 0, .int 0, .ref 237, .int 0, .ref 238, .ref 239, .int 0, .ref 240, .ref 241, .int 0, .int 0, .ref 242, .ref 243, .int 0, .ref 244, .ref 245, .int 0, .long 0, .long 0, .ref 246, .ref 247, .ref 248, .int 0, .ref 249, .ref 250, .ref 251, .ref 252, .ref 253, .ref 254, .ref 255, .ref 256, .int 0, .int 0, .int 0, .long 0, .ref 257, .ref 258, .int 0] rfl ?_
    refine Ar.hp (en_sdS (by decide) (en_sdS (by decide) (en_sdS (by decide) en_sd0))) ?_
    refine r_vret ?_
    exact ⟨trivial, rfl, rfl⟩
  refine At.enter rfl ?_
  refine r_iconst 0 rfl ?_
  refine r_istore_n ([(1, .int 0), (0, .ref 231)]) rfl ?_
  refine Ar.fall 11 rfl ?_
  refine At.enter rfl ?_
  refine r_iload_n rfl ?_
  refine r_aload_n rfl ?_
  refine r_get (v := .ref 233) (en_gs_ne (by decide) (en_gs_ne (by decide) (en_gs_ne (by decide) (en_gs_eq (hm_231 _))))) rfl ?_
  refine r_iconst 0 rfl ?_
  refine r_iald (v := 0) (en_gs_ne (by decide) (en_gs_ne (by decide) (en_gs_ne (by decide) (en_gs_ne (by decide) (hm_233 _))))) (by decide) rfl ?_
  refine r_ict (by decide) ?_
  refine At.enter rfl ?_
  refine r_iconst (-1) rfl ?_
  refine r_ireti ?_
  exact ⟨congrArg (fun z => some (Value.int z)) rfl, (en_lset (en_lset (en_lset (en_lset (en_prel a))))), rfl⟩
