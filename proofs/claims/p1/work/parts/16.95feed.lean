set_option maxRecDepth 100000 in
set_option maxHeartbeats 4000000 in
theorem zx_X10_feed (n : Nat) (a1 : Int32) (a2 : Int32) (a3 : Int32) (a4 : Int32) (a5 : Int32) : Ev 14 111 [.ref 0, .int a1, .int a2, .int a3, .int a4, .int a5] (hp_X ++ hp_M, n) (fun r h' => r = some (.int (20)) ∧ IsX h'.1 ∧ h'.2 = n) := by
  refine Ev.mk rfl rfl ⟨Nat.le_of_ble_eq_true rfl, Or.inr (en_rcI hx_0 rfl)⟩ ?_
  show At _ none _ _ (0, [(0, .ref 0), (1, .int a1), (2, .int a2), (3, .int a3), (4, .int a4), (5, .int a5)], [], (hp_X ++ hp_M, n)) _
  refine At.enter rfl ?_
  refine r_aload_n rfl ?_
  refine r_get (v := .ref 174) hx_0 rfl ?_
  refine r_get (v := .int 0) hx_174 rfl ?_
  refine r_bipush 20 rfl ?_
  refine r_iadd 20 rfl ?_
  refine r_sipush 400 rfl ?_
  refine r_ict (by decide) ?_
  refine At.enter rfl ?_
  refine r_aload_n rfl ?_
  refine r_get (v := .ref 174) hx_0 rfl ?_
  refine r_iload_n rfl ?_
  refine r_callV1v (True)  (((hp_X ++ hp_M).set 175 (.inl (0, .inl ([((((a1).toUInt32 >>> ((24 : Int32).toUInt32 &&& Int32.toUInt32 31)).toInt32) &&& 255), ((((a1).toUInt32 >>> ((16 : Int32).toUInt32 &&& Int32.toUInt32 31)).toInt32) &&& 255), ((((a1).toUInt32 >>> ((8 : Int32).toUInt32 &&& Int32.toUInt32 31)).toInt32) &&& 255), ((((a1).toUInt32 >>> ((0 : Int32).toUInt32 &&& Int32.toUInt32 31)).toInt32) &&& 255)] ++ List.replicate 396 0)))).set 174 (.inr (8, [.ref 175, .int 4])), n) 26 rfl [.ref 174, .int a1] [] (Nat.le_of_ble_eq_true rfl) rfl ?_ (fun _ => ?_)
  · refine Ev.mk rfl rfl ⟨Nat.le_of_ble_eq_true rfl, Or.inr (en_rcI hx_174 rfl)⟩ ?_
    show At _ none _ _ (0, [(0, .ref 174), (1, .int a1)], [], (hp_X ++ hp_M, n)) _
    refine At.enter rfl ?_
    refine r_bipush 24 rfl ?_
    refine r_istore_n ([(2, .int 24), (0, .ref 174), (1, .int a1)]) rfl ?_
    refine Ar.fall 3 rfl ?_
    refine At.enter rfl ?_
    refine r_iload_n rfl ?_
    refine r_iff 7 rfl (by decide) ?_
    refine At.enter rfl ?_
    refine r_aload_n rfl ?_
    refine r_get (v := .int 0) hx_174 rfl ?_
    refine r_sipush 400 rfl ?_
    refine r_icf 17 rfl (by decide) ?_
    refine At.enter rfl ?_
    refine r_aload_n rfl ?_
    refine r_get (v := .ref 175) hx_174 rfl ?_
    refine r_aload_n rfl ?_
    refine r_get (v := .int 0) hx_174 rfl ?_
    refine r_iload_n rfl ?_
    refine r_iload_n rfl ?_
    refine r_iushr (((a1).toUInt32 >>> ((24 : Int32).toUInt32 &&& Int32.toUInt32 31)).toInt32) rfl ?_
    refine r_sipush 255 rfl ?_
    refine r_iand ((((a1).toUInt32 >>> ((24 : Int32).toUInt32 &&& Int32.toUInt32 31)).toInt32) &&& 255) rfl ?_
    refine r_iast hx_175 (by decide) (Nat.le_of_ble_eq_true rfl) ([((((a1).toUInt32 >>> ((24 : Int32).toUInt32 &&& Int32.toUInt32 31)).toInt32) &&& 255)] ++ List.replicate 399 0) rfl ?_
    refine r_aload_n rfl ?_
    refine r_dup rfl ?_
    refine r_get (v := .int 0) (en_gs_ne (by decide) hx_174) rfl ?_
    refine r_iconst 1 rfl ?_
    refine r_iadd 1 rfl ?_
    refine r_putf (en_gs_ne (by decide) hx_174) (Nat.le_of_ble_eq_true rfl) rfl [.ref 175, .int 1] rfl ?_
    refine r_iinc rfl 16 rfl ([(2, .int 16), (0, .ref 174), (1, .int a1)]) rfl ?_
    refine r_goto ?_
    refine At.enter rfl ?_
    refine r_iload_n rfl ?_
    refine r_iff 7 rfl (by decide) ?_
    refine At.enter rfl ?_
    refine r_aload_n rfl ?_
    refine r_get (v := .int 1) (en_gs_eq (en_gs_ne (by decide) hx_174)) rfl ?_
    refine r_sipush 400 rfl ?_
    refine r_icf 17 rfl (by decide) ?_
    refine At.enter rfl ?_
    refine r_aload_n rfl ?_
    refine r_get (v := .ref 175) (en_gs_eq (en_gs_ne (by decide) hx_174)) rfl ?_
    refine r_aload_n rfl ?_
    refine r_get (v := .int 1) (en_gs_eq (en_gs_ne (by decide) hx_174)) rfl ?_
    refine r_iload_n rfl ?_
    refine r_iload_n rfl ?_
    refine r_iushr (((a1).toUInt32 >>> ((16 : Int32).toUInt32 &&& Int32.toUInt32 31)).toInt32) rfl ?_
    refine r_sipush 255 rfl ?_
    refine r_iand ((((a1).toUInt32 >>> ((16 : Int32).toUInt32 &&& Int32.toUInt32 31)).toInt32) &&& 255) rfl ?_
    refine r_iast (en_gs_ne (by decide) (en_gs_eq hx_175)) (by decide) (Nat.le_of_ble_eq_true rfl) ([((((a1).toUInt32 >>> ((24 : Int32).toUInt32 &&& Int32.toUInt32 31)).toInt32) &&& 255), ((((a1).toUInt32 >>> ((16 : Int32).toUInt32 &&& Int32.toUInt32 31)).toInt32) &&& 255)] ++ List.replicate 398 0) rfl ?_
    refine Ar.hp (en_sdS (by decide) en_sd0) ?_
    refine r_aload_n rfl ?_
    refine r_dup rfl ?_
    refine r_get (v := .int 1) (en_gs_eq (en_gs_ne (by decide) hx_174)) rfl ?_
    refine r_iconst 1 rfl ?_
    refine r_iadd 2 rfl ?_
    refine r_putf (en_gs_eq (en_gs_ne (by decide) hx_174)) (Nat.le_of_ble_eq_true rfl) rfl [.ref 175, .int 2] rfl ?_
    refine Ar.hp en_sd0 ?_
    refine r_iinc rfl 8 rfl ([(2, .int 8), (0, .ref 174), (1, .int a1)]) rfl ?_
    refine r_goto ?_
    refine At.enter rfl ?_
    refine r_iload_n rfl ?_
    refine r_iff 7 rfl (by decide) ?_
    refine At.enter rfl ?_
    refine r_aload_n rfl ?_
    refine r_get (v := .int 2) (en_gs_eq (en_gs_ne (by decide) hx_174)) rfl ?_
    refine r_sipush 400 rfl ?_
    refine r_icf 17 rfl (by decide) ?_
    refine At.enter rfl ?_
    refine r_aload_n rfl ?_
    refine r_get (v := .ref 175) (en_gs_eq (en_gs_ne (by decide) hx_174)) rfl ?_
    refine r_aload_n rfl ?_
    refine r_get (v := .int 2) (en_gs_eq (en_gs_ne (by decide) hx_174)) rfl ?_
    refine r_iload_n rfl ?_
    refine r_iload_n rfl ?_
    refine r_iushr (((a1).toUInt32 >>> ((8 : Int32).toUInt32 &&& Int32.toUInt32 31)).toInt32) rfl ?_
    refine r_sipush 255 rfl ?_
    refine r_iand ((((a1).toUInt32 >>> ((8 : Int32).toUInt32 &&& Int32.toUInt32 31)).toInt32) &&& 255) rfl ?_
    refine r_iast (en_gs_ne (by decide) (en_gs_eq hx_175)) (by decide) (Nat.le_of_ble_eq_true rfl) ([((((a1).toUInt32 >>> ((24 : Int32).toUInt32 &&& Int32.toUInt32 31)).toInt32) &&& 255), ((((a1).toUInt32 >>> ((16 : Int32).toUInt32 &&& Int32.toUInt32 31)).toInt32) &&& 255), ((((a1).toUInt32 >>> ((8 : Int32).toUInt32 &&& Int32.toUInt32 31)).toInt32) &&& 255)] ++ List.replicate 397 0) rfl ?_
    refine Ar.hp (en_sdS (by decide) en_sd0) ?_
    refine r_aload_n rfl ?_
    refine r_dup rfl ?_
    refine r_get (v := .int 2) (en_gs_eq (en_gs_ne (by decide) hx_174)) rfl ?_
    refine r_iconst 1 rfl ?_
    refine r_iadd 3 rfl ?_
    refine r_putf (en_gs_eq (en_gs_ne (by decide) hx_174)) (Nat.le_of_ble_eq_true rfl) rfl [.ref 175, .int 3] rfl ?_
    refine Ar.hp en_sd0 ?_
    refine r_iinc rfl 0 rfl ([(2, .int 0), (0, .ref 174), (1, .int a1)]) rfl ?_
    refine r_goto ?_
    refine At.enter rfl ?_
    refine r_iload_n rfl ?_
    refine r_iff 7 rfl (by decide) ?_
    refine At.enter rfl ?_
    refine r_aload_n rfl ?_
    refine r_get (v := .int 3) (en_gs_eq (en_gs_ne (by decide) hx_174)) rfl ?_
    refine r_sipush 400 rfl ?_
    refine r_icf 17 rfl (by decide) ?_
    refine At.enter rfl ?_
    refine r_aload_n rfl ?_
    refine r_get (v := .ref 175) (en_gs_eq (en_gs_ne (by decide) hx_174)) rfl ?_
    refine r_aload_n rfl ?_
    refine r_get (v := .int 3) (en_gs_eq (en_gs_ne (by decide) hx_174)) rfl ?_
    refine r_iload_n rfl ?_
    refine r_iload_n rfl ?_
    refine r_iushr (((a1).toUInt32 >>> ((0 : Int32).toUInt32 &&& Int32.toUInt32 31)).toInt32) rfl ?_
    refine r_sipush 255 rfl ?_
    refine r_iand ((((a1).toUInt32 >>> ((0 : Int32).toUInt32 &&& Int32.toUInt32 31)).toInt32) &&& 255) rfl ?_
    refine r_iast (en_gs_ne (by decide) (en_gs_eq hx_175)) (by decide) (Nat.le_of_ble_eq_true rfl) ([((((a1).toUInt32 >>> ((24 : Int32).toUInt32 &&& Int32.toUInt32 31)).toInt32) &&& 255), ((((a1).toUInt32 >>> ((16 : Int32).toUInt32 &&& Int32.toUInt32 31)).toInt32) &&& 255), ((((a1).toUInt32 >>> ((8 : Int32).toUInt32 &&& Int32.toUInt32 31)).toInt32) &&& 255), ((((a1).toUInt32 >>> ((0 : Int32).toUInt32 &&& Int32.toUInt32 31)).toInt32) &&& 255)] ++ List.replicate 396 0) rfl ?_
    refine Ar.hp (en_sdS (by decide) en_sd0) ?_
    refine r_aload_n rfl ?_
    refine r_dup rfl ?_
    refine r_get (v := .int 3) (en_gs_eq (en_gs_ne (by decide) hx_174)) rfl ?_
    refine r_iconst 1 rfl ?_
    refine r_iadd 4 rfl ?_
    refine r_putf (en_gs_eq (en_gs_ne (by decide) hx_174)) (Nat.le_of_ble_eq_true rfl) rfl [.ref 175, .int 4] rfl ?_
    refine Ar.hp en_sd0 ?_
    refine r_iinc rfl (-8) rfl ([(2, .int (-8)), (0, .ref 174), (1, .int a1)]) rfl ?_
    refine r_goto ?_
    refine At.enter rfl ?_
    refine r_iload_n rfl ?_
    refine r_ift (by decide) ?_
    refine At.enter rfl ?_
    refine r_vret ?_
    exact ⟨trivial, rfl, rfl⟩
  refine At.enter rfl ?_
  refine r_aload_n rfl ?_
  refine r_get (v := .ref 174) (en_gs_ne (by decide) (en_gs_ne (by decide) hx_0)) rfl ?_
  refine r_iload_n rfl ?_
  refine r_callV1v (True)  (((hp_X ++ hp_M).set 175 (.inl (0, .inl ([((((a1).toUInt32 >>> ((24 : Int32).toUInt32 &&& Int32.toUInt32 31)).toInt32) &&& 255), ((((a1).toUInt32 >>> ((16 : Int32).toUInt32 &&& Int32.toUInt32 31)).toInt32) &&& 255), ((((a1).toUInt32 >>> ((8 : Int32).toUInt32 &&& Int32.toUInt32 31)).toInt32) &&& 255), ((((a1).toUInt32 >>> ((0 : Int32).toUInt32 &&& Int32.toUInt32 31)).toInt32) &&& 255), ((((a2).toUInt32 >>> ((24 : Int32).toUInt32 &&& Int32.toUInt32 31)).toInt32) &&& 255), ((((a2).toUInt32 >>> ((16 : Int32).toUInt32 &&& Int32.toUInt32 31)).toInt32) &&& 255), ((((a2).toUInt32 >>> ((8 : Int32).toUInt32 &&& Int32.toUInt32 31)).toInt32) &&& 255), ((((a2).toUInt32 >>> ((0 : Int32).toUInt32 &&& Int32.toUInt32 31)).toInt32) &&& 255)] ++ List.replicate 392 0)))).set 174 (.inr (8, [.ref 175, .int 8])), n) 34 rfl [.ref 174, .int a2] [] (Nat.le_of_ble_eq_true rfl) rfl ?_ (fun _ => ?_)
  · refine Ev.mk rfl rfl ⟨Nat.le_of_ble_eq_true rfl, Or.inr (en_rcI (en_gs_eq (en_gs_ne (by decide) hx_174)) rfl)⟩ ?_
    show At _ none _ _ (0, [(0, .ref 174), (1, .int a2)], [], (((hp_X ++ hp_M).set 175 (.inl (0, .inl ([((((a1).toUInt32 >>> ((24 : Int32).toUInt32 &&& Int32.toUInt32 31)).toInt32) &&& 255), ((((a1).toUInt32 >>> ((16 : Int32).toUInt32 &&& Int32.toUInt32 31)).toInt32) &&& 255), ((((a1).toUInt32 >>> ((8 : Int32).toUInt32 &&& Int32.toUInt32 31)).toInt32) &&& 255), ((((a1).toUInt32 >>> ((0 : Int32).toUInt32 &&& Int32.toUInt32 31)).toInt32) &&& 255)] ++ List.replicate 396 0)))).set 174 (.inr (8, [.ref 175, .int 4])), n)) _
    refine At.enter rfl ?_
    refine r_bipush 24 rfl ?_
    refine r_istore_n ([(2, .int 24), (0, .ref 174), (1, .int a2)]) rfl ?_
    refine Ar.fall 3 rfl ?_
    refine At.enter rfl ?_
    refine r_iload_n rfl ?_
    refine r_iff 7 rfl (by decide) ?_
    refine At.enter rfl ?_
    refine r_aload_n rfl ?_
    refine r_get (v := .int 4) (en_gs_eq (en_gs_ne (by decide) hx_174)) rfl ?_
    refine r_sipush 400 rfl ?_
    refine r_icf 17 rfl (by decide) ?_
    refine At.enter rfl ?_
    refine r_aload_n rfl ?_
    refine r_get (v := .ref 175) (en_gs_eq (en_gs_ne (by decide) hx_174)) rfl ?_
    refine r_aload_n rfl ?_
    refine r_get (v := .int 4) (en_gs_eq (en_gs_ne (by decide) hx_174)) rfl ?_
    refine r_iload_n rfl ?_
    refine r_iload_n rfl ?_
    refine r_iushr (((a2).toUInt32 >>> ((24 : Int32).toUInt32 &&& Int32.toUInt32 31)).toInt32) rfl ?_
    refine r_sipush 255 rfl ?_
    refine r_iand ((((a2).toUInt32 >>> ((24 : Int32).toUInt32 &&& Int32.toUInt32 31)).toInt32) &&& 255) rfl ?_
    refine r_iast (en_gs_ne (by decide) (en_gs_eq hx_175)) (by decide) (Nat.le_of_ble_eq_true rfl) ([((((a1).toUInt32 >>> ((24 : Int32).toUInt32 &&& Int32.toUInt32 31)).toInt32) &&& 255), ((((a1).toUInt32 >>> ((16 : Int32).toUInt32 &&& Int32.toUInt32 31)).toInt32) &&& 255), ((((a1).toUInt32 >>> ((8 : Int32).toUInt32 &&& Int32.toUInt32 31)).toInt32) &&& 255), ((((a1).toUInt32 >>> ((0 : Int32).toUInt32 &&& Int32.toUInt32 31)).toInt32) &&& 255), ((((a2).toUInt32 >>> ((24 : Int32).toUInt32 &&& Int32.toUInt32 31)).toInt32) &&& 255)] ++ List.replicate 395 0) rfl ?_
    refine Ar.hp (en_sdS (by decide) en_sd0) ?_
    refine r_aload_n rfl ?_
    refine r_dup rfl ?_
    refine r_get (v := .int 4) (en_gs_eq (en_gs_ne (by decide) hx_174)) rfl ?_
    refine r_iconst 1 rfl ?_
    refine r_iadd 5 rfl ?_
    refine r_putf (en_gs_eq (en_gs_ne (by decide) hx_174)) (Nat.le_of_ble_eq_true rfl) rfl [.ref 175, .int 5] rfl ?_
    refine Ar.hp en_sd0 ?_
    refine r_iinc rfl 16 rfl ([(2, .int 16), (0, .ref 174), (1, .int a2)]) rfl ?_
    refine r_goto ?_
    refine At.enter rfl ?_
    refine r_iload_n rfl ?_
    refine r_iff 7 rfl (by decide) ?_
    refine At.enter rfl ?_
    refine r_aload_n rfl ?_
    refine r_get (v := .int 5) (en_gs_eq (en_gs_ne (by decide) hx_174)) rfl ?_
    refine r_sipush 400 rfl ?_
    refine r_icf 17 rfl (by decide) ?_
    refine At.enter rfl ?_
    refine r_aload_n rfl ?_
    refine r_get (v := .ref 175) (en_gs_eq (en_gs_ne (by decide) hx_174)) rfl ?_
    refine r_aload_n rfl ?_
    refine r_get (v := .int 5) (en_gs_eq (en_gs_ne (by decide) hx_174)) rfl ?_
    refine r_iload_n rfl ?_
    refine r_iload_n rfl ?_
    refine r_iushr (((a2).toUInt32 >>> ((16 : Int32).toUInt32 &&& Int32.toUInt32 31)).toInt32) rfl ?_
    refine r_sipush 255 rfl ?_
    refine r_iand ((((a2).toUInt32 >>> ((16 : Int32).toUInt32 &&& Int32.toUInt32 31)).toInt32) &&& 255) rfl ?_
    refine r_iast (en_gs_ne (by decide) (en_gs_eq hx_175)) (by decide) (Nat.le_of_ble_eq_true rfl) ([((((a1).toUInt32 >>> ((24 : Int32).toUInt32 &&& Int32.toUInt32 31)).toInt32) &&& 255), ((((a1).toUInt32 >>> ((16 : Int32).toUInt32 &&& Int32.toUInt32 31)).toInt32) &&& 255), ((((a1).toUInt32 >>> ((8 : Int32).toUInt32 &&& Int32.toUInt32 31)).toInt32) &&& 255), ((((a1).toUInt32 >>> ((0 : Int32).toUInt32 &&& Int32.toUInt32 31)).toInt32) &&& 255), ((((a2).toUInt32 >>> ((24 : Int32).toUInt32 &&& Int32.toUInt32 31)).toInt32) &&& 255), ((((a2).toUInt32 >>> ((16 : Int32).toUInt32 &&& Int32.toUInt32 31)).toInt32) &&& 255)] ++ List.replicate 394 0) rfl ?_
    refine Ar.hp (en_sdS (by decide) en_sd0) ?_
    refine r_aload_n rfl ?_
    refine r_dup rfl ?_
    refine r_get (v := .int 5) (en_gs_eq (en_gs_ne (by decide) hx_174)) rfl ?_
    refine r_iconst 1 rfl ?_
    refine r_iadd 6 rfl ?_
    refine r_putf (en_gs_eq (en_gs_ne (by decide) hx_174)) (Nat.le_of_ble_eq_true rfl) rfl [.ref 175, .int 6] rfl ?_
    refine Ar.hp en_sd0 ?_
    refine r_iinc rfl 8 rfl ([(2, .int 8), (0, .ref 174), (1, .int a2)]) rfl ?_
    refine r_goto ?_
    refine At.enter rfl ?_
    refine r_iload_n rfl ?_
    refine r_iff 7 rfl (by decide) ?_
    refine At.enter rfl ?_
    refine r_aload_n rfl ?_
    refine r_get (v := .int 6) (en_gs_eq (en_gs_ne (by decide) hx_174)) rfl ?_
    refine r_sipush 400 rfl ?_
    refine r_icf 17 rfl (by decide) ?_
    refine At.enter rfl ?_
    refine r_aload_n rfl ?_
    refine r_get (v := .ref 175) (en_gs_eq (en_gs_ne (by decide) hx_174)) rfl ?_
    refine r_aload_n rfl ?_
    refine r_get (v := .int 6) (en_gs_eq (en_gs_ne (by decide) hx_174)) rfl ?_
    refine r_iload_n rfl ?_
    refine r_iload_n rfl ?_
    refine r_iushr (((a2).toUInt32 >>> ((8 : Int32).toUInt32 &&& Int32.toUInt32 31)).toInt32) rfl ?_
    refine r_sipush 255 rfl ?_
    refine r_iand ((((a2).toUInt32 >>> ((8 : Int32).toUInt32 &&& Int32.toUInt32 31)).toInt32) &&& 255) rfl ?_
    refine r_iast (en_gs_ne (by decide) (en_gs_eq hx_175)) (by decide) (Nat.le_of_ble_eq_true rfl) ([((((a1).toUInt32 >>> ((24 : Int32).toUInt32 &&& Int32.toUInt32 31)).toInt32) &&& 255), ((((a1).toUInt32 >>> ((16 : Int32).toUInt32 &&& Int32.toUInt32 31)).toInt32) &&& 255), ((((a1).toUInt32 >>> ((8 : Int32).toUInt32 &&& Int32.toUInt32 31)).toInt32) &&& 255), ((((a1).toUInt32 >>> ((0 : Int32).toUInt32 &&& Int32.toUInt32 31)).toInt32) &&& 255), ((((a2).toUInt32 >>> ((24 : Int32).toUInt32 &&& Int32.toUInt32 31)).toInt32) &&& 255), ((((a2).toUInt32 >>> ((16 : Int32).toUInt32 &&& Int32.toUInt32 31)).toInt32) &&& 255), ((((a2).toUInt32 >>> ((8 : Int32).toUInt32 &&& Int32.toUInt32 31)).toInt32) &&& 255)] ++ List.replicate 393 0) rfl ?_
    refine Ar.hp (en_sdS (by decide) en_sd0) ?_
    refine r_aload_n rfl ?_
    refine r_dup rfl ?_
    refine r_get (v := .int 6) (en_gs_eq (en_gs_ne (by decide) hx_174)) rfl ?_
    refine r_iconst 1 rfl ?_
    refine r_iadd 7 rfl ?_
    refine r_putf (en_gs_eq (en_gs_ne (by decide) hx_174)) (Nat.le_of_ble_eq_true rfl) rfl [.ref 175, .int 7] rfl ?_
    refine Ar.hp en_sd0 ?_
    refine r_iinc rfl 0 rfl ([(2, .int 0), (0, .ref 174), (1, .int a2)]) rfl ?_
    refine r_goto ?_
    refine At.enter rfl ?_
    refine r_iload_n rfl ?_
    refine r_iff 7 rfl (by decide) ?_
    refine At.enter rfl ?_
    refine r_aload_n rfl ?_
    refine r_get (v := .int 7) (en_gs_eq (en_gs_ne (by decide) hx_174)) rfl ?_
    refine r_sipush 400 rfl ?_
    refine r_icf 17 rfl (by decide) ?_
    refine At.enter rfl ?_
    refine r_aload_n rfl ?_
    refine r_get (v := .ref 175) (en_gs_eq (en_gs_ne (by decide) hx_174)) rfl ?_
    refine r_aload_n rfl ?_
    refine r_get (v := .int 7) (en_gs_eq (en_gs_ne (by decide) hx_174)) rfl ?_
    refine r_iload_n rfl ?_
    refine r_iload_n rfl ?_
    refine r_iushr (((a2).toUInt32 >>> ((0 : Int32).toUInt32 &&& Int32.toUInt32 31)).toInt32) rfl ?_
    refine r_sipush 255 rfl ?_
    refine r_iand ((((a2).toUInt32 >>> ((0 : Int32).toUInt32 &&& Int32.toUInt32 31)).toInt32) &&& 255) rfl ?_
    refine r_iast (en_gs_ne (by decide) (en_gs_eq hx_175)) (by decide) (Nat.le_of_ble_eq_true rfl) ([((((a1).toUInt32 >>> ((24 : Int32).toUInt32 &&& Int32.toUInt32 31)).toInt32) &&& 255), ((((a1).toUInt32 >>> ((16 : Int32).toUInt32 &&& Int32.toUInt32 31)).toInt32) &&& 255), ((((a1).toUInt32 >>> ((8 : Int32).toUInt32 &&& Int32.toUInt32 31)).toInt32) &&& 255), ((((a1).toUInt32 >>> ((0 : Int32).toUInt32 &&& Int32.toUInt32 31)).toInt32) &&& 255), ((((a2).toUInt32 >>> ((24 : Int32).toUInt32 &&& Int32.toUInt32 31)).toInt32) &&& 255), ((((a2).toUInt32 >>> ((16 : Int32).toUInt32 &&& Int32.toUInt32 31)).toInt32) &&& 255), ((((a2).toUInt32 >>> ((8 : Int32).toUInt32 &&& Int32.toUInt32 31)).toInt32) &&& 255), ((((a2).toUInt32 >>> ((0 : Int32).toUInt32 &&& Int32.toUInt32 31)).toInt32) &&& 255)] ++ List.replicate 392 0) rfl ?_
    refine Ar.hp (en_sdS (by decide) en_sd0) ?_
    refine r_aload_n rfl ?_
    refine r_dup rfl ?_
    refine r_get (v := .int 7) (en_gs_eq (en_gs_ne (by decide) hx_174)) rfl ?_
    refine r_iconst 1 rfl ?_
    refine r_iadd 8 rfl ?_
    refine r_putf (en_gs_eq (en_gs_ne (by decide) hx_174)) (Nat.le_of_ble_eq_true rfl) rfl [.ref 175, .int 8] rfl ?_
    refine Ar.hp en_sd0 ?_
    refine r_iinc rfl (-8) rfl ([(2, .int (-8)), (0, .ref 174), (1, .int a2)]) rfl ?_
    refine r_goto ?_
    refine At.enter rfl ?_
    refine r_iload_n rfl ?_
    refine r_ift (by decide) ?_
    refine At.enter rfl ?_
    refine r_vret ?_
    exact ⟨trivial, rfl, rfl⟩
  refine At.enter rfl ?_
  refine r_aload_n rfl ?_
  refine r_get (v := .ref 174) (en_gs_ne (by decide) (en_gs_ne (by decide) hx_0)) rfl ?_
  refine r_iload_n rfl ?_
  refine r_callV1v (True)  (((hp_X ++ hp_M).set 175 (.inl (0, .inl ([((((a1).toUInt32 >>> ((24 : Int32).toUInt32 &&& Int32.toUInt32 31)).toInt32) &&& 255), ((((a1).toUInt32 >>> ((16 : Int32).toUInt32 &&& Int32.toUInt32 31)).toInt32) &&& 255), ((((a1).toUInt32 >>> ((8 : Int32).toUInt32 &&& Int32.toUInt32 31)).toInt32) &&& 255), ((((a1).toUInt32 >>> ((0 : Int32).toUInt32 &&& Int32.toUInt32 31)).toInt32) &&& 255), ((((a2).toUInt32 >>> ((24 : Int32).toUInt32 &&& Int32.toUInt32 31)).toInt32) &&& 255), ((((a2).toUInt32 >>> ((16 : Int32).toUInt32 &&& Int32.toUInt32 31)).toInt32) &&& 255), ((((a2).toUInt32 >>> ((8 : Int32).toUInt32 &&& Int32.toUInt32 31)).toInt32) &&& 255), ((((a2).toUInt32 >>> ((0 : Int32).toUInt32 &&& Int32.toUInt32 31)).toInt32) &&& 255), ((((a3).toUInt32 >>> ((24 : Int32).toUInt32 &&& Int32.toUInt32 31)).toInt32) &&& 255), ((((a3).toUInt32 >>> ((16 : Int32).toUInt32 &&& Int32.toUInt32 31)).toInt32) &&& 255), ((((a3).toUInt32 >>> ((8 : Int32).toUInt32 &&& Int32.toUInt32 31)).toInt32) &&& 255), ((((a3).toUInt32 >>> ((0 : Int32).toUInt32 &&& Int32.toUInt32 31)).toInt32) &&& 255)] ++ List.replicate 388 0)))).set 174 (.inr (8, [.ref 175, .int 12])), n) 42 rfl [.ref 174, .int a3] [] (Nat.le_of_ble_eq_true rfl) rfl ?_ (fun _ => ?_)
  · refine Ev.mk rfl rfl ⟨Nat.le_of_ble_eq_true rfl, Or.inr (en_rcI (en_gs_eq (en_gs_ne (by decide) hx_174)) rfl)⟩ ?_
    show At _ none _ _ (0, [(0, .ref 174), (1, .int a3)], [], (((hp_X ++ hp_M).set 175 (.inl (0, .inl ([((((a1).toUInt32 >>> ((24 : Int32).toUInt32 &&& Int32.toUInt32 31)).toInt32) &&& 255), ((((a1).toUInt32 >>> ((16 : Int32).toUInt32 &&& Int32.toUInt32 31)).toInt32) &&& 255), ((((a1).toUInt32 >>> ((8 : Int32).toUInt32 &&& Int32.toUInt32 31)).toInt32) &&& 255), ((((a1).toUInt32 >>> ((0 : Int32).toUInt32 &&& Int32.toUInt32 31)).toInt32) &&& 255), ((((a2).toUInt32 >>> ((24 : Int32).toUInt32 &&& Int32.toUInt32 31)).toInt32) &&& 255), ((((a2).toUInt32 >>> ((16 : Int32).toUInt32 &&& Int32.toUInt32 31)).toInt32) &&& 255), ((((a2).toUInt32 >>> ((8 : Int32).toUInt32 &&& Int32.toUInt32 31)).toInt32) &&& 255), ((((a2).toUInt32 >>> ((0 : Int32).toUInt32 &&& Int32.toUInt32 31)).toInt32) &&& 255)] ++ List.replicate 392 0)))).set 174 (.inr (8, [.ref 175, .int 8])), n)) _
    refine At.enter rfl ?_
    refine r_bipush 24 rfl ?_
    refine r_istore_n ([(2, .int 24), (0, .ref 174), (1, .int a3)]) rfl ?_
    refine Ar.fall 3 rfl ?_
    refine At.enter rfl ?_
    refine r_iload_n rfl ?_
    refine r_iff 7 rfl (by decide) ?_
    refine At.enter rfl ?_
    refine r_aload_n rfl ?_
    refine r_get (v := .int 8) (en_gs_eq (en_gs_ne (by decide) hx_174)) rfl ?_
    refine r_sipush 400 rfl ?_
    refine r_icf 17 rfl (by decide) ?_
    refine At.enter rfl ?_
    refine r_aload_n rfl ?_
    refine r_get (v := .ref 175) (en_gs_eq (en_gs_ne (by decide) hx_174)) rfl ?_
    refine r_aload_n rfl ?_
    refine r_get (v := .int 8) (en_gs_eq (en_gs_ne (by decide) hx_174)) rfl ?_
    refine r_iload_n rfl ?_
    refine r_iload_n rfl ?_
    refine r_iushr (((a3).toUInt32 >>> ((24 : Int32).toUInt32 &&& Int32.toUInt32 31)).toInt32) rfl ?_
    refine r_sipush 255 rfl ?_
    refine r_iand ((((a3).toUInt32 >>> ((24 : Int32).toUInt32 &&& Int32.toUInt32 31)).toInt32) &&& 255) rfl ?_
    refine r_iast (en_gs_ne (by decide) (en_gs_eq hx_175)) (by decide) (Nat.le_of_ble_eq_true rfl) ([((((a1).toUInt32 >>> ((24 : Int32).toUInt32 &&& Int32.toUInt32 31)).toInt32) &&& 255), ((((a1).toUInt32 >>> ((16 : Int32).toUInt32 &&& Int32.toUInt32 31)).toInt32) &&& 255), ((((a1).toUInt32 >>> ((8 : Int32).toUInt32 &&& Int32.toUInt32 31)).toInt32) &&& 255), ((((a1).toUInt32 >>> ((0 : Int32).toUInt32 &&& Int32.toUInt32 31)).toInt32) &&& 255), ((((a2).toUInt32 >>> ((24 : Int32).toUInt32 &&& Int32.toUInt32 31)).toInt32) &&& 255), ((((a2).toUInt32 >>> ((16 : Int32).toUInt32 &&& Int32.toUInt32 31)).toInt32) &&& 255), ((((a2).toUInt32 >>> ((8 : Int32).toUInt32 &&& Int32.toUInt32 31)).toInt32) &&& 255), ((((a2).toUInt32 >>> ((0 : Int32).toUInt32 &&& Int32.toUInt32 31)).toInt32) &&& 255), ((((a3).toUInt32 >>> ((24 : Int32).toUInt32 &&& Int32.toUInt32 31)).toInt32) &&& 255)] ++ List.replicate 391 0) rfl ?_
    refine Ar.hp (en_sdS (by decide) en_sd0) ?_
    refine r_aload_n rfl ?_
    refine r_dup rfl ?_
    refine r_get (v := .int 8) (en_gs_eq (en_gs_ne (by decide) hx_174)) rfl ?_
    refine r_iconst 1 rfl ?_
    refine r_iadd 9 rfl ?_
    refine r_putf (en_gs_eq (en_gs_ne (by decide) hx_174)) (Nat.le_of_ble_eq_true rfl) rfl [.ref 175, .int 9] rfl ?_
    refine Ar.hp en_sd0 ?_
    refine r_iinc rfl 16 rfl ([(2, .int 16), (0, .ref 174), (1, .int a3)]) rfl ?_
    refine r_goto ?_
    refine At.enter rfl ?_
    refine r_iload_n rfl ?_
    refine r_iff 7 rfl (by decide) ?_
    refine At.enter rfl ?_
    refine r_aload_n rfl ?_
    refine r_get (v := .int 9) (en_gs_eq (en_gs_ne (by decide) hx_174)) rfl ?_
    refine r_sipush 400 rfl ?_
    refine r_icf 17 rfl (by decide) ?_
    refine At.enter rfl ?_
    refine r_aload_n rfl ?_
    refine r_get (v := .ref 175) (en_gs_eq (en_gs_ne (by decide) hx_174)) rfl ?_
    refine r_aload_n rfl ?_
    refine r_get (v := .int 9) (en_gs_eq (en_gs_ne (by decide) hx_174)) rfl ?_
    refine r_iload_n rfl ?_
    refine r_iload_n rfl ?_
    refine r_iushr (((a3).toUInt32 >>> ((16 : Int32).toUInt32 &&& Int32.toUInt32 31)).toInt32) rfl ?_
    refine r_sipush 255 rfl ?_
    refine r_iand ((((a3).toUInt32 >>> ((16 : Int32).toUInt32 &&& Int32.toUInt32 31)).toInt32) &&& 255) rfl ?_
    refine r_iast (en_gs_ne (by decide) (en_gs_eq hx_175)) (by decide) (Nat.le_of_ble_eq_true rfl) ([((((a1).toUInt32 >>> ((24 : Int32).toUInt32 &&& Int32.toUInt32 31)).toInt32) &&& 255), ((((a1).toUInt32 >>> ((16 : Int32).toUInt32 &&& Int32.toUInt32 31)).toInt32) &&& 255), ((((a1).toUInt32 >>> ((8 : Int32).toUInt32 &&& Int32.toUInt32 31)).toInt32) &&& 255), ((((a1).toUInt32 >>> ((0 : Int32).toUInt32 &&& Int32.toUInt32 31)).toInt32) &&& 255), ((((a2).toUInt32 >>> ((24 : Int32).toUInt32 &&& Int32.toUInt32 31)).toInt32) &&& 255), ((((a2).toUInt32 >>> ((16 : Int32).toUInt32 &&& Int32.toUInt32 31)).toInt32) &&& 255), ((((a2).toUInt32 >>> ((8 : Int32).toUInt32 &&& Int32.toUInt32 31)).toInt32) &&& 255), ((((a2).toUInt32 >>> ((0 : Int32).toUInt32 &&& Int32.toUInt32 31)).toInt32) &&& 255), ((((a3).toUInt32 >>> ((24 : Int32).toUInt32 &&& Int32.toUInt32 31)).toInt32) &&& 255), ((((a3).toUInt32 >>> ((16 : Int32).toUInt32 &&& Int32.toUInt32 31)).toInt32) &&& 255)] ++ List.replicate 390 0) rfl ?_
    refine Ar.hp (en_sdS (by decide) en_sd0) ?_
    refine r_aload_n rfl ?_
    refine r_dup rfl ?_
    refine r_get (v := .int 9) (en_gs_eq (en_gs_ne (by decide) hx_174)) rfl ?_
    refine r_iconst 1 rfl ?_
    refine r_iadd 10 rfl ?_
    refine r_putf (en_gs_eq (en_gs_ne (by decide) hx_174)) (Nat.le_of_ble_eq_true rfl) rfl [.ref 175, .int 10] rfl ?_
    refine Ar.hp en_sd0 ?_
    refine r_iinc rfl 8 rfl ([(2, .int 8), (0, .ref 174), (1, .int a3)]) rfl ?_
    refine r_goto ?_
    refine At.enter rfl ?_
    refine r_iload_n rfl ?_
    refine r_iff 7 rfl (by decide) ?_
    refine At.enter rfl ?_
    refine r_aload_n rfl ?_
    refine r_get (v := .int 10) (en_gs_eq (en_gs_ne (by decide) hx_174)) rfl ?_
    refine r_sipush 400 rfl ?_
    refine r_icf 17 rfl (by decide) ?_
    refine At.enter rfl ?_
    refine r_aload_n rfl ?_
    refine r_get (v := .ref 175) (en_gs_eq (en_gs_ne (by decide) hx_174)) rfl ?_
    refine r_aload_n rfl ?_
    refine r_get (v := .int 10) (en_gs_eq (en_gs_ne (by decide) hx_174)) rfl ?_
    refine r_iload_n rfl ?_
    refine r_iload_n rfl ?_
    refine r_iushr (((a3).toUInt32 >>> ((8 : Int32).toUInt32 &&& Int32.toUInt32 31)).toInt32) rfl ?_
    refine r_sipush 255 rfl ?_
    refine r_iand ((((a3).toUInt32 >>> ((8 : Int32).toUInt32 &&& Int32.toUInt32 31)).toInt32) &&& 255) rfl ?_
    refine r_iast (en_gs_ne (by decide) (en_gs_eq hx_175)) (by decide) (Nat.le_of_ble_eq_true rfl) ([((((a1).toUInt32 >>> ((24 : Int32).toUInt32 &&& Int32.toUInt32 31)).toInt32) &&& 255), ((((a1).toUInt32 >>> ((16 : Int32).toUInt32 &&& Int32.toUInt32 31)).toInt32) &&& 255), ((((a1).toUInt32 >>> ((8 : Int32).toUInt32 &&& Int32.toUInt32 31)).toInt32) &&& 255), ((((a1).toUInt32 >>> ((0 : Int32).toUInt32 &&& Int32.toUInt32 31)).toInt32) &&& 255), ((((a2).toUInt32 >>> ((24 : Int32).toUInt32 &&& Int32.toUInt32 31)).toInt32) &&& 255), ((((a2).toUInt32 >>> ((16 : Int32).toUInt32 &&& Int32.toUInt32 31)).toInt32) &&& 255), ((((a2).toUInt32 >>> ((8 : Int32).toUInt32 &&& Int32.toUInt32 31)).toInt32) &&& 255), ((((a2).toUInt32 >>> ((0 : Int32).toUInt32 &&& Int32.toUInt32 31)).toInt32) &&& 255), ((((a3).toUInt32 >>> ((24 : Int32).toUInt32 &&& Int32.toUInt32 31)).toInt32) &&& 255), ((((a3).toUInt32 >>> ((16 : Int32).toUInt32 &&& Int32.toUInt32 31)).toInt32) &&& 255), ((((a3).toUInt32 >>> ((8 : Int32).toUInt32 &&& Int32.toUInt32 31)).toInt32) &&& 255)] ++ List.replicate 389 0) rfl ?_
    refine Ar.hp (en_sdS (by decide) en_sd0) ?_
    refine r_aload_n rfl ?_
    refine r_dup rfl ?_
    refine r_get (v := .int 10) (en_gs_eq (en_gs_ne (by decide) hx_174)) rfl ?_
    refine r_iconst 1 rfl ?_
    refine r_iadd 11 rfl ?_
    refine r_putf (en_gs_eq (en_gs_ne (by decide) hx_174)) (Nat.le_of_ble_eq_true rfl) rfl [.ref 175, .int 11] rfl ?_
    refine Ar.hp en_sd0 ?_
    refine r_iinc rfl 0 rfl ([(2, .int 0), (0, .ref 174), (1, .int a3)]) rfl ?_
    refine r_goto ?_
    refine At.enter rfl ?_
    refine r_iload_n rfl ?_
    refine r_iff 7 rfl (by decide) ?_
    refine At.enter rfl ?_
    refine r_aload_n rfl ?_
    refine r_get (v := .int 11) (en_gs_eq (en_gs_ne (by decide) hx_174)) rfl ?_
    refine r_sipush 400 rfl ?_
    refine r_icf 17 rfl (by decide) ?_
    refine At.enter rfl ?_
    refine r_aload_n rfl ?_
    refine r_get (v := .ref 175) (en_gs_eq (en_gs_ne (by decide) hx_174)) rfl ?_
    refine r_aload_n rfl ?_
    refine r_get (v := .int 11) (en_gs_eq (en_gs_ne (by decide) hx_174)) rfl ?_
    refine r_iload_n rfl ?_
    refine r_iload_n rfl ?_
    refine r_iushr (((a3).toUInt32 >>> ((0 : Int32).toUInt32 &&& Int32.toUInt32 31)).toInt32) rfl ?_
    refine r_sipush 255 rfl ?_
    refine r_iand ((((a3).toUInt32 >>> ((0 : Int32).toUInt32 &&& Int32.toUInt32 31)).toInt32) &&& 255) rfl ?_
    refine r_iast (en_gs_ne (by decide) (en_gs_eq hx_175)) (by decide) (Nat.le_of_ble_eq_true rfl) ([((((a1).toUInt32 >>> ((24 : Int32).toUInt32 &&& Int32.toUInt32 31)).toInt32) &&& 255), ((((a1).toUInt32 >>> ((16 : Int32).toUInt32 &&& Int32.toUInt32 31)).toInt32) &&& 255), ((((a1).toUInt32 >>> ((8 : Int32).toUInt32 &&& Int32.toUInt32 31)).toInt32) &&& 255), ((((a1).toUInt32 >>> ((0 : Int32).toUInt32 &&& Int32.toUInt32 31)).toInt32) &&& 255), ((((a2).toUInt32 >>> ((24 : Int32).toUInt32 &&& Int32.toUInt32 31)).toInt32) &&& 255), ((((a2).toUInt32 >>> ((16 : Int32).toUInt32 &&& Int32.toUInt32 31)).toInt32) &&& 255), ((((a2).toUInt32 >>> ((8 : Int32).toUInt32 &&& Int32.toUInt32 31)).toInt32) &&& 255), ((((a2).toUInt32 >>> ((0 : Int32).toUInt32 &&& Int32.toUInt32 31)).toInt32) &&& 255), ((((a3).toUInt32 >>> ((24 : Int32).toUInt32 &&& Int32.toUInt32 31)).toInt32) &&& 255), ((((a3).toUInt32 >>> ((16 : Int32).toUInt32 &&& Int32.toUInt32 31)).toInt32) &&& 255), ((((a3).toUInt32 >>> ((8 : Int32).toUInt32 &&& Int32.toUInt32 31)).toInt32) &&& 255), ((((a3).toUInt32 >>> ((0 : Int32).toUInt32 &&& Int32.toUInt32 31)).toInt32) &&& 255)] ++ List.replicate 388 0) rfl ?_
    refine Ar.hp (en_sdS (by decide) en_sd0) ?_
    refine r_aload_n rfl ?_
    refine r_dup rfl ?_
    refine r_get (v := .int 11) (en_gs_eq (en_gs_ne (by decide) hx_174)) rfl ?_
    refine r_iconst 1 rfl ?_
    refine r_iadd 12 rfl ?_
    refine r_putf (en_gs_eq (en_gs_ne (by decide) hx_174)) (Nat.le_of_ble_eq_true rfl) rfl [.ref 175, .int 12] rfl ?_
    refine Ar.hp en_sd0 ?_
    refine r_iinc rfl (-8) rfl ([(2, .int (-8)), (0, .ref 174), (1, .int a3)]) rfl ?_
    refine r_goto ?_
    refine At.enter rfl ?_
    refine r_iload_n rfl ?_
    refine r_ift (by decide) ?_
    refine At.enter rfl ?_
    refine r_vret ?_
    exact ⟨trivial, rfl, rfl⟩
  refine At.enter rfl ?_
  refine r_aload_n rfl ?_
  refine r_get (v := .ref 174) (en_gs_ne (by decide) (en_gs_ne (by decide) hx_0)) rfl ?_
  refine r_iload rfl ?_
  refine r_callV1v (True)  (((hp_X ++ hp_M).set 175 (.inl (0, .inl ([((((a1).toUInt32 >>> ((24 : Int32).toUInt32 &&& Int32.toUInt32 31)).toInt32) &&& 255), ((((a1).toUInt32 >>> ((16 : Int32).toUInt32 &&& Int32.toUInt32 31)).toInt32) &&& 255), ((((a1).toUInt32 >>> ((8 : Int32).toUInt32 &&& Int32.toUInt32 31)).toInt32) &&& 255), ((((a1).toUInt32 >>> ((0 : Int32).toUInt32 &&& Int32.toUInt32 31)).toInt32) &&& 255), ((((a2).toUInt32 >>> ((24 : Int32).toUInt32 &&& Int32.toUInt32 31)).toInt32) &&& 255), ((((a2).toUInt32 >>> ((16 : Int32).toUInt32 &&& Int32.toUInt32 31)).toInt32) &&& 255), ((((a2).toUInt32 >>> ((8 : Int32).toUInt32 &&& Int32.toUInt32 31)).toInt32) &&& 255), ((((a2).toUInt32 >>> ((0 : Int32).toUInt32 &&& Int32.toUInt32 31)).toInt32) &&& 255), ((((a3).toUInt32 >>> ((24 : Int32).toUInt32 &&& Int32.toUInt32 31)).toInt32) &&& 255), ((((a3).toUInt32 >>> ((16 : Int32).toUInt32 &&& Int32.toUInt32 31)).toInt32) &&& 255), ((((a3).toUInt32 >>> ((8 : Int32).toUInt32 &&& Int32.toUInt32 31)).toInt32) &&& 255), ((((a3).toUInt32 >>> ((0 : Int32).toUInt32 &&& Int32.toUInt32 31)).toInt32) &&& 255), ((((a4).toUInt32 >>> ((24 : Int32).toUInt32 &&& Int32.toUInt32 31)).toInt32) &&& 255), ((((a4).toUInt32 >>> ((16 : Int32).toUInt32 &&& Int32.toUInt32 31)).toInt32) &&& 255), ((((a4).toUInt32 >>> ((8 : Int32).toUInt32 &&& Int32.toUInt32 31)).toInt32) &&& 255), ((((a4).toUInt32 >>> ((0 : Int32).toUInt32 &&& Int32.toUInt32 31)).toInt32) &&& 255)] ++ List.replicate 384 0)))).set 174 (.inr (8, [.ref 175, .int 16])), n) 51 rfl [.ref 174, .int a4] [] (Nat.le_of_ble_eq_true rfl) rfl ?_ (fun _ => ?_)
  · refine Ev.mk rfl rfl ⟨Nat.le_of_ble_eq_true rfl, Or.inr (en_rcI (en_gs_eq (en_gs_ne (by decide) hx_174)) rfl)⟩ ?_
    show At _ none _ _ (0, [(0, .ref 174), (1, .int a4)], [], (((hp_X ++ hp_M).set 175 (.inl (0, .inl ([((((a1).toUInt32 >>> ((24 : Int32).toUInt32 &&& Int32.toUInt32 31)).toInt32) &&& 255), ((((a1).toUInt32 >>> ((16 : Int32).toUInt32 &&& Int32.toUInt32 31)).toInt32) &&& 255), ((((a1).toUInt32 >>> ((8 : Int32).toUInt32 &&& Int32.toUInt32 31)).toInt32) &&& 255), ((((a1).toUInt32 >>> ((0 : Int32).toUInt32 &&& Int32.toUInt32 31)).toInt32) &&& 255), ((((a2).toUInt32 >>> ((24 : Int32).toUInt32 &&& Int32.toUInt32 31)).toInt32) &&& 255), ((((a2).toUInt32 >>> ((16 : Int32).toUInt32 &&& Int32.toUInt32 31)).toInt32) &&& 255), ((((a2).toUInt32 >>> ((8 : Int32).toUInt32 &&& Int32.toUInt32 31)).toInt32) &&& 255), ((((a2).toUInt32 >>> ((0 : Int32).toUInt32 &&& Int32.toUInt32 31)).toInt32) &&& 255), ((((a3).toUInt32 >>> ((24 : Int32).toUInt32 &&& Int32.toUInt32 31)).toInt32) &&& 255), ((((a3).toUInt32 >>> ((16 : Int32).toUInt32 &&& Int32.toUInt32 31)).toInt32) &&& 255), ((((a3).toUInt32 >>> ((8 : Int32).toUInt32 &&& Int32.toUInt32 31)).toInt32) &&& 255), ((((a3).toUInt32 >>> ((0 : Int32).toUInt32 &&& Int32.toUInt32 31)).toInt32) &&& 255)] ++ List.replicate 388 0)))).set 174 (.inr (8, [.ref 175, .int 12])), n)) _
    refine At.enter rfl ?_
    refine r_bipush 24 rfl ?_
    refine r_istore_n ([(2, .int 24), (0, .ref 174), (1, .int a4)]) rfl ?_
    refine Ar.fall 3 rfl ?_
    refine At.enter rfl ?_
    refine r_iload_n rfl ?_
    refine r_iff 7 rfl (by decide) ?_
    refine At.enter rfl ?_
    refine r_aload_n rfl ?_
    refine r_get (v := .int 12) (en_gs_eq (en_gs_ne (by decide) hx_174)) rfl ?_
    refine r_sipush 400 rfl ?_
    refine r_icf 17 rfl (by decide) ?_
    refine At.enter rfl ?_
    refine r_aload_n rfl ?_
    refine r_get (v := .ref 175) (en_gs_eq (en_gs_ne (by decide) hx_174)) rfl ?_
    refine r_aload_n rfl ?_
    refine r_get (v := .int 12) (en_gs_eq (en_gs_ne (by decide) hx_174)) rfl ?_
    refine r_iload_n rfl ?_
    refine r_iload_n rfl ?_
    refine r_iushr (((a4).toUInt32 >>> ((24 : Int32).toUInt32 &&& Int32.toUInt32 31)).toInt32) rfl ?_
    refine r_sipush 255 rfl ?_
    refine r_iand ((((a4).toUInt32 >>> ((24 : Int32).toUInt32 &&& Int32.toUInt32 31)).toInt32) &&& 255) rfl ?_
    refine r_iast (en_gs_ne (by decide) (en_gs_eq hx_175)) (by decide) (Nat.le_of_ble_eq_true rfl) ([((((a1).toUInt32 >>> ((24 : Int32).toUInt32 &&& Int32.toUInt32 31)).toInt32) &&& 255), ((((a1).toUInt32 >>> ((16 : Int32).toUInt32 &&& Int32.toUInt32 31)).toInt32) &&& 255), ((((a1).toUInt32 >>> ((8 : Int32).toUInt32 &&& Int32.toUInt32 31)).toInt32) &&& 255), ((((a1).toUInt32 >>> ((0 : Int32).toUInt32 &&& Int32.toUInt32 31)).toInt32) &&& 255), ((((a2).toUInt32 >>> ((24 : Int32).toUInt32 &&& Int32.toUInt32 31)).toInt32) &&& 255), ((((a2).toUInt32 >>> ((16 : Int32).toUInt32 &&& Int32.toUInt32 31)).toInt32) &&& 255), ((((a2).toUInt32 >>> ((8 : Int32).toUInt32 &&& Int32.toUInt32 31)).toInt32) &&& 255), ((((a2).toUInt32 >>> ((0 : Int32).toUInt32 &&& Int32.toUInt32 31)).toInt32) &&& 255), ((((a3).toUInt32 >>> ((24 : Int32).toUInt32 &&& Int32.toUInt32 31)).toInt32) &&& 255), ((((a3).toUInt32 >>> ((16 : Int32).toUInt32 &&& Int32.toUInt32 31)).toInt32) &&& 255), ((((a3).toUInt32 >>> ((8 : Int32).toUInt32 &&& Int32.toUInt32 31)).toInt32) &&& 255), ((((a3).toUInt32 >>> ((0 : Int32).toUInt32 &&& Int32.toUInt32 31)).toInt32) &&& 255), ((((a4).toUInt32 >>> ((24 : Int32).toUInt32 &&& Int32.toUInt32 31)).toInt32) &&& 255)] ++ List.replicate 387 0) rfl ?_
    refine Ar.hp (en_sdS (by decide) en_sd0) ?_
    refine r_aload_n rfl ?_
    refine r_dup rfl ?_
    refine r_get (v := .int 12) (en_gs_eq (en_gs_ne (by decide) hx_174)) rfl ?_
    refine r_iconst 1 rfl ?_
    refine r_iadd 13 rfl ?_
    refine r_putf (en_gs_eq (en_gs_ne (by decide) hx_174)) (Nat.le_of_ble_eq_true rfl) rfl [.ref 175, .int 13] rfl ?_
    refine Ar.hp en_sd0 ?_
    refine r_iinc rfl 16 rfl ([(2, .int 16), (0, .ref 174), (1, .int a4)]) rfl ?_
    refine r_goto ?_
    refine At.enter rfl ?_
    refine r_iload_n rfl ?_
    refine r_iff 7 rfl (by decide) ?_
    refine At.enter rfl ?_
    refine r_aload_n rfl ?_
    refine r_get (v := .int 13) (en_gs_eq (en_gs_ne (by decide) hx_174)) rfl ?_
    refine r_sipush 400 rfl ?_
    refine r_icf 17 rfl (by decide) ?_
    refine At.enter rfl ?_
    refine r_aload_n rfl ?_
    refine r_get (v := .ref 175) (en_gs_eq (en_gs_ne (by decide) hx_174)) rfl ?_
    refine r_aload_n rfl ?_
    refine r_get (v := .int 13) (en_gs_eq (en_gs_ne (by decide) hx_174)) rfl ?_
    refine r_iload_n rfl ?_
    refine r_iload_n rfl ?_
    refine r_iushr (((a4).toUInt32 >>> ((16 : Int32).toUInt32 &&& Int32.toUInt32 31)).toInt32) rfl ?_
    refine r_sipush 255 rfl ?_
    refine r_iand ((((a4).toUInt32 >>> ((16 : Int32).toUInt32 &&& Int32.toUInt32 31)).toInt32) &&& 255) rfl ?_
    refine r_iast (en_gs_ne (by decide) (en_gs_eq hx_175)) (by decide) (Nat.le_of_ble_eq_true rfl) ([((((a1).toUInt32 >>> ((24 : Int32).toUInt32 &&& Int32.toUInt32 31)).toInt32) &&& 255), ((((a1).toUInt32 >>> ((16 : Int32).toUInt32 &&& Int32.toUInt32 31)).toInt32) &&& 255), ((((a1).toUInt32 >>> ((8 : Int32).toUInt32 &&& Int32.toUInt32 31)).toInt32) &&& 255), ((((a1).toUInt32 >>> ((0 : Int32).toUInt32 &&& Int32.toUInt32 31)).toInt32) &&& 255), ((((a2).toUInt32 >>> ((24 : Int32).toUInt32 &&& Int32.toUInt32 31)).toInt32) &&& 255), ((((a2).toUInt32 >>> ((16 : Int32).toUInt32 &&& Int32.toUInt32 31)).toInt32) &&& 255), ((((a2).toUInt32 >>> ((8 : Int32).toUInt32 &&& Int32.toUInt32 31)).toInt32) &&& 255), ((((a2).toUInt32 >>> ((0 : Int32).toUInt32 &&& Int32.toUInt32 31)).toInt32) &&& 255), ((((a3).toUInt32 >>> ((24 : Int32).toUInt32 &&& Int32.toUInt32 31)).toInt32) &&& 255), ((((a3).toUInt32 >>> ((16 : Int32).toUInt32 &&& Int32.toUInt32 31)).toInt32) &&& 255), ((((a3).toUInt32 >>> ((8 : Int32).toUInt32 &&& Int32.toUInt32 31)).toInt32) &&& 255), ((((a3).toUInt32 >>> ((0 : Int32).toUInt32 &&& Int32.toUInt32 31)).toInt32) &&& 255), ((((a4).toUInt32 >>> ((24 : Int32).toUInt32 &&& Int32.toUInt32 31)).toInt32) &&& 255), ((((a4).toUInt32 >>> ((16 : Int32).toUInt32 &&& Int32.toUInt32 31)).toInt32) &&& 255)] ++ List.replicate 386 0) rfl ?_
    refine Ar.hp (en_sdS (by decide) en_sd0) ?_
    refine r_aload_n rfl ?_
    refine r_dup rfl ?_
    refine r_get (v := .int 13) (en_gs_eq (en_gs_ne (by decide) hx_174)) rfl ?_
    refine r_iconst 1 rfl ?_
    refine r_iadd 14 rfl ?_
    refine r_putf (en_gs_eq (en_gs_ne (by decide) hx_174)) (Nat.le_of_ble_eq_true rfl) rfl [.ref 175, .int 14] rfl ?_
    refine Ar.hp en_sd0 ?_
    refine r_iinc rfl 8 rfl ([(2, .int 8), (0, .ref 174), (1, .int a4)]) rfl ?_
    refine r_goto ?_
    refine At.enter rfl ?_
    refine r_iload_n rfl ?_
    refine r_iff 7 rfl (by decide) ?_
    refine At.enter rfl ?_
    refine r_aload_n rfl ?_
    refine r_get (v := .int 14) (en_gs_eq (en_gs_ne (by decide) hx_174)) rfl ?_
    refine r_sipush 400 rfl ?_
    refine r_icf 17 rfl (by decide) ?_
    refine At.enter rfl ?_
    refine r_aload_n rfl ?_
    refine r_get (v := .ref 175) (en_gs_eq (en_gs_ne (by decide) hx_174)) rfl ?_
    refine r_aload_n rfl ?_
    refine r_get (v := .int 14) (en_gs_eq (en_gs_ne (by decide) hx_174)) rfl ?_
    refine r_iload_n rfl ?_
    refine r_iload_n rfl ?_
    refine r_iushr (((a4).toUInt32 >>> ((8 : Int32).toUInt32 &&& Int32.toUInt32 31)).toInt32) rfl ?_
    refine r_sipush 255 rfl ?_
    refine r_iand ((((a4).toUInt32 >>> ((8 : Int32).toUInt32 &&& Int32.toUInt32 31)).toInt32) &&& 255) rfl ?_
    refine r_iast (en_gs_ne (by decide) (en_gs_eq hx_175)) (by decide) (Nat.le_of_ble_eq_true rfl) ([((((a1).toUInt32 >>> ((24 : Int32).toUInt32 &&& Int32.toUInt32 31)).toInt32) &&& 255), ((((a1).toUInt32 >>> ((16 : Int32).toUInt32 &&& Int32.toUInt32 31)).toInt32) &&& 255), ((((a1).toUInt32 >>> ((8 : Int32).toUInt32 &&& Int32.toUInt32 31)).toInt32) &&& 255), ((((a1).toUInt32 >>> ((0 : Int32).toUInt32 &&& Int32.toUInt32 31)).toInt32) &&& 255), ((((a2).toUInt32 >>> ((24 : Int32).toUInt32 &&& Int32.toUInt32 31)).toInt32) &&& 255), ((((a2).toUInt32 >>> ((16 : Int32).toUInt32 &&& Int32.toUInt32 31)).toInt32) &&& 255), ((((a2).toUInt32 >>> ((8 : Int32).toUInt32 &&& Int32.toUInt32 31)).toInt32) &&& 255), ((((a2).toUInt32 >>> ((0 : Int32).toUInt32 &&& Int32.toUInt32 31)).toInt32) &&& 255), ((((a3).toUInt32 >>> ((24 : Int32).toUInt32 &&& Int32.toUInt32 31)).toInt32) &&& 255), ((((a3).toUInt32 >>> ((16 : Int32).toUInt32 &&& Int32.toUInt32 31)).toInt32) &&& 255), ((((a3).toUInt32 >>> ((8 : Int32).toUInt32 &&& Int32.toUInt32 31)).toInt32) &&& 255), ((((a3).toUInt32 >>> ((0 : Int32).toUInt32 &&& Int32.toUInt32 31)).toInt32) &&& 255), ((((a4).toUInt32 >>> ((24 : Int32).toUInt32 &&& Int32.toUInt32 31)).toInt32) &&& 255), ((((a4).toUInt32 >>> ((16 : Int32).toUInt32 &&& Int32.toUInt32 31)).toInt32) &&& 255), ((((a4).toUInt32 >>> ((8 : Int32).toUInt32 &&& Int32.toUInt32 31)).toInt32) &&& 255)] ++ List.replicate 385 0) rfl ?_
    refine Ar.hp (en_sdS (by decide) en_sd0) ?_
    refine r_aload_n rfl ?_
    refine r_dup rfl ?_
    refine r_get (v := .int 14) (en_gs_eq (en_gs_ne (by decide) hx_174)) rfl ?_
    refine r_iconst 1 rfl ?_
    refine r_iadd 15 rfl ?_
    refine r_putf (en_gs_eq (en_gs_ne (by decide) hx_174)) (Nat.le_of_ble_eq_true rfl) rfl [.ref 175, .int 15] rfl ?_
    refine Ar.hp en_sd0 ?_
    refine r_iinc rfl 0 rfl ([(2, .int 0), (0, .ref 174), (1, .int a4)]) rfl ?_
    refine r_goto ?_
    refine At.enter rfl ?_
    refine r_iload_n rfl ?_
    refine r_iff 7 rfl (by decide) ?_
    refine At.enter rfl ?_
    refine r_aload_n rfl ?_
    refine r_get (v := .int 15) (en_gs_eq (en_gs_ne (by decide) hx_174)) rfl ?_
    refine r_sipush 400 rfl ?_
    refine r_icf 17 rfl (by decide) ?_
    refine At.enter rfl ?_
    refine r_aload_n rfl ?_
    refine r_get (v := .ref 175) (en_gs_eq (en_gs_ne (by decide) hx_174)) rfl ?_
    refine r_aload_n rfl ?_
    refine r_get (v := .int 15) (en_gs_eq (en_gs_ne (by decide) hx_174)) rfl ?_
    refine r_iload_n rfl ?_
    refine r_iload_n rfl ?_
    refine r_iushr (((a4).toUInt32 >>> ((0 : Int32).toUInt32 &&& Int32.toUInt32 31)).toInt32) rfl ?_
    refine r_sipush 255 rfl ?_
    refine r_iand ((((a4).toUInt32 >>> ((0 : Int32).toUInt32 &&& Int32.toUInt32 31)).toInt32) &&& 255) rfl ?_
    refine r_iast (en_gs_ne (by decide) (en_gs_eq hx_175)) (by decide) (Nat.le_of_ble_eq_true rfl) ([((((a1).toUInt32 >>> ((24 : Int32).toUInt32 &&& Int32.toUInt32 31)).toInt32) &&& 255), ((((a1).toUInt32 >>> ((16 : Int32).toUInt32 &&& Int32.toUInt32 31)).toInt32) &&& 255), ((((a1).toUInt32 >>> ((8 : Int32).toUInt32 &&& Int32.toUInt32 31)).toInt32) &&& 255), ((((a1).toUInt32 >>> ((0 : Int32).toUInt32 &&& Int32.toUInt32 31)).toInt32) &&& 255), ((((a2).toUInt32 >>> ((24 : Int32).toUInt32 &&& Int32.toUInt32 31)).toInt32) &&& 255), ((((a2).toUInt32 >>> ((16 : Int32).toUInt32 &&& Int32.toUInt32 31)).toInt32) &&& 255), ((((a2).toUInt32 >>> ((8 : Int32).toUInt32 &&& Int32.toUInt32 31)).toInt32) &&& 255), ((((a2).toUInt32 >>> ((0 : Int32).toUInt32 &&& Int32.toUInt32 31)).toInt32) &&& 255), ((((a3).toUInt32 >>> ((24 : Int32).toUInt32 &&& Int32.toUInt32 31)).toInt32) &&& 255), ((((a3).toUInt32 >>> ((16 : Int32).toUInt32 &&& Int32.toUInt32 31)).toInt32) &&& 255), ((((a3).toUInt32 >>> ((8 : Int32).toUInt32 &&& Int32.toUInt32 31)).toInt32) &&& 255), ((((a3).toUInt32 >>> ((0 : Int32).toUInt32 &&& Int32.toUInt32 31)).toInt32) &&& 255), ((((a4).toUInt32 >>> ((24 : Int32).toUInt32 &&& Int32.toUInt32 31)).toInt32) &&& 255), ((((a4).toUInt32 >>> ((16 : Int32).toUInt32 &&& Int32.toUInt32 31)).toInt32) &&& 255), ((((a4).toUInt32 >>> ((8 : Int32).toUInt32 &&& Int32.toUInt32 31)).toInt32) &&& 255), ((((a4).toUInt32 >>> ((0 : Int32).toUInt32 &&& Int32.toUInt32 31)).toInt32) &&& 255)] ++ List.replicate 384 0) rfl ?_
    refine Ar.hp (en_sdS (by decide) en_sd0) ?_
    refine r_aload_n rfl ?_
    refine r_dup rfl ?_
    refine r_get (v := .int 15) (en_gs_eq (en_gs_ne (by decide) hx_174)) rfl ?_
    refine r_iconst 1 rfl ?_
    refine r_iadd 16 rfl ?_
    refine r_putf (en_gs_eq (en_gs_ne (by decide) hx_174)) (Nat.le_of_ble_eq_true rfl) rfl [.ref 175, .int 16] rfl ?_
    refine Ar.hp en_sd0 ?_
    refine r_iinc rfl (-8) rfl ([(2, .int (-8)), (0, .ref 174), (1, .int a4)]) rfl ?_
    refine r_goto ?_
    refine At.enter rfl ?_
    refine r_iload_n rfl ?_
    refine r_ift (by decide) ?_
    refine At.enter rfl ?_
    refine r_vret ?_
    exact ⟨trivial, rfl, rfl⟩
  refine At.enter rfl ?_
  refine r_aload_n rfl ?_
  refine r_get (v := .ref 174) (en_gs_ne (by decide) (en_gs_ne (by decide) hx_0)) rfl ?_
  refine r_iload rfl ?_
  refine r_callV1v (True)  (((hp_X ++ hp_M).set 175 (.inl (0, .inl ([((((a1).toUInt32 >>> ((24 : Int32).toUInt32 &&& Int32.toUInt32 31)).toInt32) &&& 255), ((((a1).toUInt32 >>> ((16 : Int32).toUInt32 &&& Int32.toUInt32 31)).toInt32) &&& 255), ((((a1).toUInt32 >>> ((8 : Int32).toUInt32 &&& Int32.toUInt32 31)).toInt32) &&& 255), ((((a1).toUInt32 >>> ((0 : Int32).toUInt32 &&& Int32.toUInt32 31)).toInt32) &&& 255), ((((a2).toUInt32 >>> ((24 : Int32).toUInt32 &&& Int32.toUInt32 31)).toInt32) &&& 255), ((((a2).toUInt32 >>> ((16 : Int32).toUInt32 &&& Int32.toUInt32 31)).toInt32) &&& 255), ((((a2).toUInt32 >>> ((8 : Int32).toUInt32 &&& Int32.toUInt32 31)).toInt32) &&& 255), ((((a2).toUInt32 >>> ((0 : Int32).toUInt32 &&& Int32.toUInt32 31)).toInt32) &&& 255), ((((a3).toUInt32 >>> ((24 : Int32).toUInt32 &&& Int32.toUInt32 31)).toInt32) &&& 255), ((((a3).toUInt32 >>> ((16 : Int32).toUInt32 &&& Int32.toUInt32 31)).toInt32) &&& 255), ((((a3).toUInt32 >>> ((8 : Int32).toUInt32 &&& Int32.toUInt32 31)).toInt32) &&& 255), ((((a3).toUInt32 >>> ((0 : Int32).toUInt32 &&& Int32.toUInt32 31)).toInt32) &&& 255), ((((a4).toUInt32 >>> ((24 : Int32).toUInt32 &&& Int32.toUInt32 31)).toInt32) &&& 255), ((((a4).toUInt32 >>> ((16 : Int32).toUInt32 &&& Int32.toUInt32 31)).toInt32) &&& 255), ((((a4).toUInt32 >>> ((8 : Int32).toUInt32 &&& Int32.toUInt32 31)).toInt32) &&& 255), ((((a4).toUInt32 >>> ((0 : Int32).toUInt32 &&& Int32.toUInt32 31)).toInt32) &&& 255), ((((a5).toUInt32 >>> ((24 : Int32).toUInt32 &&& Int32.toUInt32 31)).toInt32) &&& 255), ((((a5).toUInt32 >>> ((16 : Int32).toUInt32 &&& Int32.toUInt32 31)).toInt32) &&& 255), ((((a5).toUInt32 >>> ((8 : Int32).toUInt32 &&& Int32.toUInt32 31)).toInt32) &&& 255), ((((a5).toUInt32 >>> ((0 : Int32).toUInt32 &&& Int32.toUInt32 31)).toInt32) &&& 255)] ++ List.replicate 380 0)))).set 174 (.inr (8, [.ref 175, .int 20])), n) 60 rfl [.ref 174, .int a5] [] (Nat.le_of_ble_eq_true rfl) rfl ?_ (fun _ => ?_)
  · refine Ev.mk rfl rfl ⟨Nat.le_of_ble_eq_true rfl, Or.inr (en_rcI (en_gs_eq (en_gs_ne (by decide) hx_174)) rfl)⟩ ?_
    show At _ none _ _ (0, [(0, .ref 174), (1, .int a5)], [], (((hp_X ++ hp_M).set 175 (.inl (0, .inl ([((((a1).toUInt32 >>> ((24 : Int32).toUInt32 &&& Int32.toUInt32 31)).toInt32) &&& 255), ((((a1).toUInt32 >>> ((16 : Int32).toUInt32 &&& Int32.toUInt32 31)).toInt32) &&& 255), ((((a1).toUInt32 >>> ((8 : Int32).toUInt32 &&& Int32.toUInt32 31)).toInt32) &&& 255), ((((a1).toUInt32 >>> ((0 : Int32).toUInt32 &&& Int32.toUInt32 31)).toInt32) &&& 255), ((((a2).toUInt32 >>> ((24 : Int32).toUInt32 &&& Int32.toUInt32 31)).toInt32) &&& 255), ((((a2).toUInt32 >>> ((16 : Int32).toUInt32 &&& Int32.toUInt32 31)).toInt32) &&& 255), ((((a2).toUInt32 >>> ((8 : Int32).toUInt32 &&& Int32.toUInt32 31)).toInt32) &&& 255), ((((a2).toUInt32 >>> ((0 : Int32).toUInt32 &&& Int32.toUInt32 31)).toInt32) &&& 255), ((((a3).toUInt32 >>> ((24 : Int32).toUInt32 &&& Int32.toUInt32 31)).toInt32) &&& 255), ((((a3).toUInt32 >>> ((16 : Int32).toUInt32 &&& Int32.toUInt32 31)).toInt32) &&& 255), ((((a3).toUInt32 >>> ((8 : Int32).toUInt32 &&& Int32.toUInt32 31)).toInt32) &&& 255), ((((a3).toUInt32 >>> ((0 : Int32).toUInt32 &&& Int32.toUInt32 31)).toInt32) &&& 255), ((((a4).toUInt32 >>> ((24 : Int32).toUInt32 &&& Int32.toUInt32 31)).toInt32) &&& 255), ((((a4).toUInt32 >>> ((16 : Int32).toUInt32 &&& Int32.toUInt32 31)).toInt32) &&& 255), ((((a4).toUInt32 >>> ((8 : Int32).toUInt32 &&& Int32.toUInt32 31)).toInt32) &&& 255), ((((a4).toUInt32 >>> ((0 : Int32).toUInt32 &&& Int32.toUInt32 31)).toInt32) &&& 255)] ++ List.replicate 384 0)))).set 174 (.inr (8, [.ref 175, .int 16])), n)) _
    refine At.enter rfl ?_
    refine r_bipush 24 rfl ?_
    refine r_istore_n ([(2, .int 24), (0, .ref 174), (1, .int a5)]) rfl ?_
    refine Ar.fall 3 rfl ?_
    refine At.enter rfl ?_
    refine r_iload_n rfl ?_
    refine r_iff 7 rfl (by decide) ?_
    refine At.enter rfl ?_
    refine r_aload_n rfl ?_
    refine r_get (v := .int 16) (en_gs_eq (en_gs_ne (by decide) hx_174)) rfl ?_
    refine r_sipush 400 rfl ?_
    refine r_icf 17 rfl (by decide) ?_
    refine At.enter rfl ?_
    refine r_aload_n rfl ?_
    refine r_get (v := .ref 175) (en_gs_eq (en_gs_ne (by decide) hx_174)) rfl ?_
    refine r_aload_n rfl ?_
    refine r_get (v := .int 16) (en_gs_eq (en_gs_ne (by decide) hx_174)) rfl ?_
    refine r_iload_n rfl ?_
    refine r_iload_n rfl ?_
    refine r_iushr (((a5).toUInt32 >>> ((24 : Int32).toUInt32 &&& Int32.toUInt32 31)).toInt32) rfl ?_
    refine r_sipush 255 rfl ?_
    refine r_iand ((((a5).toUInt32 >>> ((24 : Int32).toUInt32 &&& Int32.toUInt32 31)).toInt32) &&& 255) rfl ?_
    refine r_iast (en_gs_ne (by decide) (en_gs_eq hx_175)) (by decide) (Nat.le_of_ble_eq_true rfl) ([((((a1).toUInt32 >>> ((24 : Int32).toUInt32 &&& Int32.toUInt32 31)).toInt32) &&& 255), ((((a1).toUInt32 >>> ((16 : Int32).toUInt32 &&& Int32.toUInt32 31)).toInt32) &&& 255), ((((a1).toUInt32 >>> ((8 : Int32).toUInt32 &&& Int32.toUInt32 31)).toInt32) &&& 255), ((((a1).toUInt32 >>> ((0 : Int32).toUInt32 &&& Int32.toUInt32 31)).toInt32) &&& 255), ((((a2).toUInt32 >>> ((24 : Int32).toUInt32 &&& Int32.toUInt32 31)).toInt32) &&& 255), ((((a2).toUInt32 >>> ((16 : Int32).toUInt32 &&& Int32.toUInt32 31)).toInt32) &&& 255), ((((a2).toUInt32 >>> ((8 : Int32).toUInt32 &&& Int32.toUInt32 31)).toInt32) &&& 255), ((((a2).toUInt32 >>> ((0 : Int32).toUInt32 &&& Int32.toUInt32 31)).toInt32) &&& 255), ((((a3).toUInt32 >>> ((24 : Int32).toUInt32 &&& Int32.toUInt32 31)).toInt32) &&& 255), ((((a3).toUInt32 >>> ((16 : Int32).toUInt32 &&& Int32.toUInt32 31)).toInt32) &&& 255), ((((a3).toUInt32 >>> ((8 : Int32).toUInt32 &&& Int32.toUInt32 31)).toInt32) &&& 255), ((((a3).toUInt32 >>> ((0 : Int32).toUInt32 &&& Int32.toUInt32 31)).toInt32) &&& 255), ((((a4).toUInt32 >>> ((24 : Int32).toUInt32 &&& Int32.toUInt32 31)).toInt32) &&& 255), ((((a4).toUInt32 >>> ((16 : Int32).toUInt32 &&& Int32.toUInt32 31)).toInt32) &&& 255), ((((a4).toUInt32 >>> ((8 : Int32).toUInt32 &&& Int32.toUInt32 31)).toInt32) &&& 255), ((((a4).toUInt32 >>> ((0 : Int32).toUInt32 &&& Int32.toUInt32 31)).toInt32) &&& 255), ((((a5).toUInt32 >>> ((24 : Int32).toUInt32 &&& Int32.toUInt32 31)).toInt32) &&& 255)] ++ List.replicate 383 0) rfl ?_
    refine Ar.hp (en_sdS (by decide) en_sd0) ?_
    refine r_aload_n rfl ?_
    refine r_dup rfl ?_
    refine r_get (v := .int 16) (en_gs_eq (en_gs_ne (by decide) hx_174)) rfl ?_
    refine r_iconst 1 rfl ?_
    refine r_iadd 17 rfl ?_
    refine r_putf (en_gs_eq (en_gs_ne (by decide) hx_174)) (Nat.le_of_ble_eq_true rfl) rfl [.ref 175, .int 17] rfl ?_
    refine Ar.hp en_sd0 ?_
    refine r_iinc rfl 16 rfl ([(2, .int 16), (0, .ref 174), (1, .int a5)]) rfl ?_
    refine r_goto ?_
    refine At.enter rfl ?_
    refine r_iload_n rfl ?_
    refine r_iff 7 rfl (by decide) ?_
    refine At.enter rfl ?_
    refine r_aload_n rfl ?_
    refine r_get (v := .int 17) (en_gs_eq (en_gs_ne (by decide) hx_174)) rfl ?_
    refine r_sipush 400 rfl ?_
    refine r_icf 17 rfl (by decide) ?_
    refine At.enter rfl ?_
    refine r_aload_n rfl ?_
    refine r_get (v := .ref 175) (en_gs_eq (en_gs_ne (by decide) hx_174)) rfl ?_
    refine r_aload_n rfl ?_
    refine r_get (v := .int 17) (en_gs_eq (en_gs_ne (by decide) hx_174)) rfl ?_
    refine r_iload_n rfl ?_
    refine r_iload_n rfl ?_
    refine r_iushr (((a5).toUInt32 >>> ((16 : Int32).toUInt32 &&& Int32.toUInt32 31)).toInt32) rfl ?_
    refine r_sipush 255 rfl ?_
    refine r_iand ((((a5).toUInt32 >>> ((16 : Int32).toUInt32 &&& Int32.toUInt32 31)).toInt32) &&& 255) rfl ?_
    refine r_iast (en_gs_ne (by decide) (en_gs_eq hx_175)) (by decide) (Nat.le_of_ble_eq_true rfl) ([((((a1).toUInt32 >>> ((24 : Int32).toUInt32 &&& Int32.toUInt32 31)).toInt32) &&& 255), ((((a1).toUInt32 >>> ((16 : Int32).toUInt32 &&& Int32.toUInt32 31)).toInt32) &&& 255), ((((a1).toUInt32 >>> ((8 : Int32).toUInt32 &&& Int32.toUInt32 31)).toInt32) &&& 255), ((((a1).toUInt32 >>> ((0 : Int32).toUInt32 &&& Int32.toUInt32 31)).toInt32) &&& 255), ((((a2).toUInt32 >>> ((24 : Int32).toUInt32 &&& Int32.toUInt32 31)).toInt32) &&& 255), ((((a2).toUInt32 >>> ((16 : Int32).toUInt32 &&& Int32.toUInt32 31)).toInt32) &&& 255), ((((a2).toUInt32 >>> ((8 : Int32).toUInt32 &&& Int32.toUInt32 31)).toInt32) &&& 255), ((((a2).toUInt32 >>> ((0 : Int32).toUInt32 &&& Int32.toUInt32 31)).toInt32) &&& 255), ((((a3).toUInt32 >>> ((24 : Int32).toUInt32 &&& Int32.toUInt32 31)).toInt32) &&& 255), ((((a3).toUInt32 >>> ((16 : Int32).toUInt32 &&& Int32.toUInt32 31)).toInt32) &&& 255), ((((a3).toUInt32 >>> ((8 : Int32).toUInt32 &&& Int32.toUInt32 31)).toInt32) &&& 255), ((((a3).toUInt32 >>> ((0 : Int32).toUInt32 &&& Int32.toUInt32 31)).toInt32) &&& 255), ((((a4).toUInt32 >>> ((24 : Int32).toUInt32 &&& Int32.toUInt32 31)).toInt32) &&& 255), ((((a4).toUInt32 >>> ((16 : Int32).toUInt32 &&& Int32.toUInt32 31)).toInt32) &&& 255), ((((a4).toUInt32 >>> ((8 : Int32).toUInt32 &&& Int32.toUInt32 31)).toInt32) &&& 255), ((((a4).toUInt32 >>> ((0 : Int32).toUInt32 &&& Int32.toUInt32 31)).toInt32) &&& 255), ((((a5).toUInt32 >>> ((24 : Int32).toUInt32 &&& Int32.toUInt32 31)).toInt32) &&& 255), ((((a5).toUInt32 >>> ((16 : Int32).toUInt32 &&& Int32.toUInt32 31)).toInt32) &&& 255)] ++ List.replicate 382 0) rfl ?_
    refine Ar.hp (en_sdS (by decide) en_sd0) ?_
    refine r_aload_n rfl ?_
    refine r_dup rfl ?_
    refine r_get (v := .int 17) (en_gs_eq (en_gs_ne (by decide) hx_174)) rfl ?_
    refine r_iconst 1 rfl ?_
    refine r_iadd 18 rfl ?_
    refine r_putf (en_gs_eq (en_gs_ne (by decide) hx_174)) (Nat.le_of_ble_eq_true rfl) rfl [.ref 175, .int 18] rfl ?_
    refine Ar.hp en_sd0 ?_
    refine r_iinc rfl 8 rfl ([(2, .int 8), (0, .ref 174), (1, .int a5)]) rfl ?_
    refine r_goto ?_
    refine At.enter rfl ?_
    refine r_iload_n rfl ?_
    refine r_iff 7 rfl (by decide) ?_
    refine At.enter rfl ?_
    refine r_aload_n rfl ?_
    refine r_get (v := .int 18) (en_gs_eq (en_gs_ne (by decide) hx_174)) rfl ?_
    refine r_sipush 400 rfl ?_
    refine r_icf 17 rfl (by decide) ?_
    refine At.enter rfl ?_
    refine r_aload_n rfl ?_
    refine r_get (v := .ref 175) (en_gs_eq (en_gs_ne (by decide) hx_174)) rfl ?_
    refine r_aload_n rfl ?_
    refine r_get (v := .int 18) (en_gs_eq (en_gs_ne (by decide) hx_174)) rfl ?_
    refine r_iload_n rfl ?_
    refine r_iload_n rfl ?_
    refine r_iushr (((a5).toUInt32 >>> ((8 : Int32).toUInt32 &&& Int32.toUInt32 31)).toInt32) rfl ?_
    refine r_sipush 255 rfl ?_
    refine r_iand ((((a5).toUInt32 >>> ((8 : Int32).toUInt32 &&& Int32.toUInt32 31)).toInt32) &&& 255) rfl ?_
    refine r_iast (en_gs_ne (by decide) (en_gs_eq hx_175)) (by decide) (Nat.le_of_ble_eq_true rfl) ([((((a1).toUInt32 >>> ((24 : Int32).toUInt32 &&& Int32.toUInt32 31)).toInt32) &&& 255), ((((a1).toUInt32 >>> ((16 : Int32).toUInt32 &&& Int32.toUInt32 31)).toInt32) &&& 255), ((((a1).toUInt32 >>> ((8 : Int32).toUInt32 &&& Int32.toUInt32 31)).toInt32) &&& 255), ((((a1).toUInt32 >>> ((0 : Int32).toUInt32 &&& Int32.toUInt32 31)).toInt32) &&& 255), ((((a2).toUInt32 >>> ((24 : Int32).toUInt32 &&& Int32.toUInt32 31)).toInt32) &&& 255), ((((a2).toUInt32 >>> ((16 : Int32).toUInt32 &&& Int32.toUInt32 31)).toInt32) &&& 255), ((((a2).toUInt32 >>> ((8 : Int32).toUInt32 &&& Int32.toUInt32 31)).toInt32) &&& 255), ((((a2).toUInt32 >>> ((0 : Int32).toUInt32 &&& Int32.toUInt32 31)).toInt32) &&& 255), ((((a3).toUInt32 >>> ((24 : Int32).toUInt32 &&& Int32.toUInt32 31)).toInt32) &&& 255), ((((a3).toUInt32 >>> ((16 : Int32).toUInt32 &&& Int32.toUInt32 31)).toInt32) &&& 255), ((((a3).toUInt32 >>> ((8 : Int32).toUInt32 &&& Int32.toUInt32 31)).toInt32) &&& 255), ((((a3).toUInt32 >>> ((0 : Int32).toUInt32 &&& Int32.toUInt32 31)).toInt32) &&& 255), ((((a4).toUInt32 >>> ((24 : Int32).toUInt32 &&& Int32.toUInt32 31)).toInt32) &&& 255), ((((a4).toUInt32 >>> ((16 : Int32).toUInt32 &&& Int32.toUInt32 31)).toInt32) &&& 255), ((((a4).toUInt32 >>> ((8 : Int32).toUInt32 &&& Int32.toUInt32 31)).toInt32) &&& 255), ((((a4).toUInt32 >>> ((0 : Int32).toUInt32 &&& Int32.toUInt32 31)).toInt32) &&& 255), ((((a5).toUInt32 >>> ((24 : Int32).toUInt32 &&& Int32.toUInt32 31)).toInt32) &&& 255), ((((a5).toUInt32 >>> ((16 : Int32).toUInt32 &&& Int32.toUInt32 31)).toInt32) &&& 255), ((((a5).toUInt32 >>> ((8 : Int32).toUInt32 &&& Int32.toUInt32 31)).toInt32) &&& 255)] ++ List.replicate 381 0) rfl ?_
    refine Ar.hp (en_sdS (by decide) en_sd0) ?_
    refine r_aload_n rfl ?_
    refine r_dup rfl ?_
    refine r_get (v := .int 18) (en_gs_eq (en_gs_ne (by decide) hx_174)) rfl ?_
    refine r_iconst 1 rfl ?_
    refine r_iadd 19 rfl ?_
    refine r_putf (en_gs_eq (en_gs_ne (by decide) hx_174)) (Nat.le_of_ble_eq_true rfl) rfl [.ref 175, .int 19] rfl ?_
    refine Ar.hp en_sd0 ?_
    refine r_iinc rfl 0 rfl ([(2, .int 0), (0, .ref 174), (1, .int a5)]) rfl ?_
    refine r_goto ?_
    refine At.enter rfl ?_
    refine r_iload_n rfl ?_
    refine r_iff 7 rfl (by decide) ?_
    refine At.enter rfl ?_
    refine r_aload_n rfl ?_
    refine r_get (v := .int 19) (en_gs_eq (en_gs_ne (by decide) hx_174)) rfl ?_
    refine r_sipush 400 rfl ?_
    refine r_icf 17 rfl (by decide) ?_
    refine At.enter rfl ?_
    refine r_aload_n rfl ?_
    refine r_get (v := .ref 175) (en_gs_eq (en_gs_ne (by decide) hx_174)) rfl ?_
    refine r_aload_n rfl ?_
    refine r_get (v := .int 19) (en_gs_eq (en_gs_ne (by decide) hx_174)) rfl ?_
    refine r_iload_n rfl ?_
    refine r_iload_n rfl ?_
    refine r_iushr (((a5).toUInt32 >>> ((0 : Int32).toUInt32 &&& Int32.toUInt32 31)).toInt32) rfl ?_
    refine r_sipush 255 rfl ?_
    refine r_iand ((((a5).toUInt32 >>> ((0 : Int32).toUInt32 &&& Int32.toUInt32 31)).toInt32) &&& 255) rfl ?_
    refine r_iast (en_gs_ne (by decide) (en_gs_eq hx_175)) (by decide) (Nat.le_of_ble_eq_true rfl) ([((((a1).toUInt32 >>> ((24 : Int32).toUInt32 &&& Int32.toUInt32 31)).toInt32) &&& 255), ((((a1).toUInt32 >>> ((16 : Int32).toUInt32 &&& Int32.toUInt32 31)).toInt32) &&& 255), ((((a1).toUInt32 >>> ((8 : Int32).toUInt32 &&& Int32.toUInt32 31)).toInt32) &&& 255), ((((a1).toUInt32 >>> ((0 : Int32).toUInt32 &&& Int32.toUInt32 31)).toInt32) &&& 255), ((((a2).toUInt32 >>> ((24 : Int32).toUInt32 &&& Int32.toUInt32 31)).toInt32) &&& 255), ((((a2).toUInt32 >>> ((16 : Int32).toUInt32 &&& Int32.toUInt32 31)).toInt32) &&& 255), ((((a2).toUInt32 >>> ((8 : Int32).toUInt32 &&& Int32.toUInt32 31)).toInt32) &&& 255), ((((a2).toUInt32 >>> ((0 : Int32).toUInt32 &&& Int32.toUInt32 31)).toInt32) &&& 255), ((((a3).toUInt32 >>> ((24 : Int32).toUInt32 &&& Int32.toUInt32 31)).toInt32) &&& 255), ((((a3).toUInt32 >>> ((16 : Int32).toUInt32 &&& Int32.toUInt32 31)).toInt32) &&& 255), ((((a3).toUInt32 >>> ((8 : Int32).toUInt32 &&& Int32.toUInt32 31)).toInt32) &&& 255), ((((a3).toUInt32 >>> ((0 : Int32).toUInt32 &&& Int32.toUInt32 31)).toInt32) &&& 255), ((((a4).toUInt32 >>> ((24 : Int32).toUInt32 &&& Int32.toUInt32 31)).toInt32) &&& 255), ((((a4).toUInt32 >>> ((16 : Int32).toUInt32 &&& Int32.toUInt32 31)).toInt32) &&& 255), ((((a4).toUInt32 >>> ((8 : Int32).toUInt32 &&& Int32.toUInt32 31)).toInt32) &&& 255), ((((a4).toUInt32 >>> ((0 : Int32).toUInt32 &&& Int32.toUInt32 31)).toInt32) &&& 255), ((((a5).toUInt32 >>> ((24 : Int32).toUInt32 &&& Int32.toUInt32 31)).toInt32) &&& 255), ((((a5).toUInt32 >>> ((16 : Int32).toUInt32 &&& Int32.toUInt32 31)).toInt32) &&& 255), ((((a5).toUInt32 >>> ((8 : Int32).toUInt32 &&& Int32.toUInt32 31)).toInt32) &&& 255), ((((a5).toUInt32 >>> ((0 : Int32).toUInt32 &&& Int32.toUInt32 31)).toInt32) &&& 255)] ++ List.replicate 380 0) rfl ?_
    refine Ar.hp (en_sdS (by decide) en_sd0) ?_
    refine r_aload_n rfl ?_
    refine r_dup rfl ?_
    refine r_get (v := .int 19) (en_gs_eq (en_gs_ne (by decide) hx_174)) rfl ?_
    refine r_iconst 1 rfl ?_
    refine r_iadd 20 rfl ?_
    refine r_putf (en_gs_eq (en_gs_ne (by decide) hx_174)) (Nat.le_of_ble_eq_true rfl) rfl [.ref 175, .int 20] rfl ?_
    refine Ar.hp en_sd0 ?_
    refine r_iinc rfl (-8) rfl ([(2, .int (-8)), (0, .ref 174), (1, .int a5)]) rfl ?_
    refine r_goto ?_
    refine At.enter rfl ?_
    refine r_iload_n rfl ?_
    refine r_ift (by decide) ?_
    refine At.enter rfl ?_
    refine r_vret ?_
    exact ⟨trivial, rfl, rfl⟩
  refine At.enter rfl ?_
  refine r_aload_n rfl ?_
  refine r_get (v := .ref 174) (en_gs_ne (by decide) (en_gs_ne (by decide) hx_0)) rfl ?_
  refine r_get (v := .int 20) (en_gs_eq (en_gs_ne (by decide) hx_174)) rfl ?_
  refine r_ireti ?_
  exact ⟨congrArg (fun z => some (Value.int z)) rfl, (IsX.set (IsX.set IsX.base (by decide)) (by decide)), rfl⟩
set_option maxRecDepth 100000 in
set_option maxHeartbeats 4000000 in
theorem zm_X11_feed (a : Nat → en_E) (n : Nat) (a1 : Int32) (a2 : Int32) (a3 : Int32) (a4 : Int32) (a5 : Int32) : Ev 14 185 [.ref 231, .int a1, .int a2, .int a3, .int a4, .int a5] (en_pre a 231 hp_M, n) (fun r h' => r = some (.int (20)) ∧ h'.1.length = 259 ∧ h'.2 = n) := by
  refine Ev.mk rfl rfl ⟨Nat.le_of_ble_eq_true rfl, Or.inr (en_rcI (hm_231 _) rfl)⟩ ?_
  show At _ none _ _ (0, [(0, .ref 231), (1, .int a1), (2, .int a2), (3, .int a3), (4, .int a4), (5, .int a5)], [], (en_pre a 231 hp_M, n)) _
  refine At.enter rfl ?_
  refine r_aload_n rfl ?_
  refine r_iconst 0 rfl ?_
  refine r_putf (hm_231 _) (Nat.le_of_ble_eq_true rfl) rfl [.int 0, .int 0, .ref 232, .ref 233, .ref 234, .ref 235, .int 0, .ref 236, .int 0, .int 0, .int 0, .int 0, .long 0, .int (-1), .int 0, .int 0, .ref 237, .int 0, .ref 238, .ref 239, .int 0, .ref 240, .ref 241, .int 0, .int 0, .ref 242, .ref 243, .int 0, .ref 244, .ref 245, .int 0, .long 0, .long 0, .ref 246, .ref 247, .ref 248, .int 0, .ref 249, .ref 250, .ref 251, .ref 252, .ref 253, .ref 254, .ref 255, .ref 256, .int 0, .int 0, .int 0, .long 0, .ref 257, .ref 258, .int 0] rfl ?_
  refine r_aload_n rfl ?_
  refine r_get (v := .int 0) (en_gs_eq (hm_231 _)) rfl ?_
  refine r_bipush 20 rfl ?_
  refine r_iadd 20 rfl ?_
  refine r_sipush 400 rfl ?_
  refine r_ict (by decide) ?_
  refine At.enter rfl ?_
  refine r_aload_n rfl ?_
  refine r_iload_n rfl ?_
  refine r_callV1v (True)  (((en_pre a 231 hp_M).set 231 (.inr (11, [.int 0, .int 0, .ref 232, .ref 233, .ref 234, .ref 235, .int 0, .ref 236, .int 4, .int 0, .int 0, .int 0, .long 0, .int (-1), .int 0, .int 0, .ref 237, .int 0, .ref 238, .ref 239, .int 0, .ref 240, .ref 241, .int 0, .int 0, .ref 242, .ref 243, .int 0, .ref 244, .ref 245, .int 0, .long 0, .long 0, .ref 246, .ref 247, .ref 248, .int 0, .ref 249, .ref 250, .ref 251, .ref 252, .ref 253, .ref 254, .ref 255, .ref 256, .int 0, .int 0, .int 0, .long 0, .ref 257, .ref 258, .int 0]))).set 236 (.inl (0, .inl ([((a1 >>> (24 &&& 31)) &&& 255), ((a1 >>> (16 &&& 31)) &&& 255), ((a1 >>> (8 &&& 31)) &&& 255), (a1 &&& 255)] ++ List.replicate 396 0))), n) 25 rfl [.ref 231, .int a1] [] (Nat.le_of_ble_eq_true rfl) rfl ?_ (fun _ => ?_)
  · refine Ev.mk rfl rfl ⟨Nat.le_of_ble_eq_true rfl, Or.inr (en_rcI (en_gs_eq (hm_231 _)) rfl)⟩ ?_
    show At _ none _ _ (0, [(0, .ref 231), (1, .int a1)], [], ((en_pre a 231 hp_M).set 231 (.inr (11, [.int 0, .int 0, .ref 232, .ref 233, .ref 234, .ref 235, .int 0, .ref 236, .int 0, .int 0, .int 0, .int 0, .long 0, .int (-1), .int 0, .int 0, .ref 237, .int 0, .ref 238, .ref 239, .int 0, .ref 240, .ref 241, .int 0, .int 0, .ref 242, .ref 243, .int 0, .ref 244, .ref 245, .int 0, .long 0, .long 0, .ref 246, .ref 247, .ref 248, .int 0, .ref 249, .ref 250, .ref 251, .ref 252, .ref 253, .ref 254, .ref 255, .ref 256, .int 0, .int 0, .int 0, .long 0, .ref 257, .ref 258, .int 0])), n)) _
    refine At.enter rfl ?_
    refine r_bipush 24 rfl ?_
    refine r_istore_n ([(2, .int 24), (0, .ref 231), (1, .int a1)]) rfl ?_
    refine Ar.fall 3 rfl ?_
    refine At.enter rfl ?_
    refine r_iload_n rfl ?_
    refine r_iff 7 rfl (by decide) ?_
    refine At.enter rfl ?_
    refine r_aload_n rfl ?_
    refine r_get (v := .ref 236) (en_gs_eq (hm_231 _)) rfl ?_
    refine r_aload_n rfl ?_
    refine r_get (v := .int 0) (en_gs_eq (hm_231 _)) rfl ?_
    refine r_iload_n rfl ?_
    refine r_iload_n rfl ?_
    refine r_ishr (a1 >>> (24 &&& 31)) rfl ?_
    refine r_sipush 255 rfl ?_
    refine r_iand ((a1 >>> (24 &&& 31)) &&& 255) rfl ?_
    refine r_iast (en_gs_ne (by decide) (hm_236 _)) (by decide) (Nat.le_of_ble_eq_true rfl) ([((a1 >>> (24 &&& 31)) &&& 255)] ++ List.replicate 399 0) rfl ?_
    refine r_aload_n rfl ?_
    refine r_dup rfl ?_
    refine r_get (v := .int 0) (en_gs_ne (by decide) (en_gs_eq (hm_231 _))) rfl ?_
    refine r_iconst 1 rfl ?_
    refine r_iadd 1 rfl ?_
    refine r_putf (en_gs_ne (by decide) (en_gs_eq (hm_231 _))) (Nat.le_of_ble_eq_true rfl) rfl [.int 0, .int 0, .ref 232, .ref 233, .ref 234, .ref 235, .int 0, .ref 236, .int 1, .int 0, .int 0, .int 0, .long 0, .int (-1), .int 0, .int 0, .ref 237, .int 0, .ref 238, .ref 239, .int 0, .ref 240, .ref 241, .int 0, .int 0, .ref 242, .ref 243, .int 0, .ref 244, .ref 245, .int 0, .long 0, .long 0, .ref 246, .ref 247, .ref 248, .int 0, .ref 249, .ref 250, .ref 251, .ref 252, .ref 253, .ref 254, .ref 255, .ref 256, .int 0, .int 0, .int 0, .long 0, .ref 257, .ref 258, .int 0] rfl ?_
    refine Ar.hp (en_sdS (by decide) en_sd0) ?_
    refine r_iinc rfl 16 rfl ([(2, .int 16), (0, .ref 231), (1, .int a1)]) rfl ?_
    refine r_goto ?_
    refine At.enter rfl ?_
    refine r_iload_n rfl ?_
    refine r_iff 7 rfl (by decide) ?_
    refine At.enter rfl ?_
    refine r_aload_n rfl ?_
    refine r_get (v := .ref 236) (en_gs_ne (by decide) (en_gs_eq (hm_231 _))) rfl ?_
    refine r_aload_n rfl ?_
    refine r_get (v := .int 1) (en_gs_ne (by decide) (en_gs_eq (hm_231 _))) rfl ?_
    refine r_iload_n rfl ?_
    refine r_iload_n rfl ?_
    refine r_ishr (a1 >>> (16 &&& 31)) rfl ?_
    refine r_sipush 255 rfl ?_
    refine r_iand ((a1 >>> (16 &&& 31)) &&& 255) rfl ?_
    refine r_iast (en_gs_eq (en_gs_ne (by decide) (hm_236 _))) (by decide) (Nat.le_of_ble_eq_true rfl) ([((a1 >>> (24 &&& 31)) &&& 255), ((a1 >>> (16 &&& 31)) &&& 255)] ++ List.replicate 398 0) rfl ?_
    refine Ar.hp en_sd0 ?_
    refine r_aload_n rfl ?_
    refine r_dup rfl ?_
    refine r_get (v := .int 1) (en_gs_ne (by decide) (en_gs_eq (hm_231 _))) rfl ?_
    refine r_iconst 1 rfl ?_
    refine r_iadd 2 rfl ?_
    refine r_putf (en_gs_ne (by decide) (en_gs_eq (hm_231 _))) (Nat.le_of_ble_eq_true rfl) rfl [.int 0, .int 0, .ref 232, .ref 233, .ref 234, .ref 235, .int 0, .ref 236, .int 2, .int 0, .int 0, .int 0, .long 0, .int (-1), .int 0, .int 0, .ref 237, .int 0, .ref 238, .ref 239, .int 0, .ref 240, .ref 241, .int 0, .int 0, .ref 242, .ref 243, .int 0, .ref 244, .ref 245, .int 0, .long 0, .long 0, .ref 246, .ref 247, .ref 248, .int 0, .ref 249, .ref 250, .ref 251, .ref 252, .ref 253, .ref 254, .ref 255, .ref 256, .int 0, .int 0, .int 0, .long 0, .ref 257, .ref 258, .int 0] rfl ?_
    refine Ar.hp (en_sdS (by decide) en_sd0) ?_
    refine r_iinc rfl 8 rfl ([(2, .int 8), (0, .ref 231), (1, .int a1)]) rfl ?_
    refine r_goto ?_
    refine At.enter rfl ?_
    refine r_iload_n rfl ?_
    refine r_iff 7 rfl (by decide) ?_
    refine At.enter rfl ?_
    refine r_aload_n rfl ?_
    refine r_get (v := .ref 236) (en_gs_ne (by decide) (en_gs_eq (hm_231 _))) rfl ?_
    refine r_aload_n rfl ?_
    refine r_get (v := .int 2) (en_gs_ne (by decide) (en_gs_eq (hm_231 _))) rfl ?_
    refine r_iload_n rfl ?_
    refine r_iload_n rfl ?_
    refine r_ishr (a1 >>> (8 &&& 31)) rfl ?_
    refine r_sipush 255 rfl ?_
    refine r_iand ((a1 >>> (8 &&& 31)) &&& 255) rfl ?_
    refine r_iast (en_gs_eq (en_gs_ne (by decide) (hm_236 _))) (by decide) (Nat.le_of_ble_eq_true rfl) ([((a1 >>> (24 &&& 31)) &&& 255), ((a1 >>> (16 &&& 31)) &&& 255), ((a1 >>> (8 &&& 31)) &&& 255)] ++ List.replicate 397 0) rfl ?_
    refine Ar.hp en_sd0 ?_
    refine r_aload_n rfl ?_
    refine r_dup rfl ?_
    refine r_get (v := .int 2) (en_gs_ne (by decide) (en_gs_eq (hm_231 _))) rfl ?_
    refine r_iconst 1 rfl ?_
    refine r_iadd 3 rfl ?_
    refine r_putf (en_gs_ne (by decide) (en_gs_eq (hm_231 _))) (Nat.le_of_ble_eq_true rfl) rfl [.int 0, .int 0, .ref 232, .ref 233, .ref 234, .ref 235, .int 0, .ref 236, .int 3, .int 0, .int 0, .int 0, .long 0, .int (-1), .int 0, .int 0, .ref 237, .int 0, .ref 238, .ref 239, .int 0, .ref 240, .ref 241, .int 0, .int 0, .ref 242, .ref 243, .int 0, .ref 244, .ref 245, .int 0, .long 0, .long 0, .ref 246, .ref 247, .ref 248, .int 0, .ref 249, .ref 250, .ref 251, .ref 252, .ref 253, .ref 254, .ref 255, .ref 256, .int 0, .int 0, .int 0, .long 0, .ref 257, .ref 258, .int 0] rfl ?_
    refine Ar.hp (en_sdS (by decide) en_sd0) ?_
    refine r_iinc rfl 0 rfl ([(2, .int 0), (0, .ref 231), (1, .int a1)]) rfl ?_
    refine r_goto ?_
    refine At.enter rfl ?_
    refine r_iload_n rfl ?_
    refine r_iff 7 rfl (by decide) ?_
    refine At.enter rfl ?_
    refine r_aload_n rfl ?_
    refine r_get (v := .ref 236) (en_gs_ne (by decide) (en_gs_eq (hm_231 _))) rfl ?_
    refine r_aload_n rfl ?_
    refine r_get (v := .int 3) (en_gs_ne (by decide) (en_gs_eq (hm_231 _))) rfl ?_
    refine r_iload_n rfl ?_
    refine r_iload_n rfl ?_
    refine r_ishr a1 (en_shr0 _) ?_
    refine r_sipush 255 rfl ?_
    refine r_iand (a1 &&& 255) rfl ?_
    refine r_iast (en_gs_eq (en_gs_ne (by decide) (hm_236 _))) (by decide) (Nat.le_of_ble_eq_true rfl) ([((a1 >>> (24 &&& 31)) &&& 255), ((a1 >>> (16 &&& 31)) &&& 255), ((a1 >>> (8 &&& 31)) &&& 255), (a1 &&& 255)] ++ List.replicate 396 0) rfl ?_
    refine Ar.hp en_sd0 ?_
    refine r_aload_n rfl ?_
    refine r_dup rfl ?_
    refine r_get (v := .int 3) (en_gs_ne (by decide) (en_gs_eq (hm_231 _))) rfl ?_
    refine r_iconst 1 rfl ?_
    refine r_iadd 4 rfl ?_
    refine r_putf (en_gs_ne (by decide) (en_gs_eq (hm_231 _))) (Nat.le_of_ble_eq_true rfl) rfl [.int 0, .int 0, .ref 232, .ref 233, .ref 234, .ref 235, .int 0, .ref 236, .int 4, .int 0, .int 0, .int 0, .long 0, .int (-1), .int 0, .int 0, .ref 237, .int 0, .ref 238, .ref 239, .int 0, .ref 240, .ref 241, .int 0, .int 0, .ref 242, .ref 243, .int 0, .ref 244, .ref 245, .int 0, .long 0, .long 0, .ref 246, .ref 247, .ref 248, .int 0, .ref 249, .ref 250, .ref 251, .ref 252, .ref 253, .ref 254, .ref 255, .ref 256, .int 0, .int 0, .int 0, .long 0, .ref 257, .ref 258, .int 0] rfl ?_
    refine Ar.hp (en_sdS (by decide) en_sd0) ?_
    refine r_iinc rfl (-8) rfl ([(2, .int (-8)), (0, .ref 231), (1, .int a1)]) rfl ?_
    refine r_goto ?_
    refine At.enter rfl ?_
    refine r_iload_n rfl ?_
    refine r_ift (by decide) ?_
    refine At.enter rfl ?_
    refine r_vret ?_
    exact ⟨trivial, rfl, rfl⟩
  refine At.enter rfl ?_
  refine r_aload_n rfl ?_
  refine r_iload_n rfl ?_
  refine r_callV1v (True)  (((en_pre a 231 hp_M).set 231 (.inr (11, [.int 0, .int 0, .ref 232, .ref 233, .ref 234, .ref 235, .int 0, .ref 236, .int 8, .int 0, .int 0, .int 0, .long 0, .int (-1), .int 0, .int 0, .ref 237, .int 0, .ref 238, .ref 239, .int 0, .ref 240, .ref 241, .int 0, .int 0, .ref 242, .ref 243, .int 0, .ref 244, .ref 245, .int 0, .long 0, .long 0, .ref 246, .ref 247, .ref 248, .int 0, .ref 249, .ref 250, .ref 251, .ref 252, .ref 253, .ref 254, .ref 255, .ref 256, .int 0, .int 0, .int 0, .long 0, .ref 257, .ref 258, .int 0]))).set 236 (.inl (0, .inl ([((a1 >>> (24 &&& 31)) &&& 255), ((a1 >>> (16 &&& 31)) &&& 255), ((a1 >>> (8 &&& 31)) &&& 255), (a1 &&& 255), ((a2 >>> (24 &&& 31)) &&& 255), ((a2 >>> (16 &&& 31)) &&& 255), ((a2 >>> (8 &&& 31)) &&& 255), (a2 &&& 255)] ++ List.replicate 392 0))), n) 30 rfl [.ref 231, .int a2] [] (Nat.le_of_ble_eq_true rfl) rfl ?_ (fun _ => ?_)
  · refine Ev.mk rfl rfl ⟨Nat.le_of_ble_eq_true rfl, Or.inr (en_rcI (en_gs_ne (by decide) (en_gs_eq (hm_231 _))) rfl)⟩ ?_
    show At _ none _ _ (0, [(0, .ref 231), (1, .int a2)], [], (((en_pre a 231 hp_M).set 231 (.inr (11, [.int 0, .int 0, .ref 232, .ref 233, .ref 234, .ref 235, .int 0, .ref 236, .int 4, .int 0, .int 0, .int 0, .long 0, .int (-1), .int 0, .int 0, .ref 237, .int 0, .ref 238, .ref 239, .int 0, .ref 240, .ref 241, .int 0, .int 0, .ref 242, .ref 243, .int 0, .ref 244, .ref 245, .int 0, .long 0, .long 0, .ref 246, .ref 247, .ref 248, .int 0, .ref 249, .ref 250, .ref 251, .ref 252, .ref 253, .ref 254, .ref 255, .ref 256, .int 0, .int 0, .int 0, .long 0, .ref 257, .ref 258, .int 0]))).set 236 (.inl (0, .inl ([((a1 >>> (24 &&& 31)) &&& 255), ((a1 >>> (16 &&& 31)) &&& 255), ((a1 >>> (8 &&& 31)) &&& 255), (a1 &&& 255)] ++ List.replicate 396 0))), n)) _
    refine At.enter rfl ?_
    refine r_bipush 24 rfl ?_
    refine r_istore_n ([(2, .int 24), (0, .ref 231), (1, .int a2)]) rfl ?_
    refine Ar.fall 3 rfl ?_
    refine At.enter rfl ?_
    refine r_iload_n rfl ?_
    refine r_iff 7 rfl (by decide) ?_
    refine At.enter rfl ?_
    refine r_aload_n rfl ?_
    refine r_get (v := .ref 236) (en_gs_ne (by decide) (en_gs_eq (hm_231 _))) rfl ?_
    refine r_aload_n rfl ?_
    refine r_get (v := .int 4) (en_gs_ne (by decide) (en_gs_eq (hm_231 _))) rfl ?_
    refine r_iload_n rfl ?_
    refine r_iload_n rfl ?_
    refine r_ishr (a2 >>> (24 &&& 31)) rfl ?_
    refine r_sipush 255 rfl ?_
    refine r_iand ((a2 >>> (24 &&& 31)) &&& 255) rfl ?_
    refine r_iast (en_gs_eq (en_gs_ne (by decide) (hm_236 _))) (by decide) (Nat.le_of_ble_eq_true rfl) ([((a1 >>> (24 &&& 31)) &&& 255), ((a1 >>> (16 &&& 31)) &&& 255), ((a1 >>> (8 &&& 31)) &&& 255), (a1 &&& 255), ((a2 >>> (24 &&& 31)) &&& 255)] ++ List.replicate 395 0) rfl ?_
    refine Ar.hp en_sd0 ?_
    refine r_aload_n rfl ?_
    refine r_dup rfl ?_
    refine r_get (v := .int 4) (en_gs_ne (by decide) (en_gs_eq (hm_231 _))) rfl ?_
    refine r_iconst 1 rfl ?_
    refine r_iadd 5 rfl ?_
    refine r_putf (en_gs_ne (by decide) (en_gs_eq (hm_231 _))) (Nat.le_of_ble_eq_true rfl) rfl [.int 0, .int 0, .ref 232, .ref 233, .ref 234, .ref 235, .int 0, .ref 236, .int 5, .int 0, .int 0, .int 0, .long 0, .int (-1), .int 0, .int 0, .ref 237, .int 0, .ref 238, .ref 239, .int 0, .ref 240, .ref 241, .int 0, .int 0, .ref 242, .ref 243, .int 0, .ref 244, .ref 245, .int 0, .long 0, .long 0, .ref 246, .ref 247, .ref 248, .int 0, .ref 249, .ref 250, .ref 251, .ref 252, .ref 253, .ref 254, .ref 255, .ref 256, .int 0, .int 0, .int 0, .long 0, .ref 257, .ref 258, .int 0] rfl ?_
    refine Ar.hp (en_sdS (by decide) en_sd0) ?_
    refine r_iinc rfl 16 rfl ([(2, .int 16), (0, .ref 231), (1, .int a2)]) rfl ?_
    refine r_goto ?_
    refine At.enter rfl ?_
    refine r_iload_n rfl ?_
    refine r_iff 7 rfl (by decide) ?_
    refine At.enter rfl ?_
    refine r_aload_n rfl ?_
    refine r_get (v := .ref 236) (en_gs_ne (by decide) (en_gs_eq (hm_231 _))) rfl ?_
    refine r_aload_n rfl ?_
    refine r_get (v := .int 5) (en_gs_ne (by decide) (en_gs_eq (hm_231 _))) rfl ?_
    refine r_iload_n rfl ?_
    refine r_iload_n rfl ?_
    refine r_ishr (a2 >>> (16 &&& 31)) rfl ?_
    refine r_sipush 255 rfl ?_
    refine r_iand ((a2 >>> (16 &&& 31)) &&& 255) rfl ?_
    refine r_iast (en_gs_eq (en_gs_ne (by decide) (hm_236 _))) (by decide) (Nat.le_of_ble_eq_true rfl) ([((a1 >>> (24 &&& 31)) &&& 255), ((a1 >>> (16 &&& 31)) &&& 255), ((a1 >>> (8 &&& 31)) &&& 255), (a1 &&& 255), ((a2 >>> (24 &&& 31)) &&& 255), ((a2 >>> (16 &&& 31)) &&& 255)] ++ List.replicate 394 0) rfl ?_
    refine Ar.hp en_sd0 ?_
    refine r_aload_n rfl ?_
    refine r_dup rfl ?_
    refine r_get (v := .int 5) (en_gs_ne (by decide) (en_gs_eq (hm_231 _))) rfl ?_
    refine r_iconst 1 rfl ?_
    refine r_iadd 6 rfl ?_
    refine r_putf (en_gs_ne (by decide) (en_gs_eq (hm_231 _))) (Nat.le_of_ble_eq_true rfl) rfl [.int 0, .int 0, .ref 232, .ref 233, .ref 234, .ref 235, .int 0, .ref 236, .int 6, .int 0, .int 0, .int 0, .long 0, .int (-1), .int 0, .int 0, .ref 237, .int 0, .ref 238, .ref 239, .int 0, .ref 240, .ref 241, .int 0, .int 0, .ref 242, .ref 243, .int 0, .ref 244, .ref 245, .int 0, .long 0, .long 0, .ref 246, .ref 247, .ref 248, .int 0, .ref 249, .ref 250, .ref 251, .ref 252, .ref 253, .ref 254, .ref 255, .ref 256, .int 0, .int 0, .int 0, .long 0, .ref 257, .ref 258, .int 0] rfl ?_
    refine Ar.hp (en_sdS (by decide) en_sd0) ?_
    refine r_iinc rfl 8 rfl ([(2, .int 8), (0, .ref 231), (1, .int a2)]) rfl ?_
    refine r_goto ?_
    refine At.enter rfl ?_
    refine r_iload_n rfl ?_
    refine r_iff 7 rfl (by decide) ?_
    refine At.enter rfl ?_
    refine r_aload_n rfl ?_
    refine r_get (v := .ref 236) (en_gs_ne (by decide) (en_gs_eq (hm_231 _))) rfl ?_
    refine r_aload_n rfl ?_
    refine r_get (v := .int 6) (en_gs_ne (by decide) (en_gs_eq (hm_231 _))) rfl ?_
    refine r_iload_n rfl ?_
    refine r_iload_n rfl ?_
    refine r_ishr (a2 >>> (8 &&& 31)) rfl ?_
    refine r_sipush 255 rfl ?_
    refine r_iand ((a2 >>> (8 &&& 31)) &&& 255) rfl ?_
    refine r_iast (en_gs_eq (en_gs_ne (by decide) (hm_236 _))) (by decide) (Nat.le_of_ble_eq_true rfl) ([((a1 >>> (24 &&& 31)) &&& 255), ((a1 >>> (16 &&& 31)) &&& 255), ((a1 >>> (8 &&& 31)) &&& 255), (a1 &&& 255), ((a2 >>> (24 &&& 31)) &&& 255), ((a2 >>> (16 &&& 31)) &&& 255), ((a2 >>> (8 &&& 31)) &&& 255)] ++ List.replicate 393 0) rfl ?_
    refine Ar.hp en_sd0 ?_
    refine r_aload_n rfl ?_
    refine r_dup rfl ?_
    refine r_get (v := .int 6) (en_gs_ne (by decide) (en_gs_eq (hm_231 _))) rfl ?_
    refine r_iconst 1 rfl ?_
    refine r_iadd 7 rfl ?_
    refine r_putf (en_gs_ne (by decide) (en_gs_eq (hm_231 _))) (Nat.le_of_ble_eq_true rfl) rfl [.int 0, .int 0, .ref 232, .ref 233, .ref 234, .ref 235, .int 0, .ref 236, .int 7, .int 0, .int 0, .int 0, .long 0, .int (-1), .int 0, .int 0, .ref 237, .int 0, .ref 238, .ref 239, .int 0, .ref 240, .ref 241, .int 0, .int 0, .ref 242, .ref 243, .int 0, .ref 244, .ref 245, .int 0, .long 0, .long 0, .ref 246, .ref 247, .ref 248, .int 0, .ref 249, .ref 250, .ref 251, .ref 252, .ref 253, .ref 254, .ref 255, .ref 256, .int 0, .int 0, .int 0, .long 0, .ref 257, .ref 258, .int 0] rfl ?_
    refine Ar.hp (en_sdS (by decide) en_sd0) ?_
    refine r_iinc rfl 0 rfl ([(2, .int 0), (0, .ref 231), (1, .int a2)]) rfl ?_
    refine r_goto ?_
    refine At.enter rfl ?_
    refine r_iload_n rfl ?_
    refine r_iff 7 rfl (by decide) ?_
    refine At.enter rfl ?_
    refine r_aload_n rfl ?_
    refine r_get (v := .ref 236) (en_gs_ne (by decide) (en_gs_eq (hm_231 _))) rfl ?_
    refine r_aload_n rfl ?_
    refine r_get (v := .int 7) (en_gs_ne (by decide) (en_gs_eq (hm_231 _))) rfl ?_
    refine r_iload_n rfl ?_
    refine r_iload_n rfl ?_
    refine r_ishr a2 (en_shr0 _) ?_
    refine r_sipush 255 rfl ?_
    refine r_iand (a2 &&& 255) rfl ?_
    refine r_iast (en_gs_eq (en_gs_ne (by decide) (hm_236 _))) (by decide) (Nat.le_of_ble_eq_true rfl) ([((a1 >>> (24 &&& 31)) &&& 255), ((a1 >>> (16 &&& 31)) &&& 255), ((a1 >>> (8 &&& 31)) &&& 255), (a1 &&& 255), ((a2 >>> (24 &&& 31)) &&& 255), ((a2 >>> (16 &&& 31)) &&& 255), ((a2 >>> (8 &&& 31)) &&& 255), (a2 &&& 255)] ++ List.replicate 392 0) rfl ?_
    refine Ar.hp en_sd0 ?_
    refine r_aload_n rfl ?_
    refine r_dup rfl ?_
    refine r_get (v := .int 7) (en_gs_ne (by decide) (en_gs_eq (hm_231 _))) rfl ?_
    refine r_iconst 1 rfl ?_
    refine r_iadd 8 rfl ?_
    refine r_putf (en_gs_ne (by decide) (en_gs_eq (hm_231 _))) (Nat.le_of_ble_eq_true rfl) rfl [.int 0, .int 0, .ref 232, .ref 233, .ref 234, .ref 235, .int 0, .ref 236, .int 8, .int 0, .int 0, .int 0, .long 0, .int (-1), .int 0, .int 0, .ref 237, .int 0, .ref 238, .ref 239, .int 0, .ref 240, .ref 241, .int 0, .int 0, .ref 242, .ref 243, .int 0, .ref 244, .ref 245, .int 0, .long 0, .long 0, .ref 246, .ref 247, .ref 248, .int 0, .ref 249, .ref 250, .ref 251, .ref 252, .ref 253, .ref 254, .ref 255, .ref 256, .int 0, .int 0, .int 0, .long 0, .ref 257, .ref 258, .int 0] rfl ?_
    refine Ar.hp (en_sdS (by decide) en_sd0) ?_
    refine r_iinc rfl (-8) rfl ([(2, .int (-8)), (0, .ref 231), (1, .int a2)]) rfl ?_
    refine r_goto ?_
    refine At.enter rfl ?_
    refine r_iload_n rfl ?_
    refine r_ift (by decide) ?_
    refine At.enter rfl ?_
    refine r_vret ?_
    exact ⟨trivial, rfl, rfl⟩
  refine At.enter rfl ?_
  refine r_aload_n rfl ?_
  refine r_iload_n rfl ?_
  refine r_callV1v (True)  (((en_pre a 231 hp_M).set 231 (.inr (11, [.int 0, .int 0, .ref 232, .ref 233, .ref 234, .ref 235, .int 0, .ref 236, .int 12, .int 0, .int 0, .int 0, .long 0, .int (-1), .int 0, .int 0, .ref 237, .int 0, .ref 238, .ref 239, .int 0, .ref 240, .ref 241, .int 0, .int 0, .ref 242, .ref 243, .int 0, .ref 244, .ref 245, .int 0, .long 0, .long 0, .ref 246, .ref 247, .ref 248, .int 0, .ref 249, .ref 250, .ref 251, .ref 252, .ref 253, .ref 254, .ref 255, .ref 256, .int 0, .int 0, .int 0, .long 0, .ref 257, .ref 258, .int 0]))).set 236 (.inl (0, .inl ([((a1 >>> (24 &&& 31)) &&& 255), ((a1 >>> (16 &&& 31)) &&& 255), ((a1 >>> (8 &&& 31)) &&& 255), (a1 &&& 255), ((a2 >>> (24 &&& 31)) &&& 255), ((a2 >>> (16 &&& 31)) &&& 255), ((a2 >>> (8 &&& 31)) &&& 255), (a2 &&& 255), ((a3 >>> (24 &&& 31)) &&& 255), ((a3 >>> (16 &&& 31)) &&& 255), ((a3 >>> (8 &&& 31)) &&& 255), (a3 &&& 255)] ++ List.replicate 388 0))), n) 35 rfl [.ref 231, .int a3] [] (Nat.le_of_ble_eq_true rfl) rfl ?_ (fun _ => ?_)
  · refine Ev.mk rfl rfl ⟨Nat.le_of_ble_eq_true rfl, Or.inr (en_rcI (en_gs_ne (by decide) (en_gs_eq (hm_231 _))) rfl)⟩ ?_
    show At _ none _ _ (0, [(0, .ref 231), (1, .int a3)], [], (((en_pre a 231 hp_M).set 231 (.inr (11, [.int 0, .int 0, .ref 232, .ref 233, .ref 234, .ref 235, .int 0, .ref 236, .int 8, .int 0, .int 0, .int 0, .long 0, .int (-1), .int 0, .int 0, .ref 237, .int 0, .ref 238, .ref 239, .int 0, .ref 240, .ref 241, .int 0, .int 0, .ref 242, .ref 243, .int 0, .ref 244, .ref 245, .int 0, .long 0, .long 0, .ref 246, .ref 247, .ref 248, .int 0, .ref 249, .ref 250, .ref 251, .ref 252, .ref 253, .ref 254, .ref 255, .ref 256, .int 0, .int 0, .int 0, .long 0, .ref 257, .ref 258, .int 0]))).set 236 (.inl (0, .inl ([((a1 >>> (24 &&& 31)) &&& 255), ((a1 >>> (16 &&& 31)) &&& 255), ((a1 >>> (8 &&& 31)) &&& 255), (a1 &&& 255), ((a2 >>> (24 &&& 31)) &&& 255), ((a2 >>> (16 &&& 31)) &&& 255), ((a2 >>> (8 &&& 31)) &&& 255), (a2 &&& 255)] ++ List.replicate 392 0))), n)) _
    refine At.enter rfl ?_
    refine r_bipush 24 rfl ?_
    refine r_istore_n ([(2, .int 24), (0, .ref 231), (1, .int a3)]) rfl ?_
    refine Ar.fall 3 rfl ?_
    refine At.enter rfl ?_
    refine r_iload_n rfl ?_
    refine r_iff 7 rfl (by decide) ?_
    refine At.enter rfl ?_
    refine r_aload_n rfl ?_
    refine r_get (v := .ref 236) (en_gs_ne (by decide) (en_gs_eq (hm_231 _))) rfl ?_
    refine r_aload_n rfl ?_
    refine r_get (v := .int 8) (en_gs_ne (by decide) (en_gs_eq (hm_231 _))) rfl ?_
    refine r_iload_n rfl ?_
    refine r_iload_n rfl ?_
    refine r_ishr (a3 >>> (24 &&& 31)) rfl ?_
    refine r_sipush 255 rfl ?_
    refine r_iand ((a3 >>> (24 &&& 31)) &&& 255) rfl ?_
    refine r_iast (en_gs_eq (en_gs_ne (by decide) (hm_236 _))) (by decide) (Nat.le_of_ble_eq_true rfl) ([((a1 >>> (24 &&& 31)) &&& 255), ((a1 >>> (16 &&& 31)) &&& 255), ((a1 >>> (8 &&& 31)) &&& 255), (a1 &&& 255), ((a2 >>> (24 &&& 31)) &&& 255), ((a2 >>> (16 &&& 31)) &&& 255), ((a2 >>> (8 &&& 31)) &&& 255), (a2 &&& 255), ((a3 >>> (24 &&& 31)) &&& 255)] ++ List.replicate 391 0) rfl ?_
    refine Ar.hp en_sd0 ?_
    refine r_aload_n rfl ?_
    refine r_dup rfl ?_
    refine r_get (v := .int 8) (en_gs_ne (by decide) (en_gs_eq (hm_231 _))) rfl ?_
    refine r_iconst 1 rfl ?_
    refine r_iadd 9 rfl ?_
    refine r_putf (en_gs_ne (by decide) (en_gs_eq (hm_231 _))) (Nat.le_of_ble_eq_true rfl) rfl [.int 0, .int 0, .ref 232, .ref 233, .ref 234, .ref 235, .int 0, .ref 236, .int 9, .int 0, .int 0, .int 0, .long 0, .int (-1), .int 0, .int 0, .ref 237, .int 0, .ref 238, .ref 239, .int 0, .ref 240, .ref 241, .int 0, .int 0, .ref 242, .ref 243, .int 0, .ref 244, .ref 245, .int 0, .long 0, .long 0, .ref 246, .ref 247, .ref 248, .int 0, .ref 249, .ref 250, .ref 251, .ref 252, .ref 253, .ref 254, .ref 255, .ref 256, .int 0, .int 0, .int 0, .long 0, .ref 257, .ref 258, .int 0] rfl ?_
    refine Ar.hp (en_sdS (by decide) en_sd0) ?_
    refine r_iinc rfl 16 rfl ([(2, .int 16), (0, .ref 231), (1, .int a3)]) rfl ?_
    refine r_goto ?_
    refine At.enter rfl ?_
    refine r_iload_n rfl ?_
    refine r_iff 7 rfl (by decide) ?_
    refine At.enter rfl ?_
    refine r_aload_n rfl ?_
    refine r_get (v := .ref 236) (en_gs_ne (by decide) (en_gs_eq (hm_231 _))) rfl ?_
    refine r_aload_n rfl ?_
    refine r_get (v := .int 9) (en_gs_ne (by decide) (en_gs_eq (hm_231 _))) rfl ?_
    refine r_iload_n rfl ?_
    refine r_iload_n rfl ?_
    refine r_ishr (a3 >>> (16 &&& 31)) rfl ?_
    refine r_sipush 255 rfl ?_
    refine r_iand ((a3 >>> (16 &&& 31)) &&& 255) rfl ?_
    refine r_iast (en_gs_eq (en_gs_ne (by decide) (hm_236 _))) (by decide) (Nat.le_of_ble_eq_true rfl) ([((a1 >>> (24 &&& 31)) &&& 255), ((a1 >>> (16 &&& 31)) &&& 255), ((a1 >>> (8 &&& 31)) &&& 255), (a1 &&& 255), ((a2 >>> (24 &&& 31)) &&& 255), ((a2 >>> (16 &&& 31)) &&& 255), ((a2 >>> (8 &&& 31)) &&& 255), (a2 &&& 255), ((a3 >>> (24 &&& 31)) &&& 255), ((a3 >>> (16 &&& 31)) &&& 255)] ++ List.replicate 390 0) rfl ?_
    refine Ar.hp en_sd0 ?_
    refine r_aload_n rfl ?_
    refine r_dup rfl ?_
    refine r_get (v := .int 9) (en_gs_ne (by decide) (en_gs_eq (hm_231 _))) rfl ?_
    refine r_iconst 1 rfl ?_
    refine r_iadd 10 rfl ?_
    refine r_putf (en_gs_ne (by decide) (en_gs_eq (hm_231 _))) (Nat.le_of_ble_eq_true rfl) rfl [.int 0, .int 0, .ref 232, .ref 233, .ref 234, .ref 235, .int 0, .ref 236, .int 10, .int 0, .int 0, .int 0, .long 0, .int (-1), .int 0, .int 0, .ref 237, .int 0, .ref 238, .ref 239, .int 0, .ref 240, .ref 241, .int 0, .int 0, .ref 242, .ref 243, .int 0, .ref 244, .ref 245, .int 0, .long 0, .long 0, .ref 246, .ref 247, .ref 248, .int 0, .ref 249, .ref 250, .ref 251, .ref 252, .ref 253, .ref 254, .ref 255, .ref 256, .int 0, .int 0, .int 0, .long 0, .ref 257, .ref 258, .int 0] rfl ?_
    refine Ar.hp (en_sdS (by decide) en_sd0) ?_
    refine r_iinc rfl 8 rfl ([(2, .int 8), (0, .ref 231), (1, .int a3)]) rfl ?_
    refine r_goto ?_
    refine At.enter rfl ?_
    refine r_iload_n rfl ?_
    refine r_iff 7 rfl (by decide) ?_
    refine At.enter rfl ?_
    refine r_aload_n rfl ?_
    refine r_get (v := .ref 236) (en_gs_ne (by decide) (en_gs_eq (hm_231 _))) rfl ?_
    refine r_aload_n rfl ?_
    refine r_get (v := .int 10) (en_gs_ne (by decide) (en_gs_eq (hm_231 _))) rfl ?_
    refine r_iload_n rfl ?_
    refine r_iload_n rfl ?_
    refine r_ishr (a3 >>> (8 &&& 31)) rfl ?_
    refine r_sipush 255 rfl ?_
    refine r_iand ((a3 >>> (8 &&& 31)) &&& 255) rfl ?_
    refine r_iast (en_gs_eq (en_gs_ne (by decide) (hm_236 _))) (by decide) (Nat.le_of_ble_eq_true rfl) ([((a1 >>> (24 &&& 31)) &&& 255), ((a1 >>> (16 &&& 31)) &&& 255), ((a1 >>> (8 &&& 31)) &&& 255), (a1 &&& 255), ((a2 >>> (24 &&& 31)) &&& 255), ((a2 >>> (16 &&& 31)) &&& 255), ((a2 >>> (8 &&& 31)) &&& 255), (a2 &&& 255), ((a3 >>> (24 &&& 31)) &&& 255), ((a3 >>> (16 &&& 31)) &&& 255), ((a3 >>> (8 &&& 31)) &&& 255)] ++ List.replicate 389 0) rfl ?_
    refine Ar.hp en_sd0 ?_
    refine r_aload_n rfl ?_
    refine r_dup rfl ?_
    refine r_get (v := .int 10) (en_gs_ne (by decide) (en_gs_eq (hm_231 _))) rfl ?_
    refine r_iconst 1 rfl ?_
    refine r_iadd 11 rfl ?_
    refine r_putf (en_gs_ne (by decide) (en_gs_eq (hm_231 _))) (Nat.le_of_ble_eq_true rfl) rfl [.int 0, .int 0, .ref 232, .ref 233, .ref 234, .ref 235, .int 0, .ref 236, .int 11, .int 0, .int 0, .int 0, .long 0, .int (-1), .int 0, .int 0, .ref 237, .int 0, .ref 238, .ref 239, .int 0, .ref 240, .ref 241, .int 0, .int 0, .ref 242, .ref 243, .int 0, .ref 244, .ref 245, .int 0, .long 0, .long 0, .ref 246, .ref 247, .ref 248, .int 0, .ref 249, .ref 250, .ref 251, .ref 252, .ref 253, .ref 254, .ref 255, .ref 256, .int 0, .int 0, .int 0, .long 0, .ref 257, .ref 258, .int 0] rfl ?_
    refine Ar.hp (en_sdS (by decide) en_sd0) ?_
    refine r_iinc rfl 0 rfl ([(2, .int 0), (0, .ref 231), (1, .int a3)]) rfl ?_
    refine r_goto ?_
    refine At.enter rfl ?_
    refine r_iload_n rfl ?_
    refine r_iff 7 rfl (by decide) ?_
    refine At.enter rfl ?_
    refine r_aload_n rfl ?_
    refine r_get (v := .ref 236) (en_gs_ne (by decide) (en_gs_eq (hm_231 _))) rfl ?_
    refine r_aload_n rfl ?_
    refine r_get (v := .int 11) (en_gs_ne (by decide) (en_gs_eq (hm_231 _))) rfl ?_
    refine r_iload_n rfl ?_
    refine r_iload_n rfl ?_
    refine r_ishr a3 (en_shr0 _) ?_
    refine r_sipush 255 rfl ?_
    refine r_iand (a3 &&& 255) rfl ?_
    refine r_iast (en_gs_eq (en_gs_ne (by decide) (hm_236 _))) (by decide) (Nat.le_of_ble_eq_true rfl) ([((a1 >>> (24 &&& 31)) &&& 255), ((a1 >>> (16 &&& 31)) &&& 255), ((a1 >>> (8 &&& 31)) &&& 255), (a1 &&& 255), ((a2 >>> (24 &&& 31)) &&& 255), ((a2 >>> (16 &&& 31)) &&& 255), ((a2 >>> (8 &&& 31)) &&& 255), (a2 &&& 255), ((a3 >>> (24 &&& 31)) &&& 255), ((a3 >>> (16 &&& 31)) &&& 255), ((a3 >>> (8 &&& 31)) &&& 255), (a3 &&& 255)] ++ List.replicate 388 0) rfl ?_
    refine Ar.hp en_sd0 ?_
    refine r_aload_n rfl ?_
    refine r_dup rfl ?_
    refine r_get (v := .int 11) (en_gs_ne (by decide) (en_gs_eq (hm_231 _))) rfl ?_
    refine r_iconst 1 rfl ?_
    refine r_iadd 12 rfl ?_
    refine r_putf (en_gs_ne (by decide) (en_gs_eq (hm_231 _))) (Nat.le_of_ble_eq_true rfl) rfl [.int 0, .int 0, .ref 232, .ref 233, .ref 234, .ref 235, .int 0, .ref 236, .int 12, .int 0, .int 0, .int 0, .long 0, .int (-1), .int 0, .int 0, .ref 237, .int 0, .ref 238, .ref 239, .int 0, .ref 240, .ref 241, .int 0, .int 0, .ref 242, .ref 243, .int 0, .ref 244, .ref 245, .int 0, .long 0, .long 0, .ref 246, .ref 247, .ref 248, .int 0, .ref 249, .ref 250, .ref 251, .ref 252, .ref 253, .ref 254, .ref 255, .ref 256, .int 0, .int 0, .int 0, .long 0, .ref 257, .ref 258, .int 0] rfl ?_
    refine Ar.hp (en_sdS (by decide) en_sd0) ?_
    refine r_iinc rfl (-8) rfl ([(2, .int (-8)), (0, .ref 231), (1, .int a3)]) rfl ?_
    refine r_goto ?_
    refine At.enter rfl ?_
    refine r_iload_n rfl ?_
    refine r_ift (by decide) ?_
    refine At.enter rfl ?_
    refine r_vret ?_
    exact ⟨trivial, rfl, rfl⟩
  refine At.enter rfl ?_
  refine r_aload_n rfl ?_
  refine r_iload rfl ?_
  refine r_callV1v (True)  (((en_pre a 231 hp_M).set 231 (.inr (11, [.int 0, .int 0, .ref 232, .ref 233, .ref 234, .ref 235, .int 0, .ref 236, .int 16, .int 0, .int 0, .int 0, .long 0, .int (-1), .int 0, .int 0, .ref 237, .int 0, .ref 238, .ref 239, .int 0, .ref 240, .ref 241, .int 0, .int 0, .ref 242, .ref 243, .int 0, .ref 244, .ref 245, .int 0, .long 0, .long 0, .ref 246, .ref 247, .ref 248, .int 0, .ref 249, .ref 250, .ref 251, .ref 252, .ref 253, .ref 254, .ref 255, .ref 256, .int 0, .int 0, .int 0, .long 0, .ref 257, .ref 258, .int 0]))).set 236 (.inl (0, .inl ([((a1 >>> (24 &&& 31)) &&& 255), ((a1 >>> (16 &&& 31)) &&& 255), ((a1 >>> (8 &&& 31)) &&& 255), (a1 &&& 255), ((a2 >>> (24 &&& 31)) &&& 255), ((a2 >>> (16 &&& 31)) &&& 255), ((a2 >>> (8 &&& 31)) &&& 255), (a2 &&& 255), ((a3 >>> (24 &&& 31)) &&& 255), ((a3 >>> (16 &&& 31)) &&& 255), ((a3 >>> (8 &&& 31)) &&& 255), (a3 &&& 255), ((a4 >>> (24 &&& 31)) &&& 255), ((a4 >>> (16 &&& 31)) &&& 255), ((a4 >>> (8 &&& 31)) &&& 255), (a4 &&& 255)] ++ List.replicate 384 0))), n) 41 rfl [.ref 231, .int a4] [] (Nat.le_of_ble_eq_true rfl) rfl ?_ (fun _ => ?_)
  · refine Ev.mk rfl rfl ⟨Nat.le_of_ble_eq_true rfl, Or.inr (en_rcI (en_gs_ne (by decide) (en_gs_eq (hm_231 _))) rfl)⟩ ?_
    show At _ none _ _ (0, [(0, .ref 231), (1, .int a4)], [], (((en_pre a 231 hp_M).set 231 (.inr (11, [.int 0, .int 0, .ref 232, .ref 233, .ref 234, .ref 235, .int 0, .ref 236, .int 12, .int 0, .int 0, .int 0, .long 0, .int (-1), .int 0, .int 0, .ref 237, .int 0, .ref 238, .ref 239, .int 0, .ref 240, .ref 241, .int 0, .int 0, .ref 242, .ref 243, .int 0, .ref 244, .ref 245, .int 0, .long 0, .long 0, .ref 246, .ref 247, .ref 248, .int 0, .ref 249, .ref 250, .ref 251, .ref 252, .ref 253, .ref 254, .ref 255, .ref 256, .int 0, .int 0, .int 0, .long 0, .ref 257, .ref 258, .int 0]))).set 236 (.inl (0, .inl ([((a1 >>> (24 &&& 31)) &&& 255), ((a1 >>> (16 &&& 31)) &&& 255), ((a1 >>> (8 &&& 31)) &&& 255), (a1 &&& 255), ((a2 >>> (24 &&& 31)) &&& 255), ((a2 >>> (16 &&& 31)) &&& 255), ((a2 >>> (8 &&& 31)) &&& 255), (a2 &&& 255), ((a3 >>> (24 &&& 31)) &&& 255), ((a3 >>> (16 &&& 31)) &&& 255), ((a3 >>> (8 &&& 31)) &&& 255), (a3 &&& 255)] ++ List.replicate 388 0))), n)) _
    refine At.enter rfl ?_
    refine r_bipush 24 rfl ?_
    refine r_istore_n ([(2, .int 24), (0, .ref 231), (1, .int a4)]) rfl ?_
    refine Ar.fall 3 rfl ?_
    refine At.enter rfl ?_
    refine r_iload_n rfl ?_
    refine r_iff 7 rfl (by decide) ?_
    refine At.enter rfl ?_
    refine r_aload_n rfl ?_
    refine r_get (v := .ref 236) (en_gs_ne (by decide) (en_gs_eq (hm_231 _))) rfl ?_
    refine r_aload_n rfl ?_
    refine r_get (v := .int 12) (en_gs_ne (by decide) (en_gs_eq (hm_231 _))) rfl ?_
    refine r_iload_n rfl ?_
    refine r_iload_n rfl ?_
    refine r_ishr (a4 >>> (24 &&& 31)) rfl ?_
    refine r_sipush 255 rfl ?_
    refine r_iand ((a4 >>> (24 &&& 31)) &&& 255) rfl ?_
    refine r_iast (en_gs_eq (en_gs_ne (by decide) (hm_236 _))) (by decide) (Nat.le_of_ble_eq_true rfl) ([((a1 >>> (24 &&& 31)) &&& 255), ((a1 >>> (16 &&& 31)) &&& 255), ((a1 >>> (8 &&& 31)) &&& 255), (a1 &&& 255), ((a2 >>> (24 &&& 31)) &&& 255), ((a2 >>> (16 &&& 31)) &&& 255), ((a2 >>> (8 &&& 31)) &&& 255), (a2 &&& 255), ((a3 >>> (24 &&& 31)) &&& 255), ((a3 >>> (16 &&& 31)) &&& 255), ((a3 >>> (8 &&& 31)) &&& 255), (a3 &&& 255), ((a4 >>> (24 &&& 31)) &&& 255)] ++ List.replicate 387 0) rfl ?_
    refine Ar.hp en_sd0 ?_
    refine r_aload_n rfl ?_
    refine r_dup rfl ?_
    refine r_get (v := .int 12) (en_gs_ne (by decide) (en_gs_eq (hm_231 _))) rfl ?_
    refine r_iconst 1 rfl ?_
    refine r_iadd 13 rfl ?_
    refine r_putf (en_gs_ne (by decide) (en_gs_eq (hm_231 _))) (Nat.le_of_ble_eq_true rfl) rfl [.int 0, .int 0, .ref 232, .ref 233, .ref 234, .ref 235, .int 0, .ref 236, .int 13, .int 0, .int 0, .int 0, .long 0, .int (-1), .int 0, .int 0, .ref 237, .int 0, .ref 238, .ref 239, .int 0, .ref 240, .ref 241, .int 0, .int 0, .ref 242, .ref 243, .int 0, .ref 244, .ref 245, .int 0, .long 0, .long 0, .ref 246, .ref 247, .ref 248, .int 0, .ref 249, .ref 250, .ref 251, .ref 252, .ref 253, .ref 254, .ref 255, .ref 256, .int 0, .int 0, .int 0, .long 0, .ref 257, .ref 258, .int 0] rfl ?_
    refine Ar.hp (en_sdS (by decide) en_sd0) ?_
    refine r_iinc rfl 16 rfl ([(2, .int 16), (0, .ref 231), (1, .int a4)]) rfl ?_
    refine r_goto ?_
    refine At.enter rfl ?_
    refine r_iload_n rfl ?_
    refine r_iff 7 rfl (by decide) ?_
    refine At.enter rfl ?_
    refine r_aload_n rfl ?_
    refine r_get (v := .ref 236) (en_gs_ne (by decide) (en_gs_eq (hm_231 _))) rfl ?_
    refine r_aload_n rfl ?_
    refine r_get (v := .int 13) (en_gs_ne (by decide) (en_gs_eq (hm_231 _))) rfl ?_
    refine r_iload_n rfl ?_
    refine r_iload_n rfl ?_
    refine r_ishr (a4 >>> (16 &&& 31)) rfl ?_
    refine r_sipush 255 rfl ?_
    refine r_iand ((a4 >>> (16 &&& 31)) &&& 255) rfl ?_
    refine r_iast (en_gs_eq (en_gs_ne (by decide) (hm_236 _))) (by decide) (Nat.le_of_ble_eq_true rfl) ([((a1 >>> (24 &&& 31)) &&& 255), ((a1 >>> (16 &&& 31)) &&& 255), ((a1 >>> (8 &&& 31)) &&& 255), (a1 &&& 255), ((a2 >>> (24 &&& 31)) &&& 255), ((a2 >>> (16 &&& 31)) &&& 255), ((a2 >>> (8 &&& 31)) &&& 255), (a2 &&& 255), ((a3 >>> (24 &&& 31)) &&& 255), ((a3 >>> (16 &&& 31)) &&& 255), ((a3 >>> (8 &&& 31)) &&& 255), (a3 &&& 255), ((a4 >>> (24 &&& 31)) &&& 255), ((a4 >>> (16 &&& 31)) &&& 255)] ++ List.replicate 386 0) rfl ?_
    refine Ar.hp en_sd0 ?_
    refine r_aload_n rfl ?_
    refine r_dup rfl ?_
    refine r_get (v := .int 13) (en_gs_ne (by decide) (en_gs_eq (hm_231 _))) rfl ?_
    refine r_iconst 1 rfl ?_
    refine r_iadd 14 rfl ?_
    refine r_putf (en_gs_ne (by decide) (en_gs_eq (hm_231 _))) (Nat.le_of_ble_eq_true rfl) rfl [.int 0, .int 0, .ref 232, .ref 233, .ref 234, .ref 235, .int 0, .ref 236, .int 14, .int 0, .int 0, .int 0, .long 0, .int (-1), .int 0, .int 0, .ref 237, .int 0, .ref 238, .ref 239, .int 0, .ref 240, .ref 241, .int 0, .int 0, .ref 242, .ref 243, .int 0, .ref 244, .ref 245, .int 0, .long 0, .long 0, .ref 246, .ref 247, .ref 248, .int 0, .ref 249, .ref 250, .ref 251, .ref 252, .ref 253, .ref 254, .ref 255, .ref 256, .int 0, .int 0, .int 0, .long 0, .ref 257, .ref 258, .int 0] rfl ?_
    refine Ar.hp (en_sdS (by decide) en_sd0) ?_
    refine r_iinc rfl 8 rfl ([(2, .int 8), (0, .ref 231), (1, .int a4)]) rfl ?_
    refine r_goto ?_
    refine At.enter rfl ?_
    refine r_iload_n rfl ?_
    refine r_iff 7 rfl (by decide) ?_
    refine At.enter rfl ?_
    refine r_aload_n rfl ?_
    refine r_get (v := .ref 236) (en_gs_ne (by decide) (en_gs_eq (hm_231 _))) rfl ?_
    refine r_aload_n rfl ?_
    refine r_get (v := .int 14) (en_gs_ne (by decide) (en_gs_eq (hm_231 _))) rfl ?_
    refine r_iload_n rfl ?_
    refine r_iload_n rfl ?_
    refine r_ishr (a4 >>> (8 &&& 31)) rfl ?_
    refine r_sipush 255 rfl ?_
    refine r_iand ((a4 >>> (8 &&& 31)) &&& 255) rfl ?_
    refine r_iast (en_gs_eq (en_gs_ne (by decide) (hm_236 _))) (by decide) (Nat.le_of_ble_eq_true rfl) ([((a1 >>> (24 &&& 31)) &&& 255), ((a1 >>> (16 &&& 31)) &&& 255), ((a1 >>> (8 &&& 31)) &&& 255), (a1 &&& 255), ((a2 >>> (24 &&& 31)) &&& 255), ((a2 >>> (16 &&& 31)) &&& 255), ((a2 >>> (8 &&& 31)) &&& 255), (a2 &&& 255), ((a3 >>> (24 &&& 31)) &&& 255), ((a3 >>> (16 &&& 31)) &&& 255), ((a3 >>> (8 &&& 31)) &&& 255), (a3 &&& 255), ((a4 >>> (24 &&& 31)) &&& 255), ((a4 >>> (16 &&& 31)) &&& 255), ((a4 >>> (8 &&& 31)) &&& 255)] ++ List.replicate 385 0) rfl ?_
    refine Ar.hp en_sd0 ?_
    refine r_aload_n rfl ?_
    refine r_dup rfl ?_
    refine r_get (v := .int 14) (en_gs_ne (by decide) (en_gs_eq (hm_231 _))) rfl ?_
    refine r_iconst 1 rfl ?_
    refine r_iadd 15 rfl ?_
    refine r_putf (en_gs_ne (by decide) (en_gs_eq (hm_231 _))) (Nat.le_of_ble_eq_true rfl) rfl [.int 0, .int 0, .ref 232, .ref 233, .ref 234, .ref 235, .int 0, .ref 236, .int 15, .int 0, .int 0, .int 0, .long 0, .int (-1), .int 0, .int 0, .ref 237, .int 0, .ref 238, .ref 239, .int 0, .ref 240, .ref 241, .int 0, .int 0, .ref 242, .ref 243, .int 0, .ref 244, .ref 245, .int 0, .long 0, .long 0, .ref 246, .ref 247, .ref 248, .int 0, .ref 249, .ref 250, .ref 251, .ref 252, .ref 253, .ref 254, .ref 255, .ref 256, .int 0, .int 0, .int 0, .long 0, .ref 257, .ref 258, .int 0] rfl ?_
    refine Ar.hp (en_sdS (by decide) en_sd0) ?_
    refine r_iinc rfl 0 rfl ([(2, .int 0), (0, .ref 231), (1, .int a4)]) rfl ?_
    refine r_goto ?_
    refine At.enter rfl ?_
    refine r_iload_n rfl ?_
    refine r_iff 7 rfl (by decide) ?_
    refine At.enter rfl ?_
    refine r_aload_n rfl ?_
    refine r_get (v := .ref 236) (en_gs_ne (by decide) (en_gs_eq (hm_231 _))) rfl ?_
    refine r_aload_n rfl ?_
    refine r_get (v := .int 15) (en_gs_ne (by decide) (en_gs_eq (hm_231 _))) rfl ?_
    refine r_iload_n rfl ?_
    refine r_iload_n rfl ?_
    refine r_ishr a4 (en_shr0 _) ?_
    refine r_sipush 255 rfl ?_
    refine r_iand (a4 &&& 255) rfl ?_
    refine r_iast (en_gs_eq (en_gs_ne (by decide) (hm_236 _))) (by decide) (Nat.le_of_ble_eq_true rfl) ([((a1 >>> (24 &&& 31)) &&& 255), ((a1 >>> (16 &&& 31)) &&& 255), ((a1 >>> (8 &&& 31)) &&& 255), (a1 &&& 255), ((a2 >>> (24 &&& 31)) &&& 255), ((a2 >>> (16 &&& 31)) &&& 255), ((a2 >>> (8 &&& 31)) &&& 255), (a2 &&& 255), ((a3 >>> (24 &&& 31)) &&& 255), ((a3 >>> (16 &&& 31)) &&& 255), ((a3 >>> (8 &&& 31)) &&& 255), (a3 &&& 255), ((a4 >>> (24 &&& 31)) &&& 255), ((a4 >>> (16 &&& 31)) &&& 255), ((a4 >>> (8 &&& 31)) &&& 255), (a4 &&& 255)] ++ List.replicate 384 0) rfl ?_
    refine Ar.hp en_sd0 ?_
    refine r_aload_n rfl ?_
    refine r_dup rfl ?_
    refine r_get (v := .int 15) (en_gs_ne (by decide) (en_gs_eq (hm_231 _))) rfl ?_
    refine r_iconst 1 rfl ?_
    refine r_iadd 16 rfl ?_
    refine r_putf (en_gs_ne (by decide) (en_gs_eq (hm_231 _))) (Nat.le_of_ble_eq_true rfl) rfl [.int 0, .int 0, .ref 232, .ref 233, .ref 234, .ref 235, .int 0, .ref 236, .int 16, .int 0, .int 0, .int 0, .long 0, .int (-1), .int 0, .int 0, .ref 237, .int 0, .ref 238, .ref 239, .int 0, .ref 240, .ref 241, .int 0, .int 0, .ref 242, .ref 243, .int 0, .ref 244, .ref 245, .int 0, .long 0, .long 0, .ref 246, .ref 247, .ref 248, .int 0, .ref 249, .ref 250, .ref 251, .ref 252, .ref 253, .ref 254, .ref 255, .ref 256, .int 0, .int 0, .int 0, .long 0, .ref 257, .ref 258, .int 0] rfl ?_
    refine Ar.hp (en_sdS (by decide) en_sd0) ?_
    refine r_iinc rfl (-8) rfl ([(2, .int (-8)), (0, .ref 231), (1, .int a4)]) rfl ?_
    refine r_goto ?_
    refine At.enter rfl ?_
    refine r_iload_n rfl ?_
    refine r_ift (by decide) ?_
    refine At.enter rfl ?_
    refine r_vret ?_
    exact ⟨trivial, rfl, rfl⟩
  refine At.enter rfl ?_
  refine r_aload_n rfl ?_
  refine r_iload rfl ?_
  refine r_callV1v (True)  (((en_pre a 231 hp_M).set 231 (.inr (11, [.int 0, .int 0, .ref 232, .ref 233, .ref 234, .ref 235, .int 0, .ref 236, .int 20, .int 0, .int 0, .int 0, .long 0, .int (-1), .int 0, .int 0, .ref 237, .int 0, .ref 238, .ref 239, .int 0, .ref 240, .ref 241, .int 0, .int 0, .ref 242, .ref 243, .int 0, .ref 244, .ref 245, .int 0, .long 0, .long 0, .ref 246, .ref 247, .ref 248, .int 0, .ref 249, .ref 250, .ref 251, .ref 252, .ref 253, .ref 254, .ref 255, .ref 256, .int 0, .int 0, .int 0, .long 0, .ref 257, .ref 258, .int 0]))).set 236 (.inl (0, .inl ([((a1 >>> (24 &&& 31)) &&& 255), ((a1 >>> (16 &&& 31)) &&& 255), ((a1 >>> (8 &&& 31)) &&& 255), (a1 &&& 255), ((a2 >>> (24 &&& 31)) &&& 255), ((a2 >>> (16 &&& 31)) &&& 255), ((a2 >>> (8 &&& 31)) &&& 255), (a2 &&& 255), ((a3 >>> (24 &&& 31)) &&& 255), ((a3 >>> (16 &&& 31)) &&& 255), ((a3 >>> (8 &&& 31)) &&& 255), (a3 &&& 255), ((a4 >>> (24 &&& 31)) &&& 255), ((a4 >>> (16 &&& 31)) &&& 255), ((a4 >>> (8 &&& 31)) &&& 255), (a4 &&& 255), ((a5 >>> (24 &&& 31)) &&& 255), ((a5 >>> (16 &&& 31)) &&& 255), ((a5 >>> (8 &&& 31)) &&& 255), (a5 &&& 255)] ++ List.replicate 380 0))), n) 47 rfl [.ref 231, .int a5] [] (Nat.le_of_ble_eq_true rfl) rfl ?_ (fun _ => ?_)
  · refine Ev.mk rfl rfl ⟨Nat.le_of_ble_eq_true rfl, Or.inr (en_rcI (en_gs_ne (by decide) (en_gs_eq (hm_231 _))) rfl)⟩ ?_
    show At _ none _ _ (0, [(0, .ref 231), (1, .int a5)], [], (((en_pre a 231 hp_M).set 231 (.inr (11, [.int 0, .int 0, .ref 232, .ref 233, .ref 234, .ref 235, .int 0, .ref 236, .int 16, .int 0, .int 0, .int 0, .long 0, .int (-1), .int 0, .int 0, .ref 237, .int 0, .ref 238, .ref 239, .int 0, .ref 240, .ref 241, .int 0, .int 0, .ref 242, .ref 243, .int 0, .ref 244, .ref 245, .int 0, .long 0, .long 0, .ref 246, .ref 247, .ref 248, .int 0, .ref 249, .ref 250, .ref 251, .ref 252, .ref 253, .ref 254, .ref 255, .ref 256, .int 0, .int 0, .int 0, .long 0, .ref 257, .ref 258, .int 0]))).set 236 (.inl (0, .inl ([((a1 >>> (24 &&& 31)) &&& 255), ((a1 >>> (16 &&& 31)) &&& 255), ((a1 >>> (8 &&& 31)) &&& 255), (a1 &&& 255), ((a2 >>> (24 &&& 31)) &&& 255), ((a2 >>> (16 &&& 31)) &&& 255), ((a2 >>> (8 &&& 31)) &&& 255), (a2 &&& 255), ((a3 >>> (24 &&& 31)) &&& 255), ((a3 >>> (16 &&& 31)) &&& 255), ((a3 >>> (8 &&& 31)) &&& 255), (a3 &&& 255), ((a4 >>> (24 &&& 31)) &&& 255), ((a4 >>> (16 &&& 31)) &&& 255), ((a4 >>> (8 &&& 31)) &&& 255), (a4 &&& 255)] ++ List.replicate 384 0))), n)) _
    refine At.enter rfl ?_
    refine r_bipush 24 rfl ?_
    refine r_istore_n ([(2, .int 24), (0, .ref 231), (1, .int a5)]) rfl ?_
    refine Ar.fall 3 rfl ?_
    refine At.enter rfl ?_
    refine r_iload_n rfl ?_
    refine r_iff 7 rfl (by decide) ?_
    refine At.enter rfl ?_
    refine r_aload_n rfl ?_
    refine r_get (v := .ref 236) (en_gs_ne (by decide) (en_gs_eq (hm_231 _))) rfl ?_
    refine r_aload_n rfl ?_
    refine r_get (v := .int 16) (en_gs_ne (by decide) (en_gs_eq (hm_231 _))) rfl ?_
    refine r_iload_n rfl ?_
    refine r_iload_n rfl ?_
    refine r_ishr (a5 >>> (24 &&& 31)) rfl ?_
    refine r_sipush 255 rfl ?_
    refine r_iand ((a5 >>> (24 &&& 31)) &&& 255) rfl ?_
    refine r_iast (en_gs_eq (en_gs_ne (by decide) (hm_236 _))) (by decide) (Nat.le_of_ble_eq_true rfl) ([((a1 >>> (24 &&& 31)) &&& 255), ((a1 >>> (16 &&& 31)) &&& 255), ((a1 >>> (8 &&& 31)) &&& 255), (a1 &&& 255), ((a2 >>> (24 &&& 31)) &&& 255), ((a2 >>> (16 &&& 31)) &&& 255), ((a2 >>> (8 &&& 31)) &&& 255), (a2 &&& 255), ((a3 >>> (24 &&& 31)) &&& 255), ((a3 >>> (16 &&& 31)) &&& 255), ((a3 >>> (8 &&& 31)) &&& 255), (a3 &&& 255), ((a4 >>> (24 &&& 31)) &&& 255), ((a4 >>> (16 &&& 31)) &&& 255), ((a4 >>> (8 &&& 31)) &&& 255), (a4 &&& 255), ((a5 >>> (24 &&& 31)) &&& 255)] ++ List.replicate 383 0) rfl ?_
    refine Ar.hp en_sd0 ?_
    refine r_aload_n rfl ?_
    refine r_dup rfl ?_
    refine r_get (v := .int 16) (en_gs_ne (by decide) (en_gs_eq (hm_231 _))) rfl ?_
    refine r_iconst 1 rfl ?_
    refine r_iadd 17 rfl ?_
    refine r_putf (en_gs_ne (by decide) (en_gs_eq (hm_231 _))) (Nat.le_of_ble_eq_true rfl) rfl [.int 0, .int 0, .ref 232, .ref 233, .ref 234, .ref 235, .int 0, .ref 236, .int 17, .int 0, .int 0, .int 0, .long 0, .int (-1), .int 0, .int 0, .ref 237, .int 0, .ref 238, .ref 239, .int 0, .ref 240, .ref 241, .int 0, .int 0, .ref 242, .ref 243, .int 0, .ref 244, .ref 245, .int 0, .long 0, .long 0, .ref 246, .ref 247, .ref 248, .int 0, .ref 249, .ref 250, .ref 251, .ref 252, .ref 253, .ref 254, .ref 255, .ref 256, .int 0, .int 0, .int 0, .long 0, .ref 257, .ref 258, .int 0] rfl ?_
    refine Ar.hp (en_sdS (by decide) en_sd0) ?_
    refine r_iinc rfl 16 rfl ([(2, .int 16), (0, .ref 231), (1, .int a5)]) rfl ?_
    refine r_goto ?_
    refine At.enter rfl ?_
    refine r_iload_n rfl ?_
    refine r_iff 7 rfl (by decide) ?_
    refine At.enter rfl ?_
    refine r_aload_n rfl ?_
    refine r_get (v := .ref 236) (en_gs_ne (by decide) (en_gs_eq (hm_231 _))) rfl ?_
    refine r_aload_n rfl ?_
    refine r_get (v := .int 17) (en_gs_ne (by decide) (en_gs_eq (hm_231 _))) rfl ?_
    refine r_iload_n rfl ?_
    refine r_iload_n rfl ?_
    refine r_ishr (a5 >>> (16 &&& 31)) rfl ?_
    refine r_sipush 255 rfl ?_
    refine r_iand ((a5 >>> (16 &&& 31)) &&& 255) rfl ?_
    refine r_iast (en_gs_eq (en_gs_ne (by decide) (hm_236 _))) (by decide) (Nat.le_of_ble_eq_true rfl) ([((a1 >>> (24 &&& 31)) &&& 255), ((a1 >>> (16 &&& 31)) &&& 255), ((a1 >>> (8 &&& 31)) &&& 255), (a1 &&& 255), ((a2 >>> (24 &&& 31)) &&& 255), ((a2 >>> (16 &&& 31)) &&& 255), ((a2 >>> (8 &&& 31)) &&& 255), (a2 &&& 255), ((a3 >>> (24 &&& 31)) &&& 255), ((a3 >>> (16 &&& 31)) &&& 255), ((a3 >>> (8 &&& 31)) &&& 255), (a3 &&& 255), ((a4 >>> (24 &&& 31)) &&& 255), ((a4 >>> (16 &&& 31)) &&& 255), ((a4 >>> (8 &&& 31)) &&& 255), (a4 &&& 255), ((a5 >>> (24 &&& 31)) &&& 255), ((a5 >>> (16 &&& 31)) &&& 255)] ++ List.replicate 382 0) rfl ?_
    refine Ar.hp en_sd0 ?_
    refine r_aload_n rfl ?_
    refine r_dup rfl ?_
    refine r_get (v := .int 17) (en_gs_ne (by decide) (en_gs_eq (hm_231 _))) rfl ?_
    refine r_iconst 1 rfl ?_
    refine r_iadd 18 rfl ?_
    refine r_putf (en_gs_ne (by decide) (en_gs_eq (hm_231 _))) (Nat.le_of_ble_eq_true rfl) rfl [.int 0, .int 0, .ref 232, .ref 233, .ref 234, .ref 235, .int 0, .ref 236, .int 18, .int 0, .int 0, .int 0, .long 0, .int (-1), .int 0, .int 0, .ref 237, .int 0, .ref 238, .ref 239, .int 0, .ref 240, .ref 241, .int 0, .int 0, .ref 242, .ref 243, .int 0, .ref 244, .ref 245, .int 0, .long 0, .long 0, .ref 246, .ref 247, .ref 248, .int 0, .ref 249, .ref 250, .ref 251, .ref 252, .ref 253, .ref 254, .ref 255, .ref 256, .int 0, .int 0, .int 0, .long 0, .ref 257, .ref 258, .int 0] rfl ?_
    refine Ar.hp (en_sdS (by decide) en_sd0) ?_
    refine r_iinc rfl 8 rfl ([(2, .int 8), (0, .ref 231), (1, .int a5)]) rfl ?_
    refine r_goto ?_
    refine At.enter rfl ?_
    refine r_iload_n rfl ?_
    refine r_iff 7 rfl (by decide) ?_
    refine At.enter rfl ?_
    refine r_aload_n rfl ?_
    refine r_get (v := .ref 236) (en_gs_ne (by decide) (en_gs_eq (hm_231 _))) rfl ?_
    refine r_aload_n rfl ?_
    refine r_get (v := .int 18) (en_gs_ne (by decide) (en_gs_eq (hm_231 _))) rfl ?_
    refine r_iload_n rfl ?_
    refine r_iload_n rfl ?_
    refine r_ishr (a5 >>> (8 &&& 31)) rfl ?_
    refine r_sipush 255 rfl ?_
    refine r_iand ((a5 >>> (8 &&& 31)) &&& 255) rfl ?_
    refine r_iast (en_gs_eq (en_gs_ne (by decide) (hm_236 _))) (by decide) (Nat.le_of_ble_eq_true rfl) ([((a1 >>> (24 &&& 31)) &&& 255), ((a1 >>> (16 &&& 31)) &&& 255), ((a1 >>> (8 &&& 31)) &&& 255), (a1 &&& 255), ((a2 >>> (24 &&& 31)) &&& 255), ((a2 >>> (16 &&& 31)) &&& 255), ((a2 >>> (8 &&& 31)) &&& 255), (a2 &&& 255), ((a3 >>> (24 &&& 31)) &&& 255), ((a3 >>> (16 &&& 31)) &&& 255), ((a3 >>> (8 &&& 31)) &&& 255), (a3 &&& 255), ((a4 >>> (24 &&& 31)) &&& 255), ((a4 >>> (16 &&& 31)) &&& 255), ((a4 >>> (8 &&& 31)) &&& 255), (a4 &&& 255), ((a5 >>> (24 &&& 31)) &&& 255), ((a5 >>> (16 &&& 31)) &&& 255), ((a5 >>> (8 &&& 31)) &&& 255)] ++ List.replicate 381 0) rfl ?_
    refine Ar.hp en_sd0 ?_
    refine r_aload_n rfl ?_
    refine r_dup rfl ?_
    refine r_get (v := .int 18) (en_gs_ne (by decide) (en_gs_eq (hm_231 _))) rfl ?_
    refine r_iconst 1 rfl ?_
    refine r_iadd 19 rfl ?_
    refine r_putf (en_gs_ne (by decide) (en_gs_eq (hm_231 _))) (Nat.le_of_ble_eq_true rfl) rfl [.int 0, .int 0, .ref 232, .ref 233, .ref 234, .ref 235, .int 0, .ref 236, .int 19, .int 0, .int 0, .int 0, .long 0, .int (-1), .int 0, .int 0, .ref 237, .int 0, .ref 238, .ref 239, .int 0, .ref 240, .ref 241, .int 0, .int 0, .ref 242, .ref 243, .int 0, .ref 244, .ref 245, .int 0, .long 0, .long 0, .ref 246, .ref 247, .ref 248, .int 0, .ref 249, .ref 250, .ref 251, .ref 252, .ref 253, .ref 254, .ref 255, .ref 256, .int 0, .int 0, .int 0, .long 0, .ref 257, .ref 258, .int 0] rfl ?_
    refine Ar.hp (en_sdS (by decide) en_sd0) ?_
    refine r_iinc rfl 0 rfl ([(2, .int 0), (0, .ref 231), (1, .int a5)]) rfl ?_
    refine r_goto ?_
    refine At.enter rfl ?_
    refine r_iload_n rfl ?_
    refine r_iff 7 rfl (by decide) ?_
    refine At.enter rfl ?_
    refine r_aload_n rfl ?_
    refine r_get (v := .ref 236) (en_gs_ne (by decide) (en_gs_eq (hm_231 _))) rfl ?_
    refine r_aload_n rfl ?_
    refine r_get (v := .int 19) (en_gs_ne (by decide) (en_gs_eq (hm_231 _))) rfl ?_
    refine r_iload_n rfl ?_
    refine r_iload_n rfl ?_
    refine r_ishr a5 (en_shr0 _) ?_
    refine r_sipush 255 rfl ?_
    refine r_iand (a5 &&& 255) rfl ?_
    refine r_iast (en_gs_eq (en_gs_ne (by decide) (hm_236 _))) (by decide) (Nat.le_of_ble_eq_true rfl) ([((a1 >>> (24 &&& 31)) &&& 255), ((a1 >>> (16 &&& 31)) &&& 255), ((a1 >>> (8 &&& 31)) &&& 255), (a1 &&& 255), ((a2 >>> (24 &&& 31)) &&& 255), ((a2 >>> (16 &&& 31)) &&& 255), ((a2 >>> (8 &&& 31)) &&& 255), (a2 &&& 255), ((a3 >>> (24 &&& 31)) &&& 255), ((a3 >>> (16 &&& 31)) &&& 255), ((a3 >>> (8 &&& 31)) &&& 255), (a3 &&& 255), ((a4 >>> (24 &&& 31)) &&& 255), ((a4 >>> (16 &&& 31)) &&& 255), ((a4 >>> (8 &&& 31)) &&& 255), (a4 &&& 255), ((a5 >>> (24 &&& 31)) &&& 255), ((a5 >>> (16 &&& 31)) &&& 255), ((a5 >>> (8 &&& 31)) &&& 255), (a5 &&& 255)] ++ List.replicate 380 0) rfl ?_
    refine Ar.hp en_sd0 ?_
    refine r_aload_n rfl ?_
    refine r_dup rfl ?_
    refine r_get (v := .int 19) (en_gs_ne (by decide) (en_gs_eq (hm_231 _))) rfl ?_
    refine r_iconst 1 rfl ?_
    refine r_iadd 20 rfl ?_
    refine r_putf (en_gs_ne (by decide) (en_gs_eq (hm_231 _))) (Nat.le_of_ble_eq_true rfl) rfl [.int 0, .int 0, .ref 232, .ref 233, .ref 234, .ref 235, .int 0, .ref 236, .int 20, .int 0, .int 0, .int 0, .long 0, .int (-1), .int 0, .int 0, .ref 237, .int 0, .ref 238, .ref 239, .int 0, .ref 240, .ref 241, .int 0, .int 0, .ref 242, .ref 243, .int 0, .ref 244, .ref 245, .int 0, .long 0, .long 0, .ref 246, .ref 247, .ref 248, .int 0, .ref 249, .ref 250, .ref 251, .ref 252, .ref 253, .ref 254, .ref 255, .ref 256, .int 0, .int 0, .int 0, .long 0, .ref 257, .ref 258, .int 0] rfl ?_
    refine Ar.hp (en_sdS (by decide) en_sd0) ?_
    refine r_iinc rfl (-8) rfl ([(2, .int (-8)), (0, .ref 231), (1, .int a5)]) rfl ?_
    refine r_goto ?_
    refine At.enter rfl ?_
    refine r_iload_n rfl ?_
    refine r_ift (by decide) ?_
    refine At.enter rfl ?_
    refine r_vret ?_
    exact ⟨trivial, rfl, rfl⟩
  refine At.enter rfl ?_
  refine r_aload_n rfl ?_
  refine r_get (v := .int 20) (en_gs_ne (by decide) (en_gs_eq (hm_231 _))) rfl ?_
  refine r_ireti ?_
  exact ⟨congrArg (fun z => some (Value.int z)) rfl, (en_lset (en_lset (en_prel a))), rfl⟩
