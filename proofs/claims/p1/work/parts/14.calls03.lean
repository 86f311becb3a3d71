def sp_terms (a1 a2 : Int32) : Int32 := if a1.toInt = 0 ∧ 0 ≤ a2.toInt ∧ a2.toInt ≤ 99 then 60 else if a1.toInt = 1 ∧ 1 ≤ a2.toInt ∧ a2.toInt ≤ 4 then 2 else -1
set_option maxRecDepth 100000 in
set_option maxHeartbeats 4000000 in
theorem zx_X10_terms (n : Nat) (a1 : Int32) (a2 : Int32) : Ev 14 110 [.ref 0, .int a1, .int a2] (hp_X ++ hp_M, n) (fun r h' => r = some (.int (sp_terms a1 a2)) ∧ IsX h'.1 ∧ h'.2 = n) := by
  refine Ev.mk rfl rfl ⟨Nat.le_of_ble_eq_true rfl, Or.inr (en_rcI hx_0 rfl)⟩ ?_
  show At _ none _ _ (0, [(0, .ref 0), (1, .int a1), (2, .int a2)], [], (hp_X ++ hp_M, n)) _
  refine At.enter rfl ?_
  refine r_iload_n rfl ?_
  refine r_ifs 4 rfl (fun c1 => ?_) (fun c1 => ?_)
  · have c1_ : (a1).toInt ≠ (0) := (by have z := en_k_ne_t c1; (try simp only [Int32.toInt_toInt64] at z); exact z)
    refine At.enter rfl ?_
    refine r_iload_n rfl ?_
    refine r_iconst 1 rfl ?_
    refine r_ics 38 rfl (fun c2 => ?_) (fun c2 => ?_)
    · have c2_ : (a1).toInt ≠ (1) := (by have z := en_i_ne_t c2; (try simp only [Int32.toInt_toInt64] at z); exact z)
      refine At.enter rfl ?_
      refine r_aload_n rfl ?_
      refine r_iconst (-1) rfl ?_
      refine r_callV1s (True) (.int (-1)) (((hp_X ++ hp_M).set 0 (.inr (10, [.ref 1, .ref 58, .ref 173, .ref 174, .ref 176, .ref 184, .ref 188, .ref 204, .ref 220, .ref 222, .ref 223, .ref 228, .ref 229, .ref 230, .int 0, .int 0, .int 0, .int (-1)]))).set 230 (.inl (0, .inl ([0, 1, 0, 0, 0, 0, 0]))), n) 71 rfl [.ref 0, .int (-1)] [] (Nat.le_of_ble_eq_true rfl) rfl ?_ (fun _ => ?_)
      · refine Ev.mk rfl rfl ⟨Nat.le_of_ble_eq_true rfl, Or.inr (en_rcI hx_0 rfl)⟩ ?_
        show At _ none _ _ (0, [(0, .ref 0), (1, .int (-1))], [], (hp_X ++ hp_M, n)) _
        refine At.enter rfl ?_
        refine r_aload_n rfl ?_
        refine r_iload_n rfl ?_
        refine r_putf hx_0 (Nat.le_of_ble_eq_true rfl) rfl [.ref 1, .ref 58, .ref 173, .ref 174, .ref 176, .ref 184, .ref 188, .ref 204, .ref 220, .ref 222, .ref 223, .ref 228, .ref 229, .ref 230, .int 0, .int 0, .int 0, .int (-1)] rfl ?_
        refine r_iload_n rfl ?_
        refine r_ineg 1 rfl ?_
        refine r_iconst 0 rfl ?_
        refine r_bipush 6 rfl ?_
        refine r_callS1s (True) (.int 1) ((hp_X ++ hp_M).set 0 (.inr (10, [.ref 1, .ref 58, .ref 173, .ref 174, .ref 176, .ref 184, .ref 188, .ref 204, .ref 220, .ref 222, .ref 223, .ref 228, .ref 229, .ref 230, .int 0, .int 0, .int 0, .int (-1)])), n) 13 rfl [.int 1, .int 0, .int 6] [] (Nat.le_of_ble_eq_true rfl) rfl ?_ (fun _ => ?_)
        · refine Ev.mk rfl rfl ⟨Nat.le_of_ble_eq_true rfl, Or.inl rfl⟩ ?_
          show At _ none _ _ (0, [(0, .int 1), (1, .int 0), (2, .int 6)], [], ((hp_X ++ hp_M).set 0 (.inr (10, [.ref 1, .ref 58, .ref 173, .ref 174, .ref 176, .ref 184, .ref 188, .ref 204, .ref 220, .ref 222, .ref 223, .ref 228, .ref 229, .ref 230, .int 0, .int 0, .int 0, .int (-1)])), n)) _
          refine At.enter rfl ?_
          refine r_iload_n rfl ?_
          refine r_iload_n rfl ?_
          refine r_icf 5 rfl (by decide) ?_
          refine At.enter rfl ?_
          refine r_iload_n rfl ?_
          refine r_iload_n rfl ?_
          refine r_icf 10 rfl (by decide) ?_
          refine At.enter rfl ?_
          refine r_iconst 1 rfl ?_
          refine r_goto ?_
          refine At.enter rfl ?_
          refine r_iretz (by decide) ?_
          exact ⟨trivial, rfl, rfl⟩
        refine At.enter rfl ?_
        refine r_iff 16 rfl (by decide) ?_
        refine At.enter rfl ?_
        refine r_aload_n rfl ?_
        refine r_get (v := .ref 230) (en_gs_eq hx_0) rfl ?_
        refine r_iload_n rfl ?_
        refine r_ineg 1 rfl ?_
        refine r_dup2 ⟨rfl, rfl⟩ ?_
        refine r_iald (v := 0) (en_gs_ne (by decide) hx_230) (by decide) rfl ?_
        refine r_iconst 1 rfl ?_
        refine r_iadd 1 rfl ?_
        refine r_iast (en_gs_ne (by decide) hx_230) (by decide) (Nat.le_of_ble_eq_true rfl) ([0, 1, 0, 0, 0, 0, 0]) rfl ?_
        refine Ar.fall 27 rfl ?_
        refine At.enter rfl ?_
        refine r_iload_n rfl ?_
        refine r_ireti ?_
        exact ⟨trivial, rfl, rfl⟩
      refine At.enter rfl ?_
      refine r_ireti ?_
      exact ⟨congrArg (fun z => some (Value.int z)) (by unfold sp_terms; (repeat' split) <;> first | rfl | omega), (IsX.set (IsX.set IsX.base (by decide)) (by decide)), rfl⟩
    · have c2_ : (a1).toInt = (1) := (by have z := en_i_ne_f c2; (try simp only [Int32.toInt_toInt64] at z); exact z)
      refine At.enter rfl ?_
      refine r_iload_n rfl ?_
      refine r_iconst 1 rfl ?_
      refine r_iconst 4 rfl ?_
      refine r_callS3s (((a2).toInt < (1))) (((a2).toInt ≥ (1)) ∧ ((a2).toInt > (4))) (((a2).toInt ≥ (1)) ∧ ((a2).toInt ≤ (4))) (.int 0) (.int 0) (.int 1) (hp_X ++ hp_M, n) (hp_X ++ hp_M, n) (hp_X ++ hp_M, n) 44 rfl [.int a2, .int 1, .int 4] [] (Nat.le_of_ble_eq_true rfl) rfl ?_ (fun c3_ => ?_) (fun ⟨c3_, c4_⟩ => ?_) (fun ⟨c3_, c4_⟩ => ?_)
      · refine Ev.mk rfl rfl ⟨Nat.le_of_ble_eq_true rfl, Or.inl rfl⟩ ?_
        show At _ none _ _ (0, [(0, .int a2), (1, .int 1), (2, .int 4)], [], (hp_X ++ hp_M, n)) _
        refine At.enter rfl ?_
        refine r_iload_n rfl ?_
        refine r_iload_n rfl ?_
        refine r_ics 5 rfl (fun c3 => ?_) (fun c3 => ?_)
        · have c3_ : (a2).toInt < (1) := (by have z := en_i_lt_t c3; (try simp only [Int32.toInt_toInt64] at z); exact z)
          refine At.enter rfl ?_
          refine r_iconst 0 rfl ?_
          refine Ar.fall 15 rfl ?_
          refine At.enter rfl ?_
          refine r_iretz (by decide) ?_
          exact Or.inl ⟨c3_, rfl, rfl⟩
        · have c3_ : (a2).toInt ≥ (1) := (by have z := en_i_lt_f c3; (try simp only [Int32.toInt_toInt64] at z); exact z)
          refine At.enter rfl ?_
          refine r_iload_n rfl ?_
          refine r_iload_n rfl ?_
          refine r_ics 10 rfl (fun c4 => ?_) (fun c4 => ?_)
          · have c4_ : (a2).toInt > (4) := (by have z := en_i_gt_t c4; (try simp only [Int32.toInt_toInt64] at z); exact z)
            refine At.enter rfl ?_
            refine r_iconst 0 rfl ?_
            refine Ar.fall 15 rfl ?_
            refine At.enter rfl ?_
            refine r_iretz (by decide) ?_
            exact Or.inr (Or.inl ⟨⟨c3_, c4_⟩, rfl, rfl⟩)
          · have c4_ : (a2).toInt ≤ (4) := (by have z := en_i_gt_f c4; (try simp only [Int32.toInt_toInt64] at z); exact z)
            refine At.enter rfl ?_
            refine r_iconst 1 rfl ?_
            refine r_goto ?_
            refine At.enter rfl ?_
            refine r_iretz (by decide) ?_
            exact Or.inr (Or.inr (⟨⟨c3_, c4_⟩, rfl, rfl⟩))
      · refine At.enter rfl ?_
        refine r_ift (by decide) ?_
        refine At.enter rfl ?_
        refine r_aload_n rfl ?_
        refine r_iconst (-1) rfl ?_
        refine r_callV1s (True) (.int (-1)) (((hp_X ++ hp_M).set 0 (.inr (10, [.ref 1, .ref 58, .ref 173, .ref 174, .ref 176, .ref 184, .ref 188, .ref 204, .ref 220, .ref 222, .ref 223, .ref 228, .ref 229, .ref 230, .int 0, .int 0, .int 0, .int (-1)]))).set 230 (.inl (0, .inl ([0, 1, 0, 0, 0, 0, 0]))), n) 71 rfl [.ref 0, .int (-1)] [] (Nat.le_of_ble_eq_true rfl) rfl ?_ (fun _ => ?_)
        · refine Ev.mk rfl rfl ⟨Nat.le_of_ble_eq_true rfl, Or.inr (en_rcI hx_0 rfl)⟩ ?_
          show At _ none _ _ (0, [(0, .ref 0), (1, .int (-1))], [], (hp_X ++ hp_M, n)) _
          refine At.enter rfl ?_
          refine r_aload_n rfl ?_
          refine r_iload_n rfl ?_
          refine r_putf hx_0 (Nat.le_of_ble_eq_true rfl) rfl [.ref 1, .ref 58, .ref 173, .ref 174, .ref 176, .ref 184, .ref 188, .ref 204, .ref 220, .ref 222, .ref 223, .ref 228, .ref 229, .ref 230, .int 0, .int 0, .int 0, .int (-1)] rfl ?_
          refine r_iload_n rfl ?_
          refine r_ineg 1 rfl ?_
          refine r_iconst 0 rfl ?_
          refine r_bipush 6 rfl ?_
          refine r_callS1s (True) (.int 1) ((hp_X ++ hp_M).set 0 (.inr (10, [.ref 1, .ref 58, .ref 173, .ref 174, .ref 176, .ref 184, .ref 188, .ref 204, .ref 220, .ref 222, .ref 223, .ref 228, .ref 229, .ref 230, .int 0, .int 0, .int 0, .int (-1)])), n) 13 rfl [.int 1, .int 0, .int 6] [] (Nat.le_of_ble_eq_true rfl) rfl ?_ (fun _ => ?_)
          · refine Ev.mk rfl rfl ⟨Nat.le_of_ble_eq_true rfl, Or.inl rfl⟩ ?_
            show At _ none _ _ (0, [(0, .int 1), (1, .int 0), (2, .int 6)], [], ((hp_X ++ hp_M).set 0 (.inr (10, [.ref 1, .ref 58, .ref 173, .ref 174, .ref 176, .ref 184, .ref 188, .ref 204, .ref 220, .ref 222, .ref 223, .ref 228, .ref 229, .ref 230, .int 0, .int 0, .int 0, .int (-1)])), n)) _
            refine At.enter rfl ?_
            refine r_iload_n rfl ?_
            refine r_iload_n rfl ?_
            refine r_icf 5 rfl (by decide) ?_
            refine At.enter rfl ?_
            refine r_iload_n rfl ?_
            refine r_iload_n rfl ?_
            refine r_icf 10 rfl (by decide) ?_
            refine At.enter rfl ?_
            refine r_iconst 1 rfl ?_
            refine r_goto ?_
            refine At.enter rfl ?_
            refine r_iretz (by decide) ?_
            exact ⟨trivial, rfl, rfl⟩
          refine At.enter rfl ?_
          refine r_iff 16 rfl (by decide) ?_
          refine At.enter rfl ?_
          refine r_aload_n rfl ?_
          refine r_get (v := .ref 230) (en_gs_eq hx_0) rfl ?_
          refine r_iload_n rfl ?_
          refine r_ineg 1 rfl ?_
          refine r_dup2 ⟨rfl, rfl⟩ ?_
          refine r_iald (v := 0) (en_gs_ne (by decide) hx_230) (by decide) rfl ?_
          refine r_iconst 1 rfl ?_
          refine r_iadd 1 rfl ?_
          refine r_iast (en_gs_ne (by decide) hx_230) (by decide) (Nat.le_of_ble_eq_true rfl) ([0, 1, 0, 0, 0, 0, 0]) rfl ?_
          refine Ar.fall 27 rfl ?_
          refine At.enter rfl ?_
          refine r_iload_n rfl ?_
          refine r_ireti ?_
          exact ⟨trivial, rfl, rfl⟩
        refine At.enter rfl ?_
        refine r_ireti ?_
        exact ⟨congrArg (fun z => some (Value.int z)) (by unfold sp_terms; (repeat' split) <;> first | rfl | omega), (IsX.set (IsX.set IsX.base (by decide)) (by decide)), rfl⟩
      · refine At.enter rfl ?_
        refine r_ift (by decide) ?_
        refine At.enter rfl ?_
        refine r_aload_n rfl ?_
        refine r_iconst (-1) rfl ?_
        refine r_callV1s (True) (.int (-1)) (((hp_X ++ hp_M).set 0 (.inr (10, [.ref 1, .ref 58, .ref 173, .ref 174, .ref 176, .ref 184, .ref 188, .ref 204, .ref 220, .ref 222, .ref 223, .ref 228, .ref 229, .ref 230, .int 0, .int 0, .int 0, .int (-1)]))).set 230 (.inl (0, .inl ([0, 1, 0, 0, 0, 0, 0]))), n) 71 rfl [.ref 0, .int (-1)] [] (Nat.le_of_ble_eq_true rfl) rfl ?_ (fun _ => ?_)
        · refine Ev.mk rfl rfl ⟨Nat.le_of_ble_eq_true rfl, Or.inr (en_rcI hx_0 rfl)⟩ ?_
          show At _ none _ _ (0, [(0, .ref 0), (1, .int (-1))], [], (hp_X ++ hp_M, n)) _
          refine At.enter rfl ?_
          refine r_aload_n rfl ?_
          refine r_iload_n rfl ?_
          refine r_putf hx_0 (Nat.le_of_ble_eq_true rfl) rfl [.ref 1, .ref 58, .ref 173, .ref 174, .ref 176, .ref 184, .ref 188, .ref 204, .ref 220, .ref 222, .ref 223, .ref 228, .ref 229, .ref 230, .int 0, .int 0, .int 0, .int (-1)] rfl ?_
          refine r_iload_n rfl ?_
          refine r_ineg 1 rfl ?_
          refine r_iconst 0 rfl ?_
          refine r_bipush 6 rfl ?_
          refine r_callS1s (True) (.int 1) ((hp_X ++ hp_M).set 0 (.inr (10, [.ref 1, .ref 58, .ref 173, .ref 174, .ref 176, .ref 184, .ref 188, .ref 204, .ref 220, .ref 222, .ref 223, .ref 228, .ref 229, .ref 230, .int 0, .int 0, .int 0, .int (-1)])), n) 13 rfl [.int 1, .int 0, .int 6] [] (Nat.le_of_ble_eq_true rfl) rfl ?_ (fun _ => ?_)
          · refine Ev.mk rfl rfl ⟨Nat.le_of_ble_eq_true rfl, Or.inl rfl⟩ ?_
            show At _ none _ _ (0, [(0, .int 1), (1, .int 0), (2, .int 6)], [], ((hp_X ++ hp_M).set 0 (.inr (10, [.ref 1, .ref 58, .ref 173, .ref 174, .ref 176, .ref 184, .ref 188, .ref 204, .ref 220, .ref 222, .ref 223, .ref 228, .ref 229, .ref 230, .int 0, .int 0, .int 0, .int (-1)])), n)) _
            refine At.enter rfl ?_
            refine r_iload_n rfl ?_
            refine r_iload_n rfl ?_
            refine r_icf 5 rfl (by decide) ?_
            refine At.enter rfl ?_
            refine r_iload_n rfl ?_
            refine r_iload_n rfl ?_
            refine r_icf 10 rfl (by decide) ?_
            refine At.enter rfl ?_
            refine r_iconst 1 rfl ?_
            refine r_goto ?_
            refine At.enter rfl ?_
            refine r_iretz (by decide) ?_
            exact ⟨trivial, rfl, rfl⟩
          refine At.enter rfl ?_
          refine r_iff 16 rfl (by decide) ?_
          refine At.enter rfl ?_
          refine r_aload_n rfl ?_
          refine r_get (v := .ref 230) (en_gs_eq hx_0) rfl ?_
          refine r_iload_n rfl ?_
          refine r_ineg 1 rfl ?_
          refine r_dup2 ⟨rfl, rfl⟩ ?_
          refine r_iald (v := 0) (en_gs_ne (by decide) hx_230) (by decide) rfl ?_
          refine r_iconst 1 rfl ?_
          refine r_iadd 1 rfl ?_
          refine r_iast (en_gs_ne (by decide) hx_230) (by decide) (Nat.le_of_ble_eq_true rfl) ([0, 1, 0, 0, 0, 0, 0]) rfl ?_
          refine Ar.fall 27 rfl ?_
          refine At.enter rfl ?_
          refine r_iload_n rfl ?_
          refine r_ireti ?_
          exact ⟨trivial, rfl, rfl⟩
        refine At.enter rfl ?_
        refine r_ireti ?_
        exact ⟨congrArg (fun z => some (Value.int z)) (by unfold sp_terms; (repeat' split) <;> first | rfl | omega), (IsX.set (IsX.set IsX.base (by decide)) (by decide)), rfl⟩
      · refine At.enter rfl ?_
        refine r_iff 47 rfl (by decide) ?_
        refine At.enter rfl ?_
        refine r_aload_n rfl ?_
        refine r_get (v := .ref 1) hx_0 rfl ?_
        refine r_get (v := .int 2) hx_1 rfl ?_
        refine r_istore_n ([(3, .int 2), (0, .ref 0), (1, .int a1), (2, .int a2)]) rfl ?_
        refine r_aload_n rfl ?_
        refine r_get (v := .ref 1) hx_0 rfl ?_
        refine r_iload_n rfl ?_
        refine r_putf hx_1 (Nat.le_of_ble_eq_true rfl) rfl [.int 0, .ref 2, .ref 3, .ref 4, .int 0, .ref 5, .int 0, .ref 6, .ref 7, .int (-1), .int 60, .int a2, .int 0, .ref 14, .ref 15] rfl ?_
        refine r_goto ?_
        refine At.enter rfl ?_
        refine r_aload_n rfl ?_
        refine r_callV1v (True)  (((((((hp_X ++ hp_M).set 1 (.inr (0, [.int 0, .ref 2, .ref 3, .ref 4, .int 0, .ref 5, .int 0, .ref 6, .ref 7, .int (-1), .int 60, .int a2, .int 0, .ref 14, .ref 15]))).set 0 (.inr (10, [.ref 1, .ref 58, .ref 173, .ref 174, .ref 176, .ref 184, .ref 188, .ref 204, .ref 220, .ref 222, .ref 223, .ref 228, .ref 229, .ref 230, .int 0, .int 0, .int 0, .int 0]))).set 220 (.inr (7, [.ref 1, .ref 204, .int (-1), .int 0, .int 0, .ref 221]))).set 222 (.inr (6, [.ref 1, .ref 204, .int 0, .int 0, .int 0, .int 0]))).set 223 (.inr (2, [.ref 1, .ref 185, .ref 224, .ref 225, .ref 226, .int 0, .int 0, .int 0, .int 0, .int 0, .int 0, .int 0, .ref 227]))).set 223 (.inr (2, [.ref 1, .ref 185, .ref 224, .ref 225, .ref 226, .int 0, .int 0, .int 0, .int 0, .int 0, .int 0, .int 0, .ref 227])), n) 76 rfl [.ref 0] [] (Nat.le_of_ble_eq_true rfl) rfl ?_ (fun _ => ?_)
        · refine Ev.mk rfl rfl ⟨Nat.le_of_ble_eq_true rfl, Or.inr (en_rcI (en_gs_ne (by decide) hx_0) rfl)⟩ ?_
          show At _ none _ _ (0, [(0, .ref 0)], [], ((hp_X ++ hp_M).set 1 (.inr (0, [.int 0, .ref 2, .ref 3, .ref 4, .int 0, .ref 5, .int 0, .ref 6, .ref 7, .int (-1), .int 60, .int a2, .int 0, .ref 14, .ref 15])), n)) _
          refine At.enter rfl ?_
          refine r_aload_n rfl ?_
          refine r_iconst 0 rfl ?_
          refine r_putf (en_gs_ne (by decide) hx_0) (Nat.le_of_ble_eq_true rfl) rfl [.ref 1, .ref 58, .ref 173, .ref 174, .ref 176, .ref 184, .ref 188, .ref 204, .ref 220, .ref 222, .ref 223, .ref 228, .ref 229, .ref 230, .int 0, .int 0, .int 0, .int 0] rfl ?_
          refine r_aload_n rfl ?_
          refine r_get (v := .ref 220) (en_gs_eq (en_gs_ne (by decide) hx_0)) rfl ?_
          refine r_callV1v (True)  ((((hp_X ++ hp_M).set 1 (.inr (0, [.int 0, .ref 2, .ref 3, .ref 4, .int 0, .ref 5, .int 0, .ref 6, .ref 7, .int (-1), .int 60, .int a2, .int 0, .ref 14, .ref 15]))).set 0 (.inr (10, [.ref 1, .ref 58, .ref 173, .ref 174, .ref 176, .ref 184, .ref 188, .ref 204, .ref 220, .ref 222, .ref 223, .ref 228, .ref 229, .ref 230, .int 0, .int 0, .int 0, .int 0]))).set 220 (.inr (7, [.ref 1, .ref 204, .int (-1), .int 0, .int 0, .ref 221])), n) 12 rfl [.ref 220] [] (Nat.le_of_ble_eq_true rfl) rfl ?_ (fun _ => ?_)
          · refine Ev.mk rfl rfl ⟨Nat.le_of_ble_eq_true rfl, Or.inr (en_rcI (en_gs_ne (by decide) (en_gs_ne (by decide) hx_220)) rfl)⟩ ?_
            show At _ none _ _ (0, [(0, .ref 220)], [], (((hp_X ++ hp_M).set 1 (.inr (0, [.int 0, .ref 2, .ref 3, .ref 4, .int 0, .ref 5, .int 0, .ref 6, .ref 7, .int (-1), .int 60, .int a2, .int 0, .ref 14, .ref 15]))).set 0 (.inr (10, [.ref 1, .ref 58, .ref 173, .ref 174, .ref 176, .ref 184, .ref 188, .ref 204, .ref 220, .ref 222, .ref 223, .ref 228, .ref 229, .ref 230, .int 0, .int 0, .int 0, .int 0])), n)) _
            refine At.enter rfl ?_
            refine r_aload_n rfl ?_
            refine r_iconst (-1) rfl ?_
            refine r_putf (en_gs_ne (by decide) (en_gs_ne (by decide) hx_220)) (Nat.le_of_ble_eq_true rfl) rfl [.ref 1, .ref 204, .int (-1), .int 0, .int 0, .ref 221] rfl ?_
            refine r_vret ?_
            exact ⟨trivial, rfl, rfl⟩
          refine At.enter rfl ?_
          refine r_aload_n rfl ?_
          refine r_get (v := .ref 222) (en_gs_ne (by decide) (en_gs_eq (en_gs_ne (by decide) hx_0))) rfl ?_
          refine r_callV1v (True)  (((((hp_X ++ hp_M).set 1 (.inr (0, [.int 0, .ref 2, .ref 3, .ref 4, .int 0, .ref 5, .int 0, .ref 6, .ref 7, .int (-1), .int 60, .int a2, .int 0, .ref 14, .ref 15]))).set 0 (.inr (10, [.ref 1, .ref 58, .ref 173, .ref 174, .ref 176, .ref 184, .ref 188, .ref 204, .ref 220, .ref 222, .ref 223, .ref 228, .ref 229, .ref 230, .int 0, .int 0, .int 0, .int 0]))).set 220 (.inr (7, [.ref 1, .ref 204, .int (-1), .int 0, .int 0, .ref 221]))).set 222 (.inr (6, [.ref 1, .ref 204, .int 0, .int 0, .int 0, .int 0])), n) 19 rfl [.ref 222] [] (Nat.le_of_ble_eq_true rfl) rfl ?_ (fun _ => ?_)
          · refine Ev.mk rfl rfl ⟨Nat.le_of_ble_eq_true rfl, Or.inr (en_rcI (en_gs_ne (by decide) (en_gs_ne (by decide) (en_gs_ne (by decide) hx_222))) rfl)⟩ ?_
            show At _ none _ _ (0, [(0, .ref 222)], [], ((((hp_X ++ hp_M).set 1 (.inr (0, [.int 0, .ref 2, .ref 3, .ref 4, .int 0, .ref 5, .int 0, .ref 6, .ref 7, .int (-1), .int 60, .int a2, .int 0, .ref 14, .ref 15]))).set 0 (.inr (10, [.ref 1, .ref 58, .ref 173, .ref 174, .ref 176, .ref 184, .ref 188, .ref 204, .ref 220, .ref 222, .ref 223, .ref 228, .ref 229, .ref 230, .int 0, .int 0, .int 0, .int 0]))).set 220 (.inr (7, [.ref 1, .ref 204, .int (-1), .int 0, .int 0, .ref 221])), n)) _
            refine At.enter rfl ?_
            refine r_aload_n rfl ?_
            refine r_iconst 0 rfl ?_
            refine r_putf (en_gs_ne (by decide) (en_gs_ne (by decide) (en_gs_ne (by decide) hx_222))) (Nat.le_of_ble_eq_true rfl) rfl [.ref 1, .ref 204, .int 0, .int 0, .int 0, .int 0] rfl ?_
            refine r_vret ?_
            exact ⟨trivial, rfl, rfl⟩
          refine At.enter rfl ?_
          refine r_aload_n rfl ?_
          refine r_get (v := .ref 223) (en_gs_ne (by decide) (en_gs_ne (by decide) (en_gs_eq (en_gs_ne (by decide) hx_0)))) rfl ?_
          refine r_callV1v (True)  (((((((hp_X ++ hp_M).set 1 (.inr (0, [.int 0, .ref 2, .ref 3, .ref 4, .int 0, .ref 5, .int 0, .ref 6, .ref 7, .int (-1), .int 60, .int a2, .int 0, .ref 14, .ref 15]))).set 0 (.inr (10, [.ref 1, .ref 58, .ref 173, .ref 174, .ref 176, .ref 184, .ref 188, .ref 204, .ref 220, .ref 222, .ref 223, .ref 228, .ref 229, .ref 230, .int 0, .int 0, .int 0, .int 0]))).set 220 (.inr (7, [.ref 1, .ref 204, .int (-1), .int 0, .int 0, .ref 221]))).set 222 (.inr (6, [.ref 1, .ref 204, .int 0, .int 0, .int 0, .int 0]))).set 223 (.inr (2, [.ref 1, .ref 185, .ref 224, .ref 225, .ref 226, .int 0, .int 0, .int 0, .int 0, .int 0, .int 0, .int 0, .ref 227]))).set 223 (.inr (2, [.ref 1, .ref 185, .ref 224, .ref 225, .ref 226, .int 0, .int 0, .int 0, .int 0, .int 0, .int 0, .int 0, .ref 227])), n) 26 rfl [.ref 223] [] (Nat.le_of_ble_eq_true rfl) rfl ?_ (fun _ => ?_)
          · refine Ev.mk rfl rfl ⟨Nat.le_of_ble_eq_true rfl, Or.inr (en_rcI (en_gs_ne (by decide) (en_gs_ne (by decide) (en_gs_ne (by decide) (en_gs_ne (by decide) hx_223)))) rfl)⟩ ?_
            show At _ none _ _ (0, [(0, .ref 223)], [], (((((hp_X ++ hp_M).set 1 (.inr (0, [.int 0, .ref 2, .ref 3, .ref 4, .int 0, .ref 5, .int 0, .ref 6, .ref 7, .int (-1), .int 60, .int a2, .int 0, .ref 14, .ref 15]))).set 0 (.inr (10, [.ref 1, .ref 58, .ref 173, .ref 174, .ref 176, .ref 184, .ref 188, .ref 204, .ref 220, .ref 222, .ref 223, .ref 228, .ref 229, .ref 230, .int 0, .int 0, .int 0, .int 0]))).set 220 (.inr (7, [.ref 1, .ref 204, .int (-1), .int 0, .int 0, .ref 221]))).set 222 (.inr (6, [.ref 1, .ref 204, .int 0, .int 0, .int 0, .int 0])), n)) _
            refine At.enter rfl ?_
            refine r_aload_n rfl ?_
            refine r_iconst 0 rfl ?_
            refine r_putf (en_gs_ne (by decide) (en_gs_ne (by decide) (en_gs_ne (by decide) (en_gs_ne (by decide) hx_223)))) (Nat.le_of_ble_eq_true rfl) rfl [.ref 1, .ref 185, .ref 224, .ref 225, .ref 226, .int 0, .int 0, .int 0, .int 0, .int 0, .int 0, .int 0, .ref 227] rfl ?_
            refine r_aload_n rfl ?_
            refine r_iconst 0 rfl ?_
            refine r_putf (en_gs_eq (en_gs_ne (by decide) (en_gs_ne (by decide) (en_gs_ne (by decide) (en_gs_ne (by decide) hx_223))))) (Nat.le_of_ble_eq_true rfl) rfl [.ref 1, .ref 185, .ref 224, .ref 225, .ref 226, .int 0, .int 0, .int 0, .int 0, .int 0, .int 0, .int 0, .ref 227] rfl ?_
            refine r_vret ?_
            exact ⟨trivial, rfl, rfl⟩
          refine At.enter rfl ?_
          refine r_vret ?_
          exact ⟨trivial, rfl, rfl⟩
        refine At.enter rfl ?_
        refine r_aload_n rfl ?_
        refine r_iload_n rfl ?_
        refine r_callV1s (True) (.int 2) ((((((((hp_X ++ hp_M).set 1 (.inr (0, [.int 0, .ref 2, .ref 3, .ref 4, .int 0, .ref 5, .int 0, .ref 6, .ref 7, .int (-1), .int 60, .int a2, .int 0, .ref 14, .ref 15]))).set 0 (.inr (10, [.ref 1, .ref 58, .ref 173, .ref 174, .ref 176, .ref 184, .ref 188, .ref 204, .ref 220, .ref 222, .ref 223, .ref 228, .ref 229, .ref 230, .int 0, .int 0, .int 0, .int 0]))).set 220 (.inr (7, [.ref 1, .ref 204, .int (-1), .int 0, .int 0, .ref 221]))).set 222 (.inr (6, [.ref 1, .ref 204, .int 0, .int 0, .int 0, .int 0]))).set 223 (.inr (2, [.ref 1, .ref 185, .ref 224, .ref 225, .ref 226, .int 0, .int 0, .int 0, .int 0, .int 0, .int 0, .int 0, .ref 227]))).set 223 (.inr (2, [.ref 1, .ref 185, .ref 224, .ref 225, .ref 226, .int 0, .int 0, .int 0, .int 0, .int 0, .int 0, .int 0, .ref 227]))).set 0 (.inr (10, [.ref 1, .ref 58, .ref 173, .ref 174, .ref 176, .ref 184, .ref 188, .ref 204, .ref 220, .ref 222, .ref 223, .ref 228, .ref 229, .ref 230, .int 0, .int 0, .int 0, .int 0])), n) 81 rfl [.ref 0, .int 2] [] (Nat.le_of_ble_eq_true rfl) rfl ?_ (fun _ => ?_)
        · refine Ev.mk rfl rfl ⟨Nat.le_of_ble_eq_true rfl, Or.inr (en_rcI (en_gs_ne (by decide) (en_gs_ne (by decide) (en_gs_ne (by decide) (en_gs_ne (by decide) (en_gs_eq (en_gs_ne (by decide) hx_0)))))) rfl)⟩ ?_
          show At _ none _ _ (0, [(0, .ref 0), (1, .int 2)], [], (((((((hp_X ++ hp_M).set 1 (.inr (0, [.int 0, .ref 2, .ref 3, .ref 4, .int 0, .ref 5, .int 0, .ref 6, .ref 7, .int (-1), .int 60, .int a2, .int 0, .ref 14, .ref 15]))).set 0 (.inr (10, [.ref 1, .ref 58, .ref 173, .ref 174, .ref 176, .ref 184, .ref 188, .ref 204, .ref 220, .ref 222, .ref 223, .ref 228, .ref 229, .ref 230, .int 0, .int 0, .int 0, .int 0]))).set 220 (.inr (7, [.ref 1, .ref 204, .int (-1), .int 0, .int 0, .ref 221]))).set 222 (.inr (6, [.ref 1, .ref 204, .int 0, .int 0, .int 0, .int 0]))).set 223 (.inr (2, [.ref 1, .ref 185, .ref 224, .ref 225, .ref 226, .int 0, .int 0, .int 0, .int 0, .int 0, .int 0, .int 0, .ref 227]))).set 223 (.inr (2, [.ref 1, .ref 185, .ref 224, .ref 225, .ref 226, .int 0, .int 0, .int 0, .int 0, .int 0, .int 0, .int 0, .ref 227])), n)) _
          refine At.enter rfl ?_
          refine r_aload_n rfl ?_
          refine r_iconst 0 rfl ?_
          refine r_putf (en_gs_ne (by decide) (en_gs_ne (by decide) (en_gs_ne (by decide) (en_gs_ne (by decide) (en_gs_eq (en_gs_ne (by decide) hx_0)))))) (Nat.le_of_ble_eq_true rfl) rfl [.ref 1, .ref 58, .ref 173, .ref 174, .ref 176, .ref 184, .ref 188, .ref 204, .ref 220, .ref 222, .ref 223, .ref 228, .ref 229, .ref 230, .int 0, .int 0, .int 0, .int 0] rfl ?_
          refine r_iload_n rfl ?_
          refine r_ireti ?_
          exact ⟨trivial, rfl, rfl⟩
        refine At.enter rfl ?_
        refine r_ireti ?_
        exact ⟨congrArg (fun z => some (Value.int z)) (by unfold sp_terms; (repeat' split) <;> first | rfl | omega), (IsX.set (IsX.set (IsX.set (IsX.set (IsX.set (IsX.set (IsX.set IsX.base (by decide)) (by decide)) (by decide)) (by decide)) (by decide)) (by decide)) (by decide)), rfl⟩
  · have c1_ : (a1).toInt = (0) := (by have z := en_k_ne_f c1; (try simp only [Int32.toInt_toInt64] at z); exact z)
    refine At.enter rfl ?_
    refine r_iload_n rfl ?_
    refine r_iconst 0 rfl ?_
    refine r_bipush 99 rfl ?_
    refine r_callS3s (((a2).toInt < (0))) (((a2).toInt ≥ (0)) ∧ ((a2).toInt > (99))) (((a2).toInt ≥ (0)) ∧ ((a2).toInt ≤ (99))) (.int 0) (.int 0) (.int 1) (hp_X ++ hp_M, n) (hp_X ++ hp_M, n) (hp_X ++ hp_M, n) 11 rfl [.int a2, .int 0, .int 99] [] (Nat.le_of_ble_eq_true rfl) rfl ?_ (fun c5_ => ?_) (fun ⟨c5_, c6_⟩ => ?_) (fun ⟨c5_, c6_⟩ => ?_)
    · refine Ev.mk rfl rfl ⟨Nat.le_of_ble_eq_true rfl, Or.inl rfl⟩ ?_
      show At _ none _ _ (0, [(0, .int a2), (1, .int 0), (2, .int 99)], [], (hp_X ++ hp_M, n)) _
      refine At.enter rfl ?_
      refine r_iload_n rfl ?_
      refine r_iload_n rfl ?_
      refine r_ics 5 rfl (fun c5 => ?_) (fun c5 => ?_)
      · have c5_ : (a2).toInt < (0) := (by have z := en_i_lt_t c5; (try simp only [Int32.toInt_toInt64] at z); exact z)
        refine At.enter rfl ?_
        refine r_iconst 0 rfl ?_
        refine Ar.fall 15 rfl ?_
        refine At.enter rfl ?_
        refine r_iretz (by decide) ?_
        exact Or.inl ⟨c5_, rfl, rfl⟩
      · have c5_ : (a2).toInt ≥ (0) := (by have z := en_i_lt_f c5; (try simp only [Int32.toInt_toInt64] at z); exact z)
        refine At.enter rfl ?_
        refine r_iload_n rfl ?_
        refine r_iload_n rfl ?_
        refine r_ics 10 rfl (fun c6 => ?_) (fun c6 => ?_)
        · have c6_ : (a2).toInt > (99) := (by have z := en_i_gt_t c6; (try simp only [Int32.toInt_toInt64] at z); exact z)
          refine At.enter rfl ?_
          refine r_iconst 0 rfl ?_
          refine Ar.fall 15 rfl ?_
          refine At.enter rfl ?_
          refine r_iretz (by decide) ?_
          exact Or.inr (Or.inl ⟨⟨c5_, c6_⟩, rfl, rfl⟩)
        · have c6_ : (a2).toInt ≤ (99) := (by have z := en_i_gt_f c6; (try simp only [Int32.toInt_toInt64] at z); exact z)
          refine At.enter rfl ?_
          refine r_iconst 1 rfl ?_
          refine r_goto ?_
          refine At.enter rfl ?_
          refine r_iretz (by decide) ?_
          exact Or.inr (Or.inr (⟨⟨c5_, c6_⟩, rfl, rfl⟩))
    · refine At.enter rfl ?_
      refine r_ift (by decide) ?_
      refine At.enter rfl ?_
      refine r_iload_n rfl ?_
      refine r_iconst 1 rfl ?_
      refine r_ics 38 rfl (fun c7 => ?_) (fun c7 => ?_)
      · have c7_ : (a1).toInt ≠ (1) := (by have z := en_i_ne_t c7; (try simp only [Int32.toInt_toInt64] at z); exact z)
        refine At.enter rfl ?_
        refine r_aload_n rfl ?_
        refine r_iconst (-1) rfl ?_
        refine r_callV1s (True) (.int (-1)) (((hp_X ++ hp_M).set 0 (.inr (10, [.ref 1, .ref 58, .ref 173, .ref 174, .ref 176, .ref 184, .ref 188, .ref 204, .ref 220, .ref 222, .ref 223, .ref 228, .ref 229, .ref 230, .int 0, .int 0, .int 0, .int (-1)]))).set 230 (.inl (0, .inl ([0, 1, 0, 0, 0, 0, 0]))), n) 71 rfl [.ref 0, .int (-1)] [] (Nat.le_of_ble_eq_true rfl) rfl ?_ (fun _ => ?_)
        · refine Ev.mk rfl rfl ⟨Nat.le_of_ble_eq_true rfl, Or.inr (en_rcI hx_0 rfl)⟩ ?_
          show At _ none _ _ (0, [(0, .ref 0), (1, .int (-1))], [], (hp_X ++ hp_M, n)) _
          refine At.enter rfl ?_
          refine r_aload_n rfl ?_
          refine r_iload_n rfl ?_
          refine r_putf hx_0 (Nat.le_of_ble_eq_true rfl) rfl [.ref 1, .ref 58, .ref 173, .ref 174, .ref 176, .ref 184, .ref 188, .ref 204, .ref 220, .ref 222, .ref 223, .ref 228, .ref 229, .ref 230, .int 0, .int 0, .int 0, .int (-1)] rfl ?_
          refine r_iload_n rfl ?_
          refine r_ineg 1 rfl ?_
          refine r_iconst 0 rfl ?_
          refine r_bipush 6 rfl ?_
          refine r_callS1s (True) (.int 1) ((hp_X ++ hp_M).set 0 (.inr (10, [.ref 1, .ref 58, .ref 173, .ref 174, .ref 176, .ref 184, .ref 188, .ref 204, .ref 220, .ref 222, .ref 223, .ref 228, .ref 229, .ref 230, .int 0, .int 0, .int 0, .int (-1)])), n) 13 rfl [.int 1, .int 0, .int 6] [] (Nat.le_of_ble_eq_true rfl) rfl ?_ (fun _ => ?_)
          · refine Ev.mk rfl rfl ⟨Nat.le_of_ble_eq_true rfl, Or.inl rfl⟩ ?_
            show At _ none _ _ (0, [(0, .int 1), (1, .int 0), (2, .int 6)], [], ((hp_X ++ hp_M).set 0 (.inr (10, [.ref 1, .ref 58, .ref 173, .ref 174, .ref 176, .ref 184, .ref 188, .ref 204, .ref 220, .ref 222, .ref 223, .ref 228, .ref 229, .ref 230, .int 0, .int 0, .int 0, .int (-1)])), n)) _
            refine At.enter rfl ?_
            refine r_iload_n rfl ?_
            refine r_iload_n rfl ?_
            refine r_icf 5 rfl (by decide) ?_
            refine At.enter rfl ?_
            refine r_iload_n rfl ?_
            refine r_iload_n rfl ?_
            refine r_icf 10 rfl (by decide) ?_
            refine At.enter rfl ?_
            refine r_iconst 1 rfl ?_
            refine r_goto ?_
            refine At.enter rfl ?_
            refine r_iretz (by decide) ?_
            exact ⟨trivial, rfl, rfl⟩
          refine At.enter rfl ?_
          refine r_iff 16 rfl (by decide) ?_
          refine At.enter rfl ?_
          refine r_aload_n rfl ?_
          refine r_get (v := .ref 230) (en_gs_eq hx_0) rfl ?_
          refine r_iload_n rfl ?_
          refine r_ineg 1 rfl ?_
          refine r_dup2 ⟨rfl, rfl⟩ ?_
          refine r_iald (v := 0) (en_gs_ne (by decide) hx_230) (by decide) rfl ?_
          refine r_iconst 1 rfl ?_
          refine r_iadd 1 rfl ?_
          refine r_iast (en_gs_ne (by decide) hx_230) (by decide) (Nat.le_of_ble_eq_true rfl) ([0, 1, 0, 0, 0, 0, 0]) rfl ?_
          refine Ar.fall 27 rfl ?_
          refine At.enter rfl ?_
          refine r_iload_n rfl ?_
          refine r_ireti ?_
          exact ⟨trivial, rfl, rfl⟩
        refine At.enter rfl ?_
        refine r_ireti ?_
        exact ⟨congrArg (fun z => some (Value.int z)) (by unfold sp_terms; (repeat' split) <;> first | rfl | omega), (IsX.set (IsX.set IsX.base (by decide)) (by decide)), rfl⟩
      · have c7_ : (a1).toInt = (1) := (by have z := en_i_ne_f c7; (try simp only [Int32.toInt_toInt64] at z); exact z)
        exfalso; omega
    · refine At.enter rfl ?_
      refine r_ift (by decide) ?_
      refine At.enter rfl ?_
      refine r_iload_n rfl ?_
      refine r_iconst 1 rfl ?_
      refine r_ics 38 rfl (fun c8 => ?_) (fun c8 => ?_)
      · have c8_ : (a1).toInt ≠ (1) := (by have z := en_i_ne_t c8; (try simp only [Int32.toInt_toInt64] at z); exact z)
        refine At.enter rfl ?_
        refine r_aload_n rfl ?_
        refine r_iconst (-1) rfl ?_
        refine r_callV1s (True) (.int (-1)) (((hp_X ++ hp_M).set 0 (.inr (10, [.ref 1, .ref 58, .ref 173, .ref 174, .ref 176, .ref 184, .ref 188, .ref 204, .ref 220, .ref 222, .ref 223, .ref 228, .ref 229, .ref 230, .int 0, .int 0, .int 0, .int (-1)]))).set 230 (.inl (0, .inl ([0, 1, 0, 0, 0, 0, 0]))), n) 71 rfl [.ref 0, .int (-1)] [] (Nat.le_of_ble_eq_true rfl) rfl ?_ (fun _ => ?_)
        · refine Ev.mk rfl rfl ⟨Nat.le_of_ble_eq_true rfl, Or.inr (en_rcI hx_0 rfl)⟩ ?_
          show At _ none _ _ (0, [(0, .ref 0), (1, .int (-1))], [], (hp_X ++ hp_M, n)) _
          refine At.enter rfl ?_
          refine r_aload_n rfl ?_
          refine r_iload_n rfl ?_
          refine r_putf hx_0 (Nat.le_of_ble_eq_true rfl) rfl [.ref 1, .ref 58, .ref 173, .ref 174, .ref 176, .ref 184, .ref 188, .ref 204, .ref 220, .ref 222, .ref 223, .ref 228, .ref 229, .ref 230, .int 0, .int 0, .int 0, .int (-1)] rfl ?_
          refine r_iload_n rfl ?_
          refine r_ineg 1 rfl ?_
          refine r_iconst 0 rfl ?_
          refine r_bipush 6 rfl ?_
          refine r_callS1s (True) (.int 1) ((hp_X ++ hp_M).set 0 (.inr (10, [.ref 1, .ref 58, .ref 173, .ref 174, .ref 176, .ref 184, .ref 188, .ref 204, .ref 220, .ref 222, .ref 223, .ref 228, .ref 229, .ref 230, .int 0, .int 0, .int 0, .int (-1)])), n) 13 rfl [.int 1, .int 0, .int 6] [] (Nat.le_of_ble_eq_true rfl) rfl ?_ (fun _ => ?_)
          · refine Ev.mk rfl rfl ⟨Nat.le_of_ble_eq_true rfl, Or.inl rfl⟩ ?_
            show At _ none _ _ (0, [(0, .int 1), (1, .int 0), (2, .int 6)], [], ((hp_X ++ hp_M).set 0 (.inr (10, [.ref 1, .ref 58, .ref 173, .ref 174, .ref 176, .ref 184, .ref 188, .ref 204, .ref 220, .ref 222, .ref 223, .ref 228, .ref 229, .ref 230, .int 0, .int 0, .int 0, .int (-1)])), n)) _
            refine At.enter rfl ?_
            refine r_iload_n rfl ?_
            refine r_iload_n rfl ?_
            refine r_icf 5 rfl (by decide) ?_
            refine At.enter rfl ?_
            refine r_iload_n rfl ?_
            refine r_iload_n rfl ?_
            refine r_icf 10 rfl (by decide) ?_
            refine At.enter rfl ?_
            refine r_iconst 1 rfl ?_
            refine r_goto ?_
            refine At.enter rfl ?_
            refine r_iretz (by decide) ?_
            exact ⟨trivial, rfl, rfl⟩
          refine At.enter rfl ?_
          refine r_iff 16 rfl (by decide) ?_
          refine At.enter rfl ?_
          refine r_aload_n rfl ?_
          refine r_get (v := .ref 230) (en_gs_eq hx_0) rfl ?_
          refine r_iload_n rfl ?_
          refine r_ineg 1 rfl ?_
          refine r_dup2 ⟨rfl, rfl⟩ ?_
          refine r_iald (v := 0) (en_gs_ne (by decide) hx_230) (by decide) rfl ?_
          refine r_iconst 1 rfl ?_
          refine r_iadd 1 rfl ?_
          refine r_iast (en_gs_ne (by decide) hx_230) (by decide) (Nat.le_of_ble_eq_true rfl) ([0, 1, 0, 0, 0, 0, 0]) rfl ?_
          refine Ar.fall 27 rfl ?_
          refine At.enter rfl ?_
          refine r_iload_n rfl ?_
          refine r_ireti ?_
          exact ⟨trivial, rfl, rfl⟩
        refine At.enter rfl ?_
        refine r_ireti ?_
        exact ⟨congrArg (fun z => some (Value.int z)) (by unfold sp_terms; (repeat' split) <;> first | rfl | omega), (IsX.set (IsX.set IsX.base (by decide)) (by decide)), rfl⟩
      · have c8_ : (a1).toInt = (1) := (by have z := en_i_ne_f c8; (try simp only [Int32.toInt_toInt64] at z); exact z)
        exfalso; omega
    · refine At.enter rfl ?_
      refine r_iff 14 rfl (by decide) ?_
      refine At.enter rfl ?_
      refine r_aload_n rfl ?_
      refine r_get (v := .ref 1) hx_0 rfl ?_
      refine r_get (v := .int 60) hx_1 rfl ?_
      refine r_istore_n ([(3, .int 60), (0, .ref 0), (1, .int a1), (2, .int a2)]) rfl ?_
      refine r_aload_n rfl ?_
      refine r_get (v := .ref 1) hx_0 rfl ?_
      refine r_iload_n rfl ?_
      refine r_putf hx_1 (Nat.le_of_ble_eq_true rfl) rfl [.int 0, .ref 2, .ref 3, .ref 4, .int 0, .ref 5, .int 0, .ref 6, .ref 7, .int (-1), .int a2, .int 2, .int 0, .ref 14, .ref 15] rfl ?_
      refine r_goto ?_
      refine At.enter rfl ?_
      refine r_aload_n rfl ?_
      refine r_callV1v (True)  (((((((hp_X ++ hp_M).set 1 (.inr (0, [.int 0, .ref 2, .ref 3, .ref 4, .int 0, .ref 5, .int 0, .ref 6, .ref 7, .int (-1), .int a2, .int 2, .int 0, .ref 14, .ref 15]))).set 0 (.inr (10, [.ref 1, .ref 58, .ref 173, .ref 174, .ref 176, .ref 184, .ref 188, .ref 204, .ref 220, .ref 222, .ref 223, .ref 228, .ref 229, .ref 230, .int 0, .int 0, .int 0, .int 0]))).set 220 (.inr (7, [.ref 1, .ref 204, .int (-1), .int 0, .int 0, .ref 221]))).set 222 (.inr (6, [.ref 1, .ref 204, .int 0, .int 0, .int 0, .int 0]))).set 223 (.inr (2, [.ref 1, .ref 185, .ref 224, .ref 225, .ref 226, .int 0, .int 0, .int 0, .int 0, .int 0, .int 0, .int 0, .ref 227]))).set 223 (.inr (2, [.ref 1, .ref 185, .ref 224, .ref 225, .ref 226, .int 0, .int 0, .int 0, .int 0, .int 0, .int 0, .int 0, .ref 227])), n) 76 rfl [.ref 0] [] (Nat.le_of_ble_eq_true rfl) rfl ?_ (fun _ => ?_)
      · refine Ev.mk rfl rfl ⟨Nat.le_of_ble_eq_true rfl, Or.inr (en_rcI (en_gs_ne (by decide) hx_0) rfl)⟩ ?_
        show At _ none _ _ (0, [(0, .ref 0)], [], ((hp_X ++ hp_M).set 1 (.inr (0, [.int 0, .ref 2, .ref 3, .ref 4, .int 0, .ref 5, .int 0, .ref 6, .ref 7, .int (-1), .int a2, .int 2, .int 0, .ref 14, .ref 15])), n)) _
        refine At.enter rfl ?_
        refine r_aload_n rfl ?_
        refine r_iconst 0 rfl ?_
        refine r_putf (en_gs_ne (by decide) hx_0) (Nat.le_of_ble_eq_true rfl) rfl [.ref 1, .ref 58, .ref 173, .ref 174, .ref 176, .ref 184, .ref 188, .ref 204, .ref 220, .ref 222, .ref 223, .ref 228, .ref 229, .ref 230, .int 0, .int 0, .int 0, .int 0] rfl ?_
        refine r_aload_n rfl ?_
        refine r_get (v := .ref 220) (en_gs_eq (en_gs_ne (by decide) hx_0)) rfl ?_
        refine r_callV1v (True)  ((((hp_X ++ hp_M).set 1 (.inr (0, [.int 0, .ref 2, .ref 3, .ref 4, .int 0, .ref 5, .int 0, .ref 6, .ref 7, .int (-1), .int a2, .int 2, .int 0, .ref 14, .ref 15]))).set 0 (.inr (10, [.ref 1, .ref 58, .ref 173, .ref 174, .ref 176, .ref 184, .ref 188, .ref 204, .ref 220, .ref 222, .ref 223, .ref 228, .ref 229, .ref 230, .int 0, .int 0, .int 0, .int 0]))).set 220 (.inr (7, [.ref 1, .ref 204, .int (-1), .int 0, .int 0, .ref 221])), n) 12 rfl [.ref 220] [] (Nat.le_of_ble_eq_true rfl) rfl ?_ (fun _ => ?_)
        · refine Ev.mk rfl rfl ⟨Nat.le_of_ble_eq_true rfl, Or.inr (en_rcI (en_gs_ne (by decide) (en_gs_ne (by decide) hx_220)) rfl)⟩ ?_
          show At _ none _ _ (0, [(0, .ref 220)], [], (((hp_X ++ hp_M).set 1 (.inr (0, [.int 0, .ref 2, .ref 3, .ref 4, .int 0, .ref 5, .int 0, .ref 6, .ref 7, .int (-1), .int a2, .int 2, .int 0, .ref 14, .ref 15]))).set 0 (.inr (10, [.ref 1, .ref 58, .ref 173, .ref 174, .ref 176, .ref 184, .ref 188, .ref 204, .ref 220, .ref 222, .ref 223, .ref 228, .ref 229, .ref 230, .int 0, .int 0, .int 0, .int 0])), n)) _
          refine At.enter rfl ?_
          refine r_aload_n rfl ?_
          refine r_iconst (-1) rfl ?_
          refine r_putf (en_gs_ne (by decide) (en_gs_ne (by decide) hx_220)) (Nat.le_of_ble_eq_true rfl) rfl [.ref 1, .ref 204, .int (-1), .int 0, .int 0, .ref 221] rfl ?_
          refine r_vret ?_
          exact ⟨trivial, rfl, rfl⟩
        refine At.enter rfl ?_
        refine r_aload_n rfl ?_
        refine r_get (v := .ref 222) (en_gs_ne (by decide) (en_gs_eq (en_gs_ne (by decide) hx_0))) rfl ?_
        refine r_callV1v (True)  (((((hp_X ++ hp_M).set 1 (.inr (0, [.int 0, .ref 2, .ref 3, .ref 4, .int 0, .ref 5, .int 0, .ref 6, .ref 7, .int (-1), .int a2, .int 2, .int 0, .ref 14, .ref 15]))).set 0 (.inr (10, [.ref 1, .ref 58, .ref 173, .ref 174, .ref 176, .ref 184, .ref 188, .ref 204, .ref 220, .ref 222, .ref 223, .ref 228, .ref 229, .ref 230, .int 0, .int 0, .int 0, .int 0]))).set 220 (.inr (7, [.ref 1, .ref 204, .int (-1), .int 0, .int 0, .ref 221]))).set 222 (.inr (6, [.ref 1, .ref 204, .int 0, .int 0, .int 0, .int 0])), n) 19 rfl [.ref 222] [] (Nat.le_of_ble_eq_true rfl) rfl ?_ (fun _ => ?_)
        · refine Ev.mk rfl rfl ⟨Nat.le_of_ble_eq_true rfl, Or.inr (en_rcI (en_gs_ne (by decide) (en_gs_ne (by decide) (en_gs_ne (by decide) hx_222))) rfl)⟩ ?_
          show At _ none _ _ (0, [(0, .ref 222)], [], ((((hp_X ++ hp_M).set 1 (.inr (0, [.int 0, .ref 2, .ref 3, .ref 4, .int 0, .ref 5, .int 0, .ref 6, .ref 7, .int (-1), .int a2, .int 2, .int 0, .ref 14, .ref 15]))).set 0 (.inr (10, [.ref 1, .ref 58, .ref 173, .ref 174, .ref 176, .ref 184, .ref 188, .ref 204, .ref 220, .ref 222, .ref 223, .ref 228, .ref 229, .ref 230, .int 0, .int 0, .int 0, .int 0]))).set 220 (.inr (7, [.ref 1, .ref 204, .int (-1), .int 0, .int 0, .ref 221])), n)) _
          refine At.enter rfl ?_
          refine r_aload_n rfl ?_
          refine r_iconst 0 rfl ?_
          refine r_putf (en_gs_ne (by decide) (en_gs_ne (by decide) (en_gs_ne (by decide) hx_222))) (Nat.le_of_ble_eq_true rfl) rfl [.ref 1, .ref 204, .int 0, .int 0, .int 0, .int 0] rfl ?_
          refine r_vret ?_
          exact ⟨trivial, rfl, rfl⟩
        refine At.enter rfl ?_
        refine r_aload_n rfl ?_
        refine r_get (v := .ref 223) (en_gs_ne (by decide) (en_gs_ne (by decide) (en_gs_eq (en_gs_ne (by decide) hx_0)))) rfl ?_
        refine r_callV1v (True)  (((((((hp_X ++ hp_M).set 1 (.inr (0, [.int 0, .ref 2, .ref 3, .ref 4, .int 0, .ref 5, .int 0, .ref 6, .ref 7, .int (-1), .int a2, .int 2, .int 0, .ref 14, .ref 15]))).set 0 (.inr (10, [.ref 1, .ref 58, .ref 173, .ref 174, .ref 176, .ref 184, .ref 188, .ref 204, .ref 220, .ref 222, .ref 223, .ref 228, .ref 229, .ref 230, .int 0, .int 0, .int 0, .int 0]))).set 220 (.inr (7, [.ref 1, .ref 204, .int (-1), .int 0, .int 0, .ref 221]))).set 222 (.inr (6, [.ref 1, .ref 204, .int 0, .int 0, .int 0, .int 0]))).set 223 (.inr (2, [.ref 1, .ref 185, .ref 224, .ref 225, .ref 226, .int 0, .int 0, .int 0, .int 0, .int 0, .int 0, .int 0, .ref 227]))).set 223 (.inr (2, [.ref 1, .ref 185, .ref 224, .ref 225, .ref 226, .int 0, .int 0, .int 0, .int 0, .int 0, .int 0, .int 0, .ref 227])), n) 26 rfl [.ref 223] [] (Nat.le_of_ble_eq_true rfl) rfl ?_ (fun _ => ?_)
        · refine Ev.mk rfl rfl ⟨Nat.le_of_ble_eq_true rfl, Or.inr (en_rcI (en_gs_ne (by decide) (en_gs_ne (by decide) (en_gs_ne (by decide) (en_gs_ne (by decide) hx_223)))) rfl)⟩ ?_
          show At _ none _ _ (0, [(0, .ref 223)], [], (((((hp_X ++ hp_M).set 1 (.inr (0, [.int 0, .ref 2, .ref 3, .ref 4, .int 0, .ref 5, .int 0, .ref 6, .ref 7, .int (-1), .int a2, .int 2, .int 0, .ref 14, .ref 15]))).set 0 (.inr (10, [.ref 1, .ref 58, .ref 173, .ref 174, .ref 176, .ref 184, .ref 188, .ref 204, .ref 220, .ref 222, .ref 223, .ref 228, .ref 229, .ref 230, .int 0, .int 0, .int 0, .int 0]))).set 220 (.inr (7, [.ref 1, .ref 204, .int (-1), .int 0, .int 0, .ref 221]))).set 222 (.inr (6, [.ref 1, .ref 204, .int 0, .int 0, .int 0, .int 0])), n)) _
          refine At.enter rfl ?_
          refine r_aload_n rfl ?_
          refine r_iconst 0 rfl ?_
          refine r_putf (en_gs_ne (by decide) (en_gs_ne (by decide) (en_gs_ne (by decide) (en_gs_ne (by decide) hx_223)))) (Nat.le_of_ble_eq_true rfl) rfl [.ref 1, .ref 185, .ref 224, .ref 225, .ref 226, .int 0, .int 0, .int 0, .int 0, .int 0, .int 0, .int 0, .ref 227] rfl ?_
          refine r_aload_n rfl ?_
          refine r_iconst 0 rfl ?_
          refine r_putf (en_gs_eq (en_gs_ne (by decide) (en_gs_ne (by decide) (en_gs_ne (by decide) (en_gs_ne (by decide) hx_223))))) (Nat.le_of_ble_eq_true rfl) rfl [.ref 1, .ref 185, .ref 224, .ref 225, .ref 226, .int 0, .int 0, .int 0, .int 0, .int 0, .int 0, .int 0, .ref 227] rfl ?_
          refine r_vret ?_
          exact ⟨trivial, rfl, rfl⟩
        refine At.enter rfl ?_
        refine r_vret ?_
        exact ⟨trivial, rfl, rfl⟩
      refine At.enter rfl ?_
      refine r_aload_n rfl ?_
      refine r_iload_n rfl ?_
      refine r_callV1s (True) (.int 60) ((((((((hp_X ++ hp_M).set 1 (.inr (0, [.int 0, .ref 2, .ref 3, .ref 4, .int 0, .ref 5, .int 0, .ref 6, .ref 7, .int (-1), .int a2, .int 2, .int 0, .ref 14, .ref 15]))).set 0 (.inr (10, [.ref 1, .ref 58, .ref 173, .ref 174, .ref 176, .ref 184, .ref 188, .ref 204, .ref 220, .ref 222, .ref 223, .ref 228, .ref 229, .ref 230, .int 0, .int 0, .int 0, .int 0]))).set 220 (.inr (7, [.ref 1, .ref 204, .int (-1), .int 0, .int 0, .ref 221]))).set 222 (.inr (6, [.ref 1, .ref 204, .int 0, .int 0, .int 0, .int 0]))).set 223 (.inr (2, [.ref 1, .ref 185, .ref 224, .ref 225, .ref 226, .int 0, .int 0, .int 0, .int 0, .int 0, .int 0, .int 0, .ref 227]))).set 223 (.inr (2, [.ref 1, .ref 185, .ref 224, .ref 225, .ref 226, .int 0, .int 0, .int 0, .int 0, .int 0, .int 0, .int 0, .ref 227]))).set 0 (.inr (10, [.ref 1, .ref 58, .ref 173, .ref 174, .ref 176, .ref 184, .ref 188, .ref 204, .ref 220, .ref 222, .ref 223, .ref 228, .ref 229, .ref 230, .int 0, .int 0, .int 0, .int 0])), n) 81 rfl [.ref 0, .int 60] [] (Nat.le_of_ble_eq_true rfl) rfl ?_ (fun _ => ?_)
      · refine Ev.mk rfl rfl ⟨Nat.le_of_ble_eq_true rfl, Or.inr (en_rcI (en_gs_ne (by decide) (en_gs_ne (by decide) (en_gs_ne (by decide) (en_gs_ne (by decide) (en_gs_eq (en_gs_ne (by decide) hx_0)))))) rfl)⟩ ?_
        show At _ none _ _ (0, [(0, .ref 0), (1, .int 60)], [], (((((((hp_X ++ hp_M).set 1 (.inr (0, [.int 0, .ref 2, .ref 3, .ref 4, .int 0, .ref 5, .int 0, .ref 6, .ref 7, .int (-1), .int a2, .int 2, .int 0, .ref 14, .ref 15]))).set 0 (.inr (10, [.ref 1, .ref 58, .ref 173, .ref 174, .ref 176, .ref 184, .ref 188, .ref 204, .ref 220, .ref 222, .ref 223, .ref 228, .ref 229, .ref 230, .int 0, .int 0, .int 0, .int 0]))).set 220 (.inr (7, [.ref 1, .ref 204, .int (-1), .int 0, .int 0, .ref 221]))).set 222 (.inr (6, [.ref 1, .ref 204, .int 0, .int 0, .int 0, .int 0]))).set 223 (.inr (2, [.ref 1, .ref 185, .ref 224, .ref 225, .ref 226, .int 0, .int 0, .int 0, .int 0, .int 0, .int 0, .int 0, .ref 227]))).set 223 (.inr (2, [.ref 1, .ref 185, .ref 224, .ref 225, .ref 226, .int 0, .int 0, .int 0, .int 0, .int 0, .int 0, .int 0, .ref 227])), n)) _
        refine At.enter rfl ?_
        refine r_aload_n rfl ?_
        refine r_iconst 0 rfl ?_
        refine r_putf (en_gs_ne (by decide) (en_gs_ne (by decide) (en_gs_ne (by decide) (en_gs_ne (by decide) (en_gs_eq (en_gs_ne (by decide) hx_0)))))) (Nat.le_of_ble_eq_true rfl) rfl [.ref 1, .ref 58, .ref 173, .ref 174, .ref 176, .ref 184, .ref 188, .ref 204, .ref 220, .ref 222, .ref 223, .ref 228, .ref 229, .ref 230, .int 0, .int 0, .int 0, .int 0] rfl ?_
        refine r_iload_n rfl ?_
        refine r_ireti ?_
        exact ⟨trivial, rfl, rfl⟩
      refine At.enter rfl ?_
      refine r_ireti ?_
      exact ⟨congrArg (fun z => some (Value.int z)) (by unfold sp_terms; (repeat' split) <;> first | rfl | omega), (IsX.set (IsX.set (IsX.set (IsX.set (IsX.set (IsX.set (IsX.set IsX.base (by decide)) (by decide)) (by decide)) (by decide)) (by decide)) (by decide)) (by decide)), rfl⟩
set_option maxRecDepth 100000 in
set_option maxHeartbeats 4000000 in
theorem zm_X11_terms (a : Nat → en_E) (n : Nat) (a1 : Int32) (a2 : Int32) : Ev 14 181 [.ref 231, .int a1, .int a2] (en_pre a 231 hp_M, n) (fun r h' => r = some (.int (sp_terms a1 a2))) := by
  refine Ev.mk rfl rfl ⟨Nat.le_of_ble_eq_true rfl, Or.inr (en_rcI (hm_231 _) rfl)⟩ ?_
  show At _ none _ _ (0, [(0, .ref 231), (1, .int a1), (2, .int a2)], [], (en_pre a 231 hp_M, n)) _
  refine At.enter rfl ?_
  refine r_aload_n rfl ?_
  refine r_iconst 0 rfl ?_
  refine r_putf (hm_231 _) (Nat.le_of_ble_eq_true rfl) rfl [.int 0, .int 0, .ref 232, .ref 233, .ref 234, .ref 235, .int 0, .ref 236, .int 0, .int 0, .int 0, .int 0, .long 0, .int (-1), .int 0, .int 0, .ref 237, .int 0, .ref 238, .ref 239, .int 0, .ref 240, .ref 241, .int 0, .int 0, .ref 242, .ref 243, .int 0, .ref 244, .ref 245, .int 0, .long 0, .long 0, .ref 246, .ref 247, .ref 248, .int 0, .ref 249, .ref 250, .ref 251, .ref 252, .ref 253, .ref 254, .ref 255, .ref 256, .int 0, .int 0, .int 0, .long 0, .ref 257, .ref 258, .int 0] rfl ?_
  refine r_iload_n rfl ?_
  refine r_ifs 9 rfl (fun c1 => ?_) (fun c1 => ?_)
  · have c1_ : (a1).toInt ≠ (0) := (by have z := en_k_ne_t c1; (try simp only [Int32.toInt_toInt64] at z); exact z)
    refine At.enter rfl ?_
    refine r_iload_n rfl ?_
    refine r_iconst 1 rfl ?_
    refine r_ics 26 rfl (fun c2 => ?_) (fun c2 => ?_)
    · have c2_ : (a1).toInt ≠ (1) := (by have z := en_i_ne_t c2; (try simp only [Int32.toInt_toInt64] at z); exact z)
      refine At.enter rfl ?_
      refine r_iconst 0 rfl ?_
      refine Ar.fall 43 rfl ?_
      refine At.enter rfl ?_
      refine r_istore_n ([(3, .int 0), (0, .ref 231), (1, .int a1), (2, .int a2)]) rfl ?_
      refine r_iload_n rfl ?_
      refine r_ift (by decide) ?_
      refine At.enter rfl ?_
      refine r_aload_n rfl ?_
      refine r_iconst (-1) rfl ?_
      refine r_callV1s (True) (.int (-1)) ((((en_pre a 231 hp_M).set 231 (.inr (11, [.int 0, .int 0, .ref 232, .ref 233, .ref 234, .ref 235, .int 0, .ref 236, .int 0, .int 0, .int 0, .int 0, .long 0, .int (-1), .int 0, .int 0, .ref 237, .int 0, .ref 238, .ref 239, .int 0, .ref 240, .ref 241, .int 0, .int 0, .ref 242, .ref 243, .int 0, .ref 244, .ref 245, .int 0, .long 0, .long 0, .ref 246, .ref 247, .ref 248, .int 0, .ref 249, .ref 250, .ref 251, .ref 252, .ref 253, .ref 254, .ref 255, .ref 256, .int 0, .int 0, .int 0, .long 0, .ref 257, .ref 258, .int 0]))).set 231 (.inr (11, [.int 0, .int (-1), .ref 232, .ref 233, .ref 234, .ref 235, .int 0, .ref 236, .int 0, .int 0, .int 0, .int 0, .long 0, .int (-1), .int 0, .int 0, .ref 237, .int 0, .ref 238, .ref 239, .int 0, .ref 240, .ref 241, .int 0, .int 0, .ref 242, .ref 243, .int 0, .ref 244, .ref 245, .int 0, .long 0, .long 0, .ref 246, .ref 247, .ref 248, .int 0, .ref 249, .ref 250, .ref 251, .ref 252, .ref 253, .ref 254, .ref 255, .ref 256, .int 0, .int 0, .int 0, .long 0, .ref 257, .ref 258, .int 0]))).set 232 (.inl (0, .inl ([0, 1, 0, 0, 0, 0, 0]))), n) 64 rfl [.ref 231, .int (-1)] [] (Nat.le_of_ble_eq_true rfl) rfl ?_ (fun _ => ?_)
      · refine Ev.mk rfl rfl ⟨Nat.le_of_ble_eq_true rfl, Or.inr (en_rcI (en_gs_eq (hm_231 _)) rfl)⟩ ?_
        show At _ none _ _ (0, [(0, .ref 231), (1, .int (-1))], [], ((en_pre a 231 hp_M).set 231 (.inr (11, [.int 0, .int 0, .ref 232, .ref 233, .ref 234, .ref 235, .int 0, .ref 236, .int 0, .int 0, .int 0, .int 0, .long 0, .int (-1), .int 0, .int 0, .ref 237, .int 0, .ref 238, .ref 239, .int 0, .ref 240, .ref 241, .int 0, .int 0, .ref 242, .ref 243, .int 0, .ref 244, .ref 245, .int 0, .long 0, .long 0, .ref 246, .ref 247, .ref 248, .int 0, .ref 249, .ref 250, .ref 251, .ref 252, .ref 253, .ref 254, .ref 255, .ref 256, .int 0, .int 0, .int 0, .long 0, .ref 257, .ref 258, .int 0])), n)) _
        refine At.enter rfl ?_
        refine r_aload_n rfl ?_
        refine r_iload_n rfl ?_
        refine r_iff 5 rfl (by decide) ?_
        refine At.enter rfl ?_
        refine r_iload_n rfl ?_
        refine r_goto ?_
        refine At.enter rfl ?_
        refine r_putf (en_gs_eq (hm_231 _)) (Nat.le_of_ble_eq_true rfl) rfl [.int 0, .int (-1), .ref 232, .ref 233, .ref 234, .ref 235, .int 0, .ref 236, .int 0, .int 0, .int 0, .int 0, .long 0, .int (-1), .int 0, .int 0, .ref 237, .int 0, .ref 238, .ref 239, .int 0, .ref 240, .ref 241, .int 0, .int 0, .ref 242, .ref 243, .int 0, .ref 244, .ref 245, .int 0, .long 0, .long 0, .ref 246, .ref 247, .ref 248, .int 0, .ref 249, .ref 250, .ref 251, .ref 252, .ref 253, .ref 254, .ref 255, .ref 256, .int 0, .int 0, .int 0, .long 0, .ref 257, .ref 258, .int 0] rfl ?_
        refine r_iload_n rfl ?_
        refine r_iff 17 rfl (by decide) ?_
        refine At.enter rfl ?_
        refine r_aload_n rfl ?_
        refine r_get (v := .ref 232) (en_gs_eq (en_gs_eq (hm_231 _))) rfl ?_
        refine r_iload_n rfl ?_
        refine r_ineg 1 rfl ?_
        refine r_dup2 ⟨rfl, rfl⟩ ?_
        refine r_iald (v := 0) (en_gs_ne (by decide) (en_gs_ne (by decide) (hm_232 _))) (by decide) rfl ?_
        refine r_iconst 1 rfl ?_
        refine r_iadd 1 rfl ?_
        refine r_iast (en_gs_ne (by decide) (en_gs_ne (by decide) (hm_232 _))) (by decide) (Nat.le_of_ble_eq_true rfl) ([0, 1, 0, 0, 0, 0, 0]) rfl ?_
        refine Ar.fall 28 rfl ?_
        refine At.enter rfl ?_
        refine r_iload_n rfl ?_
        refine r_ireti ?_
        exact ⟨trivial, rfl, rfl⟩
      refine At.enter rfl ?_
      refine r_ireti ?_
      exact congrArg (fun z => some (Value.int z)) (by unfold sp_terms; (repeat' split) <;> first | rfl | omega)
    · have c2_ : (a1).toInt = (1) := (by have z := en_i_ne_f c2; (try simp only [Int32.toInt_toInt64] at z); exact z)
      refine At.enter rfl ?_
      refine r_iload_n rfl ?_
      refine r_i2l ((a2).toInt64) rfl ?_
      refine r_lconst 1 rfl ?_
      refine r_ldc2 4 rfl ?_
      refine r_callS3s (((a2).toInt < (1))) (((a2).toInt ≥ (1)) ∧ ((a2).toInt > (4))) (((a2).toInt ≥ (1)) ∧ ((a2).toInt ≤ (4))) (.int 0) (.int 0) (.int 1) ((en_pre a 231 hp_M).set 231 (.inr (11, [.int 0, .int 0, .ref 232, .ref 233, .ref 234, .ref 235, .int 0, .ref 236, .int 0, .int 0, .int 0, .int 0, .long 0, .int (-1), .int 0, .int 0, .ref 237, .int 0, .ref 238, .ref 239, .int 0, .ref 240, .ref 241, .int 0, .int 0, .ref 242, .ref 243, .int 0, .ref 244, .ref 245, .int 0, .long 0, .long 0, .ref 246, .ref 247, .ref 248, .int 0, .ref 249, .ref 250, .ref 251, .ref 252, .ref 253, .ref 254, .ref 255, .ref 256, .int 0, .int 0, .int 0, .long 0, .ref 257, .ref 258, .int 0])), n) ((en_pre a 231 hp_M).set 231 (.inr (11, [.int 0, .int 0, .ref 232, .ref 233, .ref 234, .ref 235, .int 0, .ref 236, .int 0, .int 0, .int 0, .int 0, .long 0, .int (-1), .int 0, .int 0, .ref 237, .int 0, .ref 238, .ref 239, .int 0, .ref 240, .ref 241, .int 0, .int 0, .ref 242, .ref 243, .int 0, .ref 244, .ref 245, .int 0, .long 0, .long 0, .ref 246, .ref 247, .ref 248, .int 0, .ref 249, .ref 250, .ref 251, .ref 252, .ref 253, .ref 254, .ref 255, .ref 256, .int 0, .int 0, .int 0, .long 0, .ref 257, .ref 258, .int 0])), n) ((en_pre a 231 hp_M).set 231 (.inr (11, [.int 0, .int 0, .ref 232, .ref 233, .ref 234, .ref 235, .int 0, .ref 236, .int 0, .int 0, .int 0, .int 0, .long 0, .int (-1), .int 0, .int 0, .ref 237, .int 0, .ref 238, .ref 239, .int 0, .ref 240, .ref 241, .int 0, .int 0, .ref 242, .ref 243, .int 0, .ref 244, .ref 245, .int 0, .long 0, .long 0, .ref 246, .ref 247, .ref 248, .int 0, .ref 249, .ref 250, .ref 251, .ref 252, .ref 253, .ref 254, .ref 255, .ref 256, .int 0, .int 0, .int 0, .long 0, .ref 257, .ref 258, .int 0])), n) 35 rfl [.long (a2).toInt64, .long 1, .long 4] [] (Nat.le_of_ble_eq_true rfl) rfl ?_ (fun c3_ => ?_) (fun ⟨c3_, c4_⟩ => ?_) (fun ⟨c3_, c4_⟩ => ?_)
      · refine Ev.mk rfl rfl ⟨Nat.le_of_ble_eq_true rfl, Or.inl rfl⟩ ?_
        show At _ none _ _ (0, [(0, .long (a2).toInt64), (2, .long 1), (4, .long 4)], [], ((en_pre a 231 hp_M).set 231 (.inr (11, [.int 0, .int 0, .ref 232, .ref 233, .ref 234, .ref 235, .int 0, .ref 236, .int 0, .int 0, .int 0, .int 0, .long 0, .int (-1), .int 0, .int 0, .ref 237, .int 0, .ref 238, .ref 239, .int 0, .ref 240, .ref 241, .int 0, .int 0, .ref 242, .ref 243, .int 0, .ref 244, .ref 245, .int 0, .long 0, .long 0, .ref 246, .ref 247, .ref 248, .int 0, .ref 249, .ref 250, .ref 251, .ref 252, .ref 253, .ref 254, .ref 255, .ref 256, .int 0, .int 0, .int 0, .long 0, .ref 257, .ref 258, .int 0])), n)) _
        refine At.enter rfl ?_
        refine r_lload_n rfl ?_
        refine r_lload_n rfl ?_
        refine r_lcmp (lg_cmp (a2).toInt64 1) rfl ?_
        refine r_ifs 6 rfl (fun c3 => ?_) (fun c3 => ?_)
        · have c3_ : (a2).toInt < (1) := (by have z := en_j_lt_t c3; (try simp only [Int32.toInt_toInt64] at z); exact z)
          refine At.enter rfl ?_
          refine r_iconst 0 rfl ?_
          refine Ar.fall 18 rfl ?_
          refine At.enter rfl ?_
          refine r_iretz (by decide) ?_
          exact Or.inl ⟨c3_, rfl, rfl⟩
        · have c3_ : (a2).toInt ≥ (1) := (by have z := en_j_lt_f c3; (try simp only [Int32.toInt_toInt64] at z); exact z)
          refine At.enter rfl ?_
          refine r_lload_n rfl ?_
          refine r_lload rfl ?_
          refine r_lcmp (lg_cmp (a2).toInt64 4) rfl ?_
          refine r_ifs 13 rfl (fun c4 => ?_) (fun c4 => ?_)
          · have c4_ : (a2).toInt > (4) := (by have z := en_j_gt_t c4; (try simp only [Int32.toInt_toInt64] at z); exact z)
            refine At.enter rfl ?_
            refine r_iconst 0 rfl ?_
            refine Ar.fall 18 rfl ?_
            refine At.enter rfl ?_
            refine r_iretz (by decide) ?_
            exact Or.inr (Or.inl ⟨⟨c3_, c4_⟩, rfl, rfl⟩)
          · have c4_ : (a2).toInt ≤ (4) := (by have z := en_j_gt_f c4; (try simp only [Int32.toInt_toInt64] at z); exact z)
            refine At.enter rfl ?_
            refine r_iconst 1 rfl ?_
            refine r_goto ?_
            refine At.enter rfl ?_
            refine r_iretz (by decide) ?_
            exact Or.inr (Or.inr (⟨⟨c3_, c4_⟩, rfl, rfl⟩))
      · refine At.enter rfl ?_
        refine r_ift (by decide) ?_
        refine At.enter rfl ?_
        refine r_iconst 0 rfl ?_
        refine Ar.fall 43 rfl ?_
        refine At.enter rfl ?_
        refine r_istore_n ([(3, .int 0), (0, .ref 231), (1, .int a1), (2, .int a2)]) rfl ?_
        refine r_iload_n rfl ?_
        refine r_ift (by decide) ?_
        refine At.enter rfl ?_
        refine r_aload_n rfl ?_
        refine r_iconst (-1) rfl ?_
        refine r_callV1s (True) (.int (-1)) ((((en_pre a 231 hp_M).set 231 (.inr (11, [.int 0, .int 0, .ref 232, .ref 233, .ref 234, .ref 235, .int 0, .ref 236, .int 0, .int 0, .int 0, .int 0, .long 0, .int (-1), .int 0, .int 0, .ref 237, .int 0, .ref 238, .ref 239, .int 0, .ref 240, .ref 241, .int 0, .int 0, .ref 242, .ref 243, .int 0, .ref 244, .ref 245, .int 0, .long 0, .long 0, .ref 246, .ref 247, .ref 248, .int 0, .ref 249, .ref 250, .ref 251, .ref 252, .ref 253, .ref 254, .ref 255, .ref 256, .int 0, .int 0, .int 0, .long 0, .ref 257, .ref 258, .int 0]))).set 231 (.inr (11, [.int 0, .int (-1), .ref 232, .ref 233, .ref 234, .ref 235, .int 0, .ref 236, .int 0, .int 0, .int 0, .int 0, .long 0, .int (-1), .int 0, .int 0, .ref 237, .int 0, .ref 238, .ref 239, .int 0, .ref 240, .ref 241, .int 0, .int 0, .ref 242, .ref 243, .int 0, .ref 244, .ref 245, .int 0, .long 0, .long 0, .ref 246, .ref 247, .ref 248, .int 0, .ref 249, .ref 250, .ref 251, .ref 252, .ref 253, .ref 254, .ref 255, .ref 256, .int 0, .int 0, .int 0, .long 0, .ref 257, .ref 258, .int 0]))).set 232 (.inl (0, .inl ([0, 1, 0, 0, 0, 0, 0]))), n) 64 rfl [.ref 231, .int (-1)] [] (Nat.le_of_ble_eq_true rfl) rfl ?_ (fun _ => ?_)
        · refine Ev.mk rfl rfl ⟨Nat.le_of_ble_eq_true rfl, Or.inr (en_rcI (en_gs_eq (hm_231 _)) rfl)⟩ ?_
          show At _ none _ _ (0, [(0, .ref 231), (1, .int (-1))], [], ((en_pre a 231 hp_M).set 231 (.inr (11, [.int 0, .int 0, .ref 232, .ref 233, .ref 234, .ref 235, .int 0, .ref 236, .int 0, .int 0, .int 0, .int 0, .long 0, .int (-1), .int 0, .int 0, .ref 237, .int 0, .ref 238, .ref 239, .int 0, .ref 240, .ref 241, .int 0, .int 0, .ref 242, .ref 243, .int 0, .ref 244, .ref 245, .int 0, .long 0, .long 0, .ref 246, .ref 247, .ref 248, .int 0, .ref 249, .ref 250, .ref 251, .ref 252, .ref 253, .ref 254, .ref 255, .ref 256, .int 0, .int 0, .int 0, .long 0, .ref 257, .ref 258, .int 0])), n)) _
          refine At.enter rfl ?_
          refine r_aload_n rfl ?_
          refine r_iload_n rfl ?_
          refine r_iff 5 rfl (by decide) ?_
          refine At.enter rfl ?_
          refine r_iload_n rfl ?_
          refine r_goto ?_
          refine At.enter rfl ?_
          refine r_putf (en_gs_eq (hm_231 _)) (Nat.le_of_ble_eq_true rfl) rfl [.int 0, .int (-1), .ref 232, .ref 233, .ref 234, .ref 235, .int 0, .ref 236, .int 0, .int 0, .int 0, .int 0, .long 0, .int (-1), .int 0, .int 0, .ref 237, .int 0, .ref 238, .ref 239, .int 0, .ref 240, .ref 241, .int 0, .int 0, .ref 242, .ref 243, .int 0, .ref 244, .ref 245, .int 0, .long 0, .long 0, .ref 246, .ref 247, .ref 248, .int 0, .ref 249, .ref 250, .ref 251, .ref 252, .ref 253, .ref 254, .ref 255, .ref 256, .int 0, .int 0, .int 0, .long 0, .ref 257, .ref 258, .int 0] rfl ?_
          refine r_iload_n rfl ?_
          refine r_iff 17 rfl (by decide) ?_
          refine At.enter rfl ?_
          refine r_aload_n rfl ?_
          refine r_get (v := .ref 232) (en_gs_eq (en_gs_eq (hm_231 _))) rfl ?_
          refine r_iload_n rfl ?_
          refine r_ineg 1 rfl ?_
          refine r_dup2 ⟨rfl, rfl⟩ ?_
          refine r_iald (v := 0) (en_gs_ne (by decide) (en_gs_ne (by decide) (hm_232 _))) (by decide) rfl ?_
          refine r_iconst 1 rfl ?_
          refine r_iadd 1 rfl ?_
          refine r_iast (en_gs_ne (by decide) (en_gs_ne (by decide) (hm_232 _))) (by decide) (Nat.le_of_ble_eq_true rfl) ([0, 1, 0, 0, 0, 0, 0]) rfl ?_
          refine Ar.fall 28 rfl ?_
          refine At.enter rfl ?_
          refine r_iload_n rfl ?_
          refine r_ireti ?_
          exact ⟨trivial, rfl, rfl⟩
        refine At.enter rfl ?_
        refine r_ireti ?_
        exact congrArg (fun z => some (Value.int z)) (by unfold sp_terms; (repeat' split) <;> first | rfl | omega)
      · refine At.enter rfl ?_
        refine r_ift (by decide) ?_
        refine At.enter rfl ?_
        refine r_iconst 0 rfl ?_
        refine Ar.fall 43 rfl ?_
        refine At.enter rfl ?_
        refine r_istore_n ([(3, .int 0), (0, .ref 231), (1, .int a1), (2, .int a2)]) rfl ?_
        refine r_iload_n rfl ?_
        refine r_ift (by decide) ?_
        refine At.enter rfl ?_
        refine r_aload_n rfl ?_
        refine r_iconst (-1) rfl ?_
        refine r_callV1s (True) (.int (-1)) ((((en_pre a 231 hp_M).set 231 (.inr (11, [.int 0, .int 0, .ref 232, .ref 233, .ref 234, .ref 235, .int 0, .ref 236, .int 0, .int 0, .int 0, .int 0, .long 0, .int (-1), .int 0, .int 0, .ref 237, .int 0, .ref 238, .ref 239, .int 0, .ref 240, .ref 241, .int 0, .int 0, .ref 242, .ref 243, .int 0, .ref 244, .ref 245, .int 0, .long 0, .long 0, .ref 246, .ref 247, .ref 248, .int 0, .ref 249, .ref 250, .ref 251, .ref 252, .ref 253, .ref 254, .ref 255, .ref 256, .int 0, .int 0, .int 0, .long 0, .ref 257, .ref 258, .int 0]))).set 231 (.inr (11, [.int 0, .int (-1), .ref 232, .ref 233, .ref 234, .ref 235, .int 0, .ref 236, .int 0, .int 0, .int 0, .int 0, .long 0, .int (-1), .int 0, .int 0, .ref 237, .int 0, .ref 238, .ref 239, .int 0, .ref 240, .ref 241, .int 0, .int 0, .ref 242, .ref 243, .int 0, .ref 244, .ref 245, .int 0, .long 0, .long 0, .ref 246, .ref 247, .ref 248, .int 0, .ref 249, .ref 250, .ref 251, .ref 252, .ref 253, .ref 254, .ref 255, .ref 256, .int 0, .int 0, .int 0, .long 0, .ref 257, .ref 258, .int 0]))).set 232 (.inl (0, .inl ([0, 1, 0, 0, 0, 0, 0]))), n) 64 rfl [.ref 231, .int (-1)] [] (Nat.le_of_ble_eq_true rfl) rfl ?_ (fun _ => ?_)
        · refine Ev.mk rfl rfl ⟨Nat.le_of_ble_eq_true rfl, Or.inr (en_rcI (en_gs_eq (hm_231 _)) rfl)⟩ ?_
          show At _ none _ _ (0, [(0, .ref 231), (1, .int (-1))], [], ((en_pre a 231 hp_M).set 231 (.inr (11, [.int 0, .int 0, .ref 232, .ref 233, .ref 234, .ref 235, .int 0, .ref 236, .int 0, .int 0, .int 0, .int 0, .long 0, .int (-1), .int 0, .int 0, .ref 237, .int 0, .ref 238, .ref 239, .int 0, .ref 240, .ref 241, .int 0, .int 0, .ref 242, .ref 243, .int 0, .ref 244, .ref 245, .int 0, .long 0, .long 0, .ref 246, .ref 247, .ref 248, .int 0, .ref 249, .ref 250, .ref 251, .ref 252, .ref 253, .ref 254, .ref 255, .ref 256, .int 0, .int 0, .int 0, .long 0, .ref 257, .ref 258, .int 0])), n)) _
          refine At.enter rfl ?_
          refine r_aload_n rfl ?_
          refine r_iload_n rfl ?_
          refine r_iff 5 rfl (by decide) ?_
          refine At.enter rfl ?_
          refine r_iload_n rfl ?_
          refine r_goto ?_
          refine At.enter rfl ?_
          refine r_putf (en_gs_eq (hm_231 _)) (Nat.le_of_ble_eq_true rfl) rfl [.int 0, .int (-1), .ref 232, .ref 233, .ref 234, .ref 235, .int 0, .ref 236, .int 0, .int 0, .int 0, .int 0, .long 0, .int (-1), .int 0, .int 0, .ref 237, .int 0, .ref 238, .ref 239, .int 0, .ref 240, .ref 241, .int 0, .int 0, .ref 242, .ref 243, .int 0, .ref 244, .ref 245, .int 0, .long 0, .long 0, .ref 246, .ref 247, .ref 248, .int 0, .ref 249, .ref 250, .ref 251, .ref 252, .ref 253, .ref 254, .ref 255, .ref 256, .int 0, .int 0, .int 0, .long 0, .ref 257, .ref 258, .int 0] rfl ?_
          refine r_iload_n rfl ?_
          refine r_iff 17 rfl (by decide) ?_
          refine At.enter rfl ?_
          refine r_aload_n rfl ?_
          refine r_get (v := .ref 232) (en_gs_eq (en_gs_eq (hm_231 _))) rfl ?_
          refine r_iload_n rfl ?_
          refine r_ineg 1 rfl ?_
          refine r_dup2 ⟨rfl, rfl⟩ ?_
          refine r_iald (v := 0) (en_gs_ne (by decide) (en_gs_ne (by decide) (hm_232 _))) (by decide) rfl ?_
          refine r_iconst 1 rfl ?_
          refine r_iadd 1 rfl ?_
          refine r_iast (en_gs_ne (by decide) (en_gs_ne (by decide) (hm_232 _))) (by decide) (Nat.le_of_ble_eq_true rfl) ([0, 1, 0, 0, 0, 0, 0]) rfl ?_
          refine Ar.fall 28 rfl ?_
          refine At.enter rfl ?_
          refine r_iload_n rfl ?_
          refine r_ireti ?_
          exact ⟨trivial, rfl, rfl⟩
        refine At.enter rfl ?_
        refine r_ireti ?_
        exact congrArg (fun z => some (Value.int z)) (by unfold sp_terms; (repeat' split) <;> first | rfl | omega)
      · refine At.enter rfl ?_
        refine r_iff 38 rfl (by decide) ?_
        refine At.enter rfl ?_
        refine r_iconst 1 rfl ?_
        refine r_goto ?_
        refine At.enter rfl ?_
        refine r_istore_n ([(3, .int 1), (0, .ref 231), (1, .int a1), (2, .int a2)]) rfl ?_
        refine r_iload_n rfl ?_
        refine r_iff 48 rfl (by decide) ?_
        refine At.enter rfl ?_
        refine r_aload_n rfl ?_
        refine r_iconst 5 rfl ?_
        refine r_iload_n rfl ?_
        refine r_iadd (5 + a1) rfl ?_
        refine r_iload_n rfl ?_
        refine r_callV1s (((a1).toInt = 1)) (.int 2) ((((en_pre a 231 hp_M).set 231 (.inr (11, [.int 0, .int 0, .ref 232, .ref 233, .ref 234, .ref 235, .int 0, .ref 236, .int 0, .int 0, .int 0, .int 0, .long 0, .int (-1), .int 0, .int 0, .ref 237, .int 0, .ref 238, .ref 239, .int 0, .ref 240, .ref 241, .int 0, .int 0, .ref 242, .ref 243, .int 0, .ref 244, .ref 245, .int 0, .long 0, .long 0, .ref 246, .ref 247, .ref 248, .int 0, .ref 249, .ref 250, .ref 251, .ref 252, .ref 253, .ref 254, .ref 255, .ref 256, .int 0, .int 0, .int 0, .long 0, .ref 257, .ref 258, .int 0]))).set 233 (.inl (0, .inl ([0, 0, 0, (-1), 0, 60, a2] ++ List.replicate 5503 0)))).set 231 (.inr (11, [.int 0, .int 0, .ref 232, .ref 233, .ref 234, .ref 235, .int 0, .ref 236, .int 0, .int 0, .int 0, .int 0, .long 0, .int (-1), .int 0, .int 0, .ref 237, .int 0, .ref 238, .ref 239, .int 0, .ref 240, .ref 241, .int 0, .int 0, .ref 242, .ref 243, .int 0, .ref 244, .ref 245, .int 0, .long 0, .long 0, .ref 246, .ref 247, .ref 248, .int 0, .ref 249, .ref 250, .ref 251, .ref 252, .ref 253, .ref 254, .ref 255, .ref 256, .int 0, .int 0, .int 0, .long 0, .ref 257, .ref 258, .int 0])), n) 56 rfl [.ref 231, .int (5 + a1), .int a2] [] (Nat.le_of_ble_eq_true rfl) rfl ?_ (fun c5_1 => ?_)
        · refine Ev.mk rfl rfl ⟨Nat.le_of_ble_eq_true rfl, Or.inr (en_rcI (en_gs_eq (hm_231 _)) rfl)⟩ ?_
          show At _ none _ _ (0, [(0, .ref 231), (1, .int (5 + a1)), (2, .int a2)], [], ((en_pre a 231 hp_M).set 231 (.inr (11, [.int 0, .int 0, .ref 232, .ref 233, .ref 234, .ref 235, .int 0, .ref 236, .int 0, .int 0, .int 0, .int 0, .long 0, .int (-1), .int 0, .int 0, .ref 237, .int 0, .ref 238, .ref 239, .int 0, .ref 240, .ref 241, .int 0, .int 0, .ref 242, .ref 243, .int 0, .ref 244, .ref 245, .int 0, .long 0, .long 0, .ref 246, .ref 247, .ref 248, .int 0, .ref 249, .ref 250, .ref 251, .ref 252, .ref 253, .ref 254, .ref 255, .ref 256, .int 0, .int 0, .int 0, .long 0, .ref 257, .ref 258, .int 0])), n)) _
          refine At.enter rfl ?_
          refine r_aload_n rfl ?_
          refine r_get (v := .ref 233) (en_gs_eq (hm_231 _)) rfl ?_
          refine r_iload_n rfl ?_
          have c5_1 : (a1).toInt = 1 := by omega
          have c5_1_e : a1 = 1 := Int32.toInt_inj.mp c5_1
          subst c5_1_e
          refine r_iald (v := 2) (en_gs_ne (by decide) (hm_233 _)) (by decide) rfl ?_
          refine r_istore_n ([(3, .int 2), (0, .ref 231), (1, .int 6), (2, .int a2)]) rfl ?_
          refine r_aload_n rfl ?_
          refine r_get (v := .ref 233) (en_gs_eq (hm_231 _)) rfl ?_
          refine r_iload_n rfl ?_
          refine r_iload_n rfl ?_
          refine r_iast (en_gs_ne (by decide) (hm_233 _)) (by decide) (Nat.le_of_ble_eq_true rfl) ([0, 0, 0, (-1), 0, 60, a2] ++ List.replicate 5503 0) rfl ?_
          refine r_aload_n rfl ?_
          refine r_iload_n rfl ?_
          refine r_callV1s (True) (.int 2) ((((en_pre a 231 hp_M).set 231 (.inr (11, [.int 0, .int 0, .ref 232, .ref 233, .ref 234, .ref 235, .int 0, .ref 236, .int 0, .int 0, .int 0, .int 0, .long 0, .int (-1), .int 0, .int 0, .ref 237, .int 0, .ref 238, .ref 239, .int 0, .ref 240, .ref 241, .int 0, .int 0, .ref 242, .ref 243, .int 0, .ref 244, .ref 245, .int 0, .long 0, .long 0, .ref 246, .ref 247, .ref 248, .int 0, .ref 249, .ref 250, .ref 251, .ref 252, .ref 253, .ref 254, .ref 255, .ref 256, .int 0, .int 0, .int 0, .long 0, .ref 257, .ref 258, .int 0]))).set 233 (.inl (0, .inl ([0, 0, 0, (-1), 0, 60, a2] ++ List.replicate 5503 0)))).set 231 (.inr (11, [.int 0, .int 0, .ref 232, .ref 233, .ref 234, .ref 235, .int 0, .ref 236, .int 0, .int 0, .int 0, .int 0, .long 0, .int (-1), .int 0, .int 0, .ref 237, .int 0, .ref 238, .ref 239, .int 0, .ref 240, .ref 241, .int 0, .int 0, .ref 242, .ref 243, .int 0, .ref 244, .ref 245, .int 0, .long 0, .long 0, .ref 246, .ref 247, .ref 248, .int 0, .ref 249, .ref 250, .ref 251, .ref 252, .ref 253, .ref 254, .ref 255, .ref 256, .int 0, .int 0, .int 0, .long 0, .ref 257, .ref 258, .int 0])), n) 19 rfl [.ref 231, .int 2] [] (Nat.le_of_ble_eq_true rfl) rfl ?_ (fun _ => ?_)
          · refine Ev.mk rfl rfl ⟨Nat.le_of_ble_eq_true rfl, Or.inr (en_rcI (en_gs_ne (by decide) (en_gs_eq (hm_231 _))) rfl)⟩ ?_
            show At _ none _ _ (0, [(0, .ref 231), (1, .int 2)], [], (((en_pre a 231 hp_M).set 231 (.inr (11, [.int 0, .int 0, .ref 232, .ref 233, .ref 234, .ref 235, .int 0, .ref 236, .int 0, .int 0, .int 0, .int 0, .long 0, .int (-1), .int 0, .int 0, .ref 237, .int 0, .ref 238, .ref 239, .int 0, .ref 240, .ref 241, .int 0, .int 0, .ref 242, .ref 243, .int 0, .ref 244, .ref 245, .int 0, .long 0, .long 0, .ref 246, .ref 247, .ref 248, .int 0, .ref 249, .ref 250, .ref 251, .ref 252, .ref 253, .ref 254, .ref 255, .ref 256, .int 0, .int 0, .int 0, .long 0, .ref 257, .ref 258, .int 0]))).set 233 (.inl (0, .inl ([0, 0, 0, (-1), 0, 60, a2] ++ List.replicate 5503 0))), n)) _
            refine At.enter rfl ?_
            refine r_aload_n rfl ?_
            refine r_iconst 0 rfl ?_
            refine r_putf (en_gs_ne (by decide) (en_gs_eq (hm_231 _))) (Nat.le_of_ble_eq_true rfl) rfl [.int 0, .int 0, .ref 232, .ref 233, .ref 234, .ref 235, .int 0, .ref 236, .int 0, .int 0, .int 0, .int 0, .long 0, .int (-1), .int 0, .int 0, .ref 237, .int 0, .ref 238, .ref 239, .int 0, .ref 240, .ref 241, .int 0, .int 0, .ref 242, .ref 243, .int 0, .ref 244, .ref 245, .int 0, .long 0, .long 0, .ref 246, .ref 247, .ref 248, .int 0, .ref 249, .ref 250, .ref 251, .ref 252, .ref 253, .ref 254, .ref 255, .ref 256, .int 0, .int 0, .int 0, .long 0, .ref 257, .ref 258, .int 0] rfl ?_
            refine r_iload_n rfl ?_
            refine r_ireti ?_
            exact ⟨trivial, rfl, rfl⟩
          refine At.enter rfl ?_
          refine r_ireti ?_
          exact ⟨c5_1, rfl, rfl⟩
        refine At.enter rfl ?_
        refine r_goto ?_
        refine At.enter rfl ?_
        refine r_ireti ?_
        exact congrArg (fun z => some (Value.int z)) (by unfold sp_terms; (repeat' split) <;> first | rfl | omega)
  · have c1_ : (a1).toInt = (0) := (by have z := en_k_ne_f c1; (try simp only [Int32.toInt_toInt64] at z); exact z)
    refine At.enter rfl ?_
    refine r_iload_n rfl ?_
    refine r_i2l ((a2).toInt64) rfl ?_
    refine r_lconst 0 rfl ?_
    refine r_ldc2 99 rfl ?_
    refine r_callS3s (((a2).toInt < (0))) (((a2).toInt ≥ (0)) ∧ ((a2).toInt > (99))) (((a2).toInt ≥ (0)) ∧ ((a2).toInt ≤ (99))) (.int 0) (.int 0) (.int 1) ((en_pre a 231 hp_M).set 231 (.inr (11, [.int 0, .int 0, .ref 232, .ref 233, .ref 234, .ref 235, .int 0, .ref 236, .int 0, .int 0, .int 0, .int 0, .long 0, .int (-1), .int 0, .int 0, .ref 237, .int 0, .ref 238, .ref 239, .int 0, .ref 240, .ref 241, .int 0, .int 0, .ref 242, .ref 243, .int 0, .ref 244, .ref 245, .int 0, .long 0, .long 0, .ref 246, .ref 247, .ref 248, .int 0, .ref 249, .ref 250, .ref 251, .ref 252, .ref 253, .ref 254, .ref 255, .ref 256, .int 0, .int 0, .int 0, .long 0, .ref 257, .ref 258, .int 0])), n) ((en_pre a 231 hp_M).set 231 (.inr (11, [.int 0, .int 0, .ref 232, .ref 233, .ref 234, .ref 235, .int 0, .ref 236, .int 0, .int 0, .int 0, .int 0, .long 0, .int (-1), .int 0, .int 0, .ref 237, .int 0, .ref 238, .ref 239, .int 0, .ref 240, .ref 241, .int 0, .int 0, .ref 242, .ref 243, .int 0, .ref 244, .ref 245, .int 0, .long 0, .long 0, .ref 246, .ref 247, .ref 248, .int 0, .ref 249, .ref 250, .ref 251, .ref 252, .ref 253, .ref 254, .ref 255, .ref 256, .int 0, .int 0, .int 0, .long 0, .ref 257, .ref 258, .int 0])), n) ((en_pre a 231 hp_M).set 231 (.inr (11, [.int 0, .int 0, .ref 232, .ref 233, .ref 234, .ref 235, .int 0, .ref 236, .int 0, .int 0, .int 0, .int 0, .long 0, .int (-1), .int 0, .int 0, .ref 237, .int 0, .ref 238, .ref 239, .int 0, .ref 240, .ref 241, .int 0, .int 0, .ref 242, .ref 243, .int 0, .ref 244, .ref 245, .int 0, .long 0, .long 0, .ref 246, .ref 247, .ref 248, .int 0, .ref 249, .ref 250, .ref 251, .ref 252, .ref 253, .ref 254, .ref 255, .ref 256, .int 0, .int 0, .int 0, .long 0, .ref 257, .ref 258, .int 0])), n) 18 rfl [.long (a2).toInt64, .long 0, .long 99] [] (Nat.le_of_ble_eq_true rfl) rfl ?_ (fun c6_ => ?_) (fun ⟨c6_, c7_⟩ => ?_) (fun ⟨c6_, c7_⟩ => ?_)
    · refine Ev.mk rfl rfl ⟨Nat.le_of_ble_eq_true rfl, Or.inl rfl⟩ ?_
      show At _ none _ _ (0, [(0, .long (a2).toInt64), (2, .long 0), (4, .long 99)], [], ((en_pre a 231 hp_M).set 231 (.inr (11, [.int 0, .int 0, .ref 232, .ref 233, .ref 234, .ref 235, .int 0, .ref 236, .int 0, .int 0, .int 0, .int 0, .long 0, .int (-1), .int 0, .int 0, .ref 237, .int 0, .ref 238, .ref 239, .int 0, .ref 240, .ref 241, .int 0, .int 0, .ref 242, .ref 243, .int 0, .ref 244, .ref 245, .int 0, .long 0, .long 0, .ref 246, .ref 247, .ref 248, .int 0, .ref 249, .ref 250, .ref 251, .ref 252, .ref 253, .ref 254, .ref 255, .ref 256, .int 0, .int 0, .int 0, .long 0, .ref 257, .ref 258, .int 0])), n)) _
      refine At.enter rfl ?_
      refine r_lload_n rfl ?_
      refine r_lload_n rfl ?_
      refine r_lcmp (lg_cmp (a2).toInt64 0) rfl ?_
      refine r_ifs 6 rfl (fun c6 => ?_) (fun c6 => ?_)
      · have c6_ : (a2).toInt < (0) := (by have z := en_j_lt_t c6; (try simp only [Int32.toInt_toInt64] at z); exact z)
        refine At.enter rfl ?_
        refine r_iconst 0 rfl ?_
        refine Ar.fall 18 rfl ?_
        refine At.enter rfl ?_
        refine r_iretz (by decide) ?_
        exact Or.inl ⟨c6_, rfl, rfl⟩
      · have c6_ : (a2).toInt ≥ (0) := (by have z := en_j_lt_f c6; (try simp only [Int32.toInt_toInt64] at z); exact z)
        refine At.enter rfl ?_
        refine r_lload_n rfl ?_
        refine r_lload rfl ?_
        refine r_lcmp (lg_cmp (a2).toInt64 99) rfl ?_
        refine r_ifs 13 rfl (fun c7 => ?_) (fun c7 => ?_)
        · have c7_ : (a2).toInt > (99) := (by have z := en_j_gt_t c7; (try simp only [Int32.toInt_toInt64] at z); exact z)
          refine At.enter rfl ?_
          refine r_iconst 0 rfl ?_
          refine Ar.fall 18 rfl ?_
          refine At.enter rfl ?_
          refine r_iretz (by decide) ?_
          exact Or.inr (Or.inl ⟨⟨c6_, c7_⟩, rfl, rfl⟩)
        · have c7_ : (a2).toInt ≤ (99) := (by have z := en_j_gt_f c7; (try simp only [Int32.toInt_toInt64] at z); exact z)
          refine At.enter rfl ?_
          refine r_iconst 1 rfl ?_
          refine r_goto ?_
          refine At.enter rfl ?_
          refine r_iretz (by decide) ?_
          exact Or.inr (Or.inr (⟨⟨c6_, c7_⟩, rfl, rfl⟩))
    · refine At.enter rfl ?_
      refine r_goto ?_
      refine At.enter rfl ?_
      refine r_istore_n ([(3, .int 0), (0, .ref 231), (1, .int a1), (2, .int a2)]) rfl ?_
      refine r_iload_n rfl ?_
      refine r_ift (by decide) ?_
      refine At.enter rfl ?_
      refine r_aload_n rfl ?_
      refine r_iconst (-1) rfl ?_
      refine r_callV1s (True) (.int (-1)) ((((en_pre a 231 hp_M).set 231 (.inr (11, [.int 0, .int 0, .ref 232, .ref 233, .ref 234, .ref 235, .int 0, .ref 236, .int 0, .int 0, .int 0, .int 0, .long 0, .int (-1), .int 0, .int 0, .ref 237, .int 0, .ref 238, .ref 239, .int 0, .ref 240, .ref 241, .int 0, .int 0, .ref 242, .ref 243, .int 0, .ref 244, .ref 245, .int 0, .long 0, .long 0, .ref 246, .ref 247, .ref 248, .int 0, .ref 249, .ref 250, .ref 251, .ref 252, .ref 253, .ref 254, .ref 255, .ref 256, .int 0, .int 0, .int 0, .long 0, .ref 257, .ref 258, .int 0]))).set 231 (.inr (11, [.int 0, .int (-1), .ref 232, .ref 233, .ref 234, .ref 235, .int 0, .ref 236, .int 0, .int 0, .int 0, .int 0, .long 0, .int (-1), .int 0, .int 0, .ref 237, .int 0, .ref 238, .ref 239, .int 0, .ref 240, .ref 241, .int 0, .int 0, .ref 242, .ref 243, .int 0, .ref 244, .ref 245, .int 0, .long 0, .long 0, .ref 246, .ref 247, .ref 248, .int 0, .ref 249, .ref 250, .ref 251, .ref 252, .ref 253, .ref 254, .ref 255, .ref 256, .int 0, .int 0, .int 0, .long 0, .ref 257, .ref 258, .int 0]))).set 232 (.inl (0, .inl ([0, 1, 0, 0, 0, 0, 0]))), n) 64 rfl [.ref 231, .int (-1)] [] (Nat.le_of_ble_eq_true rfl) rfl ?_ (fun _ => ?_)
      · refine Ev.mk rfl rfl ⟨Nat.le_of_ble_eq_true rfl, Or.inr (en_rcI (en_gs_eq (hm_231 _)) rfl)⟩ ?_
        show At _ none _ _ (0, [(0, .ref 231), (1, .int (-1))], [], ((en_pre a 231 hp_M).set 231 (.inr (11, [.int 0, .int 0, .ref 232, .ref 233, .ref 234, .ref 235, .int 0, .ref 236, .int 0, .int 0, .int 0, .int 0, .long 0, .int (-1), .int 0, .int 0, .ref 237, .int 0, .ref 238, .ref 239, .int 0, .ref 240, .ref 241, .int 0, .int 0, .ref 242, .ref 243, .int 0, .ref 244, .ref 245, .int 0, .long 0, .long 0, .ref 246, .ref 247, .ref 248, .int 0, .ref 249, .ref 250, .ref 251, .ref 252, .ref 253, .ref 254, .ref 255, .ref 256, .int 0, .int 0, .int 0, .long 0, .ref 257, .ref 258, .int 0])), n)) _
        refine At.enter rfl ?_
        refine r_aload_n rfl ?_
        refine r_iload_n rfl ?_
        refine r_iff 5 rfl (by decide) ?_
        refine At.enter rfl ?_
        refine r_iload_n rfl ?_
        refine r_goto ?_
        refine At.enter rfl ?_
        refine r_putf (en_gs_eq (hm_231 _)) (Nat.le_of_ble_eq_true rfl) rfl [.int 0, .int (-1), .ref 232, .ref 233, .ref 234, .ref 235, .int 0, .ref 236, .int 0, .int 0, .int 0, .int 0, .long 0, .int (-1), .int 0, .int 0, .ref 237, .int 0, .ref 238, .ref 239, .int 0, .ref 240, .ref 241, .int 0, .int 0, .ref 242, .ref 243, .int 0, .ref 244, .ref 245, .int 0, .long 0, .long 0, .ref 246, .ref 247, .ref 248, .int 0, .ref 249, .ref 250, .ref 251, .ref 252, .ref 253, .ref 254, .ref 255, .ref 256, .int 0, .int 0, .int 0, .long 0, .ref 257, .ref 258, .int 0] rfl ?_
        refine r_iload_n rfl ?_
        refine r_iff 17 rfl (by decide) ?_
        refine At.enter rfl ?_
        refine r_aload_n rfl ?_
        refine r_get (v := .ref 232) (en_gs_eq (en_gs_eq (hm_231 _))) rfl ?_
        refine r_iload_n rfl ?_
        refine r_ineg 1 rfl ?_
        refine r_dup2 ⟨rfl, rfl⟩ ?_
        refine r_iald (v := 0) (en_gs_ne (by decide) (en_gs_ne (by decide) (hm_232 _))) (by decide) rfl ?_
        refine r_iconst 1 rfl ?_
        refine r_iadd 1 rfl ?_
        refine r_iast (en_gs_ne (by decide) (en_gs_ne (by decide) (hm_232 _))) (by decide) (Nat.le_of_ble_eq_true rfl) ([0, 1, 0, 0, 0, 0, 0]) rfl ?_
        refine Ar.fall 28 rfl ?_
        refine At.enter rfl ?_
        refine r_iload_n rfl ?_
        refine r_ireti ?_
        exact ⟨trivial, rfl, rfl⟩
      refine At.enter rfl ?_
      refine r_ireti ?_
      exact congrArg (fun z => some (Value.int z)) (by unfold sp_terms; (repeat' split) <;> first | rfl | omega)
    · refine At.enter rfl ?_
      refine r_goto ?_
      refine At.enter rfl ?_
      refine r_istore_n ([(3, .int 0), (0, .ref 231), (1, .int a1), (2, .int a2)]) rfl ?_
      refine r_iload_n rfl ?_
      refine r_ift (by decide) ?_
      refine At.enter rfl ?_
      refine r_aload_n rfl ?_
      refine r_iconst (-1) rfl ?_
      refine r_callV1s (True) (.int (-1)) ((((en_pre a 231 hp_M).set 231 (.inr (11, [.int 0, .int 0, .ref 232, .ref 233, .ref 234, .ref 235, .int 0, .ref 236, .int 0, .int 0, .int 0, .int 0, .long 0, .int (-1), .int 0, .int 0, .ref 237, .int 0, .ref 238, .ref 239, .int 0, .ref 240, .ref 241, .int 0, .int 0, .ref 242, .ref 243, .int 0, .ref 244, .ref 245, .int 0, .long 0, .long 0, .ref 246, .ref 247, .ref 248, .int 0, .ref 249, .ref 250, .ref 251, .ref 252, .ref 253, .ref 254, .ref 255, .ref 256, .int 0, .int 0, .int 0, .long 0, .ref 257, .ref 258, .int 0]))).set 231 (.inr (11, [.int 0, .int (-1), .ref 232, .ref 233, .ref 234, .ref 235, .int 0, .ref 236, .int 0, .int 0, .int 0, .int 0, .long 0, .int (-1), .int 0, .int 0, .ref 237, .int 0, .ref 238, .ref 239, .int 0, .ref 240, .ref 241, .int 0, .int 0, .ref 242, .ref 243, .int 0, .ref 244, .ref 245, .int 0, .long 0, .long 0, .ref 246, .ref 247, .ref 248, .int 0, .ref 249, .ref 250, .ref 251, .ref 252, .ref 253, .ref 254, .ref 255, .ref 256, .int 0, .int 0, .int 0, .long 0, .ref 257, .ref 258, .int 0]))).set 232 (.inl (0, .inl ([0, 1, 0, 0, 0, 0, 0]))), n) 64 rfl [.ref 231, .int (-1)] [] (Nat.le_of_ble_eq_true rfl) rfl ?_ (fun _ => ?_)
      · refine Ev.mk rfl rfl ⟨Nat.le_of_ble_eq_true rfl, Or.inr (en_rcI (en_gs_eq (hm_231 _)) rfl)⟩ ?_
        show At _ none _ _ (0, [(0, .ref 231), (1, .int (-1))], [], ((en_pre a 231 hp_M).set 231 (.inr (11, [.int 0, .int 0, .ref 232, .ref 233, .ref 234, .ref 235, .int 0, .ref 236, .int 0, .int 0, .int 0, .int 0, .long 0, .int (-1), .int 0, .int 0, .ref 237, .int 0, .ref 238, .ref 239, .int 0, .ref 240, .ref 241, .int 0, .int 0, .ref 242, .ref 243, .int 0, .ref 244, .ref 245, .int 0, .long 0, .long 0, .ref 246, .ref 247, .ref 248, .int 0, .ref 249, .ref 250, .ref 251, .ref 252, .ref 253, .ref 254, .ref 255, .ref 256, .int 0, .int 0, .int 0, .long 0, .ref 257, .ref 258, .int 0])), n)) _
        refine At.enter rfl ?_
        refine r_aload_n rfl ?_
        refine r_iload_n rfl ?_
        refine r_iff 5 rfl (by decide) ?_
        refine At.enter rfl ?_
        refine r_iload_n rfl ?_
        refine r_goto ?_
        refine At.enter rfl ?_
        refine r_putf (en_gs_eq (hm_231 _)) (Nat.le_of_ble_eq_true rfl) rfl [.int 0, .int (-1), .ref 232, .ref 233, .ref 234, .ref 235, .int 0, .ref 236, .int 0, .int 0, .int 0, .int 0, .long 0, .int (-1), .int 0, .int 0, .ref 237, .int 0, .ref 238, .ref 239, .int 0, .ref 240, .ref 241, .int 0, .int 0, .ref 242, .ref 243, .int 0, .ref 244, .ref 245, .int 0, .long 0, .long 0, .ref 246, .ref 247, .ref 248, .int 0, .ref 249, .ref 250, .ref 251, .ref 252, .ref 253, .ref 254, .ref 255, .ref 256, .int 0, .int 0, .int 0, .long 0, .ref 257, .ref 258, .int 0] rfl ?_
        refine r_iload_n rfl ?_
        refine r_iff 17 rfl (by decide) ?_
        refine At.enter rfl ?_
        refine r_aload_n rfl ?_
        refine r_get (v := .ref 232) (en_gs_eq (en_gs_eq (hm_231 _))) rfl ?_
        refine r_iload_n rfl ?_
        refine r_ineg 1 rfl ?_
        refine r_dup2 ⟨rfl, rfl⟩ ?_
        refine r_iald (v := 0) (en_gs_ne (by decide) (en_gs_ne (by decide) (hm_232 _))) (by decide) rfl ?_
        refine r_iconst 1 rfl ?_
        refine r_iadd 1 rfl ?_
        refine r_iast (en_gs_ne (by decide) (en_gs_ne (by decide) (hm_232 _))) (by decide) (Nat.le_of_ble_eq_true rfl) ([0, 1, 0, 0, 0, 0, 0]) rfl ?_
        refine Ar.fall 28 rfl ?_
        refine At.enter rfl ?_
        refine r_iload_n rfl ?_
        refine r_ireti ?_
        exact ⟨trivial, rfl, rfl⟩
      refine At.enter rfl ?_
      refine r_ireti ?_
      exact congrArg (fun z => some (Value.int z)) (by unfold sp_terms; (repeat' split) <;> first | rfl | omega)
    · refine At.enter rfl ?_
      refine r_goto ?_
      refine At.enter rfl ?_
      refine r_istore_n ([(3, .int 1), (0, .ref 231), (1, .int a1), (2, .int a2)]) rfl ?_
      refine r_iload_n rfl ?_
      refine r_iff 48 rfl (by decide) ?_
      refine At.enter rfl ?_
      refine r_aload_n rfl ?_
      refine r_iconst 5 rfl ?_
      refine r_iload_n rfl ?_
      refine r_iadd (5 + a1) rfl ?_
      refine r_iload_n rfl ?_
      refine r_callV1s (((a1).toInt = 0)) (.int 60) ((((en_pre a 231 hp_M).set 231 (.inr (11, [.int 0, .int 0, .ref 232, .ref 233, .ref 234, .ref 235, .int 0, .ref 236, .int 0, .int 0, .int 0, .int 0, .long 0, .int (-1), .int 0, .int 0, .ref 237, .int 0, .ref 238, .ref 239, .int 0, .ref 240, .ref 241, .int 0, .int 0, .ref 242, .ref 243, .int 0, .ref 244, .ref 245, .int 0, .long 0, .long 0, .ref 246, .ref 247, .ref 248, .int 0, .ref 249, .ref 250, .ref 251, .ref 252, .ref 253, .ref 254, .ref 255, .ref 256, .int 0, .int 0, .int 0, .long 0, .ref 257, .ref 258, .int 0]))).set 233 (.inl (0, .inl ([0, 0, 0, (-1), 0, a2, 2] ++ List.replicate 5503 0)))).set 231 (.inr (11, [.int 0, .int 0, .ref 232, .ref 233, .ref 234, .ref 235, .int 0, .ref 236, .int 0, .int 0, .int 0, .int 0, .long 0, .int (-1), .int 0, .int 0, .ref 237, .int 0, .ref 238, .ref 239, .int 0, .ref 240, .ref 241, .int 0, .int 0, .ref 242, .ref 243, .int 0, .ref 244, .ref 245, .int 0, .long 0, .long 0, .ref 246, .ref 247, .ref 248, .int 0, .ref 249, .ref 250, .ref 251, .ref 252, .ref 253, .ref 254, .ref 255, .ref 256, .int 0, .int 0, .int 0, .long 0, .ref 257, .ref 258, .int 0])), n) 56 rfl [.ref 231, .int (5 + a1), .int a2] [] (Nat.le_of_ble_eq_true rfl) rfl ?_ (fun c8_0 => ?_)
      · refine Ev.mk rfl rfl ⟨Nat.le_of_ble_eq_true rfl, Or.inr (en_rcI (en_gs_eq (hm_231 _)) rfl)⟩ ?_
        show At _ none _ _ (0, [(0, .ref 231), (1, .int (5 + a1)), (2, .int a2)], [], ((en_pre a 231 hp_M).set 231 (.inr (11, [.int 0, .int 0, .ref 232, .ref 233, .ref 234, .ref 235, .int 0, .ref 236, .int 0, .int 0, .int 0, .int 0, .long 0, .int (-1), .int 0, .int 0, .ref 237, .int 0, .ref 238, .ref 239, .int 0, .ref 240, .ref 241, .int 0, .int 0, .ref 242, .ref 243, .int 0, .ref 244, .ref 245, .int 0, .long 0, .long 0, .ref 246, .ref 247, .ref 248, .int 0, .ref 249, .ref 250, .ref 251, .ref 252, .ref 253, .ref 254, .ref 255, .ref 256, .int 0, .int 0, .int 0, .long 0, .ref 257, .ref 258, .int 0])), n)) _
        refine At.enter rfl ?_
        refine r_aload_n rfl ?_
        refine r_get (v := .ref 233) (en_gs_eq (hm_231 _)) rfl ?_
        refine r_iload_n rfl ?_
        have c8_0 : (a1).toInt = 0 := by omega
        have c8_0_e : a1 = 0 := Int32.toInt_inj.mp c8_0
        subst c8_0_e
        refine r_iald (v := 60) (en_gs_ne (by decide) (hm_233 _)) (by decide) rfl ?_
        refine r_istore_n ([(3, .int 60), (0, .ref 231), (1, .int 5), (2, .int a2)]) rfl ?_
        refine r_aload_n rfl ?_
        refine r_get (v := .ref 233) (en_gs_eq (hm_231 _)) rfl ?_
        refine r_iload_n rfl ?_
        refine r_iload_n rfl ?_
        refine r_iast (en_gs_ne (by decide) (hm_233 _)) (by decide) (Nat.le_of_ble_eq_true rfl) ([0, 0, 0, (-1), 0, a2, 2] ++ List.replicate 5503 0) rfl ?_
        refine r_aload_n rfl ?_
        refine r_iload_n rfl ?_
        refine r_callV1s (True) (.int 60) ((((en_pre a 231 hp_M).set 231 (.inr (11, [.int 0, .int 0, .ref 232, .ref 233, .ref 234, .ref 235, .int 0, .ref 236, .int 0, .int 0, .int 0, .int 0, .long 0, .int (-1), .int 0, .int 0, .ref 237, .int 0, .ref 238, .ref 239, .int 0, .ref 240, .ref 241, .int 0, .int 0, .ref 242, .ref 243, .int 0, .ref 244, .ref 245, .int 0, .long 0, .long 0, .ref 246, .ref 247, .ref 248, .int 0, .ref 249, .ref 250, .ref 251, .ref 252, .ref 253, .ref 254, .ref 255, .ref 256, .int 0, .int 0, .int 0, .long 0, .ref 257, .ref 258, .int 0]))).set 233 (.inl (0, .inl ([0, 0, 0, (-1), 0, a2, 2] ++ List.replicate 5503 0)))).set 231 (.inr (11, [.int 0, .int 0, .ref 232, .ref 233, .ref 234, .ref 235, .int 0, .ref 236, .int 0, .int 0, .int 0, .int 0, .long 0, .int (-1), .int 0, .int 0, .ref 237, .int 0, .ref 238, .ref 239, .int 0, .ref 240, .ref 241, .int 0, .int 0, .ref 242, .ref 243, .int 0, .ref 244, .ref 245, .int 0, .long 0, .long 0, .ref 246, .ref 247, .ref 248, .int 0, .ref 249, .ref 250, .ref 251, .ref 252, .ref 253, .ref 254, .ref 255, .ref 256, .int 0, .int 0, .int 0, .long 0, .ref 257, .ref 258, .int 0])), n) 19 rfl [.ref 231, .int 60] [] (Nat.le_of_ble_eq_true rfl) rfl ?_ (fun _ => ?_)
        · refine Ev.mk rfl rfl ⟨Nat.le_of_ble_eq_true rfl, Or.inr (en_rcI (en_gs_ne (by decide) (en_gs_eq (hm_231 _))) rfl)⟩ ?_
          show At _ none _ _ (0, [(0, .ref 231), (1, .int 60)], [], (((en_pre a 231 hp_M).set 231 (.inr (11, [.int 0, .int 0, .ref 232, .ref 233, .ref 234, .ref 235, .int 0, .ref 236, .int 0, .int 0, .int 0, .int 0, .long 0, .int (-1), .int 0, .int 0, .ref 237, .int 0, .ref 238, .ref 239, .int 0, .ref 240, .ref 241, .int 0, .int 0, .ref 242, .ref 243, .int 0, .ref 244, .ref 245, .int 0, .long 0, .long 0, .ref 246, .ref 247, .ref 248, .int 0, .ref 249, .ref 250, .ref 251, .ref 252, .ref 253, .ref 254, .ref 255, .ref 256, .int 0, .int 0, .int 0, .long 0, .ref 257, .ref 258, .int 0]))).set 233 (.inl (0, .inl ([0, 0, 0, (-1), 0, a2, 2] ++ List.replicate 5503 0))), n)) _
          refine At.enter rfl ?_
          refine r_aload_n rfl ?_
          refine r_iconst 0 rfl ?_
          refine r_putf (en_gs_ne (by decide) (en_gs_eq (hm_231 _))) (Nat.le_of_ble_eq_true rfl) rfl [.int 0, .int 0, .ref 232, .ref 233, .ref 234, .ref 235, .int 0, .ref 236, .int 0, .int 0, .int 0, .int 0, .long 0, .int (-1), .int 0, .int 0, .ref 237, .int 0, .ref 238, .ref 239, .int 0, .ref 240, .ref 241, .int 0, .int 0, .ref 242, .ref 243, .int 0, .ref 244, .ref 245, .int 0, .long 0, .long 0, .ref 246, .ref 247, .ref 248, .int 0, .ref 249, .ref 250, .ref 251, .ref 252, .ref 253, .ref 254, .ref 255, .ref 256, .int 0, .int 0, .int 0, .long 0, .ref 257, .ref 258, .int 0] rfl ?_
          refine r_iload_n rfl ?_
          refine r_ireti ?_
          exact ⟨trivial, rfl, rfl⟩
        refine At.enter rfl ?_
        refine r_ireti ?_
        exact ⟨c8_0, rfl, rfl⟩
      refine At.enter rfl ?_
      refine r_goto ?_
      refine At.enter rfl ?_
      refine r_ireti ?_
      exact congrArg (fun z => some (Value.int z)) (by unfold sp_terms; (repeat' split) <;> first | rfl | omega)
set_option maxRecDepth 100000 in
set_option maxHeartbeats 4000000 in
theorem zx_X10_feed (n : Nat) (a1 : Int32) (a2 : Int32) (a3 : Int32) (a4 : Int32) (a5 : Int32) : Ev 14 111 [.ref 0, .int a1, .int a2, .int a3, .int a4, .int a5] (hp_X ++ hp_M, n) (fun r h' => r = some (.int (20)) ∧ IsX h'.1 ∧ h'.2 = n) := by
  refine Ev.mk rfl rfl ⟨Nat.le_of_ble_eq_true rfl, Or.inr (en_rcI hx_0 rfl)⟩ ?_
  show At _ none _ _ (0, [(0, .ref 0), (1, .int a1), (2, .int a2), (3, .int a3), (4, .int a4), (5, .int a5)], [], (hp_X ++ hp_M, n)) _
  refine At.enter rfl ?_
  refine r_aload_n rfl ?_
  refine r_get (v := .ref 174) hx_0 rfl ?_
  refine r_get (v := .int 0) hx_174 rfl ?_
  refine r_bipush 20 rfl ?_
  refine r_iadd 20 rfl ?_
  refine r_sipush 400 rfl ?_
  refine r_ict (by decide) ?_
  refine At.enter rfl ?_
  refine r_aload_n rfl ?_
  refine r_get (v := .ref 174) hx_0 rfl ?_
  refine r_iload_n rfl ?_
  refine r_callV1v (True)  (((((((((hp_X ++ hp_M).set 175 (.inl (0, .inl ([((((a1).toUInt32 >>> ((24 : Int32).toUInt32 &&& Int32.toUInt32 31)).toInt32) &&& 255)] ++ List.replicate 399 0)))).set 174 (.inr (8, [.ref 175, .int 1]))).set 175 (.inl (0, .inl ([((((a1).toUInt32 >>> ((24 : Int32).toUInt32 &&& Int32.toUInt32 31)).toInt32) &&& 255), ((((a1).toUInt32 >>> ((16 : Int32).toUInt32 &&& Int32.toUInt32 31)).toInt32) &&& 255)] ++ List.replicate 398 0)))).set 174 (.inr (8, [.ref 175, .int 2]))).set 175 (.inl (0, .inl ([((((a1).toUInt32 >>> ((24 : Int32).toUInt32 &&& Int32.toUInt32 31)).toInt32) &&& 255), ((((a1).toUInt32 >>> ((16 : Int32).toUInt32 &&& Int32.toUInt32 31)).toInt32) &&& 255), ((((a1).toUInt32 >>> ((8 : Int32).toUInt32 &&& Int32.toUInt32 31)).toInt32) &&& 255)] ++ List.replicate 397 0)))).set 174 (.inr (8, [.ref 175, .int 3]))).set 175 (.inl (0, .inl ([((((a1).toUInt32 >>> ((24 : Int32).toUInt32 &&& Int32.toUInt32 31)).toInt32) &&& 255), ((((a1).toUInt32 >>> ((16 : Int32).toUInt32 &&& Int32.toUInt32 31)).toInt32) &&& 255), ((((a1).toUInt32 >>> ((8 : Int32).toUInt32 &&& Int32.toUInt32 31)).toInt32) &&& 255), ((((a1).toUInt32 >>> ((0 : Int32).toUInt32 &&& Int32.toUInt32 31)).toInt32) &&& 255)] ++ List.replicate 396 0)))).set 174 (.inr (8, [.ref 175, .int 4])), n) 26 rfl [.ref 174, .int a1] [] (Nat.le_of_ble_eq_true rfl) rfl ?_ (fun _ => ?_)
  · refine Ev.mk rfl rfl ⟨Nat.le_of_ble_eq_true rfl, Or.inr (en_rcI hx_174 rfl)⟩ ?_
    show At _ none _ _ (0, [(0, .ref 174), (1, .int a1)], [], (hp_X ++ hp_M, n)) _
    refine At.enter rfl ?_
    refine r_bipush 24 rfl ?_
    refine r_istore_n ([(2, .int 24), (0, .ref 174), (1, .int a1)]) rfl ?_
    refine Ar.fall 3 rfl ?_
    refine At.enter rfl ?_
    refine r_iload_n rfl ?_
    refine r_iff 7 rfl (by decide) ?_
    refine At.enter rfl ?_
    refine r_aload_n rfl ?_
    refine r_get (v := .int 0) hx_174 rfl ?_
    refine r_sipush 400 rfl ?_
    refine r_icf 17 rfl (by decide) ?_
    refine At.enter rfl ?_
    refine r_aload_n rfl ?_
    refine r_get (v := .ref 175) hx_174 rfl ?_
    refine r_aload_n rfl ?_
    refine r_get (v := .int 0) hx_174 rfl ?_
    refine r_iload_n rfl ?_
    refine r_iload_n rfl ?_
    refine r_iushr (((a1).toUInt32 >>> ((24 : Int32).toUInt32 &&& Int32.toUInt32 31)).toInt32) rfl ?_
    refine r_sipush 255 rfl ?_
    refine r_iand ((((a1).toUInt32 >>> ((24 : Int32).toUInt32 &&& Int32.toUInt32 31)).toInt32) &&& 255) rfl ?_
    refine r_iast hx_175 (by decide) (Nat.le_of_ble_eq_true rfl) ([((((a1).toUInt32 >>> ((24 : Int32).toUInt32 &&& Int32.toUInt32 31)).toInt32) &&& 255)] ++ List.replicate 399 0) rfl ?_
    refine r_aload_n rfl ?_
    refine r_dup rfl ?_
    refine r_get (v := .int 0) (en_gs_ne (by decide) hx_174) rfl ?_
    refine r_iconst 1 rfl ?_
    refine r_iadd 1 rfl ?_
    refine r_putf (en_gs_ne (by decide) hx_174) (Nat.le_of_ble_eq_true rfl) rfl [.ref 175, .int 1] rfl ?_
    refine r_iinc rfl 16 rfl ([(2, .int 16), (0, .ref 174), (1, .int a1)]) rfl ?_
    refine r_goto ?_
    refine At.enter rfl ?_
    refine r_iload_n rfl ?_
    refine r_iff 7 rfl (by decide) ?_
    refine At.enter rfl ?_
    refine r_aload_n rfl ?_
    refine r_get (v := .int 1) (en_gs_eq (en_gs_ne (by decide) hx_174)) rfl ?_
    refine r_sipush 400 rfl ?_
    refine r_icf 17 rfl (by decide) ?_
    refine At.enter rfl ?_
    refine r_aload_n rfl ?_
    refine r_get (v := .ref 175) (en_gs_eq (en_gs_ne (by decide) hx_174)) rfl ?_
    refine r_aload_n rfl ?_
    refine r_get (v := .int 1) (en_gs_eq (en_gs_ne (by decide) hx_174)) rfl ?_
    refine r_iload_n rfl ?_
    refine r_iload_n rfl ?_
    refine r_iushr (((a1).toUInt32 >>> ((16 : Int32).toUInt32 &&& Int32.toUInt32 31)).toInt32) rfl ?_
    refine r_sipush 255 rfl ?_
    refine r_iand ((((a1).toUInt32 >>> ((16 : Int32).toUInt32 &&& Int32.toUInt32 31)).toInt32) &&& 255) rfl ?_
    refine r_iast (en_gs_ne (by decide) (en_gs_eq hx_175)) (by decide) (Nat.le_of_ble_eq_true rfl) ([((((a1).toUInt32 >>> ((24 : Int32).toUInt32 &&& Int32.toUInt32 31)).toInt32) &&& 255), ((((a1).toUInt32 >>> ((16 : Int32).toUInt32 &&& Int32.toUInt32 31)).toInt32) &&& 255)] ++ List.replicate 398 0) rfl ?_
    refine r_aload_n rfl ?_
    refine r_dup rfl ?_
    refine r_get (v := .int 1) (en_gs_ne (by decide) (en_gs_eq (en_gs_ne (by decide) hx_174))) rfl ?_
    refine r_iconst 1 rfl ?_
    refine r_iadd 2 rfl ?_
    refine r_putf (en_gs_ne (by decide) (en_gs_eq (en_gs_ne (by decide) hx_174))) (Nat.le_of_ble_eq_true rfl) rfl [.ref 175, .int 2] rfl ?_
    refine r_iinc rfl 8 rfl ([(2, .int 8), (0, .ref 174), (1, .int a1)]) rfl ?_
    refine r_goto ?_
    refine At.enter rfl ?_
    refine r_iload_n rfl ?_
    refine r_iff 7 rfl (by decide) ?_
    refine At.enter rfl ?_
    refine r_aload_n rfl ?_
    refine r_get (v := .int 2) (en_gs_eq (en_gs_ne (by decide) (en_gs_eq (en_gs_ne (by decide) hx_174)))) rfl ?_
    refine r_sipush 400 rfl ?_
    refine r_icf 17 rfl (by decide) ?_
    refine At.enter rfl ?_
    refine r_aload_n rfl ?_
    refine r_get (v := .ref 175) (en_gs_eq (en_gs_ne (by decide) (en_gs_eq (en_gs_ne (by decide) hx_174)))) rfl ?_
    refine r_aload_n rfl ?_
    refine r_get (v := .int 2) (en_gs_eq (en_gs_ne (by decide) (en_gs_eq (en_gs_ne (by decide) hx_174)))) rfl ?_
    refine r_iload_n rfl ?_
    refine r_iload_n rfl ?_
    refine r_iushr (((a1).toUInt32 >>> ((8 : Int32).toUInt32 &&& Int32.toUInt32 31)).toInt32) rfl ?_
    refine r_sipush 255 rfl ?_
    refine r_iand ((((a1).toUInt32 >>> ((8 : Int32).toUInt32 &&& Int32.toUInt32 31)).toInt32) &&& 255) rfl ?_
    refine r_iast (en_gs_ne (by decide) (en_gs_eq (en_gs_ne (by decide) (en_gs_eq hx_175)))) (by decide) (Nat.le_of_ble_eq_true rfl) ([((((a1).toUInt32 >>> ((24 : Int32).toUInt32 &&& Int32.toUInt32 31)).toInt32) &&& 255), ((((a1).toUInt32 >>> ((16 : Int32).toUInt32 &&& Int32.toUInt32 31)).toInt32) &&& 255), ((((a1).toUInt32 >>> ((8 : Int32).toUInt32 &&& Int32.toUInt32 31)).toInt32) &&& 255)] ++ List.replicate 397 0) rfl ?_
    refine r_aload_n rfl ?_
    refine r_dup rfl ?_
    refine r_get (v := .int 2) (en_gs_ne (by decide) (en_gs_eq (en_gs_ne (by decide) (en_gs_eq (en_gs_ne (by decide) hx_174))))) rfl ?_
    refine r_iconst 1 rfl ?_
    refine r_iadd 3 rfl ?_
    refine r_putf (en_gs_ne (by decide) (en_gs_eq (en_gs_ne (by decide) (en_gs_eq (en_gs_ne (by decide) hx_174))))) (Nat.le_of_ble_eq_true rfl) rfl [.ref 175, .int 3] rfl ?_
    refine r_iinc rfl 0 rfl ([(2, .int 0), (0, .ref 174), (1, .int a1)]) rfl ?_
    refine r_goto ?_
    refine At.enter rfl ?_
    refine r_iload_n rfl ?_
    refine r_iff 7 rfl (by decide) ?_
    refine At.enter rfl ?_
    refine r_aload_n rfl ?_
    refine r_get (v := .int 3) (en_gs_eq (en_gs_ne (by decide) (en_gs_eq (en_gs_ne (by decide) (en_gs_eq (en_gs_ne (by decide) hx_174)))))) rfl ?_
    refine r_sipush 400 rfl ?_
    refine r_icf 17 rfl (by decide) ?_
    refine At.enter rfl ?_
    refine r_aload_n rfl ?_
    refine r_get (v := .ref 175) (en_gs_eq (en_gs_ne (by decide) (en_gs_eq (en_gs_ne (by decide) (en_gs_eq (en_gs_ne (by decide) hx_174)))))) rfl ?_
    refine r_aload_n rfl ?_
    refine r_get (v := .int 3) (en_gs_eq (en_gs_ne (by decide) (en_gs_eq (en_gs_ne (by decide) (en_gs_eq (en_gs_ne (by decide) hx_174)))))) rfl ?_
    refine r_iload_n rfl ?_
    refine r_iload_n rfl ?_
    refine r_iushr (((a1).toUInt32 >>> ((0 : Int32).toUInt32 &&& Int32.toUInt32 31)).toInt32) rfl ?_
    refine r_sipush 255 rfl ?_
    refine r_iand ((((a1).toUInt32 >>> ((0 : Int32).toUInt32 &&& Int32.toUInt32 31)).toInt32) &&& 255) rfl ?_
    refine r_iast (en_gs_ne (by decide) (en_gs_eq (en_gs_ne (by decide) (en_gs_eq (en_gs_ne (by decide) (en_gs_eq hx_175)))))) (by decide) (Nat.le_of_ble_eq_true rfl) ([((((a1).toUInt32 >>> ((24 : Int32).toUInt32 &&& Int32.toUInt32 31)).toInt32) &&& 255), ((((a1).toUInt32 >>> ((16 : Int32).toUInt32 &&& Int32.toUInt32 31)).toInt32) &&& 255), ((((a1).toUInt32 >>> ((8 : Int32).toUInt32 &&& Int32.toUInt32 31)).toInt32) &&& 255), ((((a1).toUInt32 >>> ((0 : Int32).toUInt32 &&& Int32.toUInt32 31)).toInt32) &&& 255)] ++ List.replicate 396 0) rfl ?_
    refine r_aload_n rfl ?_
    refine r_dup rfl ?_
    refine r_get (v := .int 3) (en_gs_ne (by decide) (en_gs_eq (en_gs_ne (by decide) (en_gs_eq (en_gs_ne (by decide) (en_gs_eq (en_gs_ne (by decide) hx_174))))))) rfl ?_
    refine r_iconst 1 rfl ?_
    refine r_iadd 4 rfl ?_
    refine r_putf (en_gs_ne (by decide) (en_gs_eq (en_gs_ne (by decide) (en_gs_eq (en_gs_ne (by decide) (en_gs_eq (en_gs_ne (by decide) hx_174))))))) (Nat.le_of_ble_eq_true rfl) rfl [.ref 175, .int 4] rfl ?_
    refine r_iinc rfl (-8) rfl ([(2, .int (-8)), (0, .ref 174), (1, .int a1)]) rfl ?_
    refine r_goto ?_
    refine At.enter rfl ?_
    refine r_iload_n rfl ?_
    refine r_ift (by decide) ?_
    refine At.enter rfl ?_
    refine r_vret ?_
    exact ⟨trivial, rfl, rfl⟩
  refine At.enter rfl ?_
  refine r_aload_n rfl ?_
  refine r_get (v := .ref 174) (en_gs_ne (by decide) (en_gs_ne (by decide) (en_gs_ne (by decide) (en_gs_ne (by decide) (en_gs_ne (by decide) (en_gs_ne (by decide) (en_gs_ne (by decide) (en_gs_ne (by decide) hx_0)))))))) rfl ?_
  refine r_iload_n rfl ?_
  refine r_callV1v (True)  (((((((((((((((((hp_X ++ hp_M).set 175 (.inl (0, .inl ([((((a1).toUInt32 >>> ((24 : Int32).toUInt32 &&& Int32.toUInt32 31)).toInt32) &&& 255)] ++ List.replicate 399 0)))).set 174 (.inr (8, [.ref 175, .int 1]))).set 175 (.inl (0, .inl ([((((a1).toUInt32 >>> ((24 : Int32).toUInt32 &&& Int32.toUInt32 31)).toInt32) &&& 255), ((((a1).toUInt32 >>> ((16 : Int32).toUInt32 &&& Int32.toUInt32 31)).toInt32) &&& 255)] ++ List.replicate 398 0)))).set 174 (.inr (8, [.ref 175, .int 2]))).set 175 (.inl (0, .inl ([((((a1).toUInt32 >>> ((24 : Int32).toUInt32 &&& Int32.toUInt32 31)).toInt32) &&& 255), ((((a1).toUInt32 >>> ((16 : Int32).toUInt32 &&& Int32.toUInt32 31)).toInt32) &&& 255), ((((a1).toUInt32 >>> ((8 : Int32).toUInt32 &&& Int32.toUInt32 31)).toInt32) &&& 255)] ++ List.replicate 397 0)))).set 174 (.inr (8, [.ref 175, .int 3]))).set 175 (.inl (0, .inl ([((((a1).toUInt32 >>> ((24 : Int32).toUInt32 &&& Int32.toUInt32 31)).toInt32) &&& 255), ((((a1).toUInt32 >>> ((16 : Int32).toUInt32 &&& Int32.toUInt32 31)).toInt32) &&& 255), ((((a1).toUInt32 >>> ((8 : Int32).toUInt32 &&& Int32.toUInt32 31)).toInt32) &&& 255), ((((a1).toUInt32 >>> ((0 : Int32).toUInt32 &&& Int32.toUInt32 31)).toInt32) &&& 255)] ++ List.replicate 396 0)))).set 174 (.inr (8, [.ref 175, .int 4]))).set 175 (.inl (0, .inl ([((((a1).toUInt32 >>> ((24 : Int32).toUInt32 &&& Int32.toUInt32 31)).toInt32) &&& 255), ((((a1).toUInt32 >>> ((16 : Int32).toUInt32 &&& Int32.toUInt32 31)).toInt32) &&& 255), ((((a1).toUInt32 >>> ((8 : Int32).toUInt32 &&& Int32.toUInt32 31)).toInt32) &&& 255), ((((a1).toUInt32 >>> ((0 : Int32).toUInt32 &&& Int32.toUInt32 31)).toInt32) &&& 255), ((((a2).toUInt32 >>> ((24 : Int32).toUInt32 &&& Int32.toUInt32 31)).toInt32) &&& 255)] ++ List.replicate 395 0)))).set 174 (.inr (8, [.ref 175, .int 5]))).set 175 (.inl (0, .inl ([((((a1).toUInt32 >>> ((24 : Int32).toUInt32 &&& Int32.toUInt32 31)).toInt32) &&& 255), ((((a1).toUInt32 >>> ((16 : Int32).toUInt32 &&& Int32.toUInt32 31)).toInt32) &&& 255), ((((a1).toUInt32 >>> ((8 : Int32).toUInt32 &&& Int32.toUInt32 31)).toInt32) &&& 255), ((((a1).toUInt32 >>> ((0 : Int32).toUInt32 &&& Int32.toUInt32 31)).toInt32) &&& 255), ((((a2).toUInt32 >>> ((24 : Int32).toUInt32 &&& Int32.toUInt32 31)).toInt32) &&& 255), ((((a2).toUInt32 >>> ((16 : Int32).toUInt32 &&& Int32.toUInt32 31)).toInt32) &&& 255)] ++ List.replicate 394 0)))).set 174 (.inr (8, [.ref 175, .int 6]))).set 175 (.inl (0, .inl ([((((a1).toUInt32 >>> ((24 : Int32).toUInt32 &&& Int32.toUInt32 31)).toInt32) &&& 255), ((((a1).toUInt32 >>> ((16 : Int32).toUInt32 &&& Int32.toUInt32 31)).toInt32) &&& 255), ((((a1).toUInt32 >>> ((8 : Int32).toUInt32 &&& Int32.toUInt32 31)).toInt32) &&& 255), ((((a1).toUInt32 >>> ((0 : Int32).toUInt32 &&& Int32.toUInt32 31)).toInt32) &&& 255), ((((a2).toUInt32 >>> ((24 : Int32).toUInt32 &&& Int32.toUInt32 31)).toInt32) &&& 255), ((((a2).toUInt32 >>> ((16 : Int32).toUInt32 &&& Int32.toUInt32 31)).toInt32) &&& 255), ((((a2).toUInt32 >>> ((8 : Int32).toUInt32 &&& Int32.toUInt32 31)).toInt32) &&& 255)] ++ List.replicate 393 0)))).set 174 (.inr (8, [.ref 175, .int 7]))).set 175 (.inl (0, .inl ([((((a1).toUInt32 >>> ((24 : Int32).toUInt32 &&& Int32.toUInt32 31)).toInt32) &&& 255), ((((a1).toUInt32 >>> ((16 : Int32).toUInt32 &&& Int32.toUInt32 31)).toInt32) &&& 255), ((((a1).toUInt32 >>> ((8 : Int32).toUInt32 &&& Int32.toUInt32 31)).toInt32) &&& 255), ((((a1).toUInt32 >>> ((0 : Int32).toUInt32 &&& Int32.toUInt32 31)).toInt32) &&& 255), ((((a2).toUInt32 >>> ((24 : Int32).toUInt32 &&& Int32.toUInt32 31)).toInt32) &&& 255), ((((a2).toUInt32 >>> ((16 : Int32).toUInt32 &&& Int32.toUInt32 31)).toInt32) &&& 255), ((((a2).toUInt32 >>> ((8 : Int32).toUInt32 &&& Int32.toUInt32 31)).toInt32) &&& 255), ((((a2).toUInt32 >>> ((0 : Int32).toUInt32 &&& Int32.toUInt32 31)).toInt32) &&& 255)] ++ List.replicate 392 0)))).set 174 (.inr (8, [.ref 175, .int 8])), n) 34 rfl [.ref 174, .int a2] [] (Nat.le_of_ble_eq_true rfl) rfl ?_ (fun _ => ?_)
  · refine Ev.mk rfl rfl ⟨Nat.le_of_ble_eq_true rfl, Or.inr (en_rcI (en_gs_eq (en_gs_ne (by decide) (en_gs_eq (en_gs_ne (by decide) (en_gs_eq (en_gs_ne (by decide) (en_gs_eq (en_gs_ne (by decide) hx_174)))))))) rfl)⟩ ?_
    show At _ none _ _ (0, [(0, .ref 174), (1, .int a2)], [], (((((((((hp_X ++ hp_M).set 175 (.inl (0, .inl ([((((a1).toUInt32 >>> ((24 : Int32).toUInt32 &&& Int32.toUInt32 31)).toInt32) &&& 255)] ++ List.replicate 399 0)))).set 174 (.inr (8, [.ref 175, .int 1]))).set 175 (.inl (0, .inl ([((((a1).toUInt32 >>> ((24 : Int32).toUInt32 &&& Int32.toUInt32 31)).toInt32) &&& 255), ((((a1).toUInt32 >>> ((16 : Int32).toUInt32 &&& Int32.toUInt32 31)).toInt32) &&& 255)] ++ List.replicate 398 0)))).set 174 (.inr (8, [.ref 175, .int 2]))).set 175 (.inl (0, .inl ([((((a1).toUInt32 >>> ((24 : Int32).toUInt32 &&& Int32.toUInt32 31)).toInt32) &&& 255), ((((a1).toUInt32 >>> ((16 : Int32).toUInt32 &&& Int32.toUInt32 31)).toInt32) &&& 255), ((((a1).toUInt32 >>> ((8 : Int32).toUInt32 &&& Int32.toUInt32 31)).toInt32) &&& 255)] ++ List.replicate 397 0)))).set 174 (.inr (8, [.ref 175, .int 3]))).set 175 (.inl (0, .inl ([((((a1).toUInt32 >>> ((24 : Int32).toUInt32 &&& Int32.toUInt32 31)).toInt32) &&& 255), ((((a1).toUInt32 >>> ((16 : Int32).toUInt32 &&& Int32.toUInt32 31)).toInt32) &&& 255), ((((a1).toUInt32 >>> ((8 : Int32).toUInt32 &&& Int32.toUInt32 31)).toInt32) &&& 255), ((((a1).toUInt32 >>> ((0 : Int32).toUInt32 &&& Int32.toUInt32 31)).toInt32) &&& 255)] ++ List.replicate 396 0)))).set 174 (.inr (8, [.ref 175, .int 4])), n)) _
    refine At.enter rfl ?_
    refine r_bipush 24 rfl ?_
    refine r_istore_n ([(2, .int 24), (0, .ref 174), (1, .int a2)]) rfl ?_
    refine Ar.fall 3 rfl ?_
    refine At.enter rfl ?_
    refine r_iload_n rfl ?_
    refine r_iff 7 rfl (by decide) ?_
    refine At.enter rfl ?_
    refine r_aload_n rfl ?_
    refine r_get (v := .int 4) (en_gs_eq (en_gs_ne (by decide) (en_gs_eq (en_gs_ne (by decide) (en_gs_eq (en_gs_ne (by decide) (en_gs_eq (en_gs_ne (by decide) hx_174)))))))) rfl ?_
    refine r_sipush 400 rfl ?_
    refine r_icf 17 rfl (by decide) ?_
    refine At.enter rfl ?_
    refine r_aload_n rfl ?_
    refine r_get (v := .ref 175) (en_gs_eq (en_gs_ne (by decide) (en_gs_eq (en_gs_ne (by decide) (en_gs_eq (en_gs_ne (by decide) (en_gs_eq (en_gs_ne (by decide) hx_174)))))))) rfl ?_
    refine r_aload_n rfl ?_
    refine r_get (v := .int 4) (en_gs_eq (en_gs_ne (by decide) (en_gs_eq (en_gs_ne (by decide) (en_gs_eq (en_gs_ne (by decide) (en_gs_eq (en_gs_ne (by decide) hx_174)))))))) rfl ?_
    refine r_iload_n rfl ?_
    refine r_iload_n rfl ?_
    refine r_iushr (((a2).toUInt32 >>> ((24 : Int32).toUInt32 &&& Int32.toUInt32 31)).toInt32) rfl ?_
    refine r_sipush 255 rfl ?_
    refine r_iand ((((a2).toUInt32 >>> ((24 : Int32).toUInt32 &&& Int32.toUInt32 31)).toInt32) &&& 255) rfl ?_
    refine r_iast (en_gs_ne (by decide) (en_gs_eq (en_gs_ne (by decide) (en_gs_eq (en_gs_ne (by decide) (en_gs_eq (en_gs_ne (by decide) (en_gs_eq hx_175)))))))) (by decide) (Nat.le_of_ble_eq_true rfl) ([((((a1).toUInt32 >>> ((24 : Int32).toUInt32 &&& Int32.toUInt32 31)).toInt32) &&& 255), ((((a1).toUInt32 >>> ((16 : Int32).toUInt32 &&& Int32.toUInt32 31)).toInt32) &&& 255), ((((a1).toUInt32 >>> ((8 : Int32).toUInt32 &&& Int32.toUInt32 31)).toInt32) &&& 255), ((((a1).toUInt32 >>> ((0 : Int32).toUInt32 &&& Int32.toUInt32 31)).toInt32) &&& 255), ((((a2).toUInt32 >>> ((24 : Int32).toUInt32 &&& Int32.toUInt32 31)).toInt32) &&& 255)] ++ List.replicate 395 0) rfl ?_
    refine r_aload_n rfl ?_
    refine r_dup rfl ?_
    refine r_get (v := .int 4) (en_gs_ne (by decide) (en_gs_eq (en_gs_ne (by decide) (en_gs_eq (en_gs_ne (by decide) (en_gs_eq (en_gs_ne (by decide) (en_gs_eq (en_gs_ne (by decide) hx_174))))))))) rfl ?_
    refine r_iconst 1 rfl ?_
    refine r_iadd 5 rfl ?_
    refine r_putf (en_gs_ne (by decide) (en_gs_eq (en_gs_ne (by decide) (en_gs_eq (en_gs_ne (by decide) (en_gs_eq (en_gs_ne (by decide) (en_gs_eq (en_gs_ne (by decide) hx_174))))))))) (Nat.le_of_ble_eq_true rfl) rfl [.ref 175, .int 5] rfl ?_
    refine r_iinc rfl 16 rfl ([(2, .int 16), (0, .ref 174), (1, .int a2)]) rfl ?_
    refine r_goto ?_
    refine At.enter rfl ?_
    refine r_iload_n rfl ?_
    refine r_iff 7 rfl (by decide) ?_
    refine At.enter rfl ?_
    refine r_aload_n rfl ?_
    refine r_get (v := .int 5) (en_gs_eq (en_gs_ne (by decide) (en_gs_eq (en_gs_ne (by decide) (en_gs_eq (en_gs_ne (by decide) (en_gs_eq (en_gs_ne (by decide) (en_gs_eq (en_gs_ne (by decide) hx_174)))))))))) rfl ?_
    refine r_sipush 400 rfl ?_
    refine r_icf 17 rfl (by decide) ?_
    refine At.enter rfl ?_
    refine r_aload_n rfl ?_
    refine r_get (v := .ref 175) (en_gs_eq (en_gs_ne (by decide) (en_gs_eq (en_gs_ne (by decide) (en_gs_eq (en_gs_ne (by decide) (en_gs_eq (en_gs_ne (by decide) (en_gs_eq (en_gs_ne (by decide) hx_174)))))))))) rfl ?_
    refine r_aload_n rfl ?_
    refine r_get (v := .int 5) (en_gs_eq (en_gs_ne (by decide) (en_gs_eq (en_gs_ne (by decide) (en_gs_eq (en_gs_ne (by decide) (en_gs_eq (en_gs_ne (by decide) (en_gs_eq (en_gs_ne (by decide) hx_174)))))))))) rfl ?_
    refine r_iload_n rfl ?_
    refine r_iload_n rfl ?_
    refine r_iushr (((a2).toUInt32 >>> ((16 : Int32).toUInt32 &&& Int32.toUInt32 31)).toInt32) rfl ?_
    refine r_sipush 255 rfl ?_
    refine r_iand ((((a2).toUInt32 >>> ((16 : Int32).toUInt32 &&& Int32.toUInt32 31)).toInt32) &&& 255) rfl ?_
    refine r_iast (en_gs_ne (by decide) (en_gs_eq (en_gs_ne (by decide) (en_gs_eq (en_gs_ne (by decide) (en_gs_eq (en_gs_ne (by decide) (en_gs_eq (en_gs_ne (by decide) (en_gs_eq hx_175)))))))))) (by decide) (Nat.le_of_ble_eq_true rfl) ([((((a1).toUInt32 >>> ((24 : Int32).toUInt32 &&& Int32.toUInt32 31)).toInt32) &&& 255), ((((a1).toUInt32 >>> ((16 : Int32).toUInt32 &&& Int32.toUInt32 31)).toInt32) &&& 255), ((((a1).toUInt32 >>> ((8 : Int32).toUInt32 &&& Int32.toUInt32 31)).toInt32) &&& 255), ((((a1).toUInt32 >>> ((0 : Int32).toUInt32 &&& Int32.toUInt32 31)).toInt32) &&& 255), ((((a2).toUInt32 >>> ((24 : Int32).toUInt32 &&& Int32.toUInt32 31)).toInt32) &&& 255), ((((a2).toUInt32 >>> ((16 : Int32).toUInt32 &&& Int32.toUInt32 31)).toInt32) &&& 255)] ++ List.replicate 394 0) rfl ?_
    refine r_aload_n rfl ?_
    refine r_dup rfl ?_
    refine r_get (v := .int 5) (en_gs_ne (by decide) (en_gs_eq (en_gs_ne (by decide) (en_gs_eq (en_gs_ne (by decide) (en_gs_eq (en_gs_ne (by decide) (en_gs_eq (en_gs_ne (by decide) (en_gs_eq (en_gs_ne (by decide) hx_174))))))))))) rfl ?_
    refine r_iconst 1 rfl ?_
    refine r_iadd 6 rfl ?_
    refine r_putf (en_gs_ne (by decide) (en_gs_eq (en_gs_ne (by decide) (en_gs_eq (en_gs_ne (by decide) (en_gs_eq (en_gs_ne (by decide) (en_gs_eq (en_gs_ne (by decide) (en_gs_eq (en_gs_ne (by decide) hx_174))))))))))) (Nat.le_of_ble_eq_true rfl) rfl [.ref 175, .int 6] rfl ?_
    refine r_iinc rfl 8 rfl ([(2, .int 8), (0, .ref 174), (1, .int a2)]) rfl ?_
    refine r_goto ?_
    refine At.enter rfl ?_
    refine r_iload_n rfl ?_
    refine r_iff 7 rfl (by decide) ?_
    refine At.enter rfl ?_
    refine r_aload_n rfl ?_
    refine r_get (v := .int 6) (en_gs_eq (en_gs_ne (by decide) (en_gs_eq (en_gs_ne (by decide) (en_gs_eq (en_gs_ne (by decide) (en_gs_eq (en_gs_ne (by decide) (en_gs_eq (en_gs_ne (by decide) (en_gs_eq (en_gs_ne (by decide) hx_174)))))))))))) rfl ?_
    refine r_sipush 400 rfl ?_
    refine r_icf 17 rfl (by decide) ?_
    refine At.enter rfl ?_
    refine r_aload_n rfl ?_
    refine r_get (v := .ref 175) (en_gs_eq (en_gs_ne (by decide) (en_gs_eq (en_gs_ne (by decide) (en_gs_eq (en_gs_ne (by decide) (en_gs_eq (en_gs_ne (by decide) (en_gs_eq (en_gs_ne (by decide) (en_gs_eq (en_gs_ne (by decide) hx_174)))))))))))) rfl ?_
    refine r_aload_n rfl ?_
    refine r_get (v := .int 6) (en_gs_eq (en_gs_ne (by decide) (en_gs_eq (en_gs_ne (by decide) (en_gs_eq (en_gs_ne (by decide) (en_gs_eq (en_gs_ne (by decide) (en_gs_eq (en_gs_ne (by decide) (en_gs_eq (en_gs_ne (by decide) hx_174)))))))))))) rfl ?_
    refine r_iload_n rfl ?_
    refine r_iload_n rfl ?_
    refine r_iushr (((a2).toUInt32 >>> ((8 : Int32).toUInt32 &&& Int32.toUInt32 31)).toInt32) rfl ?_
    refine r_sipush 255 rfl ?_
    refine r_iand ((((a2).toUInt32 >>> ((8 : Int32).toUInt32 &&& Int32.toUInt32 31)).toInt32) &&& 255) rfl ?_
    refine r_iast (en_gs_ne (by decide) (en_gs_eq (en_gs_ne (by decide) (en_gs_eq (en_gs_ne (by decide) (en_gs_eq (en_gs_ne (by decide) (en_gs_eq (en_gs_ne (by decide) (en_gs_eq (en_gs_ne (by decide) (en_gs_eq hx_175)))))))))))) (by decide) (Nat.le_of_ble_eq_true rfl) ([((((a1).toUInt32 >>> ((24 : Int32).toUInt32 &&& Int32.toUInt32 31)).toInt32) &&& 255), ((((a1).toUInt32 >>> ((16 : Int32).toUInt32 &&& Int32.toUInt32 31)).toInt32) &&& 255), ((((a1).toUInt32 >>> ((8 : Int32).toUInt32 &&& Int32.toUInt32 31)).toInt32) &&& 255), ((((a1).toUInt32 >>> ((0 : Int32).toUInt32 &&& Int32.toUInt32 31)).toInt32) &&& 255), ((((a2).toUInt32 >>> ((24 : Int32).toUInt32 &&& Int32.toUInt32 31)).toInt32) &&& 255), ((((a2).toUInt32 >>> ((16 : Int32).toUInt32 &&& Int32.toUInt32 31)).toInt32) &&& 255), ((((a2).toUInt32 >>> ((8 : Int32).toUInt32 &&& Int32.toUInt32 31)).toInt32) &&& 255)] ++ List.replicate 393 0) rfl ?_
    refine r_aload_n rfl ?_
    refine r_dup rfl ?_
    refine r_get (v := .int 6) (en_gs_ne (by decide) (en_gs_eq (en_gs_ne (by decide) (en_gs_eq (en_gs_ne (by decide) (en_gs_eq (en_gs_ne (by decide) (en_gs_eq (en_gs_ne (by decide) (en_gs_eq (en_gs_ne (by decide) (en_gs_eq (en_gs_ne (by decide) hx_174))))))))))))) rfl ?_
    refine r_iconst 1 rfl ?_
    refine r_iadd 7 rfl ?_
    refine r_putf (en_gs_ne (by decide) (en_gs_eq (en_gs_ne (by decide) (en_gs_eq (en_gs_ne (by decide) (en_gs_eq (en_gs_ne (by decide) (en_gs_eq (en_gs_ne (by decide) (en_gs_eq (en_gs_ne (by decide) (en_gs_eq (en_gs_ne (by decide) hx_174))))))))))))) (Nat.le_of_ble_eq_true rfl) rfl [.ref 175, .int 7] rfl ?_
    refine r_iinc rfl 0 rfl ([(2, .int 0), (0, .ref 174), (1, .int a2)]) rfl ?_
    refine r_goto ?_
    refine At.enter rfl ?_
    refine r_iload_n rfl ?_
    refine r_iff 7 rfl (by decide) ?_
    refine At.enter rfl ?_
    refine r_aload_n rfl ?_
    refine r_get (v := .int 7) (en_gs_eq (en_gs_ne (by decide) (en_gs_eq (en_gs_ne (by decide) (en_gs_eq (en_gs_ne (by decide) (en_gs_eq (en_gs_ne (by decide) (en_gs_eq (en_gs_ne (by decide) (en_gs_eq (en_gs_ne (by decide) (en_gs_eq (en_gs_ne (by decide) hx_174)))))))))))))) rfl ?_
    refine r_sipush 400 rfl ?_
    refine r_icf 17 rfl (by decide) ?_
    refine At.enter rfl ?_
    refine r_aload_n rfl ?_
    refine r_get (v := .ref 175) (en_gs_eq (en_gs_ne (by decide) (en_gs_eq (en_gs_ne (by decide) (en_gs_eq (en_gs_ne (by decide) (en_gs_eq (en_gs_ne (by decide) (en_gs_eq (en_gs_ne (by decide) (en_gs_eq (en_gs_ne (by decide) (en_gs_eq (en_gs_ne (by decide) hx_174)))))))))))))) rfl ?_
    refine r_aload_n rfl ?_
    refine r_get (v := .int 7) (en_gs_eq (en_gs_ne (by decide) (en_gs_eq (en_gs_ne (by decide) (en_gs_eq (en_gs_ne (by decide) (en_gs_eq (en_gs_ne (by decide) (en_gs_eq (en_gs_ne (by decide) (en_gs_eq (en_gs_ne (by decide) (en_gs_eq (en_gs_ne (by decide) hx_174)))))))))))))) rfl ?_
    refine r_iload_n rfl ?_
    refine r_iload_n rfl ?_
    refine r_iushr (((a2).toUInt32 >>> ((0 : Int32).toUInt32 &&& Int32.toUInt32 31)).toInt32) rfl ?_
    refine r_sipush 255 rfl ?_
    refine r_iand ((((a2).toUInt32 >>> ((0 : Int32).toUInt32 &&& Int32.toUInt32 31)).toInt32) &&& 255) rfl ?_
    refine r_iast (en_gs_ne (by decide) (en_gs_eq (en_gs_ne (by decide) (en_gs_eq (en_gs_ne (by decide) (en_gs_eq (en_gs_ne (by decide) (en_gs_eq (en_gs_ne (by decide) (en_gs_eq (en_gs_ne (by decide) (en_gs_eq (en_gs_ne (by decide) (en_gs_eq hx_175)))))))))))))) (by decide) (Nat.le_of_ble_eq_true rfl) ([((((a1).toUInt32 >>> ((24 : Int32).toUInt32 &&& Int32.toUInt32 31)).toInt32) &&& 255), ((((a1).toUInt32 >>> ((16 : Int32).toUInt32 &&& Int32.toUInt32 31)).toInt32) &&& 255), ((((a1).toUInt32 >>> ((8 : Int32).toUInt32 &&& Int32.toUInt32 31)).toInt32) &&& 255), ((((a1).toUInt32 >>> ((0 : Int32).toUInt32 &&& Int32.toUInt32 31)).toInt32) &&& 255), ((((a2).toUInt32 >>> ((24 : Int32).toUInt32 &&& Int32.toUInt32 31)).toInt32) &&& 255), ((((a2).toUInt32 >>> ((16 : Int32).toUInt32 &&& Int32.toUInt32 31)).toInt32) &&& 255), ((((a2).toUInt32 >>> ((8 : Int32).toUInt32 &&& Int32.toUInt32 31)).toInt32) &&& 255), ((((a2).toUInt32 >>> ((0 : Int32).toUInt32 &&& Int32.toUInt32 31)).toInt32) &&& 255)] ++ List.replicate 392 0) rfl ?_
    refine r_aload_n rfl ?_
    refine r_dup rfl ?_
    refine r_get (v := .int 7) (en_gs_ne (by decide) (en_gs_eq (en_gs_ne (by decide) (en_gs_eq (en_gs_ne (by decide) (en_gs_eq (en_gs_ne (by decide) (en_gs_eq (en_gs_ne (by decide) (en_gs_eq (en_gs_ne (by decide) (en_gs_eq (en_gs_ne (by decide) (en_gs_eq (en_gs_ne (by decide) hx_174))))))))))))))) rfl ?_
    refine r_iconst 1 rfl ?_
    refine r_iadd 8 rfl ?_
    refine r_putf (en_gs_ne (by decide) (en_gs_eq (en_gs_ne (by decide) (en_gs_eq (en_gs_ne (by decide) (en_gs_eq (en_gs_ne (by decide) (en_gs_eq (en_gs_ne (by decide) (en_gs_eq (en_gs_ne (by decide) (en_gs_eq (en_gs_ne (by decide) (en_gs_eq (en_gs_ne (by decide) hx_174))))))))))))))) (Nat.le_of_ble_eq_true rfl) rfl [.ref 175, .int 8] rfl ?_
    refine r_iinc rfl (-8) rfl ([(2, .int (-8)), (0, .ref 174), (1, .int a2)]) rfl ?_
    refine r_goto ?_
    refine At.enter rfl ?_
    refine r_iload_n rfl ?_
    refine r_ift (by decide) ?_
    refine At.enter rfl ?_
    refine r_vret ?_
    exact ⟨trivial, rfl, rfl⟩
  refine At.enter rfl ?_
  refine r_aload_n rfl ?_
  refine r_get (v := .ref 174) (en_gs_ne (by decide) (en_gs_ne (by decide) (en_gs_ne (by decide) (en_gs_ne (by decide) (en_gs_ne (by decide) (en_gs_ne (by decide) (en_gs_ne (by decide) (en_gs_ne (by decide) (en_gs_ne (by decide) (en_gs_ne (by decide) (en_gs_ne (by decide) (en_gs_ne (by decide) (en_gs_ne (by decide) (en_gs_ne (by decide) (en_gs_ne (by decide) (en_gs_ne (by decide) hx_0)))))))))))))))) rfl ?_
  refine r_iload_n rfl ?_
  refine r_callV1v (True)  (((((((((((((((((((((((((hp_X ++ hp_M).set 175 (.inl (0, .inl ([((((a1).toUInt32 >>> ((24 : Int32).toUInt32 &&& Int32.toUInt32 31)).toInt32) &&& 255)] ++ List.replicate 399 0)))).set 174 (.inr (8, [.ref 175, .int 1]))).set 175 (.inl (0, .inl ([((((a1).toUInt32 >>> ((24 : Int32).toUInt32 &&& Int32.toUInt32 31)).toInt32) &&& 255), ((((a1).toUInt32 >>> ((16 : Int32).toUInt32 &&& Int32.toUInt32 31)).toInt32) &&& 255)] ++ List.replicate 398 0)))).set 174 (.inr (8, [.ref 175, .int 2]))).set 175 (.inl (0, .inl ([((((a1).toUInt32 >>> ((24 : Int32).toUInt32 &&& Int32.toUInt32 31)).toInt32) &&& 255), ((((a1).toUInt32 >>> ((16 : Int32).toUInt32 &&& Int32.toUInt32 31)).toInt32) &&& 255), ((((a1).toUInt32 >>> ((8 : Int32).toUInt32 &&& Int32.toUInt32 31)).toInt32) &&& 255)] ++ List.replicate 397 0)))).set 174 (.inr (8, [.ref 175, .int 3]))).set 175 (.inl (0, .inl ([((((a1).toUInt32 >>> ((24 : Int32).toUInt32 &&& Int32.toUInt32 31)).toInt32) &&& 255), ((((a1).toUInt32 >>> ((16 : Int32).toUInt32 &&& Int32.toUInt32 31)).toInt32) &&& 255), ((((a1).toUInt32 >>> ((8 : Int32).toUInt32 &&& Int32.toUInt32 31)).toInt32) &&& 255), ((((a1).toUInt32 >>> ((0 : Int32).toUInt32 &&& Int32.toUInt32 31)).toInt32) &&& 255)] ++ List.replicate 396 0)))).set 174 (.inr (8, [.ref 175, .int 4]))).set 175 (.inl (0, .inl ([((((a1).toUInt32 >>> ((24 : Int32).toUInt32 &&& Int32.toUInt32 31)).toInt32) &&& 255), ((((a1).toUInt32 >>> ((16 : Int32).toUInt32 &&& Int32.toUInt32 31)).toInt32) &&& 255), ((((a1).toUInt32 >>> ((8 : Int32).toUInt32 &&& Int32.toUInt32 31)).toInt32) &&& 255), ((((a1).toUInt32 >>> ((0 : Int32).toUInt32 &&& Int32.toUInt32 31)).toInt32) &&& 255), ((((a2).toUInt32 >>> ((24 : Int32).toUInt32 &&& Int32.toUInt32 31)).toInt32) &&& 255)] ++ List.replicate 395 0)))).set 174 (.inr (8, [.ref 175, .int 5]))).set 175 (.inl (0, .inl ([((((a1).toUInt32 >>> ((24 : Int32).toUInt32 &&& Int32.toUInt32 31)).toInt32) &&& 255), ((((a1).toUInt32 >>> ((16 : Int32).toUInt32 &&& Int32.toUInt32 31)).toInt32) &&& 255), ((((a1).toUInt32 >>> ((8 : Int32).toUInt32 &&& Int32.toUInt32 31)).toInt32) &&& 255), ((((a1).toUInt32 >>> ((0 : Int32).toUInt32 &&& Int32.toUInt32 31)).toInt32) &&& 255), ((((a2).toUInt32 >>> ((24 : Int32).toUInt32 &&& Int32.toUInt32 31)).toInt32) &&& 255), ((((a2).toUInt32 >>> ((16 : Int32).toUInt32 &&& Int32.toUInt32 31)).toInt32) &&& 255)] ++ List.replicate 394 0)))).set 174 (.inr (8, [.ref 175, .int 6]))).set 175 (.inl (0, .inl ([((((a1).toUInt32 >>> ((24 : Int32).toUInt32 &&& Int32.toUInt32 31)).toInt32) &&& 255), ((((a1).toUInt32 >>> ((16 : Int32).toUInt32 &&& Int32.toUInt32 31)).toInt32) &&& 255), ((((a1).toUInt32 >>> ((8 : Int32).toUInt32 &&& Int32.toUInt32 31)).toInt32) &&& 255), ((((a1).toUInt32 >>> ((0 : Int32).toUInt32 &&& Int32.toUInt32 31)).toInt32) &&& 255), ((((a2).toUInt32 >>> ((24 : Int32).toUInt32 &&& Int32.toUInt32 31)).toInt32) &&& 255), ((((a2).toUInt32 >>> ((16 : Int32).toUInt32 &&& Int32.toUInt32 31)).toInt32) &&& 255), ((((a2).toUInt32 >>> ((8 : Int32).toUInt32 &&& Int32.toUInt32 31)).toInt32) &&& 255)] ++ List.replicate 393 0)))).set 174 (.inr (8, [.ref 175, .int 7]))).set 175 (.inl (0, .inl ([((((a1).toUInt32 >>> ((24 : Int32).toUInt32 &&& Int32.toUInt32 31)).toInt32) &&& 255), ((((a1).toUInt32 >>> ((16 : Int32).toUInt32 &&& Int32.toUInt32 31)).toInt32) &&& 255), ((((a1).toUInt32 >>> ((8 : Int32).toUInt32 &&& Int32.toUInt32 31)).toInt32) &&& 255), ((((a1).toUInt32 >>> ((0 : Int32).toUInt32 &&& Int32.toUInt32 31)).toInt32) &&& 255), ((((a2).toUInt32 >>> ((24 : Int32).toUInt32 &&& Int32.toUInt32 31)).toInt32) &&& 255), ((((a2).toUInt32 >>> ((16 : Int32).toUInt32 &&& Int32.toUInt32 31)).toInt32) &&& 255), ((((a2).toUInt32 >>> ((8 : Int32).toUInt32 &&& Int32.toUInt32 31)).toInt32) &&& 255), ((((a2).toUInt32 >>> ((0 : Int32).toUInt32 &&& Int32.toUInt32 31)).toInt32) &&& 255)] ++ List.replicate 392 0)))).set 174 (.inr (8, [.ref 175, .int 8]))).set 175 (.inl (0, .inl ([((((a1).toUInt32 >>> ((24 : Int32).toUInt32 &&& Int32.toUInt32 31)).toInt32) &&& 255), ((((a1).toUInt32 >>> ((16 : Int32).toUInt32 &&& Int32.toUInt32 31)).toInt32) &&& 255), ((((a1).toUInt32 >>> ((8 : Int32).toUInt32 &&& Int32.toUInt32 31)).toInt32) &&& 255), ((((a1).toUInt32 >>> ((0 : Int32).toUInt32 &&& Int32.toUInt32 31)).toInt32) &&& 255), ((((a2).toUInt32 >>> ((24 : Int32).toUInt32 &&& Int32.toUInt32 31)).toInt32) &&& 255), ((((a2).toUInt32 >>> ((16 : Int32).toUInt32 &&& Int32.toUInt32 31)).toInt32) &&& 255), ((((a2).toUInt32 >>> ((8 : Int32).toUInt32 &&& Int32.toUInt32 31)).toInt32) &&& 255), ((((a2).toUInt32 >>> ((0 : Int32).toUInt32 &&& Int32.toUInt32 31)).toInt32) &&& 255), ((((a3).toUInt32 >>> ((24 : Int32).toUInt32 &&& Int32.toUInt32 31)).toInt32) &&& 255)] ++ List.replicate 391 0)))).set 174 (.inr (8, [.ref 175, .int 9]))).set 175 (.inl (0, .inl ([((((a1).toUInt32 >>> ((24 : Int32).toUInt32 &&& Int32.toUInt32 31)).toInt32) &&& 255), ((((a1).toUInt32 >>> ((16 : Int32).toUInt32 &&& Int32.toUInt32 31)).toInt32) &&& 255), ((((a1).toUInt32 >>> ((8 : Int32).toUInt32 &&& Int32.toUInt32 31)).toInt32) &&& 255), ((((a1).toUInt32 >>> ((0 : Int32).toUInt32 &&& Int32.toUInt32 31)).toInt32) &&& 255), ((((a2).toUInt32 >>> ((24 : Int32).toUInt32 &&& Int32.toUInt32 31)).toInt32) &&& 255), ((((a2).toUInt32 >>> ((16 : Int32).toUInt32 &&& Int32.toUInt32 31)).toInt32) &&& 255), ((((a2).toUInt32 >>> ((8 : Int32).toUInt32 &&& Int32.toUInt32 31)).toInt32) &&& 255), ((((a2).toUInt32 >>> ((0 : Int32).toUInt32 &&& Int32.toUInt32 31)).toInt32) &&& 255), ((((a3).toUInt32 >>> ((24 : Int32).toUInt32 &&& Int32.toUInt32 31)).toInt32) &&& 255), ((((a3).toUInt32 >>> ((16 : Int32).toUInt32 &&& Int32.toUInt32 31)).toInt32) &&& 255)] ++ List.replicate 390 0)))).set 174 (.inr (8, [.ref 175, .int 10]))).set 175 (.inl (0, .inl ([((((a1).toUInt32 >>> ((24 : Int32).toUInt32 &&& Int32.toUInt32 31)).toInt32) &&& 255), ((((a1).toUInt32 >>> ((16 : Int32).toUInt32 &&& Int32.toUInt32 31)).toInt32) &&& 255), ((((a1).toUInt32 >>> ((8 : Int32).toUInt32 &&& Int32.toUInt32 31)).toInt32) &&& 255), ((((a1).toUInt32 >>> ((0 : Int32).toUInt32 &&& Int32.toUInt32 31)).toInt32) &&& 255), ((((a2).toUInt32 >>> ((24 : Int32).toUInt32 &&& Int32.toUInt32 31)).toInt32) &&& 255), ((((a2).toUInt32 >>> ((16 : Int32).toUInt32 &&& Int32.toUInt32 31)).toInt32) &&& 255), ((((a2).toUInt32 >>> ((8 : Int32).toUInt32 &&& Int32.toUInt32 31)).toInt32) &&& 255), ((((a2).toUInt32 >>> ((0 : Int32).toUInt32 &&& Int32.toUInt32 31)).toInt32) &&& 255), ((((a3).toUInt32 >>> ((24 : Int32).toUInt32 &&& Int32.toUInt32 31)).toInt32) &&& 255), ((((a3).toUInt32 >>> ((16 : Int32).toUInt32 &&& Int32.toUInt32 31)).toInt32) &&& 255), ((((a3).toUInt32 >>> ((8 : Int32).toUInt32 &&& Int32.toUInt32 31)).toInt32) &&& 255)] ++ List.replicate 389 0)))).set 174 (.inr (8, [.ref 175, .int 11]))).set 175 (.inl (0, .inl ([((((a1).toUInt32 >>> ((24 : Int32).toUInt32 &&& Int32.toUInt32 31)).toInt32) &&& 255), ((((a1).toUInt32 >>> ((16 : Int32).toUInt32 &&& Int32.toUInt32 31)).toInt32) &&& 255), ((((a1).toUInt32 >>> ((8 : Int32).toUInt32 &&& Int32.toUInt32 31)).toInt32) &&& 255), ((((a1).toUInt32 >>> ((0 : Int32).toUInt32 &&& Int32.toUInt32 31)).toInt32) &&& 255), ((((a2).toUInt32 >>> ((24 : Int32).toUInt32 &&& Int32.toUInt32 31)).toInt32) &&& 255), ((((a2).toUInt32 >>> ((16 : Int32).toUInt32 &&& Int32.toUInt32 31)).toInt32) &&& 255), ((((a2).toUInt32 >>> ((8 : Int32).toUInt32 &&& Int32.toUInt32 31)).toInt32) &&& 255), ((((a2).toUInt32 >>> ((0 : Int32).toUInt32 &&& Int32.toUInt32 31)).toInt32) &&& 255), ((((a3).toUInt32 >>> ((24 : Int32).toUInt32 &&& Int32.toUInt32 31)).toInt32) &&& 255), ((((a3).toUInt32 >>> ((16 : Int32).toUInt32 &&& Int32.toUInt32 31)).toInt32) &&& 255), ((((a3).toUInt32 >>> ((8 : Int32).toUInt32 &&& Int32.toUInt32 31)).toInt32) &&& 255), ((((a3).toUInt32 >>> ((0 : Int32).toUInt32 &&& Int32.toUInt32 31)).toInt32) &&& 255)] ++ List.replicate 388 0)))).set 174 (.inr (8, [.ref 175, .int 12])), n) 42 rfl [.ref 174, .int a3] [] (Nat.le_of_ble_eq_true rfl) rfl ?_ (fun _ => ?_)
  · refine Ev.mk rfl rfl ⟨Nat.le_of_ble_eq_true rfl, Or.inr (en_rcI (en_gs_eq (en_gs_ne (by decide) (en_gs_eq (en_gs_ne (by decide) (en_gs_eq (en_gs_ne (by decide) (en_gs_eq (en_gs_ne (by decide) (en_gs_eq (en_gs_ne (by decide) (en_gs_eq (en_gs_ne (by decide) (en_gs_eq (en_gs_ne (by decide) (en_gs_eq (en_gs_ne (by decide) hx_174)))))))))))))))) rfl)⟩ ?_
    show At _ none _ _ (0, [(0, .ref 174), (1, .int a3)], [], (((((((((((((((((hp_X ++ hp_M).set 175 (.inl (0, .inl ([((((a1).toUInt32 >>> ((24 : Int32).toUInt32 &&& Int32.toUInt32 31)).toInt32) &&& 255)] ++ List.replicate 399 0)))).set 174 (.inr (8, [.ref 175, .int 1]))).set 175 (.inl (0, .inl ([((((a1).toUInt32 >>> ((24 : Int32).toUInt32 &&& Int32.toUInt32 31)).toInt32) &&& 255), ((((a1).toUInt32 >>> ((16 : Int32).toUInt32 &&& Int32.toUInt32 31)).toInt32) &&& 255)] ++ List.replicate 398 0)))).set 174 (.inr (8, [.ref 175, .int 2]))).set 175 (.inl (0, .inl ([((((a1).toUInt32 >>> ((24 : Int32).toUInt32 &&& Int32.toUInt32 31)).toInt32) &&& 255), ((((a1).toUInt32 >>> ((16 : Int32).toUInt32 &&& Int32.toUInt32 31)).toInt32) &&& 255), ((((a1).toUInt32 >>> ((8 : Int32).toUInt32 &&& Int32.toUInt32 31)).toInt32) &&& 255)] ++ List.replicate 397 0)))).set 174 (.inr (8, [.ref 175, .int 3]))).set 175 (.inl (0, .inl ([((((a1).toUInt32 >>> ((24 : Int32).toUInt32 &&& Int32.toUInt32 31)).toInt32) &&& 255), ((((a1).toUInt32 >>> ((16 : Int32).toUInt32 &&& Int32.toUInt32 31)).toInt32) &&& 255), ((((a1).toUInt32 >>> ((8 : Int32).toUInt32 &&& Int32.toUInt32 31)).toInt32) &&& 255), ((((a1).toUInt32 >>> ((0 : Int32).toUInt32 &&& Int32.toUInt32 31)).toInt32) &&& 255)] ++ List.replicate 396 0)))).set 174 (.inr (8, [.ref 175, .int 4]))).set 175 (.inl (0, .inl ([((((a1).toUInt32 >>> ((24 : Int32).toUInt32 &&& Int32.toUInt32 31)).toInt32) &&& 255), ((((a1).toUInt32 >>> ((16 : Int32).toUInt32 &&& Int32.toUInt32 31)).toInt32) &&& 255), ((((a1).toUInt32 >>> ((8 : Int32).toUInt32 &&& Int32.toUInt32 31)).toInt32) &&& 255), ((((a1).toUInt32 >>> ((0 : Int32).toUInt32 &&& Int32.toUInt32 31)).toInt32) &&& 255), ((((a2).toUInt32 >>> ((24 : Int32).toUInt32 &&& Int32.toUInt32 31)).toInt32) &&& 255)] ++ List.replicate 395 0)))).set 174 (.inr (8, [.ref 175, .int 5]))).set 175 (.inl (0, .inl ([((((a1).toUInt32 >>> ((24 : Int32).toUInt32 &&& Int32.toUInt32 31)).toInt32) &&& 255), ((((a1).toUInt32 >>> ((16 : Int32).toUInt32 &&& Int32.toUInt32 31)).toInt32) &&& 255), ((((a1).toUInt32 >>> ((8 : Int32).toUInt32 &&& Int32.toUInt32 31)).toInt32) &&& 255), ((((a1).toUInt32 >>> ((0 : Int32).toUInt32 &&& Int32.toUInt32 31)).toInt32) &&& 255), ((((a2).toUInt32 >>> ((24 : Int32).toUInt32 &&& Int32.toUInt32 31)).toInt32) &&& 255), ((((a2).toUInt32 >>> ((16 : Int32).toUInt32 &&& Int32.toUInt32 31)).toInt32) &&& 255)] ++ List.replicate 394 0)))).set 174 (.inr (8, [.ref 175, .int 6]))).set 175 (.inl (0, .inl ([((((a1).toUInt32 >>> ((24 : Int32).toUInt32 &&& Int32.toUInt32 31)).toInt32) &&& 255), ((((a1).toUInt32 >>> ((16 : Int32).toUInt32 &&& Int32.toUInt32 31)).toInt32) &&& 255), ((((a1).toUInt32 >>> ((8 : Int32).toUInt32 &&& Int32.toUInt32 31)).toInt32) &&& 255), ((((a1).toUInt32 >>> ((0 : Int32).toUInt32 &&& Int32.toUInt32 31)).toInt32) &&& 255), ((((a2).toUInt32 >>> ((24 : Int32).toUInt32 &&& Int32.toUInt32 31)).toInt32) &&& 255), ((((a2).toUInt32 >>> ((16 : Int32).toUInt32 &&& Int32.toUInt32 31)).toInt32) &&& 255), ((((a2).toUInt32 >>> ((8 : Int32).toUInt32 &&& Int32.toUInt32 31)).toInt32) &&& 255)] ++ List.replicate 393 0)))).set 174 (.inr (8, [.ref 175, .int 7]))).set 175 (.inl (0, .inl ([((((a1).toUInt32 >>> ((24 : Int32).toUInt32 &&& Int32.toUInt32 31)).toInt32) &&& 255), ((((a1).toUInt32 >>> ((16 : Int32).toUInt32 &&& Int32.toUInt32 31)).toInt32) &&& 255), ((((a1).toUInt32 >>> ((8 : Int32).toUInt32 &&& Int32.toUInt32 31)).toInt32) &&& 255), ((((a1).toUInt32 >>> ((0 : Int32).toUInt32 &&& Int32.toUInt32 31)).toInt32) &&& 255), ((((a2).toUInt32 >>> ((24 : Int32).toUInt32 &&& Int32.toUInt32 31)).toInt32) &&& 255), ((((a2).toUInt32 >>> ((16 : Int32).toUInt32 &&& Int32.toUInt32 31)).toInt32) &&& 255), ((((a2).toUInt32 >>> ((8 : Int32).toUInt32 &&& Int32.toUInt32 31)).toInt32) &&& 255), ((((a2).toUInt32 >>> ((0 : Int32).toUInt32 &&& Int32.toUInt32 31)).toInt32) &&& 255)] ++ List.replicate 392 0)))).set 174 (.inr (8, [.ref 175, .int 8])), n)) _
    refine At.enter rfl ?_
    refine r_bipush 24 rfl ?_
    refine r_istore_n ([(2, .int 24), (0, .ref 174), (1, .int a3)]) rfl ?_
    refine Ar.fall 3 rfl ?_
    refine At.enter rfl ?_
    refine r_iload_n rfl ?_
    refine r_iff 7 rfl (by decide) ?_
    refine At.enter rfl ?_
    refine r_aload_n rfl ?_
    refine r_get (v := .int 8) (en_gs_eq (en_gs_ne (by decide) (en_gs_eq (en_gs_ne (by decide) (en_gs_eq (en_gs_ne (by decide) (en_gs_eq (en_gs_ne (by decide) (en_gs_eq (en_gs_ne (by decide) (en_gs_eq (en_gs_ne (by decide) (en_gs_eq (en_gs_ne (by decide) (en_gs_eq (en_gs_ne (by decide) hx_174)))))))))))))))) rfl ?_
    refine r_sipush 400 rfl ?_
    refine r_icf 17 rfl (by decide) ?_
    refine At.enter rfl ?_
    refine r_aload_n rfl ?_
    refine r_get (v := .ref 175) (en_gs_eq (en_gs_ne (by decide) (en_gs_eq (en_gs_ne (by decide) (en_gs_eq (en_gs_ne (by decide) (en_gs_eq (en_gs_ne (by decide) (en_gs_eq (en_gs_ne (by decide) (en_gs_eq (en_gs_ne (by decide) (en_gs_eq (en_gs_ne (by decide) (en_gs_eq (en_gs_ne (by decide) hx_174)))))))))))))))) rfl ?_
    refine r_aload_n rfl ?_
    refine r_get (v := .int 8) (en_gs_eq (en_gs_ne (by decide) (en_gs_eq (en_gs_ne (by decide) (en_gs_eq (en_gs_ne (by decide) (en_gs_eq (en_gs_ne (by decide) (en_gs_eq (en_gs_ne (by decide) (en_gs_eq (en_gs_ne (by decide) (en_gs_eq (en_gs_ne (by decide) (en_gs_eq (en_gs_ne (by decide) hx_174)))))))))))))))) rfl ?_
    refine r_iload_n rfl ?_
    refine r_iload_n rfl ?_
    refine r_iushr (((a3).toUInt32 >>> ((24 : Int32).toUInt32 &&& Int32.toUInt32 31)).toInt32) rfl ?_
    refine r_sipush 255 rfl ?_
    refine r_iand ((((a3).toUInt32 >>> ((24 : Int32).toUInt32 &&& Int32.toUInt32 31)).toInt32) &&& 255) rfl ?_
    refine r_iast (en_gs_ne (by decide) (en_gs_eq (en_gs_ne (by decide) (en_gs_eq (en_gs_ne (by decide) (en_gs_eq (en_gs_ne (by decide) (en_gs_eq (en_gs_ne (by decide) (en_gs_eq (en_gs_ne (by decide) (en_gs_eq (en_gs_ne (by decide) (en_gs_eq (en_gs_ne (by decide) (en_gs_eq hx_175)))))))))))))))) (by decide) (Nat.le_of_ble_eq_true rfl) ([((((a1).toUInt32 >>> ((24 : Int32).toUInt32 &&& Int32.toUInt32 31)).toInt32) &&& 255), ((((a1).toUInt32 >>> ((16 : Int32).toUInt32 &&& Int32.toUInt32 31)).toInt32) &&& 255), ((((a1).toUInt32 >>> ((8 : Int32).toUInt32 &&& Int32.toUInt32 31)).toInt32) &&& 255), ((((a1).toUInt32 >>> ((0 : Int32).toUInt32 &&& Int32.toUInt32 31)).toInt32) &&& 255), ((((a2).toUInt32 >>> ((24 : Int32).toUInt32 &&& Int32.toUInt32 31)).toInt32) &&& 255), ((((a2).toUInt32 >>> ((16 : Int32).toUInt32 &&& Int32.toUInt32 31)).toInt32) &&& 255), ((((a2).toUInt32 >>> ((8 : Int32).toUInt32 &&& Int32.toUInt32 31)).toInt32) &&& 255), ((((a2).toUInt32 >>> ((0 : Int32).toUInt32 &&& Int32.toUInt32 31)).toInt32) &&& 255), ((((a3).toUInt32 >>> ((24 : Int32).toUInt32 &&& Int32.toUInt32 31)).toInt32) &&& 255)] ++ List.replicate 391 0) rfl ?_
    refine r_aload_n rfl ?_
    refine r_dup rfl ?_
    refine r_get (v := .int 8) (en_gs_ne (by decide) (en_gs_eq (en_gs_ne (by decide) (en_gs_eq (en_gs_ne (by decide) (en_gs_eq (en_gs_ne (by decide) (en_gs_eq (en_gs_ne (by decide) (en_gs_eq (en_gs_ne (by decide) (en_gs_eq (en_gs_ne (by decide) (en_gs_eq (en_gs_ne (by decide) (en_gs_eq (en_gs_ne (by decide) hx_174))))))))))))))))) rfl ?_
    refine r_iconst 1 rfl ?_
    refine r_iadd 9 rfl ?_
    refine r_putf (en_gs_ne (by decide) (en_gs_eq (en_gs_ne (by decide) (en_gs_eq (en_gs_ne (by decide) (en_gs_eq (en_gs_ne (by decide) (en_gs_eq (en_gs_ne (by decide) (en_gs_eq (en_gs_ne (by decide) (en_gs_eq (en_gs_ne (by decide) (en_gs_eq (en_gs_ne (by decide) (en_gs_eq (en_gs_ne (by decide) hx_174))))))))))))))))) (Nat.le_of_ble_eq_true rfl) rfl [.ref 175, .int 9] rfl ?_
    refine r_iinc rfl 16 rfl ([(2, .int 16), (0, .ref 174), (1, .int a3)]) rfl ?_
    refine r_goto ?_
    refine At.enter rfl ?_
    refine r_iload_n rfl ?_
    refine r_iff 7 rfl (by decide) ?_
    refine At.enter rfl ?_
    refine r_aload_n rfl ?_
    refine r_get (v := .int 9) (en_gs_eq (en_gs_ne (by decide) (en_gs_eq (en_gs_ne (by decide) (en_gs_eq (en_gs_ne (by decide) (en_gs_eq (en_gs_ne (by decide) (en_gs_eq (en_gs_ne (by decide) (en_gs_eq (en_gs_ne (by decide) (en_gs_eq (en_gs_ne (by decide) (en_gs_eq (en_gs_ne (by decide) (en_gs_eq (en_gs_ne (by decide) hx_174)))))))))))))))))) rfl ?_
    refine r_sipush 400 rfl ?_
    refine r_icf 17 rfl (by decide) ?_
    refine At.enter rfl ?_
    refine r_aload_n rfl ?_
    refine r_get (v := .ref 175) (en_gs_eq (en_gs_ne (by decide) (en_gs_eq (en_gs_ne (by decide) (en_gs_eq (en_gs_ne (by decide) (en_gs_eq (en_gs_ne (by decide) (en_gs_eq (en_gs_ne (by decide) (en_gs_eq (en_gs_ne (by decide) (en_gs_eq (en_gs_ne (by decide) (en_gs_eq (en_gs_ne (by decide) (en_gs_eq (en_gs_ne (by decide) hx_174)))))))))))))))))) rfl ?_
    refine r_aload_n rfl ?_
    refine r_get (v := .int 9) (en_gs_eq (en_gs_ne (by decide) (en_gs_eq (en_gs_ne (by decide) (en_gs_eq (en_gs_ne (by decide) (en_gs_eq (en_gs_ne (by decide) (en_gs_eq (en_gs_ne (by decide) (en_gs_eq (en_gs_ne (by decide) (en_gs_eq (en_gs_ne (by decide) (en_gs_eq (en_gs_ne (by decide) (en_gs_eq (en_gs_ne (by decide) hx_174)))))))))))))))))) rfl ?_
    refine r_iload_n rfl ?_
    refine r_iload_n rfl ?_
    refine r_iushr (((a3).toUInt32 >>> ((16 : Int32).toUInt32 &&& Int32.toUInt32 31)).toInt32) rfl ?_
    refine r_sipush 255 rfl ?_
    refine r_iand ((((a3).toUInt32 >>> ((16 : Int32).toUInt32 &&& Int32.toUInt32 31)).toInt32) &&& 255) rfl ?_
    refine r_iast (en_gs_ne (by decide) (en_gs_eq (en_gs_ne (by decide) (en_gs_eq (en_gs_ne (by decide) (en_gs_eq (en_gs_ne (by decide) (en_gs_eq (en_gs_ne (by decide) (en_gs_eq (en_gs_ne (by decide) (en_gs_eq (en_gs_ne (by decide) (en_gs_eq (en_gs_ne (by decide) (en_gs_eq (en_gs_ne (by decide) (en_gs_eq hx_175)))))))))))))))))) (by decide) (Nat.le_of_ble_eq_true rfl) ([((((a1).toUInt32 >>> ((24 : Int32).toUInt32 &&& Int32.toUInt32 31)).toInt32) &&& 255), ((((a1).toUInt32 >>> ((16 : Int32).toUInt32 &&& Int32.toUInt32 31)).toInt32) &&& 255), ((((a1).toUInt32 >>> ((8 : Int32).toUInt32 &&& Int32.toUInt32 31)).toInt32) &&& 255), ((((a1).toUInt32 >>> ((0 : Int32).toUInt32 &&& Int32.toUInt32 31)).toInt32) &&& 255), ((((a2).toUInt32 >>> ((24 : Int32).toUInt32 &&& Int32.toUInt32 31)).toInt32) &&& 255), ((((a2).toUInt32 >>> ((16 : Int32).toUInt32 &&& Int32.toUInt32 31)).toInt32) &&& 255), ((((a2).toUInt32 >>> ((8 : Int32).toUInt32 &&& Int32.toUInt32 31)).toInt32) &&& 255), ((((a2).toUInt32 >>> ((0 : Int32).toUInt32 &&& Int32.toUInt32 31)).toInt32) &&& 255), ((((a3).toUInt32 >>> ((24 : Int32).toUInt32 &&& Int32.toUInt32 31)).toInt32) &&& 255), ((((a3).toUInt32 >>> ((16 : Int32).toUInt32 &&& Int32.toUInt32 31)).toInt32) &&& 255)] ++ List.replicate 390 0) rfl ?_
    refine r_aload_n rfl ?_
    refine r_dup rfl ?_
    refine r_get (v := .int 9) (en_gs_ne (by decide) (en_gs_eq (en_gs_ne (by decide) (en_gs_eq (en_gs_ne (by decide) (en_gs_eq (en_gs_ne (by decide) (en_gs_eq (en_gs_ne (by decide) (en_gs_eq (en_gs_ne (by decide) (en_gs_eq (en_gs_ne (by decide) (en_gs_eq (en_gs_ne (by decide) (en_gs_eq (en_gs_ne (by decide) (en_gs_eq (en_gs_ne (by decide) hx_174))))))))))))))))))) rfl ?_
    refine r_iconst 1 rfl ?_
    refine r_iadd 10 rfl ?_
    refine r_putf (en_gs_ne (by decide) (en_gs_eq (en_gs_ne (by decide) (en_gs_eq (en_gs_ne (by decide) (en_gs_eq (en_gs_ne (by decide) (en_gs_eq (en_gs_ne (by decide) (en_gs_eq (en_gs_ne (by decide) (en_gs_eq (en_gs_ne (by decide) (en_gs_eq (en_gs_ne (by decide) (en_gs_eq (en_gs_ne (by decide) (en_gs_eq (en_gs_ne (by decide) hx_174))))))))))))))))))) (Nat.le_of_ble_eq_true rfl) rfl [.ref 175, .int 10] rfl ?_
    refine r_iinc rfl 8 rfl ([(2, .int 8), (0, .ref 174), (1, .int a3)]) rfl ?_
    refine r_goto ?_
    refine At.enter rfl ?_
    refine r_iload_n rfl ?_
    refine r_iff 7 rfl (by decide) ?_
    refine At.enter rfl ?_
    refine r_aload_n rfl ?_
    refine r_get (v := .int 10) (en_gs_eq (en_gs_ne (by decide) (en_gs_eq (en_gs_ne (by decide) (en_gs_eq (en_gs_ne (by decide) (en_gs_eq (en_gs_ne (by decide) (en_gs_eq (en_gs_ne (by decide) (en_gs_eq (en_gs_ne (by decide) (en_gs_eq (en_gs_ne (by decide) (en_gs_eq (en_gs_ne (by decide) (en_gs_eq (en_gs_ne (by decide) (en_gs_eq (en_gs_ne (by decide) hx_174)))))))))))))))))))) rfl ?_
    refine r_sipush 400 rfl ?_
    refine r_icf 17 rfl (by decide) ?_
    refine At.enter rfl ?_
    refine r_aload_n rfl ?_
    refine r_get (v := .ref 175) (en_gs_eq (en_gs_ne (by decide) (en_gs_eq (en_gs_ne (by decide) (en_gs_eq (en_gs_ne (by decide) (en_gs_eq (en_gs_ne (by decide) (en_gs_eq (en_gs_ne (by decide) (en_gs_eq (en_gs_ne (by decide) (en_gs_eq (en_gs_ne (by decide) (en_gs_eq (en_gs_ne (by decide) (en_gs_eq (en_gs_ne (by decide) (en_gs_eq (en_gs_ne (by decide) hx_174)))))))))))))))))))) rfl ?_
    refine r_aload_n rfl ?_
    refine r_get (v := .int 10) (en_gs_eq (en_gs_ne (by decide) (en_gs_eq (en_gs_ne (by decide) (en_gs_eq (en_gs_ne (by decide) (en_gs_eq (en_gs_ne (by decide) (en_gs_eq (en_gs_ne (by decide) (en_gs_eq (en_gs_ne (by decide) (en_gs_eq (en_gs_ne (by decide) (en_gs_eq (en_gs_ne (by decide) (en_gs_eq (en_gs_ne (by decide) (en_gs_eq (en_gs_ne (by decide) hx_174)))))))))))))))))))) rfl ?_
    refine r_iload_n rfl ?_
    refine r_iload_n rfl ?_
    refine r_iushr (((a3).toUInt32 >>> ((8 : Int32).toUInt32 &&& Int32.toUInt32 31)).toInt32) rfl ?_
    refine r_sipush 255 rfl ?_
    refine r_iand ((((a3).toUInt32 >>> ((8 : Int32).toUInt32 &&& Int32.toUInt32 31)).toInt32) &&& 255) rfl ?_
    refine r_iast (en_gs_ne (by decide) (en_gs_eq (en_gs_ne (by decide) (en_gs_eq (en_gs_ne (by decide) (en_gs_eq (en_gs_ne (by decide) (en_gs_eq (en_gs_ne (by decide) (en_gs_eq (en_gs_ne (by decide) (en_gs_eq (en_gs_ne (by decide) (en_gs_eq (en_gs_ne (by decide) (en_gs_eq (en_gs_ne (by decide) (en_gs_eq (en_gs_ne (by decide) (en_gs_eq hx_175)))))))))))))))))))) (by decide) (Nat.le_of_ble_eq_true rfl) ([((((a1).toUInt32 >>> ((24 : Int32).toUInt32 &&& Int32.toUInt32 31)).toInt32) &&& 255), ((((a1).toUInt32 >>> ((16 : Int32).toUInt32 &&& Int32.toUInt32 31)).toInt32) &&& 255), ((((a1).toUInt32 >>> ((8 : Int32).toUInt32 &&& Int32.toUInt32 31)).toInt32) &&& 255), ((((a1).toUInt32 >>> ((0 : Int32).toUInt32 &&& Int32.toUInt32 31)).toInt32) &&& 255), ((((a2).toUInt32 >>> ((24 : Int32).toUInt32 &&& Int32.toUInt32 31)).toInt32) &&& 255), ((((a2).toUInt32 >>> ((16 : Int32).toUInt32 &&& Int32.toUInt32 31)).toInt32) &&& 255), ((((a2).toUInt32 >>> ((8 : Int32).toUInt32 &&& Int32.toUInt32 31)).toInt32) &&& 255), ((((a2).toUInt32 >>> ((0 : Int32).toUInt32 &&& Int32.toUInt32 31)).toInt32) &&& 255), ((((a3).toUInt32 >>> ((24 : Int32).toUInt32 &&& Int32.toUInt32 31)).toInt32) &&& 255), ((((a3).toUInt32 >>> ((16 : Int32).toUInt32 &&& Int32.toUInt32 31)).toInt32) &&& 255), ((((a3).toUInt32 >>> ((8 : Int32).toUInt32 &&& Int32.toUInt32 31)).toInt32) &&& 255)] ++ List.replicate 389 0) rfl ?_
    refine r_aload_n rfl ?_
    refine r_dup rfl ?_
    refine r_get (v := .int 10) (en_gs_ne (by decide) (en_gs_eq (en_gs_ne (by decide) (en_gs_eq (en_gs_ne (by decide) (en_gs_eq (en_gs_ne (by decide) (en_gs_eq (en_gs_ne (by decide) (en_gs_eq (en_gs_ne (by decide) (en_gs_eq (en_gs_ne (by decide) (en_gs_eq (en_gs_ne (by decide) (en_gs_eq (en_gs_ne (by decide) (en_gs_eq (en_gs_ne (by decide) (en_gs_eq (en_gs_ne (by decide) hx_174))))))))))))))))))))) rfl ?_
    refine r_iconst 1 rfl ?_
    refine r_iadd 11 rfl ?_
    refine r_putf (en_gs_ne (by decide) (en_gs_eq (en_gs_ne (by decide) (en_gs_eq (en_gs_ne (by decide) (en_gs_eq (en_gs_ne (by decide) (en_gs_eq (en_gs_ne (by decide) (en_gs_eq (en_gs_ne (by decide) (en_gs_eq (en_gs_ne (by decide) (en_gs_eq (en_gs_ne (by decide) (en_gs_eq (en_gs_ne (by decide) (en_gs_eq (en_gs_ne (by decide) (en_gs_eq (en_gs_ne (by decide) hx_174))))))))))))))))))))) (Nat.le_of_ble_eq_true rfl) rfl [.ref 175, .int 11] rfl ?_
    refine r_iinc rfl 0 rfl ([(2, .int 0), (0, .ref 174), (1, .int a3)]) rfl ?_
    refine r_goto ?_
    refine At.enter rfl ?_
    refine r_iload_n rfl ?_
    refine r_iff 7 rfl (by decide) ?_
    refine At.enter rfl ?_
    refine r_aload_n rfl ?_
    refine r_get (v := .int 11) (en_gs_eq (en_gs_ne (by decide) (en_gs_eq (en_gs_ne (by decide) (en_gs_eq (en_gs_ne (by decide) (en_gs_eq (en_gs_ne (by decide) (en_gs_eq (en_gs_ne (by decide) (en_gs_eq (en_gs_ne (by decide) (en_gs_eq (en_gs_ne (by decide) (en_gs_eq (en_gs_ne (by decide) (en_gs_eq (en_gs_ne (by decide) (en_gs_eq (en_gs_ne (by decide) (en_gs_eq (en_gs_ne (by decide) hx_174)))))))))))))))))))))) rfl ?_
    refine r_sipush 400 rfl ?_
    refine r_icf 17 rfl (by decide) ?_
    refine At.enter rfl ?_
    refine r_aload_n rfl ?_
    refine r_get (v := .ref 175) (en_gs_eq (en_gs_ne (by decide) (en_gs_eq (en_gs_ne (by decide) (en_gs_eq (en_gs_ne (by decide) (en_gs_eq (en_gs_ne (by decide) (en_gs_eq (en_gs_ne (by decide) (en_gs_eq (en_gs_ne (by decide) (en_gs_eq (en_gs_ne (by decide) (en_gs_eq (en_gs_ne (by decide) (en_gs_eq (en_gs_ne (by decide) (en_gs_eq (en_gs_ne (by decide) (en_gs_eq (en_gs_ne (by decide) hx_174)))))))))))))))))))))) rfl ?_
    refine r_aload_n rfl ?_
    refine r_get (v := .int 11) (en_gs_eq (en_gs_ne (by decide) (en_gs_eq (en_gs_ne (by decide) (en_gs_eq (en_gs_ne (by decide) (en_gs_eq (en_gs_ne (by decide) (en_gs_eq (en_gs_ne (by decide) (en_gs_eq (en_gs_ne (by decide) (en_gs_eq (en_gs_ne (by decide) (en_gs_eq (en_gs_ne (by decide) (en_gs_eq (en_gs_ne (by decide) (en_gs_eq (en_gs_ne (by decide) (en_gs_eq (en_gs_ne (by decide) hx_174)))))))))))))))))))))) rfl ?_
    refine r_iload_n rfl ?_
    refine r_iload_n rfl ?_
    refine r_iushr (((a3).toUInt32 >>> ((0 : Int32).toUInt32 &&& Int32.toUInt32 31)).toInt32) rfl ?_
    refine r_sipush 255 rfl ?_
    refine r_iand ((((a3).toUInt32 >>> ((0 : Int32).toUInt32 &&& Int32.toUInt32 31)).toInt32) &&& 255) rfl ?_
    refine r_iast (en_gs_ne (by decide) (en_gs_eq (en_gs_ne (by decide) (en_gs_eq (en_gs_ne (by decide) (en_gs_eq (en_gs_ne (by decide) (en_gs_eq (en_gs_ne (by decide) (en_gs_eq (en_gs_ne (by decide) (en_gs_eq (en_gs_ne (by decide) (en_gs_eq (en_gs_ne (by decide) (en_gs_eq (en_gs_ne (by decide) (en_gs_eq (en_gs_ne (by decide) (en_gs_eq (en_gs_ne (by decide) (en_gs_eq hx_175)))))))))))))))))))))) (by decide) (Nat.le_of_ble_eq_true rfl) ([((((a1).toUInt32 >>> ((24 : Int32).toUInt32 &&& Int32.toUInt32 31)).toInt32) &&& 255), ((((a1).toUInt32 >>> ((16 : Int32).toUInt32 &&& Int32.toUInt32 31)).toInt32) &&& 255), ((((a1).toUInt32 >>> ((8 : Int32).toUInt32 &&& Int32.toUInt32 31)).toInt32) &&& 255), ((((a1).toUInt32 >>> ((0 : Int32).toUInt32 &&& Int32.toUInt32 31)).toInt32) &&& 255), ((((a2).toUInt32 >>> ((24 : Int32).toUInt32 &&& Int32.toUInt32 31)).toInt32) &&& 255), ((((a2).toUInt32 >>> ((16 : Int32).toUInt32 &&& Int32.toUInt32 31)).toInt32) &&& 255), ((((a2).toUInt32 >>> ((8 : Int32).toUInt32 &&& Int32.toUInt32 31)).toInt32) &&& 255), ((((a2).toUInt32 >>> ((0 : Int32).toUInt32 &&& Int32.toUInt32 31)).toInt32) &&& 255), ((((a3).toUInt32 >>> ((24 : Int32).toUInt32 &&& Int32.toUInt32 31)).toInt32) &&& 255), ((((a3).toUInt32 >>> ((16 : Int32).toUInt32 &&& Int32.toUInt32 31)).toInt32) &&& 255), ((((a3).toUInt32 >>> ((8 : Int32).toUInt32 &&& Int32.toUInt32 31)).toInt32) &&& 255), ((((a3).toUInt32 >>> ((0 : Int32).toUInt32 &&& Int32.toUInt32 31)).toInt32) &&& 255)] ++ List.replicate 388 0) rfl ?_
    refine r_aload_n rfl ?_
    refine r_dup rfl ?_
    refine r_get (v := .int 11) (en_gs_ne (by decide) (en_gs_eq (en_gs_ne (by decide) (en_gs_eq (en_gs_ne (by decide) (en_gs_eq (en_gs_ne (by decide) (en_gs_eq (en_gs_ne (by decide) (en_gs_eq (en_gs_ne (by decide) (en_gs_eq (en_gs_ne (by decide) (en_gs_eq (en_gs_ne (by decide) (en_gs_eq (en_gs_ne (by decide) (en_gs_eq (en_gs_ne (by decide) (en_gs_eq (en_gs_ne (by decide) (en_gs_eq (en_gs_ne (by decide) hx_174))))))))))))))))))))))) rfl ?_
    refine r_iconst 1 rfl ?_
    refine r_iadd 12 rfl ?_
    refine r_putf (en_gs_ne (by decide) (en_gs_eq (en_gs_ne (by decide) (en_gs_eq (en_gs_ne (by decide) (en_gs_eq (en_gs_ne (by decide) (en_gs_eq (en_gs_ne (by decide) (en_gs_eq (en_gs_ne (by decide) (en_gs_eq (en_gs_ne (by decide) (en_gs_eq (en_gs_ne (by decide) (en_gs_eq (en_gs_ne (by decide) (en_gs_eq (en_gs_ne (by decide) (en_gs_eq (en_gs_ne (by decide) (en_gs_eq (en_gs_ne (by decide) hx_174))))))))))))))))))))))) (Nat.le_of_ble_eq_true rfl) rfl [.ref 175, .int 12] rfl ?_
    refine r_iinc rfl (-8) rfl ([(2, .int (-8)), (0, .ref 174), (1, .int a3)]) rfl ?_
    refine r_goto ?_
    refine At.enter rfl ?_
    refine r_iload_n rfl ?_
    refine r_ift (by decide) ?_
    refine At.enter rfl ?_
    refine r_vret ?_
    exact ⟨trivial, rfl, rfl⟩
  refine At.enter rfl ?_
  refine r_aload_n rfl ?_
  refine r_get (v := .ref 174) (en_gs_ne (by decide) (en_gs_ne (by decide) (en_gs_ne (by decide) (en_gs_ne (by decide) (en_gs_ne (by decide) (en_gs_ne (by decide) (en_gs_ne (by decide) (en_gs_ne (by decide) (en_gs_ne (by decide) (en_gs_ne (by decide) (en_gs_ne (by decide) (en_gs_ne (by decide) (en_gs_ne (by decide) (en_gs_ne (by decide) (en_gs_ne (by decide) (en_gs_ne (by decide) (en_gs_ne (by decide) (en_gs_ne (by decide) (en_gs_ne (by decide) (en_gs_ne (by decide) (en_gs_ne (by decide) (en_gs_ne (by decide) (en_gs_ne (by decide) (en_gs_ne (by decide) hx_0)))))))))))))))))))))))) rfl ?_
  refine r_iload rfl ?_
  refine r_callV1v (True)  (((((((((((((((((((((((((((((((((hp_X ++ hp_M).set 175 (.inl (0, .inl ([((((a1).toUInt32 >>> ((24 : Int32).toUInt32 &&& Int32.toUInt32 31)).toInt32) &&& 255)] ++ List.replicate 399 0)))).set 174 (.inr (8, [.ref 175, .int 1]))).set 175 (.inl (0, .inl ([((((a1).toUInt32 >>> ((24 : Int32).toUInt32 &&& Int32.toUInt32 31)).toInt32) &&& 255), ((((a1).toUInt32 >>> ((16 : Int32).toUInt32 &&& Int32.toUInt32 31)).toInt32) &&& 255)] ++ List.replicate 398 0)))).set 174 (.inr (8, [.ref 175, .int 2]))).set 175 (.inl (0, .inl ([((((a1).toUInt32 >>> ((24 : Int32).toUInt32 &&& Int32.toUInt32 31)).toInt32) &&& 255), ((((a1).toUInt32 >>> ((16 : Int32).toUInt32 &&& Int32.toUInt32 31)).toInt32) &&& 255), ((((a1).toUInt32 >>> ((8 : Int32).toUInt32 &&& Int32.toUInt32 31)).toInt32) &&& 255)] ++ List.replicate 397 0)))).set 174 (.inr (8, [.ref 175, .int 3]))).set 175 (.inl (0, .inl ([((((a1).toUInt32 >>> ((24 : Int32).toUInt32 &&& Int32.toUInt32 31)).toInt32) &&& 255), ((((a1).toUInt32 >>> ((16 : Int32).toUInt32 &&& Int32.toUInt32 31)).toInt32) &&& 255), ((((a1).toUInt32 >>> ((8 : Int32).toUInt32 &&& Int32.toUInt32 31)).toInt32) &&& 255), ((((a1).toUInt32 >>> ((0 : Int32).toUInt32 &&& Int32.toUInt32 31)).toInt32) &&& 255)] ++ List.replicate 396 0)))).set 174 (.inr (8, [.ref 175, .int 4]))).set 175 (.inl (0, .inl ([((((a1).toUInt32 >>> ((24 : Int32).toUInt32 &&& Int32.toUInt32 31)).toInt32) &&& 255), ((((a1).toUInt32 >>> ((16 : Int32).toUInt32 &&& Int32.toUInt32 31)).toInt32) &&& 255), ((((a1).toUInt32 >>> ((8 : Int32).toUInt32 &&& Int32.toUInt32 31)).toInt32) &&& 255), ((((a1).toUInt32 >>> ((0 : Int32).toUInt32 &&& Int32.toUInt32 31)).toInt32) &&& 255), ((((a2).toUInt32 >>> ((24 : Int32).toUInt32 &&& Int32.toUInt32 31)).toInt32) &&& 255)] ++ List.replicate 395 0)))).set 174 (.inr (8, [.ref 175, .int 5]))).set 175 (.inl (0, .inl ([((((a1).toUInt32 >>> ((24 : Int32).toUInt32 &&& Int32.toUInt32 31)).toInt32) &&& 255), ((((a1).toUInt32 >>> ((16 : Int32).toUInt32 &&& Int32.toUInt32 31)).toInt32) &&& 255), ((((a1).toUInt32 >>> ((8 : Int32).toUInt32 &&& Int32.toUInt32 31)).toInt32) &&& 255), ((((a1).toUInt32 >>> ((0 : Int32).toUInt32 &&& Int32.toUInt32 31)).toInt32) &&& 255), ((((a2).toUInt32 >>> ((24 : Int32).toUInt32 &&& Int32.toUInt32 31)).toInt32) &&& 255), ((((a2).toUInt32 >>> ((16 : Int32).toUInt32 &&& Int32.toUInt32 31)).toInt32) &&& 255)] ++ List.replicate 394 0)))).set 174 (.inr (8, [.ref 175, .int 6]))).set 175 (.inl (0, .inl ([((((a1).toUInt32 >>> ((24 : Int32).toUInt32 &&& Int32.toUInt32 31)).toInt32) &&& 255), ((((a1).toUInt32 >>> ((16 : Int32).toUInt32 &&& Int32.toUInt32 31)).toInt32) &&& 255), ((((a1).toUInt32 >>> ((8 : Int32).toUInt32 &&& Int32.toUInt32 31)).toInt32) &&& 255), ((((a1).toUInt32 >>> ((0 : Int32).toUInt32 &&& Int32.toUInt32 31)).toInt32) &&& 255), ((((a2).toUInt32 >>> ((24 : Int32).toUInt32 &&& Int32.toUInt32 31)).toInt32) &&& 255), ((((a2).toUInt32 >>> ((16 : Int32).toUInt32 &&& Int32.toUInt32 31)).toInt32) &&& 255), ((((a2).toUInt32 >>> ((8 : Int32).toUInt32 &&& Int32.toUInt32 31)).toInt32) &&& 255)] ++ List.replicate 393 0)))).set 174 (.inr (8, [.ref 175, .int 7]))).set 175 (.inl (0, .inl ([((((a1).toUInt32 >>> ((24 : Int32).toUInt32 &&& Int32.toUInt32 31)).toInt32) &&& 255), ((((a1).toUInt32 >>> ((16 : Int32).toUInt32 &&& Int32.toUInt32 31)).toInt32) &&& 255), ((((a1).toUInt32 >>> ((8 : Int32).toUInt32 &&& Int32.toUInt32 31)).toInt32) &&& 255), ((((a1).toUInt32 >>> ((0 : Int32).toUInt32 &&& Int32.toUInt32 31)).toInt32) &&& 255), ((((a2).toUInt32 >>> ((24 : Int32).toUInt32 &&& Int32.toUInt32 31)).toInt32) &&& 255), ((((a2).toUInt32 >>> ((16 : Int32).toUInt32 &&& Int32.toUInt32 31)).toInt32) &&& 255), ((((a2).toUInt32 >>> ((8 : Int32).toUInt32 &&& Int32.toUInt32 31)).toInt32) &&& 255), ((((a2).toUInt32 >>> ((0 : Int32).toUInt32 &&& Int32.toUInt32 31)).toInt32) &&& 255)] ++ List.replicate 392 0)))).set 174 (.inr (8, [.ref 175, .int 8]))).set 175 (.inl (0, .inl ([((((a1).toUInt32 >>> ((24 : Int32).toUInt32 &&& Int32.toUInt32 31)).toInt32) &&& 255), ((((a1).toUInt32 >>> ((16 : Int32).toUInt32 &&& Int32.toUInt32 31)).toInt32) &&& 255), ((((a1).toUInt32 >>> ((8 : Int32).toUInt32 &&& Int32.toUInt32 31)).toInt32) &&& 255), ((((a1).toUInt32 >>> ((0 : Int32).toUInt32 &&& Int32.toUInt32 31)).toInt32) &&& 255), ((((a2).toUInt32 >>> ((24 : Int32).toUInt32 &&& Int32.toUInt32 31)).toInt32) &&& 255), ((((a2).toUInt32 >>> ((16 : Int32).toUInt32 &&& Int32.toUInt32 31)).toInt32) &&& 255), ((((a2).toUInt32 >>> ((8 : Int32).toUInt32 &&& Int32.toUInt32 31)).toInt32) &&& 255), ((((a2).toUInt32 >>> ((0 : Int32).toUInt32 &&& Int32.toUInt32 31)).toInt32) &&& 255), ((((a3).toUInt32 >>> ((24 : Int32).toUInt32 &&& Int32.toUInt32 31)).toInt32) &&& 255)] ++ List.replicate 391 0)))).set 174 (.inr (8, [.ref 175, .int 9]))).set 175 (.inl (0, .inl ([((((a1).toUInt32 >>> ((24 : Int32).toUInt32 &&& Int32.toUInt32 31)).toInt32) &&& 255), ((((a1).toUInt32 >>> ((16 : Int32).toUInt32 &&& Int32.toUInt32 31)).toInt32) &&& 255), ((((a1).toUInt32 >>> ((8 : Int32).toUInt32 &&& Int32.toUInt32 31)).toInt32) &&& 255), ((((a1).toUInt32 >>> ((0 : Int32).toUInt32 &&& Int32.toUInt32 31)).toInt32) &&& 255), ((((a2).toUInt32 >>> ((24 : Int32).toUInt32 &&& Int32.toUInt32 31)).toInt32) &&& 255), ((((a2).toUInt32 >>> ((16 : Int32).toUInt32 &&& Int32.toUInt32 31)).toInt32) &&& 255), ((((a2).toUInt32 >>> ((8 : Int32).toUInt32 &&& Int32.toUInt32 31)).toInt32) &&& 255), ((((a2).toUInt32 >>> ((0 : Int32).toUInt32 &&& Int32.toUInt32 31)).toInt32) &&& 255), ((((a3).toUInt32 >>> ((24 : Int32).toUInt32 &&& Int32.toUInt32 31)).toInt32) &&& 255), ((((a3).toUInt32 >>> ((16 : Int32).toUInt32 &&& Int32.toUInt32 31)).toInt32) &&& 255)] ++ List.replicate 390 0)))).set 174 (.inr (8, [.ref 175, .int 10]))).set 175 (.inl (0, .inl ([((((a1).toUInt32 >>> ((24 : Int32).toUInt32 &&& Int32.toUInt32 31)).toInt32) &&& 255), ((((a1).toUInt32 >>> ((16 : Int32).toUInt32 &&& Int32.toUInt32 31)).toInt32) &&& 255), ((((a1).toUInt32 >>> ((8 : Int32).toUInt32 &&& Int32.toUInt32 31)).toInt32) &&& 255), ((((a1).toUInt32 >>> ((0 : Int32).toUInt32 &&& Int32.toUInt32 31)).toInt32) &&& 255), ((((a2).toUInt32 >>> ((24 : Int32).toUInt32 &&& Int32.toUInt32 31)).toInt32) &&& 255), ((((a2).toUInt32 >>> ((16 : Int32).toUInt32 &&& Int32.toUInt32 31)).toInt32) &&& 255), ((((a2).toUInt32 >>> ((8 : Int32).toUInt32 &&& Int32.toUInt32 31)).toInt32) &&& 255), ((((a2).toUInt32 >>> ((0 : Int32).toUInt32 &&& Int32.toUInt32 31)).toInt32) &&& 255), ((((a3).toUInt32 >>> ((24 : Int32).toUInt32 &&& Int32.toUInt32 31)).toInt32) &&& 255), ((((a3).toUInt32 >>> ((16 : Int32).toUInt32 &&& Int32.toUInt32 31)).toInt32) &&& 255), ((((a3).toUInt32 >>> ((8 : Int32).toUInt32 &&& Int32.toUInt32 31)).toInt32) &&& 255)] ++ List.replicate 389 0)))).set 174 (.inr (8, [.ref 175, .int 11]))).set 175 (.inl (0, .inl ([((((a1).toUInt32 >>> ((24 : Int32).toUInt32 &&& Int32.toUInt32 31)).toInt32) &&& 255), ((((a1).toUInt32 >>> ((16 : Int32).toUInt32 &&& Int32.toUInt32 31)).toInt32) &&& 255), ((((a1).toUInt32 >>> ((8 : Int32).toUInt32 &&& Int32.toUInt32 31)).toInt32) &&& 255), ((((a1).toUInt32 >>> ((0 : Int32).toUInt32 &&& Int32.toUInt32 31)).toInt32) &&& 255), ((((a2).toUInt32 >>> ((24 : Int32).toUInt32 &&& Int32.toUInt32 31)).toInt32) &&& 255), ((((a2).toUInt32 >>> ((16 : Int32).toUInt32 &&& Int32.toUInt32 31)).toInt32) &&& 255), ((((a2).toUInt32 >>> ((8 : Int32).toUInt32 &&& Int32.toUInt32 31)).toInt32) &&& 255), ((((a2).toUInt32 >>> ((0 : Int32).toUInt32 &&& Int32.toUInt32 31)).toInt32) &&& 255), ((((a3).toUInt32 >>> ((24 : Int32).toUInt32 &&& Int32.toUInt32 31)).toInt32) &&& 255), ((((a3).toUInt32 >>> ((16 : Int32).toUInt32 &&& Int32.toUInt32 31)).toInt32) &&& 255), ((((a3).toUInt32 >>> ((8 : Int32).toUInt32 &&& Int32.toUInt32 31)).toInt32) &&& 255), ((((a3).toUInt32 >>> ((0 : Int32).toUInt32 &&& Int32.toUInt32 31)).toInt32) &&& 255)] ++ List.replicate 388 0)))).set 174 (.inr (8, [.ref 175, .int 12]))).set 175 (.inl (0, .inl ([((((a1).toUInt32 >>> ((24 : Int32).toUInt32 &&& Int32.toUInt32 31)).toInt32) &&& 255), ((((a1).toUInt32 >>> ((16 : Int32).toUInt32 &&& Int32.toUInt32 31)).toInt32) &&& 255), ((((a1).toUInt32 >>> ((8 : Int32).toUInt32 &&& Int32.toUInt32 31)).toInt32) &&& 255), ((((a1).toUInt32 >>> ((0 : Int32).toUInt32 &&& Int32.toUInt32 31)).toInt32) &&& 255), ((((a2).toUInt32 >>> ((24 : Int32).toUInt32 &&& Int32.toUInt32 31)).toInt32) &&& 255), ((((a2).toUInt32 >>> ((16 : Int32).toUInt32 &&& Int32.toUInt32 31)).toInt32) &&& 255), ((((a2).toUInt32 >>> ((8 : Int32).toUInt32 &&& Int32.toUInt32 31)).toInt32) &&& 255), ((((a2).toUInt32 >>> ((0 : Int32).toUInt32 &&& Int32.toUInt32 31)).toInt32) &&& 255), ((((a3).toUInt32 >>> ((24 : Int32).toUInt32 &&& Int32.toUInt32 31)).toInt32) &&& 255), ((((a3).toUInt32 >>> ((16 : Int32).toUInt32 &&& Int32.toUInt32 31)).toInt32) &&& 255), ((((a3).toUInt32 >>> ((8 : Int32).toUInt32 &&& Int32.toUInt32 31)).toInt32) &&& 255), ((((a3).toUInt32 >>> ((0 : Int32).toUInt32 &&& Int32.toUInt32 31)).toInt32) &&& 255), ((((a4).toUInt32 >>> ((24 : Int32).toUInt32 &&& Int32.toUInt32 31)).toInt32) &&& 255)] ++ List.replicate 387 0)))).set 174 (.inr (8, [.ref 175, .int 13]))).set 175 (.inl (0, .inl ([((((a1).toUInt32 >>> ((24 : Int32).toUInt32 &&& Int32.toUInt32 31)).toInt32) &&& 255), ((((a1).toUInt32 >>> ((16 : Int32).toUInt32 &&& Int32.toUInt32 31)).toInt32) &&& 255), ((((a1).toUInt32 >>> ((8 : Int32).toUInt32 &&& Int32.toUInt32 31)).toInt32) &&& 255), ((((a1).toUInt32 >>> ((0 : Int32).toUInt32 &&& Int32.toUInt32 31)).toInt32) &&& 255), ((((a2).toUInt32 >>> ((24 : Int32).toUInt32 &&& Int32.toUInt32 31)).toInt32) &&& 255), ((((a2).toUInt32 >>> ((16 : Int32).toUInt32 &&& Int32.toUInt32 31)).toInt32) &&& 255), ((((a2).toUInt32 >>> ((8 : Int32).toUInt32 &&& Int32.toUInt32 31)).toInt32) &&& 255), ((((a2).toUInt32 >>> ((0 : Int32).toUInt32 &&& Int32.toUInt32 31)).toInt32) &&& 255), ((((a3).toUInt32 >>> ((24 : Int32).toUInt32 &&& Int32.toUInt32 31)).toInt32) &&& 255), ((((a3).toUInt32 >>> ((16 : Int32).toUInt32 &&& Int32.toUInt32 31)).toInt32) &&& 255), ((((a3).toUInt32 >>> ((8 : Int32).toUInt32 &&& Int32.toUInt32 31)).toInt32) &&& 255), ((((a3).toUInt32 >>> ((0 : Int32).toUInt32 &&& Int32.toUInt32 31)).toInt32) &&& 255), ((((a4).toUInt32 >>> ((24 : Int32).toUInt32 &&& Int32.toUInt32 31)).toInt32) &&& 255), ((((a4).toUInt32 >>> ((16 : Int32).toUInt32 &&& Int32.toUInt32 31)).toInt32) &&& 255)] ++ List.replicate 386 0)))).set 174 (.inr (8, [.ref 175, .int 14]))).set 175 (.inl (0, .inl ([((((a1).toUInt32 >>> ((24 : Int32).toUInt32 &&& Int32.toUInt32 31)).toInt32) &&& 255), ((((a1).toUInt32 >>> ((16 : Int32).toUInt32 &&& Int32.toUInt32 31)).toInt32) &&& 255), ((((a1).toUInt32 >>> ((8 : Int32).toUInt32 &&& Int32.toUInt32 31)).toInt32) &&& 255), ((((a1).toUInt32 >>> ((0 : Int32).toUInt32 &&& Int32.toUInt32 31)).toInt32) &&& 255), ((((a2).toUInt32 >>> ((24 : Int32).toUInt32 &&& Int32.toUInt32 31)).toInt32) &&& 255), ((((a2).toUInt32 >>> ((16 : Int32).toUInt32 &&& Int32.toUInt32 31)).toInt32) &&& 255), ((((a2).toUInt32 >>> ((8 : Int32).toUInt32 &&& Int32.toUInt32 31)).toInt32) &&& 255), ((((a2).toUInt32 >>> ((0 : Int32).toUInt32 &&& Int32.toUInt32 31)).toInt32) &&& 255), ((((a3).toUInt32 >>> ((24 : Int32).toUInt32 &&& Int32.toUInt32 31)).toInt32) &&& 255), ((((a3).toUInt32 >>> ((16 : Int32).toUInt32 &&& Int32.toUInt32 31)).toInt32) &&& 255), ((((a3).toUInt32 >>> ((8 : Int32).toUInt32 &&& Int32.toUInt32 31)).toInt32) &&& 255), ((((a3).toUInt32 >>> ((0 : Int32).toUInt32 &&& Int32.toUInt32 31)).toInt32) &&& 255), ((((a4).toUInt32 >>> ((24 : Int32).toUInt32 &&& Int32.toUInt32 31)).toInt32) &&& 255), ((((a4).toUInt32 >>> ((16 : Int32).toUInt32 &&& Int32.toUInt32 31)).toInt32) &&& 255), ((((a4).toUInt32 >>> ((8 : Int32).toUInt32 &&& Int32.toUInt32 31)).toInt32) &&& 255)] ++ List.replicate 385 0)))).set 174 (.inr (8, [.ref 175, .int 15]))).set 175 (.inl (0, .inl ([((((a1).toUInt32 >>> ((24 : Int32).toUInt32 &&& Int32.toUInt32 31)).toInt32) &&& 255), ((((a1).toUInt32 >>> ((16 : Int32).toUInt32 &&& Int32.toUInt32 31)).toInt32) &&& 255), ((((a1).toUInt32 >>> ((8 : Int32).toUInt32 &&& Int32.toUInt32 31)).toInt32) &&& 255), ((((a1).toUInt32 >>> ((0 : Int32).toUInt32 &&& Int32.toUInt32 31)).toInt32) &&& 255), ((((a2).toUInt32 >>> ((24 : Int32).toUInt32 &&& Int32.toUInt32 31)).toInt32) &&& 255), ((((a2).toUInt32 >>> ((16 : Int32).toUInt32 &&& Int32.toUInt32 31)).toInt32) &&& 255), ((((a2).toUInt32 >>> ((8 : Int32).toUInt32 &&& Int32.toUInt32 31)).toInt32) &&& 255), ((((a2).toUInt32 >>> ((0 : Int32).toUInt32 &&& Int32.toUInt32 31)).toInt32) &&& 255), ((((a3).toUInt32 >>> ((24 : Int32).toUInt32 &&& Int32.toUInt32 31)).toInt32) &&& 255), ((((a3).toUInt32 >>> ((16 : Int32).toUInt32 &&& Int32.toUInt32 31)).toInt32) &&& 255), ((((a3).toUInt32 >>> ((8 : Int32).toUInt32 &&& Int32.toUInt32 31)).toInt32) &&& 255), ((((a3).toUInt32 >>> ((0 : Int32).toUInt32 &&& Int32.toUInt32 31)).toInt32) &&& 255), ((((a4).toUInt32 >>> ((24 : Int32).toUInt32 &&& Int32.toUInt32 31)).toInt32) &&& 255), ((((a4).toUInt32 >>> ((16 : Int32).toUInt32 &&& Int32.toUInt32 31)).toInt32) &&& 255), ((((a4).toUInt32 >>> ((8 : Int32).toUInt32 &&& Int32.toUInt32 31)).toInt32) &&& 255), ((((a4).toUInt32 >>> ((0 : Int32).toUInt32 &&& Int32.toUInt32 31)).toInt32) &&& 255)] ++ List.replicate 384 0)))).set 174 (.inr (8, [.ref 175, .int 16])), n) 51 rfl [.ref 174, .int a4] [] (Nat.le_of_ble_eq_true rfl) rfl ?_ (fun _ => ?_)
  · refine Ev.mk rfl rfl ⟨Nat.le_of_ble_eq_true rfl, Or.inr (en_rcI (en_gs_eq (en_gs_ne (by decide) (en_gs_eq (en_gs_ne (by decide) (en_gs_eq (en_gs_ne (by decide) (en_gs_eq (en_gs_ne (by decide) (en_gs_eq (en_gs_ne (by decide) (en_gs_eq (en_gs_ne (by decide) (en_gs_eq (en_gs_ne (by decide) (en_gs_eq (en_gs_ne (by decide) (en_gs_eq (en_gs_ne (by decide) (en_gs_eq (en_gs_ne (by decide) (en_gs_eq (en_gs_ne (by decide) (en_gs_eq (en_gs_ne (by decide) hx_174)))))))))))))))))))))))) rfl)⟩ ?_
    show At _ none _ _ (0, [(0, .ref 174), (1, .int a4)], [], (((((((((((((((((((((((((hp_X ++ hp_M).set 175 (.inl (0, .inl ([((((a1).toUInt32 >>> ((24 : Int32).toUInt32 &&& Int32.toUInt32 31)).toInt32) &&& 255)] ++ List.replicate 399 0)))).set 174 (.inr (8, [.ref 175, .int 1]))).set 175 (.inl (0, .inl ([((((a1).toUInt32 >>> ((24 : Int32).toUInt32 &&& Int32.toUInt32 31)).toInt32) &&& 255), ((((a1).toUInt32 >>> ((16 : Int32).toUInt32 &&& Int32.toUInt32 31)).toInt32) &&& 255)] ++ List.replicate 398 0)))).set 174 (.inr (8, [.ref 175, .int 2]))).set 175 (.inl (0, .inl ([((((a1).toUInt32 >>> ((24 : Int32).toUInt32 &&& Int32.toUInt32 31)).toInt32) &&& 255), ((((a1).toUInt32 >>> ((16 : Int32).toUInt32 &&& Int32.toUInt32 31)).toInt32) &&& 255), ((((a1).toUInt32 >>> ((8 : Int32).toUInt32 &&& Int32.toUInt32 31)).toInt32) &&& 255)] ++ List.replicate 397 0)))).set 174 (.inr (8, [.ref 175, .int 3]))).set 175 (.inl (0, .inl ([((((a1).toUInt32 >>> ((24 : Int32).toUInt32 &&& Int32.toUInt32 31)).toInt32) &&& 255), ((((a1).toUInt32 >>> ((16 : Int32).toUInt32 &&& Int32.toUInt32 31)).toInt32) &&& 255), ((((a1).toUInt32 >>> ((8 : Int32).toUInt32 &&& Int32.toUInt32 31)).toInt32) &&& 255), ((((a1).toUInt32 >>> ((0 : Int32).toUInt32 &&& Int32.toUInt32 31)).toInt32) &&& 255)] ++ List.replicate 396 0)))).set 174 (.inr (8, [.ref 175, .int 4]))).set 175 (.inl (0, .inl ([((((a1).toUInt32 >>> ((24 : Int32).toUInt32 &&& Int32.toUInt32 31)).toInt32) &&& 255), ((((a1).toUInt32 >>> ((16 : Int32).toUInt32 &&& Int32.toUInt32 31)).toInt32) &&& 255), ((((a1).toUInt32 >>> ((8 : Int32).toUInt32 &&& Int32.toUInt32 31)).toInt32) &&& 255), ((((a1).toUInt32 >>> ((0 : Int32).toUInt32 &&& Int32.toUInt32 31)).toInt32) &&& 255), ((((a2).toUInt32 >>> ((24 : Int32).toUInt32 &&& Int32.toUInt32 31)).toInt32) &&& 255)] ++ List.replicate 395 0)))).set 174 (.inr (8, [.ref 175, .int 5]))).set 175 (.inl (0, .inl ([((((a1).toUInt32 >>> ((24 : Int32).toUInt32 &&& Int32.toUInt32 31)).toInt32) &&& 255), ((((a1).toUInt32 >>> ((16 : Int32).toUInt32 &&& Int32.toUInt32 31)).toInt32) &&& 255), ((((a1).toUInt32 >>> ((8 : Int32).toUInt32 &&& Int32.toUInt32 31)).toInt32) &&& 255), ((((a1).toUInt32 >>> ((0 : Int32).toUInt32 &&& Int32.toUInt32 31)).toInt32) &&& 255), ((((a2).toUInt32 >>> ((24 : Int32).toUInt32 &&& Int32.toUInt32 31)).toInt32) &&& 255), ((((a2).toUInt32 >>> ((16 : Int32).toUInt32 &&& Int32.toUInt32 31)).toInt32) &&& 255)] ++ List.replicate 394 0)))).set 174 (.inr (8, [.ref 175, .int 6]))).set 175 (.inl (0, .inl ([((((a1).toUInt32 >>> ((24 : Int32).toUInt32 &&& Int32.toUInt32 31)).toInt32) &&& 255), ((((a1).toUInt32 >>> ((16 : Int32).toUInt32 &&& Int32.toUInt32 31)).toInt32) &&& 255), ((((a1).toUInt32 >>> ((8 : Int32).toUInt32 &&& Int32.toUInt32 31)).toInt32) &&& 255), ((((a1).toUInt32 >>> ((0 : Int32).toUInt32 &&& Int32.toUInt32 31)).toInt32) &&& 255), ((((a2).toUInt32 >>> ((24 : Int32).toUInt32 &&& Int32.toUInt32 31)).toInt32) &&& 255), ((((a2).toUInt32 >>> ((16 : Int32).toUInt32 &&& Int32.toUInt32 31)).toInt32) &&& 255), ((((a2).toUInt32 >>> ((8 : Int32).toUInt32 &&& Int32.toUInt32 31)).toInt32) &&& 255)] ++ List.replicate 393 0)))).set 174 (.inr (8, [.ref 175, .int 7]))).set 175 (.inl (0, .inl ([((((a1).toUInt32 >>> ((24 : Int32).toUInt32 &&& Int32.toUInt32 31)).toInt32) &&& 255), ((((a1).toUInt32 >>> ((16 : Int32).toUInt32 &&& Int32.toUInt32 31)).toInt32) &&& 255), ((((a1).toUInt32 >>> ((8 : Int32).toUInt32 &&& Int32.toUInt32 31)).toInt32) &&& 255), ((((a1).toUInt32 >>> ((0 : Int32).toUInt32 &&& Int32.toUInt32 31)).toInt32) &&& 255), ((((a2).toUInt32 >>> ((24 : Int32).toUInt32 &&& Int32.toUInt32 31)).toInt32) &&& 255), ((((a2).toUInt32 >>> ((16 : Int32).toUInt32 &&& Int32.toUInt32 31)).toInt32) &&& 255), ((((a2).toUInt32 >>> ((8 : Int32).toUInt32 &&& Int32.toUInt32 31)).toInt32) &&& 255), ((((a2).toUInt32 >>> ((0 : Int32).toUInt32 &&& Int32.toUInt32 31)).toInt32) &&& 255)] ++ List.replicate 392 0)))).set 174 (.inr (8, [.ref 175, .int 8]))).set 175 (.inl (0, .inl ([((((a1).toUInt32 >>> ((24 : Int32).toUInt32 &&& Int32.toUInt32 31)).toInt32) &&& 255), ((((a1).toUInt32 >>> ((16 : Int32).toUInt32 &&& Int32.toUInt32 31)).toInt32) &&& 255), ((((a1).toUInt32 >>> ((8 : Int32).toUInt32 &&& Int32.toUInt32 31)).toInt32) &&& 255), ((((a1).toUInt32 >>> ((0 : Int32).toUInt32 &&& Int32.toUInt32 31)).toInt32) &&& 255), ((((a2).toUInt32 >>> ((24 : Int32).toUInt32 &&& Int32.toUInt32 31)).toInt32) &&& 255), ((((a2).toUInt32 >>> ((16 : Int32).toUInt32 &&& Int32.toUInt32 31)).toInt32) &&& 255), ((((a2).toUInt32 >>> ((8 : Int32).toUInt32 &&& Int32.toUInt32 31)).toInt32) &&& 255), ((((a2).toUInt32 >>> ((0 : Int32).toUInt32 &&& Int32.toUInt32 31)).toInt32) &&& 255), ((((a3).toUInt32 >>> ((24 : Int32).toUInt32 &&& Int32.toUInt32 31)).toInt32) &&& 255)] ++ List.replicate 391 0)))).set 174 (.inr (8, [.ref 175, .int 9]))).set 175 (.inl (0, .inl ([((((a1).toUInt32 >>> ((24 : Int32).toUInt32 &&& Int32.toUInt32 31)).toInt32) &&& 255), ((((a1).toUInt32 >>> ((16 : Int32).toUInt32 &&& Int32.toUInt32 31)).toInt32) &&& 255), ((((a1).toUInt32 >>> ((8 : Int32).toUInt32 &&& Int32.toUInt32 31)).toInt32) &&& 255), ((((a1).toUInt32 >>> ((0 : Int32).toUInt32 &&& Int32.toUInt32 31)).toInt32) &&& 255), ((((a2).toUInt32 >>> ((24 : Int32).toUInt32 &&& Int32.toUInt32 31)).toInt32) &&& 255), ((((a2).toUInt32 >>> ((16 : Int32).toUInt32 &&& Int32.toUInt32 31)).toInt32) &&& 255), ((((a2).toUInt32 >>> ((8 : Int32).toUInt32 &&& Int32.toUInt32 31)).toInt32) &&& 255), ((((a2).toUInt32 >>> ((0 : Int32).toUInt32 &&& Int32.toUInt32 31)).toInt32) &&& 255), ((((a3).toUInt32 >>> ((24 : Int32).toUInt32 &&& Int32.toUInt32 31)).toInt32) &&& 255), ((((a3).toUInt32 >>> ((16 : Int32).toUInt32 &&& Int32.toUInt32 31)).toInt32) &&& 255)] ++ List.replicate 390 0)))).set 174 (.inr (8, [.ref 175, .int 10]))).set 175 (.inl (0, .inl ([((((a1).toUInt32 >>> ((24 : Int32).toUInt32 &&& Int32.toUInt32 31)).toInt32) &&& 255), ((((a1).toUInt32 >>> ((16 : Int32).toUInt32 &&& Int32.toUInt32 31)).toInt32) &&& 255), ((((a1).toUInt32 >>> ((8 : Int32).toUInt32 &&& Int32.toUInt32 31)).toInt32) &&& 255), ((((a1).toUInt32 >>> ((0 : Int32).toUInt32 &&& Int32.toUInt32 31)).toInt32) &&& 255), ((((a2).toUInt32 >>> ((24 : Int32).toUInt32 &&& Int32.toUInt32 31)).toInt32) &&& 255), ((((a2).toUInt32 >>> ((16 : Int32).toUInt32 &&& Int32.toUInt32 31)).toInt32) &&& 255), ((((a2).toUInt32 >>> ((8 : Int32).toUInt32 &&& Int32.toUInt32 31)).toInt32) &&& 255), ((((a2).toUInt32 >>> ((0 : Int32).toUInt32 &&& Int32.toUInt32 31)).toInt32) &&& 255), ((((a3).toUInt32 >>> ((24 : Int32).toUInt32 &&& Int32.toUInt32 31)).toInt32) &&& 255), ((((a3).toUInt32 >>> ((16 : Int32).toUInt32 &&& Int32.toUInt32 31)).toInt32) &&& 255), ((((a3).toUInt32 >>> ((8 : Int32).toUInt32 &&& Int32.toUInt32 31)).toInt32) &&& 255)] ++ List.replicate 389 0)))).set 174 (.inr (8, [.ref 175, .int 11]))).set 175 (.inl (0, .inl ([((((a1).toUInt32 >>> ((24 : Int32).toUInt32 &&& Int32.toUInt32 31)).toInt32) &&& 255), ((((a1).toUInt32 >>> ((16 : Int32).toUInt32 &&& Int32.toUInt32 31)).toInt32) &&& 255), ((((a1).toUInt32 >>> ((8 : Int32).toUInt32 &&& Int32.toUInt32 31)).toInt32) &&& 255), ((((a1).toUInt32 >>> ((0 : Int32).toUInt32 &&& Int32.toUInt32 31)).toInt32) &&& 255), ((((a2).toUInt32 >>> ((24 : Int32).toUInt32 &&& Int32.toUInt32 31)).toInt32) &&& 255), ((((a2).toUInt32 >>> ((16 : Int32).toUInt32 &&& Int32.toUInt32 31)).toInt32) &&& 255), ((((a2).toUInt32 >>> ((8 : Int32).toUInt32 &&& Int32.toUInt32 31)).toInt32) &&& 255), ((((a2).toUInt32 >>> ((0 : Int32).toUInt32 &&& Int32.toUInt32 31)).toInt32) &&& 255), ((((a3).toUInt32 >>> ((24 : Int32).toUInt32 &&& Int32.toUInt32 31)).toInt32) &&& 255), ((((a3).toUInt32 >>> ((16 : Int32).toUInt32 &&& Int32.toUInt32 31)).toInt32) &&& 255), ((((a3).toUInt32 >>> ((8 : Int32).toUInt32 &&& Int32.toUInt32 31)).toInt32) &&& 255), ((((a3).toUInt32 >>> ((0 : Int32).toUInt32 &&& Int32.toUInt32 31)).toInt32) &&& 255)] ++ List.replicate 388 0)))).set 174 (.inr (8, [.ref 175, .int 12])), n)) _
    refine At.enter rfl ?_
    refine r_bipush 24 rfl ?_
    refine r_istore_n ([(2, .int 24), (0, .ref 174), (1, .int a4)]) rfl ?_
    refine Ar.fall 3 rfl ?_
    refine At.enter rfl ?_
    refine r_iload_n rfl ?_
    refine r_iff 7 rfl (by decide) ?_
    refine At.enter rfl ?_
    refine r_aload_n rfl ?_
    refine r_get (v := .int 12) (en_gs_eq (en_gs_ne (by decide) (en_gs_eq (en_gs_ne (by decide) (en_gs_eq (en_gs_ne (by decide) (en_gs_eq (en_gs_ne (by decide) (en_gs_eq (en_gs_ne (by decide) (en_gs_eq (en_gs_ne (by decide) (en_gs_eq (en_gs_ne (by decide) (en_gs_eq (en_gs_ne (by decide) (en_gs_eq (en_gs_ne (by decide) (en_gs_eq (en_gs_ne (by decide) (en_gs_eq (en_gs_ne (by decide) (en_gs_eq (en_gs_ne (by decide) hx_174)))))))))))))))))))))))) rfl ?_
    refine r_sipush 400 rfl ?_
    refine r_icf 17 rfl (by decide) ?_
    refine At.enter rfl ?_
    refine r_aload_n rfl ?_
    refine r_get (v := .ref 175) (en_gs_eq (en_gs_ne (by decide) (en_gs_eq (en_gs_ne (by decide) (en_gs_eq (en_gs_ne (by decide) (en_gs_eq (en_gs_ne (by decide) (en_gs_eq (en_gs_ne (by decide) (en_gs_eq (en_gs_ne (by decide) (en_gs_eq (en_gs_ne (by decide) (en_gs_eq (en_gs_ne (by decide) (en_gs_eq (en_gs_ne (by decide) (en_gs_eq (en_gs_ne (by decide) (en_gs_eq (en_gs_ne (by decide) (en_gs_eq (en_gs_ne (by decide) hx_174)))))))))))))))))))))))) rfl ?_
    refine r_aload_n rfl ?_
    refine r_get (v := .int 12) (en_gs_eq (en_gs_ne (by decide) (en_gs_eq (en_gs_ne (by decide) (en_gs_eq (en_gs_ne (by decide) (en_gs_eq (en_gs_ne (by decide) (en_gs_eq (en_gs_ne (by decide) (en_gs_eq (en_gs_ne (by decide) (en_gs_eq (en_gs_ne (by decide) (en_gs_eq (en_gs_ne (by decide) (en_gs_eq (en_gs_ne (by decide) (en_gs_eq (en_gs_ne (by decide) (en_gs_eq (en_gs_ne (by decide) (en_gs_eq (en_gs_ne (by decide) hx_174)))))))))))))))))))))))) rfl ?_
    refine r_iload_n rfl ?_
    refine r_iload_n rfl ?_
    refine r_iushr (((a4).toUInt32 >>> ((24 : Int32).toUInt32 &&& Int32.toUInt32 31)).toInt32) rfl ?_
    refine r_sipush 255 rfl ?_
    refine r_iand ((((a4).toUInt32 >>> ((24 : Int32).toUInt32 &&& Int32.toUInt32 31)).toInt32) &&& 255) rfl ?_
    refine r_iast (en_gs_ne (by decide) (en_gs_eq (en_gs_ne (by decide) (en_gs_eq (en_gs_ne (by decide) (en_gs_eq (en_gs_ne (by decide) (en_gs_eq (en_gs_ne (by decide) (en_gs_eq (en_gs_ne (by decide) (en_gs_eq (en_gs_ne (by decide) (en_gs_eq (en_gs_ne (by decide) (en_gs_eq (en_gs_ne (by decide) (en_gs_eq (en_gs_ne (by decide) (en_gs_eq (en_gs_ne (by decide) (en_gs_eq (en_gs_ne (by decide) (en_gs_eq hx_175)))))))))))))))))))))))) (by decide) (Nat.le_of_ble_eq_true rfl) ([((((a1).toUInt32 >>> ((24 : Int32).toUInt32 &&& Int32.toUInt32 31)).toInt32) &&& 255), ((((a1).toUInt32 >>> ((16 : Int32).toUInt32 &&& Int32.toUInt32 31)).toInt32) &&& 255), ((((a1).toUInt32 >>> ((8 : Int32).toUInt32 &&& Int32.toUInt32 31)).toInt32) &&& 255), ((((a1).toUInt32 >>> ((0 : Int32).toUInt32 &&& Int32.toUInt32 31)).toInt32) &&& 255), ((((a2).toUInt32 >>> ((24 : Int32).toUInt32 &&& Int32.toUInt32 31)).toInt32) &&& 255), ((((a2).toUInt32 >>> ((16 : Int32).toUInt32 &&& Int32.toUInt32 31)).toInt32) &&& 255), ((((a2).toUInt32 >>> ((8 : Int32).toUInt32 &&& Int32.toUInt32 31)).toInt32) &&& 255), ((((a2).toUInt32 >>> ((0 : Int32).toUInt32 &&& Int32.toUInt32 31)).toInt32) &&& 255), ((((a3).toUInt32 >>> ((24 : Int32).toUInt32 &&& Int32.toUInt32 31)).toInt32) &&& 255), ((((a3).toUInt32 >>> ((16 : Int32).toUInt32 &&& Int32.toUInt32 31)).toInt32) &&& 255), ((((a3).toUInt32 >>> ((8 : Int32).toUInt32 &&& Int32.toUInt32 31)).toInt32) &&& 255), ((((a3).toUInt32 >>> ((0 : Int32).toUInt32 &&& Int32.toUInt32 31)).toInt32) &&& 255), ((((a4).toUInt32 >>> ((24 : Int32).toUInt32 &&& Int32.toUInt32 31)).toInt32) &&& 255)] ++ List.replicate 387 0) rfl ?_
    refine r_aload_n rfl ?_
    refine r_dup rfl ?_
    refine r_get (v := .int 12) (en_gs_ne (by decide) (en_gs_eq (en_gs_ne (by decide) (en_gs_eq (en_gs_ne (by decide) (en_gs_eq (en_gs_ne (by decide) (en_gs_eq (en_gs_ne (by decide) (en_gs_eq (en_gs_ne (by decide) (en_gs_eq (en_gs_ne (by decide) (en_gs_eq (en_gs_ne (by decide) (en_gs_eq (en_gs_ne (by decide) (en_gs_eq (en_gs_ne (by decide) (en_gs_eq (en_gs_ne (by decide) (en_gs_eq (en_gs_ne (by decide) (en_gs_eq (en_gs_ne (by decide) hx_174))))))))))))))))))))))))) rfl ?_
    refine r_iconst 1 rfl ?_
    refine r_iadd 13 rfl ?_
    refine r_putf (en_gs_ne (by decide) (en_gs_eq (en_gs_ne (by decide) (en_gs_eq (en_gs_ne (by decide) (en_gs_eq (en_gs_ne (by decide) (en_gs_eq (en_gs_ne (by decide) (en_gs_eq (en_gs_ne (by decide) (en_gs_eq (en_gs_ne (by decide) (en_gs_eq (en_gs_ne (by decide) (en_gs_eq (en_gs_ne (by decide) (en_gs_eq (en_gs_ne (by decide) (en_gs_eq (en_gs_ne (by decide) (en_gs_eq (en_gs_ne (by decide) (en_gs_eq (en_gs_ne (by decide) hx_174))))))))))))))))))))))))) (Nat.le_of_ble_eq_true rfl) rfl [.ref 175, .int 13] rfl ?_
    refine r_iinc rfl 16 rfl ([(2, .int 16), (0, .ref 174), (1, .int a4)]) rfl ?_
    refine r_goto ?_
    refine At.enter rfl ?_
    refine r_iload_n rfl ?_
    refine r_iff 7 rfl (by decide) ?_
    refine At.enter rfl ?_
    refine r_aload_n rfl ?_
    refine r_get (v := .int 13) (en_gs_eq (en_gs_ne (by decide) (en_gs_eq (en_gs_ne (by decide) (en_gs_eq (en_gs_ne (by decide) (en_gs_eq (en_gs_ne (by decide) (en_gs_eq (en_gs_ne (by decide) (en_gs_eq (en_gs_ne (by decide) (en_gs_eq (en_gs_ne (by decide) (en_gs_eq (en_gs_ne (by decide) (en_gs_eq (en_gs_ne (by decide) (en_gs_eq (en_gs_ne (by decide) (en_gs_eq (en_gs_ne (by decide) (en_gs_eq (en_gs_ne (by decide) (en_gs_eq (en_gs_ne (by decide) hx_174)))))))))))))))))))))))))) rfl ?_
    refine r_sipush 400 rfl ?_
    refine r_icf 17 rfl (by decide) ?_
    refine At.enter rfl ?_
    refine r_aload_n rfl ?_
    refine r_get (v := .ref 175) (en_gs_eq (en_gs_ne (by decide) (en_gs_eq (en_gs_ne (by decide) (en_gs_eq (en_gs_ne (by decide) (en_gs_eq (en_gs_ne (by decide) (en_gs_eq (en_gs_ne (by decide) (en_gs_eq (en_gs_ne (by decide) (en_gs_eq (en_gs_ne (by decide) (en_gs_eq (en_gs_ne (by decide) (en_gs_eq (en_gs_ne (by decide) (en_gs_eq (en_gs_ne (by decide) (en_gs_eq (en_gs_ne (by decide) (en_gs_eq (en_gs_ne (by decide) (en_gs_eq (en_gs_ne (by decide) hx_174)))))))))))))))))))))))))) rfl ?_
    refine r_aload_n rfl ?_
    refine r_get (v := .int 13) (en_gs_eq (en_gs_ne (by decide) (en_gs_eq (en_gs_ne (by decide) (en_gs_eq (en_gs_ne (by decide) (en_gs_eq (en_gs_ne (by decide) (en_gs_eq (en_gs_ne (by decide) (en_gs_eq (en_gs_ne (by decide) (en_gs_eq (en_gs_ne (by decide) (en_gs_eq (en_gs_ne (by decide) (en_gs_eq (en_gs_ne (by decide) (en_gs_eq (en_gs_ne (by decide) (en_gs_eq (en_gs_ne (by decide) (en_gs_eq (en_gs_ne (by decide) (en_gs_eq (en_gs_ne (by decide) hx_174)))))))))))))))))))))))))) rfl ?_
    refine r_iload_n rfl ?_
    refine r_iload_n rfl ?_
    refine r_iushr (((a4).toUInt32 >>> ((16 : Int32).toUInt32 &&& Int32.toUInt32 31)).toInt32) rfl ?_
    refine r_sipush 255 rfl ?_
    refine r_iand ((((a4).toUInt32 >>> ((16 : Int32).toUInt32 &&& Int32.toUInt32 31)).toInt32) &&& 255) rfl ?_
    refine r_iast (en_gs_ne (by decide) (en_gs_eq (en_gs_ne (by decide) (en_gs_eq (en_gs_ne (by decide) (en_gs_eq (en_gs_ne (by decide) (en_gs_eq (en_gs_ne (by decide) (en_gs_eq (en_gs_ne (by decide) (en_gs_eq (en_gs_ne (by decide) (en_gs_eq (en_gs_ne (by decide) (en_gs_eq (en_gs_ne (by decide) (en_gs_eq (en_gs_ne (by decide) (en_gs_eq (en_gs_ne (by decide) (en_gs_eq (en_gs_ne (by decide) (en_gs_eq (en_gs_ne (by decide) (en_gs_eq hx_175)))))))))))))))))))))))))) (by decide) (Nat.le_of_ble_eq_true rfl) ([((((a1).toUInt32 >>> ((24 : Int32).toUInt32 &&& Int32.toUInt32 31)).toInt32) &&& 255), ((((a1).toUInt32 >>> ((16 : Int32).toUInt32 &&& Int32.toUInt32 31)).toInt32) &&& 255), ((((a1).toUInt32 >>> ((8 : Int32).toUInt32 &&& Int32.toUInt32 31)).toInt32) &&& 255), ((((a1).toUInt32 >>> ((0 : Int32).toUInt32 &&& Int32.toUInt32 31)).toInt32) &&& 255), ((((a2).toUInt32 >>> ((24 : Int32).toUInt32 &&& Int32.toUInt32 31)).toInt32) &&& 255), ((((a2).toUInt32 >>> ((16 : Int32).toUInt32 &&& Int32.toUInt32 31)).toInt32) &&& 255), ((((a2).toUInt32 >>> ((8 : Int32).toUInt32 &&& Int32.toUInt32 31)).toInt32) &&& 255), ((((a2).toUInt32 >>> ((0 : Int32).toUInt32 &&& Int32.toUInt32 31)).toInt32) &&& 255), ((((a3).toUInt32 >>> ((24 : Int32).toUInt32 &&& Int32.toUInt32 31)).toInt32) &&& 255), ((((a3).toUInt32 >>> ((16 : Int32).toUInt32 &&& Int32.toUInt32 31)).toInt32) &&& 255), ((((a3).toUInt32 >>> ((8 : Int32).toUInt32 &&& Int32.toUInt32 31)).toInt32) &&& 255), ((((a3).toUInt32 >>> ((0 : Int32).toUInt32 &&& Int32.toUInt32 31)).toInt32) &&& 255), ((((a4).toUInt32 >>> ((24 : Int32).toUInt32 &&& Int32.toUInt32 31)).toInt32) &&& 255), ((((a4).toUInt32 >>> ((16 : Int32).toUInt32 &&& Int32.toUInt32 31)).toInt32) &&& 255)] ++ List.replicate 386 0) rfl ?_
    refine r_aload_n rfl ?_
    refine r_dup rfl ?_
    refine r_get (v := .int 13) (en_gs_ne (by decide) (en_gs_eq (en_gs_ne (by decide) (en_gs_eq (en_gs_ne (by decide) (en_gs_eq (en_gs_ne (by decide) (en_gs_eq (en_gs_ne (by decide) (en_gs_eq (en_gs_ne (by decide) (en_gs_eq (en_gs_ne (by decide) (en_gs_eq (en_gs_ne (by decide) (en_gs_eq (en_gs_ne (by decide) (en_gs_eq (en_gs_ne (by decide) (en_gs_eq (en_gs_ne (by decide) (en_gs_eq (en_gs_ne (by decide) (en_gs_eq (en_gs_ne (by decide) (en_gs_eq (en_gs_ne (by decide) hx_174))))))))))))))))))))))))))) rfl ?_
    refine r_iconst 1 rfl ?_
    refine r_iadd 14 rfl ?_
    refine r_putf (en_gs_ne (by decide) (en_gs_eq (en_gs_ne (by decide) (en_gs_eq (en_gs_ne (by decide) (en_gs_eq (en_gs_ne (by decide) (en_gs_eq (en_gs_ne (by decide) (en_gs_eq (en_gs_ne (by decide) (en_gs_eq (en_gs_ne (by decide) (en_gs_eq (en_gs_ne (by decide) (en_gs_eq (en_gs_ne (by decide) (en_gs_eq (en_gs_ne (by decide) (en_gs_eq (en_gs_ne (by decide) (en_gs_eq (en_gs_ne (by decide) (en_gs_eq (en_gs_ne (by decide) (en_gs_eq (en_gs_ne (by decide) hx_174))))))))))))))))))))))))))) (Nat.le_of_ble_eq_true rfl) rfl [.ref 175, .int 14] rfl ?_
    refine r_iinc rfl 8 rfl ([(2, .int 8), (0, .ref 174), (1, .int a4)]) rfl ?_
    refine r_goto ?_
    refine At.enter rfl ?_
    refine r_iload_n rfl ?_
    refine r_iff 7 rfl (by decide) ?_
    refine At.enter rfl ?_
    refine r_aload_n rfl ?_
    refine r_get (v := .int 14) (en_gs_eq (en_gs_ne (by decide) (en_gs_eq (en_gs_ne (by decide) (en_gs_eq (en_gs_ne (by decide) (en_gs_eq (en_gs_ne (by decide) (en_gs_eq (en_gs_ne (by decide) (en_gs_eq (en_gs_ne (by decide) (en_gs_eq (en_gs_ne (by decide) (en_gs_eq (en_gs_ne (by decide) (en_gs_eq (en_gs_ne (by decide) (en_gs_eq (en_gs_ne (by decide) (en_gs_eq (en_gs_ne (by decide) (en_gs_eq (en_gs_ne (by decide) (en_gs_eq (en_gs_ne (by decide) (en_gs_eq (en_gs_ne (by decide) hx_174)))))))))))))))))))))))))))) rfl ?_
    refine r_sipush 400 rfl ?_
    refine r_icf 17 rfl (by decide) ?_
    refine At.enter rfl ?_
    refine r_aload_n rfl ?_
    refine r_get (v := .ref 175) (en_gs_eq (en_gs_ne (by decide) (en_gs_eq (en_gs_ne (by decide) (en_gs_eq (en_gs_ne (by decide) (en_gs_eq (en_gs_ne (by decide) (en_gs_eq (en_gs_ne (by decide) (en_gs_eq (en_gs_ne (by decide) (en_gs_eq (en_gs_ne (by decide) (en_gs_eq (en_gs_ne (by decide) (en_gs_eq (en_gs_ne (by decide) (en_gs_eq (en_gs_ne (by decide) (en_gs_eq (en_gs_ne (by decide) (en_gs_eq (en_gs_ne (by decide) (en_gs_eq (en_gs_ne (by decide) (en_gs_eq (en_gs_ne (by decide) hx_174)))))))))))))))))))))))))))) rfl ?_
    refine r_aload_n rfl ?_
    refine r_get (v := .int 14) (en_gs_eq (en_gs_ne (by decide) (en_gs_eq (en_gs_ne (by decide) (en_gs_eq (en_gs_ne (by decide) (en_gs_eq (en_gs_ne (by decide) (en_gs_eq (en_gs_ne (by decide) (en_gs_eq (en_gs_ne (by decide) (en_gs_eq (en_gs_ne (by decide) (en_gs_eq (en_gs_ne (by decide) (en_gs_eq (en_gs_ne (by decide) (en_gs_eq (en_gs_ne (by decide) (en_gs_eq (en_gs_ne (by decide) (en_gs_eq (en_gs_ne (by decide) (en_gs_eq (en_gs_ne (by decide) (en_gs_eq (en_gs_ne (by decide) hx_174)))))))))))))))))))))))))))) rfl ?_
    refine r_iload_n rfl ?_
    refine r_iload_n rfl ?_
    refine r_iushr (((a4).toUInt32 >>> ((8 : Int32).toUInt32 &&& Int32.toUInt32 31)).toInt32) rfl ?_
    refine r_sipush 255 rfl ?_
    refine r_iand ((((a4).toUInt32 >>> ((8 : Int32).toUInt32 &&& Int32.toUInt32 31)).toInt32) &&& 255) rfl ?_
    refine r_iast (en_gs_ne (by decide) (en_gs_eq (en_gs_ne (by decide) (en_gs_eq (en_gs_ne (by decide) (en_gs_eq (en_gs_ne (by decide) (en_gs_eq (en_gs_ne (by decide) (en_gs_eq (en_gs_ne (by decide) (en_gs_eq (en_gs_ne (by decide) (en_gs_eq (en_gs_ne (by decide) (en_gs_eq (en_gs_ne (by decide) (en_gs_eq (en_gs_ne (by decide) (en_gs_eq (en_gs_ne (by decide) (en_gs_eq (en_gs_ne (by decide) (en_gs_eq (en_gs_ne (by decide) (en_gs_eq (en_gs_ne (by decide) (en_gs_eq hx_175)))))))))))))))))))))))))))) (by decide) (Nat.le_of_ble_eq_true rfl) ([((((a1).toUInt32 >>> ((24 : Int32).toUInt32 &&& Int32.toUInt32 31)).toInt32) &&& 255), ((((a1).toUInt32 >>> ((16 : Int32).toUInt32 &&& Int32.toUInt32 31)).toInt32) &&& 255), ((((a1).toUInt32 >>> ((8 : Int32).toUInt32 &&& Int32.toUInt32 31)).toInt32) &&& 255), ((((a1).toUInt32 >>> ((0 : Int32).toUInt32 &&& Int32.toUInt32 31)).toInt32) &&& 255), ((((a2).toUInt32 >>> ((24 : Int32).toUInt32 &&& Int32.toUInt32 31)).toInt32) &&& 255), ((((a2).toUInt32 >>> ((16 : Int32).toUInt32 &&& Int32.toUInt32 31)).toInt32) &&& 255), ((((a2).toUInt32 >>> ((8 : Int32).toUInt32 &&& Int32.toUInt32 31)).toInt32) &&& 255), ((((a2).toUInt32 >>> ((0 : Int32).toUInt32 &&& Int32.toUInt32 31)).toInt32) &&& 255), ((((a3).toUInt32 >>> ((24 : Int32).toUInt32 &&& Int32.toUInt32 31)).toInt32) &&& 255), ((((a3).toUInt32 >>> ((16 : Int32).toUInt32 &&& Int32.toUInt32 31)).toInt32) &&& 255), ((((a3).toUInt32 >>> ((8 : Int32).toUInt32 &&& Int32.toUInt32 31)).toInt32) &&& 255), ((((a3).toUInt32 >>> ((0 : Int32).toUInt32 &&& Int32.toUInt32 31)).toInt32) &&& 255), ((((a4).toUInt32 >>> ((24 : Int32).toUInt32 &&& Int32.toUInt32 31)).toInt32) &&& 255), ((((a4).toUInt32 >>> ((16 : Int32).toUInt32 &&& Int32.toUInt32 31)).toInt32) &&& 255), ((((a4).toUInt32 >>> ((8 : Int32).toUInt32 &&& Int32.toUInt32 31)).toInt32) &&& 255)] ++ List.replicate 385 0) rfl ?_
    refine r_aload_n rfl ?_
    refine r_dup rfl ?_
    refine r_get (v := .int 14) (en_gs_ne (by decide) (en_gs_eq (en_gs_ne (by decide) (en_gs_eq (en_gs_ne (by decide) (en_gs_eq (en_gs_ne (by decide) (en_gs_eq (en_gs_ne (by decide) (en_gs_eq (en_gs_ne (by decide) (en_gs_eq (en_gs_ne (by decide) (en_gs_eq (en_gs_ne (by decide) (en_gs_eq (en_gs_ne (by decide) (en_gs_eq (en_gs_ne (by decide) (en_gs_eq (en_gs_ne (by decide) (en_gs_eq (en_gs_ne (by decide) (en_gs_eq (en_gs_ne (by decide) (en_gs_eq (en_gs_ne (by decide) (en_gs_eq (en_gs_ne (by decide) hx_174))))))))))))))))))))))))))))) rfl ?_
    refine r_iconst 1 rfl ?_
    refine r_iadd 15 rfl ?_
    refine r_putf (en_gs_ne (by decide) (en_gs_eq (en_gs_ne (by decide) (en_gs_eq (en_gs_ne (by decide) (en_gs_eq (en_gs_ne (by decide) (en_gs_eq (en_gs_ne (by decide) (en_gs_eq (en_gs_ne (by decide) (en_gs_eq (en_gs_ne (by decide) (en_gs_eq (en_gs_ne (by decide) (en_gs_eq (en_gs_ne (by decide) (en_gs_eq (en_gs_ne (by decide) (en_gs_eq (en_gs_ne (by decide) (en_gs_eq (en_gs_ne (by decide) (en_gs_eq (en_gs_ne (by decide) (en_gs_eq (en_gs_ne (by decide) (en_gs_eq (en_gs_ne (by decide) hx_174))))))))))))))))))))))))))))) (Nat.le_of_ble_eq_true rfl) rfl [.ref 175, .int 15] rfl ?_
    refine r_iinc rfl 0 rfl ([(2, .int 0), (0, .ref 174), (1, .int a4)]) rfl ?_
    refine r_goto ?_
    refine At.enter rfl ?_
    refine r_iload_n rfl ?_
    refine r_iff 7 rfl (by decide) ?_
    refine At.enter rfl ?_
    refine r_aload_n rfl ?_
    refine r_get (v := .int 15) (en_gs_eq (en_gs_ne (by decide) (en_gs_eq (en_gs_ne (by decide) (en_gs_eq (en_gs_ne (by decide) (en_gs_eq (en_gs_ne (by decide) (en_gs_eq (en_gs_ne (by decide) (en_gs_eq (en_gs_ne (by decide) (en_gs_eq (en_gs_ne (by decide) (en_gs_eq (en_gs_ne (by decide) (en_gs_eq (en_gs_ne (by decide) (en_gs_eq (en_gs_ne (by decide) (en_gs_eq (en_gs_ne (by decide) (en_gs_eq (en_gs_ne (by decide) (en_gs_eq (en_gs_ne (by decide) (en_gs_eq (en_gs_ne (by decide) (en_gs_eq (en_gs_ne (by decide) hx_174)))))))))))))))))))))))))))))) rfl ?_
    refine r_sipush 400 rfl ?_
    refine r_icf 17 rfl (by decide) ?_
    refine At.enter rfl ?_
    refine r_aload_n rfl ?_
    refine r_get (v := .ref 175) (en_gs_eq (en_gs_ne (by decide) (en_gs_eq (en_gs_ne (by decide) (en_gs_eq (en_gs_ne (by decide) (en_gs_eq (en_gs_ne (by decide) (en_gs_eq (en_gs_ne (by decide) (en_gs_eq (en_gs_ne (by decide) (en_gs_eq (en_gs_ne (by decide) (en_gs_eq (en_gs_ne (by decide) (en_gs_eq (en_gs_ne (by decide) (en_gs_eq (en_gs_ne (by decide) (en_gs_eq (en_gs_ne (by decide) (en_gs_eq (en_gs_ne (by decide) (en_gs_eq (en_gs_ne (by decide) (en_gs_eq (en_gs_ne (by decide) (en_gs_eq (en_gs_ne (by decide) hx_174)))))))))))))))))))))))))))))) rfl ?_
    refine r_aload_n rfl ?_
    refine r_get (v := .int 15) (en_gs_eq (en_gs_ne (by decide) (en_gs_eq (en_gs_ne (by decide) (en_gs_eq (en_gs_ne (by decide) (en_gs_eq (en_gs_ne (by decide) (en_gs_eq (en_gs_ne (by decide) (en_gs_eq (en_gs_ne (by decide) (en_gs_eq (en_gs_ne (by decide) (en_gs_eq (en_gs_ne (by decide) (en_gs_eq (en_gs_ne (by decide) (en_gs_eq (en_gs_ne (by decide) (en_gs_eq (en_gs_ne (by decide) (en_gs_eq (en_gs_ne (by decide) (en_gs_eq (en_gs_ne (by decide) (en_gs_eq (en_gs_ne (by decide) (en_gs_eq (en_gs_ne (by decide) hx_174)))))))))))))))))))))))))))))) rfl ?_
    refine r_iload_n rfl ?_
    refine r_iload_n rfl ?_
    refine r_iushr (((a4).toUInt32 >>> ((0 : Int32).toUInt32 &&& Int32.toUInt32 31)).toInt32) rfl ?_
    refine r_sipush 255 rfl ?_
    refine r_iand ((((a4).toUInt32 >>> ((0 : Int32).toUInt32 &&& Int32.toUInt32 31)).toInt32) &&& 255) rfl ?_
    refine r_iast (en_gs_ne (by decide) (en_gs_eq (en_gs_ne (by decide) (en_gs_eq (en_gs_ne (by decide) (en_gs_eq (en_gs_ne (by decide) (en_gs_eq (en_gs_ne (by decide) (en_gs_eq (en_gs_ne (by decide) (en_gs_eq (en_gs_ne (by decide) (en_gs_eq (en_gs_ne (by decide) (en_gs_eq (en_gs_ne (by decide) (en_gs_eq (en_gs_ne (by decide) (en_gs_eq (en_gs_ne (by decide) (en_gs_eq (en_gs_ne (by decide) (en_gs_eq (en_gs_ne (by decide) (en_gs_eq (en_gs_ne (by decide) (en_gs_eq (en_gs_ne (by decide) (en_gs_eq hx_175)))))))))))))))))))))))))))))) (by decide) (Nat.le_of_ble_eq_true rfl) ([((((a1).toUInt32 >>> ((24 : Int32).toUInt32 &&& Int32.toUInt32 31)).toInt32) &&& 255), ((((a1).toUInt32 >>> ((16 : Int32).toUInt32 &&& Int32.toUInt32 31)).toInt32) &&& 255), ((((a1).toUInt32 >>> ((8 : Int32).toUInt32 &&& Int32.toUInt32 31)).toInt32) &&& 255), ((((a1).toUInt32 >>> ((0 : Int32).toUInt32 &&& Int32.toUInt32 31)).toInt32) &&& 255), ((((a2).toUInt32 >>> ((24 : Int32).toUInt32 &&& Int32.toUInt32 31)).toInt32) &&& 255), ((((a2).toUInt32 >>> ((16 : Int32).toUInt32 &&& Int32.toUInt32 31)).toInt32) &&& 255), ((((a2).toUInt32 >>> ((8 : Int32).toUInt32 &&& Int32.toUInt32 31)).toInt32) &&& 255), ((((a2).toUInt32 >>> ((0 : Int32).toUInt32 &&& Int32.toUInt32 31)).toInt32) &&& 255), ((((a3).toUInt32 >>> ((24 : Int32).toUInt32 &&& Int32.toUInt32 31)).toInt32) &&& 255), ((((a3).toUInt32 >>> ((16 : Int32).toUInt32 &&& Int32.toUInt32 31)).toInt32) &&& 255), ((((a3).toUInt32 >>> ((8 : Int32).toUInt32 &&& Int32.toUInt32 31)).toInt32) &&& 255), ((((a3).toUInt32 >>> ((0 : Int32).toUInt32 &&& Int32.toUInt32 31)).toInt32) &&& 255), ((((a4).toUInt32 >>> ((24 : Int32).toUInt32 &&& Int32.toUInt32 31)).toInt32) &&& 255), ((((a4).toUInt32 >>> ((16 : Int32).toUInt32 &&& Int32.toUInt32 31)).toInt32) &&& 255), ((((a4).toUInt32 >>> ((8 : Int32).toUInt32 &&& Int32.toUInt32 31)).toInt32) &&& 255), ((((a4).toUInt32 >>> ((0 : Int32).toUInt32 &&& Int32.toUInt32 31)).toInt32) &&& 255)] ++ List.replicate 384 0) rfl ?_
    refine r_aload_n rfl ?_
    refine r_dup rfl ?_
    refine r_get (v := .int 15) (en_gs_ne (by decide) (en_gs_eq (en_gs_ne (by decide) (en_gs_eq (en_gs_ne (by decide) (en_gs_eq (en_gs_ne (by decide) (en_gs_eq (en_gs_ne (by decide) (en_gs_eq (en_gs_ne (by decide) (en_gs_eq (en_gs_ne (by decide) (en_gs_eq (en_gs_ne (by decide) (en_gs_eq (en_gs_ne (by decide) (en_gs_eq (en_gs_ne (by decide) (en_gs_eq (en_gs_ne (by decide) (en_gs_eq (en_gs_ne (by decide) (en_gs_eq (en_gs_ne (by decide) (en_gs_eq (en_gs_ne (by decide) (en_gs_eq (en_gs_ne (by decide) (en_gs_eq (en_gs_ne (by decide) hx_174))))))))))))))))))))))))))))))) rfl ?_
    refine r_iconst 1 rfl ?_
    refine r_iadd 16 rfl ?_
    refine r_putf (en_gs_ne (by decide) (en_gs_eq (en_gs_ne (by decide) (en_gs_eq (en_gs_ne (by decide) (en_gs_eq (en_gs_ne (by decide) (en_gs_eq (en_gs_ne (by decide) (en_gs_eq (en_gs_ne (by decide) (en_gs_eq (en_gs_ne (by decide) (en_gs_eq (en_gs_ne (by decide) (en_gs_eq (en_gs_ne (by decide) (en_gs_eq (en_gs_ne (by decide) (en_gs_eq (en_gs_ne (by decide) (en_gs_eq (en_gs_ne (by decide) (en_gs_eq (en_gs_ne (by decide) (en_gs_eq (en_gs_ne (by decide) (en_gs_eq (en_gs_ne (by decide) (en_gs_eq (en_gs_ne (by decide) hx_174))))))))))))))))))))))))))))))) (Nat.le_of_ble_eq_true rfl) rfl [.ref 175, .int 16] rfl ?_
    refine r_iinc rfl (-8) rfl ([(2, .int (-8)), (0, .ref 174), (1, .int a4)]) rfl ?_
    refine r_goto ?_
    refine At.enter rfl ?_
    refine r_iload_n rfl ?_
    refine r_ift (by decide) ?_
    refine At.enter rfl ?_
    refine r_vret ?_
    exact ⟨trivial, rfl, rfl⟩
  refine At.enter rfl ?_
  refine r_aload_n rfl ?_
  refine r_get (v := .ref 174) (en_gs_ne (by decide) (en_gs_ne (by decide) (en_gs_ne (by decide) (en_gs_ne (by decide) (en_gs_ne (by decide) (en_gs_ne (by decide) (en_gs_ne (by decide) (en_gs_ne (by decide) (en_gs_ne (by decide) (en_gs_ne (by decide) (en_gs_ne (by decide) (en_gs_ne (by decide) (en_gs_ne (by decide) (en_gs_ne (by decide) (en_gs_ne (by decide) (en_gs_ne (by decide) (en_gs_ne (by decide) (en_gs_ne (by decide) (en_gs_ne (by decide) (en_gs_ne (by decide) (en_gs_ne (by decide) (en_gs_ne (by decide) (en_gs_ne (by decide) (en_gs_ne (by decide) (en_gs_ne (by decide) (en_gs_ne (by decide) (en_gs_ne (by decide) (en_gs_ne (by decide) (en_gs_ne (by decide) (en_gs_ne (by decide) (en_gs_ne (by decide) (en_gs_ne (by decide) hx_0)))))))))))))))))))))))))))))))) rfl ?_
  refine r_iload rfl ?_
  refine r_callV1v (True)  (((((((((((((((((((((((((((((((((((((((((hp_X ++ hp_M).set 175 (.inl (0, .inl ([((((a1).toUInt32 >>> ((24 : Int32).toUInt32 &&& Int32.toUInt32 31)).toInt32) &&& 255)] ++ List.replicate 399 0)))).set 174 (.inr (8, [.ref 175, .int 1]))).set 175 (.inl (0, .inl ([((((a1).toUInt32 >>> ((24 : Int32).toUInt32 &&& Int32.toUInt32 31)).toInt32) &&& 255), ((((a1).toUInt32 >>> ((16 : Int32).toUInt32 &&& Int32.toUInt32 31)).toInt32) &&& 255)] ++ List.replicate 398 0)))).set 174 (.inr (8, [.ref 175, .int 2]))).set 175 (.inl (0, .inl ([((((a1).toUInt32 >>> ((24 : Int32).toUInt32 &&& Int32.toUInt32 31)).toInt32) &&& 255), ((((a1).toUInt32 >>> ((16 : Int32).toUInt32 &&& Int32.toUInt32 31)).toInt32) &&& 255), ((((a1).toUInt32 >>> ((8 : Int32).toUInt32 &&& Int32.toUInt32 31)).toInt32) &&& 255)] ++ List.replicate 397 0)))).set 174 (.inr (8, [.ref 175, .int 3]))).set 175 (.inl (0, .inl ([((((a1).toUInt32 >>> ((24 : Int32).toUInt32 &&& Int32.toUInt32 31)).toInt32) &&& 255), ((((a1).toUInt32 >>> ((16 : Int32).toUInt32 &&& Int32.toUInt32 31)).toInt32) &&& 255), ((((a1).toUInt32 >>> ((8 : Int32).toUInt32 &&& Int32.toUInt32 31)).toInt32) &&& 255), ((((a1).toUInt32 >>> ((0 : Int32).toUInt32 &&& Int32.toUInt32 31)).toInt32) &&& 255)] ++ List.replicate 396 0)))).set 174 (.inr (8, [.ref 175, .int 4]))).set 175 (.inl (0, .inl ([((((a1).toUInt32 >>> ((24 : Int32).toUInt32 &&& Int32.toUInt32 31)).toInt32) &&& 255), ((((a1).toUInt32 >>> ((16 : Int32).toUInt32 &&& Int32.toUInt32 31)).toInt32) &&& 255), ((((a1).toUInt32 >>> ((8 : Int32).toUInt32 &&& Int32.toUInt32 31)).toInt32) &&& 255), ((((a1).toUInt32 >>> ((0 : Int32).toUInt32 &&& Int32.toUInt32 31)).toInt32) &&& 255), ((((a2).toUInt32 >>> ((24 : Int32).toUInt32 &&& Int32.toUInt32 31)).toInt32) &&& 255)] ++ List.replicate 395 0)))).set 174 (.inr (8, [.ref 175, .int 5]))).set 175 (.inl (0, .inl ([((((a1).toUInt32 >>> ((24 : Int32).toUInt32 &&& Int32.toUInt32 31)).toInt32) &&& 255), ((((a1).toUInt32 >>> ((16 : Int32).toUInt32 &&& Int32.toUInt32 31)).toInt32) &&& 255), ((((a1).toUInt32 >>> ((8 : Int32).toUInt32 &&& Int32.toUInt32 31)).toInt32) &&& 255), ((((a1).toUInt32 >>> ((0 : Int32).toUInt32 &&& Int32.toUInt32 31)).toInt32) &&& 255), ((((a2).toUInt32 >>> ((24 : Int32).toUInt32 &&& Int32.toUInt32 31)).toInt32) &&& 255), ((((a2).toUInt32 >>> ((16 : Int32).toUInt32 &&& Int32.toUInt32 31)).toInt32) &&& 255)] ++ List.replicate 394 0)))).set 174 (.inr (8, [.ref 175, .int 6]))).set 175 (.inl (0, .inl ([((((a1).toUInt32 >>> ((24 : Int32).toUInt32 &&& Int32.toUInt32 31)).toInt32) &&& 255), ((((a1).toUInt32 >>> ((16 : Int32).toUInt32 &&& Int32.toUInt32 31)).toInt32) &&& 255), ((((a1).toUInt32 >>> ((8 : Int32).toUInt32 &&& Int32.toUInt32 31)).toInt32) &&& 255), ((((a1).toUInt32 >>> ((0 : Int32).toUInt32 &&& Int32.toUInt32 31)).toInt32) &&& 255), ((((a2).toUInt32 >>> ((24 : Int32).toUInt32 &&& Int32.toUInt32 31)).toInt32) &&& 255), ((((a2).toUInt32 >>> ((16 : Int32).toUInt32 &&& Int32.toUInt32 31)).toInt32) &&& 255), ((((a2).toUInt32 >>> ((8 : Int32).toUInt32 &&& Int32.toUInt32 31)).toInt32) &&& 255)] ++ List.replicate 393 0)))).set 174 (.inr (8, [.ref 175, .int 7]))).set 175 (.inl (0, .inl ([((((a1).toUInt32 >>> ((24 : Int32).toUInt32 &&& Int32.toUInt32 31)).toInt32) &&& 255), ((((a1).toUInt32 >>> ((16 : Int32).toUInt32 &&& Int32.toUInt32 31)).toInt32) &&& 255), ((((a1).toUInt32 >>> ((8 : Int32).toUInt32 &&& Int32.toUInt32 31)).toInt32) &&& 255), ((((a1).toUInt32 >>> ((0 : Int32).toUInt32 &&& Int32.toUInt32 31)).toInt32) &&& 255), ((((a2).toUInt32 >>> ((24 : Int32).toUInt32 &&& Int32.toUInt32 31)).toInt32) &&& 255), ((((a2).toUInt32 >>> ((16 : Int32).toUInt32 &&& Int32.toUInt32 31)).toInt32) &&& 255), ((((a2).toUInt32 >>> ((8 : Int32).toUInt32 &&& Int32.toUInt32 31)).toInt32) &&& 255), ((((a2).toUInt32 >>> ((0 : Int32).toUInt32 &&& Int32.toUInt32 31)).toInt32) &&& 255)] ++ List.replicate 392 0)))).set 174 (.inr (8, [.ref 175, .int 8]))).set 175 (.inl (0, .inl ([((((a1).toUInt32 >>> ((24 : Int32).toUInt32 &&& Int32.toUInt32 31)).toInt32) &&& 255), ((((a1).toUInt32 >>> ((16 : Int32).toUInt32 &&& Int32.toUInt32 31)).toInt32) &&& 255), ((((a1).toUInt32 >>> ((8 : Int32).toUInt32 &&& Int32.toUInt32 31)).toInt32) &&& 255), ((((a1).toUInt32 >>> ((0 : Int32).toUInt32 &&& Int32.toUInt32 31)).toInt32) &&& 255), ((((a2).toUInt32 >>> ((24 : Int32).toUInt32 &&& Int32.toUInt32 31)).toInt32) &&& 255), ((((a2).toUInt32 >>> ((16 : Int32).toUInt32 &&& Int32.toUInt32 31)).toInt32) &&& 255), ((((a2).toUInt32 >>> ((8 : Int32).toUInt32 &&& Int32.toUInt32 31)).toInt32) &&& 255), ((((a2).toUInt32 >>> ((0 : Int32).toUInt32 &&& Int32.toUInt32 31)).toInt32) &&& 255), ((((a3).toUInt32 >>> ((24 : Int32).toUInt32 &&& Int32.toUInt32 31)).toInt32) &&& 255)] ++ List.replicate 391 0)))).set 174 (.inr (8, [.ref 175, .int 9]))).set 175 (.inl (0, .inl ([((((a1).toUInt32 >>> ((24 : Int32).toUInt32 &&& Int32.toUInt32 31)).toInt32) &&& 255), ((((a1).toUInt32 >>> ((16 : Int32).toUInt32 &&& Int32.toUInt32 31)).toInt32) &&& 255), ((((a1).toUInt32 >>> ((8 : Int32).toUInt32 &&& Int32.toUInt32 31)).toInt32) &&& 255), ((((a1).toUInt32 >>> ((0 : Int32).toUInt32 &&& Int32.toUInt32 31)).toInt32) &&& 255), ((((a2).toUInt32 >>> ((24 : Int32).toUInt32 &&& Int32.toUInt32 31)).toInt32) &&& 255), ((((a2).toUInt32 >>> ((16 : Int32).toUInt32 &&& Int32.toUInt32 31)).toInt32) &&& 255), ((((a2).toUInt32 >>> ((8 : Int32).toUInt32 &&& Int32.toUInt32 31)).toInt32) &&& 255), ((((a2).toUInt32 >>> ((0 : Int32).toUInt32 &&& Int32.toUInt32 31)).toInt32) &&& 255), ((((a3).toUInt32 >>> ((24 : Int32).toUInt32 &&& Int32.toUInt32 31)).toInt32) &&& 255), ((((a3).toUInt32 >>> ((16 : Int32).toUInt32 &&& Int32.toUInt32 31)).toInt32) &&& 255)] ++ List.replicate 390 0)))).set 174 (.inr (8, [.ref 175, .int 10]))).set 175 (.inl (0, .inl ([((((a1).toUInt32 >>> ((24 : Int32).toUInt32 &&& Int32.toUInt32 31)).toInt32) &&& 255), ((((a1).toUInt32 >>> ((16 : Int32).toUInt32 &&& Int32.toUInt32 31)).toInt32) &&& 255), ((((a1).toUInt32 >>> ((8 : Int32).toUInt32 &&& Int32.toUInt32 31)).toInt32) &&& 255), ((((a1).toUInt32 >>> ((0 : Int32).toUInt32 &&& Int32.toUInt32 31)).toInt32) &&& 255), ((((a2).toUInt32 >>> ((24 : Int32).toUInt32 &&& Int32.toUInt32 31)).toInt32) &&& 255), ((((a2).toUInt32 >>> ((16 : Int32).toUInt32 &&& Int32.toUInt32 31)).toInt32) &&& 255), ((((a2).toUInt32 >>> ((8 : Int32).toUInt32 &&& Int32.toUInt32 31)).toInt32) &&& 255), ((((a2).toUInt32 >>> ((0 : Int32).toUInt32 &&& Int32.toUInt32 31)).toInt32) &&& 255), ((((a3).toUInt32 >>> ((24 : Int32).toUInt32 &&& Int32.toUInt32 31)).toInt32) &&& 255), ((((a3).toUInt32 >>> ((16 : Int32).toUInt32 &&& Int32.toUInt32 31)).toInt32) &&& 255), ((((a3).toUInt32 >>> ((8 : Int32).toUInt32 &&& Int32.toUInt32 31)).toInt32) &&& 255)] ++ List.replicate 389 0)))).set 174 (.inr (8, [.ref 175, .int 11]))).set 175 (.inl (0, .inl ([((((a1).toUInt32 >>> ((24 : Int32).toUInt32 &&& Int32.toUInt32 31)).toInt32) &&& 255), ((((a1).toUInt32 >>> ((16 : Int32).toUInt32 &&& Int32.toUInt32 31)).toInt32) &&& 255), ((((a1).toUInt32 >>> ((8 : Int32).toUInt32 &&& Int32.toUInt32 31)).toInt32) &&& 255), ((((a1).toUInt32 >>> ((0 : Int32).toUInt32 &&& Int32.toUInt32 31)).toInt32) &&& 255), ((((a2).toUInt32 >>> ((24 : Int32).toUInt32 &&& Int32.toUInt32 31)).toInt32) &&& 255), ((((a2).toUInt32 >>> ((16 : Int32).toUInt32 &&& Int32.toUInt32 31)).toInt32) &&& 255), ((((a2).toUInt32 >>> ((8 : Int32).toUInt32 &&& Int32.toUInt32 31)).toInt32) &&& 255), ((((a2).toUInt32 >>> ((0 : Int32).toUInt32 &&& Int32.toUInt32 31)).toInt32) &&& 255), ((((a3).toUInt32 >>> ((24 : Int32).toUInt32 &&& Int32.toUInt32 31)).toInt32) &&& 255), ((((a3).toUInt32 >>> ((16 : Int32).toUInt32 &&& Int32.toUInt32 31)).toInt32) &&& 255), ((((a3).toUInt32 >>> ((8 : Int32).toUInt32 &&& Int32.toUInt32 31)).toInt32) &&& 255), ((((a3).toUInt32 >>> ((0 : Int32).toUInt32 &&& Int32.toUInt32 31)).toInt32) &&& 255)] ++ List.replicate 388 0)))).set 174 (.inr (8, [.ref 175, .int 12]))).set 175 (.inl (0, .inl ([((((a1).toUInt32 >>> ((24 : Int32).toUInt32 &&& Int32.toUInt32 31)).toInt32) &&& 255), ((((a1).toUInt32 >>> ((16 : Int32).toUInt32 &&& Int32.toUInt32 31)).toInt32) &&& 255), ((((a1).toUInt32 >>> ((8 : Int32).toUInt32 &&& Int32.toUInt32 31)).toInt32) &&& 255), ((((a1).toUInt32 >>> ((0 : Int32).toUInt32 &&& Int32.toUInt32 31)).toInt32) &&& 255), ((((a2).toUInt32 >>> ((24 : Int32).toUInt32 &&& Int32.toUInt32 31)).toInt32) &&& 255), ((((a2).toUInt32 >>> ((16 : Int32).toUInt32 &&& Int32.toUInt32 31)).toInt32) &&& 255), ((((a2).toUInt32 >>> ((8 : Int32).toUInt32 &&& Int32.toUInt32 31)).toInt32) &&& 255), ((((a2).toUInt32 >>> ((0 : Int32).toUInt32 &&& Int32.toUInt32 31)).toInt32) &&& 255), ((((a3).toUInt32 >>> ((24 : Int32).toUInt32 &&& Int32.toUInt32 31)).toInt32) &&& 255), ((((a3).toUInt32 >>> ((16 : Int32).toUInt32 &&& Int32.toUInt32 31)).toInt32) &&& 255), ((((a3).toUInt32 >>> ((8 : Int32).toUInt32 &&& Int32.toUInt32 31)).toInt32) &&& 255), ((((a3).toUInt32 >>> ((0 : Int32).toUInt32 &&& Int32.toUInt32 31)).toInt32) &&& 255), ((((a4).toUInt32 >>> ((24 : Int32).toUInt32 &&& Int32.toUInt32 31)).toInt32) &&& 255)] ++ List.replicate 387 0)))).set 174 (.inr (8, [.ref 175, .int 13]))).set 175 (.inl (0, .inl ([((((a1).toUInt32 >>> ((24 : Int32).toUInt32 &&& Int32.toUInt32 31)).toInt32) &&& 255), ((((a1).toUInt32 >>> ((16 : Int32).toUInt32 &&& Int32.toUInt32 31)).toInt32) &&& 255), ((((a1).toUInt32 >>> ((8 : Int32).toUInt32 &&& Int32.toUInt32 31)).toInt32) &&& 255), ((((a1).toUInt32 >>> ((0 : Int32).toUInt32 &&& Int32.toUInt32 31)).toInt32) &&& 255), ((((a2).toUInt32 >>> ((24 : Int32).toUInt32 &&& Int32.toUInt32 31)).toInt32) &&& 255), ((((a2).toUInt32 >>> ((16 : Int32).toUInt32 &&& Int32.toUInt32 31)).toInt32) &&& 255), ((((a2).toUInt32 >>> ((8 : Int32).toUInt32 &&& Int32.toUInt32 31)).toInt32) &&& 255), ((((a2).toUInt32 >>> ((0 : Int32).toUInt32 &&& Int32.toUInt32 31)).toInt32) &&& 255), ((((a3).toUInt32 >>> ((24 : Int32).toUInt32 &&& Int32.toUInt32 31)).toInt32) &&& 255), ((((a3).toUInt32 >>> ((16 : Int32).toUInt32 &&& Int32.toUInt32 31)).toInt32) &&& 255), ((((a3).toUInt32 >>> ((8 : Int32).toUInt32 &&& Int32.toUInt32 31)).toInt32) &&& 255), ((((a3).toUInt32 >>> ((0 : Int32).toUInt32 &&& Int32.toUInt32 31)).toInt32) &&& 255), ((((a4).toUInt32 >>> ((24 : Int32).toUInt32 &&& Int32.toUInt32 31)).toInt32) &&& 255), ((((a4).toUInt32 >>> ((16 : Int32).toUInt32 &&& Int32.toUInt32 31)).toInt32) &&& 255)] ++ List.replicate 386 0)))).set 174 (.inr (8, [.ref 175, .int 14]))).set 175 (.inl (0, .inl ([((((a1).toUInt32 >>> ((24 : Int32).toUInt32 &&& Int32.toUInt32 31)).toInt32) &&& 255), ((((a1).toUInt32 >>> ((16 : Int32).toUInt32 &&& Int32.toUInt32 31)).toInt32) &&& 255), ((((a1).toUInt32 >>> ((8 : Int32).toUInt32 &&& Int32.toUInt32 31)).toInt32) &&& 255), ((((a1).toUInt32 >>> ((0 : Int32).toUInt32 &&& Int32.toUInt32 31)).toInt32) &&& 255), ((((a2).toUInt32 >>> ((24 : Int32).toUInt32 &&& Int32.toUInt32 31)).toInt32) &&& 255), ((((a2).toUInt32 >>> ((16 : Int32).toUInt32 &&& Int32.toUInt32 31)).toInt32) &&& 255), ((((a2).toUInt32 >>> ((8 : Int32).toUInt32 &&& Int32.toUInt32 31)).toInt32) &&& 255), ((((a2).toUInt32 >>> ((0 : Int32).toUInt32 &&& Int32.toUInt32 31)).toInt32) &&& 255), ((((a3).toUInt32 >>> ((24 : Int32).toUInt32 &&& Int32.toUInt32 31)).toInt32) &&& 255), ((((a3).toUInt32 >>> ((16 : Int32).toUInt32 &&& Int32.toUInt32 31)).toInt32) &&& 255), ((((a3).toUInt32 >>> ((8 : Int32).toUInt32 &&& Int32.toUInt32 31)).toInt32) &&& 255), ((((a3).toUInt32 >>> ((0 : Int32).toUInt32 &&& Int32.toUInt32 31)).toInt32) &&& 255), ((((a4).toUInt32 >>> ((24 : Int32).toUInt32 &&& Int32.toUInt32 31)).toInt32) &&& 255), ((((a4).toUInt32 >>> ((16 : Int32).toUInt32 &&& Int32.toUInt32 31)).toInt32) &&& 255), ((((a4).toUInt32 >>> ((8 : Int32).toUInt32 &&& Int32.toUInt32 31)).toInt32) &&& 255)] ++ List.replicate 385 0)))).set 174 (.inr (8, [.ref 175, .int 15]))).set 175 (.inl (0, .inl ([((((a1).toUInt32 >>> ((24 : Int32).toUInt32 &&& Int32.toUInt32 31)).toInt32) &&& 255), ((((a1).toUInt32 >>> ((16 : Int32).toUInt32 &&& Int32.toUInt32 31)).toInt32) &&& 255), ((((a1).toUInt32 >>> ((8 : Int32).toUInt32 &&& Int32.toUInt32 31)).toInt32) &&& 255), ((((a1).toUInt32 >>> ((0 : Int32).toUInt32 &&& Int32.toUInt32 31)).toInt32) &&& 255), ((((a2).toUInt32 >>> ((24 : Int32).toUInt32 &&& Int32.toUInt32 31)).toInt32) &&& 255), ((((a2).toUInt32 >>> ((16 : Int32).toUInt32 &&& Int32.toUInt32 31)).toInt32) &&& 255), ((((a2).toUInt32 >>> ((8 : Int32).toUInt32 &&& Int32.toUInt32 31)).toInt32) &&& 255), ((((a2).toUInt32 >>> ((0 : Int32).toUInt32 &&& Int32.toUInt32 31)).toInt32) &&& 255), ((((a3).toUInt32 >>> ((24 : Int32).toUInt32 &&& Int32.toUInt32 31)).toInt32) &&& 255), ((((a3).toUInt32 >>> ((16 : Int32).toUInt32 &&& Int32.toUInt32 31)).toInt32) &&& 255), ((((a3).toUInt32 >>> ((8 : Int32).toUInt32 &&& Int32.toUInt32 31)).toInt32) &&& 255), ((((a3).toUInt32 >>> ((0 : Int32).toUInt32 &&& Int32.toUInt32 31)).toInt32) &&& 255), ((((a4).toUInt32 >>> ((24 : Int32).toUInt32 &&& Int32.toUInt32 31)).toInt32) &&& 255), ((((a4).toUInt32 >>> ((16 : Int32).toUInt32 &&& Int32.toUInt32 31)).toInt32) &&& 255), ((((a4).toUInt32 >>> ((8 : Int32).toUInt32 &&& Int32.toUInt32 31)).toInt32) &&& 255), ((((a4).toUInt32 >>> ((0 : Int32).toUInt32 &&& Int32.toUInt32 31)).toInt32) &&& 255)] ++ List.replicate 384 0)))).set 174 (.inr (8, [.ref 175, .int 16]))).set 175 (.inl (0, .inl ([((((a1).toUInt32 >>> ((24 : Int32).toUInt32 &&& Int32.toUInt32 31)).toInt32) &&& 255), ((((a1).toUInt32 >>> ((16 : Int32).toUInt32 &&& Int32.toUInt32 31)).toInt32) &&& 255), ((((a1).toUInt32 >>> ((8 : Int32).toUInt32 &&& Int32.toUInt32 31)).toInt32) &&& 255), ((((a1).toUInt32 >>> ((0 : Int32).toUInt32 &&& Int32.toUInt32 31)).toInt32) &&& 255), ((((a2).toUInt32 >>> ((24 : Int32).toUInt32 &&& Int32.toUInt32 31)).toInt32) &&& 255), ((((a2).toUInt32 >>> ((16 : Int32).toUInt32 &&& Int32.toUInt32 31)).toInt32) &&& 255), ((((a2).toUInt32 >>> ((8 : Int32).toUInt32 &&& Int32.toUInt32 31)).toInt32) &&& 255), ((((a2).toUInt32 >>> ((0 : Int32).toUInt32 &&& Int32.toUInt32 31)).toInt32) &&& 255), ((((a3).toUInt32 >>> ((24 : Int32).toUInt32 &&& Int32.toUInt32 31)).toInt32) &&& 255), ((((a3).toUInt32 >>> ((16 : Int32).toUInt32 &&& Int32.toUInt32 31)).toInt32) &&& 255), ((((a3).toUInt32 >>> ((8 : Int32).toUInt32 &&& Int32.toUInt32 31)).toInt32) &&& 255), ((((a3).toUInt32 >>> ((0 : Int32).toUInt32 &&& Int32.toUInt32 31)).toInt32) &&& 255), ((((a4).toUInt32 >>> ((24 : Int32).toUInt32 &&& Int32.toUInt32 31)).toInt32) &&& 255), ((((a4).toUInt32 >>> ((16 : Int32).toUInt32 &&& Int32.toUInt32 31)).toInt32) &&& 255), ((((a4).toUInt32 >>> ((8 : Int32).toUInt32 &&& Int32.toUInt32 31)).toInt32) &&& 255), ((((a4).toUInt32 >>> ((0 : Int32).toUInt32 &&& Int32.toUInt32 31)).toInt32) &&& 255), ((((a5).toUInt32 >>> ((24 : Int32).toUInt32 &&& Int32.toUInt32 31)).toInt32) &&& 255)] ++ List.replicate 383 0)))).set 174 (.inr (8, [.ref 175, .int 17]))).set 175 (.inl (0, .inl ([((((a1).toUInt32 >>> ((24 : Int32).toUInt32 &&& Int32.toUInt32 31)).toInt32) &&& 255), ((((a1).toUInt32 >>> ((16 : Int32).toUInt32 &&& Int32.toUInt32 31)).toInt32) &&& 255), ((((a1).toUInt32 >>> ((8 : Int32).toUInt32 &&& Int32.toUInt32 31)).toInt32) &&& 255), ((((a1).toUInt32 >>> ((0 : Int32).toUInt32 &&& Int32.toUInt32 31)).toInt32) &&& 255), ((((a2).toUInt32 >>> ((24 : Int32).toUInt32 &&& Int32.toUInt32 31)).toInt32) &&& 255), ((((a2).toUInt32 >>> ((16 : Int32).toUInt32 &&& Int32.toUInt32 31)).toInt32) &&& 255), ((((a2).toUInt32 >>> ((8 : Int32).toUInt32 &&& Int32.toUInt32 31)).toInt32) &&& 255), ((((a2).toUInt32 >>> ((0 : Int32).toUInt32 &&& Int32.toUInt32 31)).toInt32) &&& 255), ((((a3).toUInt32 >>> ((24 : Int32).toUInt32 &&& Int32.toUInt32 31)).toInt32) &&& 255), ((((a3).toUInt32 >>> ((16 : Int32).toUInt32 &&& Int32.toUInt32 31)).toInt32) &&& 255), ((((a3).toUInt32 >>> ((8 : Int32).toUInt32 &&& Int32.toUInt32 31)).toInt32) &&& 255), ((((a3).toUInt32 >>> ((0 : Int32).toUInt32 &&& Int32.toUInt32 31)).toInt32) &&& 255), ((((a4).toUInt32 >>> ((24 : Int32).toUInt32 &&& Int32.toUInt32 31)).toInt32) &&& 255), ((((a4).toUInt32 >>> ((16 : Int32).toUInt32 &&& Int32.toUInt32 31)).toInt32) &&& 255), ((((a4).toUInt32 >>> ((8 : Int32).toUInt32 &&& Int32.toUInt32 31)).toInt32) &&& 255), ((((a4).toUInt32 >>> ((0 : Int32).toUInt32 &&& Int32.toUInt32 31)).toInt32) &&& 255), ((((a5).toUInt32 >>> ((24 : Int32).toUInt32 &&& Int32.toUInt32 31)).toInt32) &&& 255), ((((a5).toUInt32 >>> ((16 : Int32).toUInt32 &&& Int32.toUInt32 31)).toInt32) &&& 255)] ++ List.replicate 382 0)))).set 174 (.inr (8, [.ref 175, .int 18]))).set 175 (.inl (0, .inl ([((((a1).toUInt32 >>> ((24 : Int32).toUInt32 &&& Int32.toUInt32 31)).toInt32) &&& 255), ((((a1).toUInt32 >>> ((16 : Int32).toUInt32 &&& Int32.toUInt32 31)).toInt32) &&& 255), ((((a1).toUInt32 >>> ((8 : Int32).toUInt32 &&& Int32.toUInt32 31)).toInt32) &&& 255), ((((a1).toUInt32 >>> ((0 : Int32).toUInt32 &&& Int32.toUInt32 31)).toInt32) &&& 255), ((((a2).toUInt32 >>> ((24 : Int32).toUInt32 &&& Int32.toUInt32 31)).toInt32) &&& 255), ((((a2).toUInt32 >>> ((16 : Int32).toUInt32 &&& Int32.toUInt32 31)).toInt32) &&& 255), ((((a2).toUInt32 >>> ((8 : Int32).toUInt32 &&& Int32.toUInt32 31)).toInt32) &&& 255), ((((a2).toUInt32 >>> ((0 : Int32).toUInt32 &&& Int32.toUInt32 31)).toInt32) &&& 255), ((((a3).toUInt32 >>> ((24 : Int32).toUInt32 &&& Int32.toUInt32 31)).toInt32) &&& 255), ((((a3).toUInt32 >>> ((16 : Int32).toUInt32 &&& Int32.toUInt32 31)).toInt32) &&& 255), ((((a3).toUInt32 >>> ((8 : Int32).toUInt32 &&& Int32.toUInt32 31)).toInt32) &&& 255), ((((a3).toUInt32 >>> ((0 : Int32).toUInt32 &&& Int32.toUInt32 31)).toInt32) &&& 255), ((((a4).toUInt32 >>> ((24 : Int32).toUInt32 &&& Int32.toUInt32 31)).toInt32) &&& 255), ((((a4).toUInt32 >>> ((16 : Int32).toUInt32 &&& Int32.toUInt32 31)).toInt32) &&& 255), ((((a4).toUInt32 >>> ((8 : Int32).toUInt32 &&& Int32.toUInt32 31)).toInt32) &&& 255), ((((a4).toUInt32 >>> ((0 : Int32).toUInt32 &&& Int32.toUInt32 31)).toInt32) &&& 255), ((((a5).toUInt32 >>> ((24 : Int32).toUInt32 &&& Int32.toUInt32 31)).toInt32) &&& 255), ((((a5).toUInt32 >>> ((16 : Int32).toUInt32 &&& Int32.toUInt32 31)).toInt32) &&& 255), ((((a5).toUInt32 >>> ((8 : Int32).toUInt32 &&& Int32.toUInt32 31)).toInt32) &&& 255)] ++ List.replicate 381 0)))).set 174 (.inr (8, [.ref 175, .int 19]))).set 175 (.inl (0, .inl ([((((a1).toUInt32 >>> ((24 : Int32).toUInt32 &&& Int32.toUInt32 31)).toInt32) &&& 255), ((((a1).toUInt32 >>> ((16 : Int32).toUInt32 &&& Int32.toUInt32 31)).toInt32) &&& 255), ((((a1).toUInt32 >>> ((8 : Int32).toUInt32 &&& Int32.toUInt32 31)).toInt32) &&& 255), ((((a1).toUInt32 >>> ((0 : Int32).toUInt32 &&& Int32.toUInt32 31)).toInt32) &&& 255), ((((a2).toUInt32 >>> ((24 : Int32).toUInt32 &&& Int32.toUInt32 31)).toInt32) &&& 255), ((((a2).toUInt32 >>> ((16 : Int32).toUInt32 &&& Int32.toUInt32 31)).toInt32) &&& 255), ((((a2).toUInt32 >>> ((8 : Int32).toUInt32 &&& Int32.toUInt32 31)).toInt32) &&& 255), ((((a2).toUInt32 >>> ((0 : Int32).toUInt32 &&& Int32.toUInt32 31)).toInt32) &&& 255), ((((a3).toUInt32 >>> ((24 : Int32).toUInt32 &&& Int32.toUInt32 31)).toInt32) &&& 255), ((((a3).toUInt32 >>> ((16 : Int32).toUInt32 &&& Int32.toUInt32 31)).toInt32) &&& 255), ((((a3).toUInt32 >>> ((8 : Int32).toUInt32 &&& Int32.toUInt32 31)).toInt32) &&& 255), ((((a3).toUInt32 >>> ((0 : Int32).toUInt32 &&& Int32.toUInt32 31)).toInt32) &&& 255), ((((a4).toUInt32 >>> ((24 : Int32).toUInt32 &&& Int32.toUInt32 31)).toInt32) &&& 255), ((((a4).toUInt32 >>> ((16 : Int32).toUInt32 &&& Int32.toUInt32 31)).toInt32) &&& 255), ((((a4).toUInt32 >>> ((8 : Int32).toUInt32 &&& Int32.toUInt32 31)).toInt32) &&& 255), ((((a4).toUInt32 >>> ((0 : Int32).toUInt32 &&& Int32.toUInt32 31)).toInt32) &&& 255), ((((a5).toUInt32 >>> ((24 : Int32).toUInt32 &&& Int32.toUInt32 31)).toInt32) &&& 255), ((((a5).toUInt32 >>> ((16 : Int32).toUInt32 &&& Int32.toUInt32 31)).toInt32) &&& 255), ((((a5).toUInt32 >>> ((8 : Int32).toUInt32 &&& Int32.toUInt32 31)).toInt32) &&& 255), ((((a5).toUInt32 >>> ((0 : Int32).toUInt32 &&& Int32.toUInt32 31)).toInt32) &&& 255)] ++ List.replicate 380 0)))).set 174 (.inr (8, [.ref 175, .int 20])), n) 60 rfl [.ref 174, .int a5] [] (Nat.le_of_ble_eq_true rfl) rfl ?_ (fun _ => ?_)
  · refine Ev.mk rfl rfl ⟨Nat.le_of_ble_eq_true rfl, Or.inr (en_rcI (en_gs_eq (en_gs_ne (by decide) (en_gs_eq (en_gs_ne (by decide) (en_gs_eq (en_gs_ne (by decide) (en_gs_eq (en_gs_ne (by decide) (en_gs_eq (en_gs_ne (by decide) (en_gs_eq (en_gs_ne (by decide) (en_gs_eq (en_gs_ne (by decide) (en_gs_eq (en_gs_ne (by decide) (en_gs_eq (en_gs_ne (by decide) (en_gs_eq (en_gs_ne (by decide) (en_gs_eq (en_gs_ne (by decide) (en_gs_eq (en_gs_ne (by decide) (en_gs_eq (en_gs_ne (by decide) (en_gs_eq (en_gs_ne (by decide) (en_gs_eq (en_gs_ne (by decide) (en_gs_eq (en_gs_ne (by decide) hx_174)))))))))))))))))))))))))))))))) rfl)⟩ ?_
    show At _ none _ _ (0, [(0, .ref 174), (1, .int a5)], [], (((((((((((((((((((((((((((((((((hp_X ++ hp_M).set 175 (.inl (0, .inl ([((((a1).toUInt32 >>> ((24 : Int32).toUInt32 &&& Int32.toUInt32 31)).toInt32) &&& 255)] ++ List.replicate 399 0)))).set 174 (.inr (8, [.ref 175, .int 1]))).set 175 (.inl (0, .inl ([((((a1).toUInt32 >>> ((24 : Int32).toUInt32 &&& Int32.toUInt32 31)).toInt32) &&& 255), ((((a1).toUInt32 >>> ((16 : Int32).toUInt32 &&& Int32.toUInt32 31)).toInt32) &&& 255)] ++ List.replicate 398 0)))).set 174 (.inr (8, [.ref 175, .int 2]))).set 175 (.inl (0, .inl ([((((a1).toUInt32 >>> ((24 : Int32).toUInt32 &&& Int32.toUInt32 31)).toInt32) &&& 255), ((((a1).toUInt32 >>> ((16 : Int32).toUInt32 &&& Int32.toUInt32 31)).toInt32) &&& 255), ((((a1).toUInt32 >>> ((8 : Int32).toUInt32 &&& Int32.toUInt32 31)).toInt32) &&& 255)] ++ List.replicate 397 0)))).set 174 (.inr (8, [.ref 175, .int 3]))).set 175 (.inl (0, .inl ([((((a1).toUInt32 >>> ((24 : Int32).toUInt32 &&& Int32.toUInt32 31)).toInt32) &&& 255), ((((a1).toUInt32 >>> ((16 : Int32).toUInt32 &&& Int32.toUInt32 31)).toInt32) &&& 255), ((((a1).toUInt32 >>> ((8 : Int32).toUInt32 &&& Int32.toUInt32 31)).toInt32) &&& 255), ((((a1).toUInt32 >>> ((0 : Int32).toUInt32 &&& Int32.toUInt32 31)).toInt32) &&& 255)] ++ List.replicate 396 0)))).set 174 (.inr (8, [.ref 175, .int 4]))).set 175 (.inl (0, .inl ([((((a1).toUInt32 >>> ((24 : Int32).toUInt32 &&& Int32.toUInt32 31)).toInt32) &&& 255), ((((a1).toUInt32 >>> ((16 : Int32).toUInt32 &&& Int32.toUInt32 31)).toInt32) &&& 255), ((((a1).toUInt32 >>> ((8 : Int32).toUInt32 &&& Int32.toUInt32 31)).toInt32) &&& 255), ((((a1).toUInt32 >>> ((0 : Int32).toUInt32 &&& Int32.toUInt32 31)).toInt32) &&& 255), ((((a2).toUInt32 >>> ((24 : Int32).toUInt32 &&& Int32.toUInt32 31)).toInt32) &&& 255)] ++ List.replicate 395 0)))).set 174 (.inr (8, [.ref 175, .int 5]))).set 175 (.inl (0, .inl ([((((a1).toUInt32 >>> ((24 : Int32).toUInt32 &&& Int32.toUInt32 31)).toInt32) &&& 255), ((((a1).toUInt32 >>> ((16 : Int32).toUInt32 &&& Int32.toUInt32 31)).toInt32) &&& 255), ((((a1).toUInt32 >>> ((8 : Int32).toUInt32 &&& Int32.toUInt32 31)).toInt32) &&& 255), ((((a1).toUInt32 >>> ((0 : Int32).toUInt32 &&& Int32.toUInt32 31)).toInt32) &&& 255), ((((a2).toUInt32 >>> ((24 : Int32).toUInt32 &&& Int32.toUInt32 31)).toInt32) &&& 255), ((((a2).toUInt32 >>> ((16 : Int32).toUInt32 &&& Int32.toUInt32 31)).toInt32) &&& 255)] ++ List.replicate 394 0)))).set 174 (.inr (8, [.ref 175, .int 6]))).set 175 (.inl (0, .inl ([((((a1).toUInt32 >>> ((24 : Int32).toUInt32 &&& Int32.toUInt32 31)).toInt32) &&& 255), ((((a1).toUInt32 >>> ((16 : Int32).toUInt32 &&& Int32.toUInt32 31)).toInt32) &&& 255), ((((a1).toUInt32 >>> ((8 : Int32).toUInt32 &&& Int32.toUInt32 31)).toInt32) &&& 255), ((((a1).toUInt32 >>> ((0 : Int32).toUInt32 &&& Int32.toUInt32 31)).toInt32) &&& 255), ((((a2).toUInt32 >>> ((24 : Int32).toUInt32 &&& Int32.toUInt32 31)).toInt32) &&& 255), ((((a2).toUInt32 >>> ((16 : Int32).toUInt32 &&& Int32.toUInt32 31)).toInt32) &&& 255), ((((a2).toUInt32 >>> ((8 : Int32).toUInt32 &&& Int32.toUInt32 31)).toInt32) &&& 255)] ++ List.replicate 393 0)))).set 174 (.inr (8, [.ref 175, .int 7]))).set 175 (.inl (0, .inl ([((((a1).toUInt32 >>> ((24 : Int32).toUInt32 &&& Int32.toUInt32 31)).toInt32) &&& 255), ((((a1).toUInt32 >>> ((16 : Int32).toUInt32 &&& Int32.toUInt32 31)).toInt32) &&& 255), ((((a1).toUInt32 >>> ((8 : Int32).toUInt32 &&& Int32.toUInt32 31)).toInt32) &&& 255), ((((a1).toUInt32 >>> ((0 : Int32).toUInt32 &&& Int32.toUInt32 31)).toInt32) &&& 255), ((((a2).toUInt32 >>> ((24 : Int32).toUInt32 &&& Int32.toUInt32 31)).toInt32) &&& 255), ((((a2).toUInt32 >>> ((16 : Int32).toUInt32 &&& Int32.toUInt32 31)).toInt32) &&& 255), ((((a2).toUInt32 >>> ((8 : Int32).toUInt32 &&& Int32.toUInt32 31)).toInt32) &&& 255), ((((a2).toUInt32 >>> ((0 : Int32).toUInt32 &&& Int32.toUInt32 31)).toInt32) &&& 255)] ++ List.replicate 392 0)))).set 174 (.inr (8, [.ref 175, .int 8]))).set 175 (.inl (0, .inl ([((((a1).toUInt32 >>> ((24 : Int32).toUInt32 &&& Int32.toUInt32 31)).toInt32) &&& 255), ((((a1).toUInt32 >>> ((16 : Int32).toUInt32 &&& Int32.toUInt32 31)).toInt32) &&& 255), ((((a1).toUInt32 >>> ((8 : Int32).toUInt32 &&& Int32.toUInt32 31)).toInt32) &&& 255), ((((a1).toUInt32 >>> ((0 : Int32).toUInt32 &&& Int32.toUInt32 31)).toInt32) &&& 255), ((((a2).toUInt32 >>> ((24 : Int32).toUInt32 &&& Int32.toUInt32 31)).toInt32) &&& 255), ((((a2).toUInt32 >>> ((16 : Int32).toUInt32 &&& Int32.toUInt32 31)).toInt32) &&& 255), ((((a2).toUInt32 >>> ((8 : Int32).toUInt32 &&& Int32.toUInt32 31)).toInt32) &&& 255), ((((a2).toUInt32 >>> ((0 : Int32).toUInt32 &&& Int32.toUInt32 31)).toInt32) &&& 255), ((((a3).toUInt32 >>> ((24 : Int32).toUInt32 &&& Int32.toUInt32 31)).toInt32) &&& 255)] ++ List.replicate 391 0)))).set 174 (.inr (8, [.ref 175, .int 9]))).set 175 (.inl (0, .inl ([((((a1).toUInt32 >>> ((24 : Int32).toUInt32 &&& Int32.toUInt32 31)).toInt32) &&& 255), ((((a1).toUInt32 >>> ((16 : Int32).toUInt32 &&& Int32.toUInt32 31)).toInt32) &&& 255), ((((a1).toUInt32 >>> ((8 : Int32).toUInt32 &&& Int32.toUInt32 31)).toInt32) &&& 255), ((((a1).toUInt32 >>> ((0 : Int32).toUInt32 &&& Int32.toUInt32 31)).toInt32) &&& 255), ((((a2).toUInt32 >>> ((24 : Int32).toUInt32 &&& Int32.toUInt32 31)).toInt32) &&& 255), ((((a2).toUInt32 >>> ((16 : Int32).toUInt32 &&& Int32.toUInt32 31)).toInt32) &&& 255), ((((a2).toUInt32 >>> ((8 : Int32).toUInt32 &&& Int32.toUInt32 31)).toInt32) &&& 255), ((((a2).toUInt32 >>> ((0 : Int32).toUInt32 &&& Int32.toUInt32 31)).toInt32) &&& 255), ((((a3).toUInt32 >>> ((24 : Int32).toUInt32 &&& Int32.toUInt32 31)).toInt32) &&& 255), ((((a3).toUInt32 >>> ((16 : Int32).toUInt32 &&& Int32.toUInt32 31)).toInt32) &&& 255)] ++ List.replicate 390 0)))).set 174 (.inr (8, [.ref 175, .int 10]))).set 175 (.inl (0, .inl ([((((a1).toUInt32 >>> ((24 : Int32).toUInt32 &&& Int32.toUInt32 31)).toInt32) &&& 255), ((((a1).toUInt32 >>> ((16 : Int32).toUInt32 &&& Int32.toUInt32 31)).toInt32) &&& 255), ((((a1).toUInt32 >>> ((8 : Int32).toUInt32 &&& Int32.toUInt32 31)).toInt32) &&& 255), ((((a1).toUInt32 >>> ((0 : Int32).toUInt32 &&& Int32.toUInt32 31)).toInt32) &&& 255), ((((a2).toUInt32 >>> ((24 : Int32).toUInt32 &&& Int32.toUInt32 31)).toInt32) &&& 255), ((((a2).toUInt32 >>> ((16 : Int32).toUInt32 &&& Int32.toUInt32 31)).toInt32) &&& 255), ((((a2).toUInt32 >>> ((8 : Int32).toUInt32 &&& Int32.toUInt32 31)).toInt32) &&& 255), ((((a2).toUInt32 >>> ((0 : Int32).toUInt32 &&& Int32.toUInt32 31)).toInt32) &&& 255), ((((a3).toUInt32 >>> ((24 : Int32).toUInt32 &&& Int32.toUInt32 31)).toInt32) &&& 255), ((((a3).toUInt32 >>> ((16 : Int32).toUInt32 &&& Int32.toUInt32 31)).toInt32) &&& 255), ((((a3).toUInt32 >>> ((8 : Int32).toUInt32 &&& Int32.toUInt32 31)).toInt32) &&& 255)] ++ List.replicate 389 0)))).set 174 (.inr (8, [.ref 175, .int 11]))).set 175 (.inl (0, .inl ([((((a1).toUInt32 >>> ((24 : Int32).toUInt32 &&& Int32.toUInt32 31)).toInt32) &&& 255), ((((a1).toUInt32 >>> ((16 : Int32).toUInt32 &&& Int32.toUInt32 31)).toInt32) &&& 255), ((((a1).toUInt32 >>> ((8 : Int32).toUInt32 &&& Int32.toUInt32 31)).toInt32) &&& 255), ((((a1).toUInt32 >>> ((0 : Int32).toUInt32 &&& Int32.toUInt32 31)).toInt32) &&& 255), ((((a2).toUInt32 >>> ((24 : Int32).toUInt32 &&& Int32.toUInt32 31)).toInt32) &&& 255), ((((a2).toUInt32 >>> ((16 : Int32).toUInt32 &&& Int32.toUInt32 31)).toInt32) &&& 255), ((((a2).toUInt32 >>> ((8 : Int32).toUInt32 &&& Int32.toUInt32 31)).toInt32) &&& 255), ((((a2).toUInt32 >>> ((0 : Int32).toUInt32 &&& Int32.toUInt32 31)).toInt32) &&& 255), ((((a3).toUInt32 >>> ((24 : Int32).toUInt32 &&& Int32.toUInt32 31)).toInt32) &&& 255), ((((a3).toUInt32 >>> ((16 : Int32).toUInt32 &&& Int32.toUInt32 31)).toInt32) &&& 255), ((((a3).toUInt32 >>> ((8 : Int32).toUInt32 &&& Int32.toUInt32 31)).toInt32) &&& 255), ((((a3).toUInt32 >>> ((0 : Int32).toUInt32 &&& Int32.toUInt32 31)).toInt32) &&& 255)] ++ List.replicate 388 0)))).set 174 (.inr (8, [.ref 175, .int 12]))).set 175 (.inl (0, .inl ([((((a1).toUInt32 >>> ((24 : Int32).toUInt32 &&& Int32.toUInt32 31)).toInt32) &&& 255), ((((a1).toUInt32 >>> ((16 : Int32).toUInt32 &&& Int32.toUInt32 31)).toInt32) &&& 255), ((((a1).toUInt32 >>> ((8 : Int32).toUInt32 &&& Int32.toUInt32 31)).toInt32) &&& 255), ((((a1).toUInt32 >>> ((0 : Int32).toUInt32 &&& Int32.toUInt32 31)).toInt32) &&& 255), ((((a2).toUInt32 >>> ((24 : Int32).toUInt32 &&& Int32.toUInt32 31)).toInt32) &&& 255), ((((a2).toUInt32 >>> ((16 : Int32).toUInt32 &&& Int32.toUInt32 31)).toInt32) &&& 255), ((((a2).toUInt32 >>> ((8 : Int32).toUInt32 &&& Int32.toUInt32 31)).toInt32) &&& 255), ((((a2).toUInt32 >>> ((0 : Int32).toUInt32 &&& Int32.toUInt32 31)).toInt32) &&& 255), ((((a3).toUInt32 >>> ((24 : Int32).toUInt32 &&& Int32.toUInt32 31)).toInt32) &&& 255), ((((a3).toUInt32 >>> ((16 : Int32).toUInt32 &&& Int32.toUInt32 31)).toInt32) &&& 255), ((((a3).toUInt32 >>> ((8 : Int32).toUInt32 &&& Int32.toUInt32 31)).toInt32) &&& 255), ((((a3).toUInt32 >>> ((0 : Int32).toUInt32 &&& Int32.toUInt32 31)).toInt32) &&& 255), ((((a4).toUInt32 >>> ((24 : Int32).toUInt32 &&& Int32.toUInt32 31)).toInt32) &&& 255)] ++ List.replicate 387 0)))).set 174 (.inr (8, [.ref 175, .int 13]))).set 175 (.inl (0, .inl ([((((a1).toUInt32 >>> ((24 : Int32).toUInt32 &&& Int32.toUInt32 31)).toInt32) &&& 255), ((((a1).toUInt32 >>> ((16 : Int32).toUInt32 &&& Int32.toUInt32 31)).toInt32) &&& 255), ((((a1).toUInt32 >>> ((8 : Int32).toUInt32 &&& Int32.toUInt32 31)).toInt32) &&& 255), ((((a1).toUInt32 >>> ((0 : Int32).toUInt32 &&& Int32.toUInt32 31)).toInt32) &&& 255), ((((a2).toUInt32 >>> ((24 : Int32).toUInt32 &&& Int32.toUInt32 31)).toInt32) &&& 255), ((((a2).toUInt32 >>> ((16 : Int32).toUInt32 &&& Int32.toUInt32 31)).toInt32) &&& 255), ((((a2).toUInt32 >>> ((8 : Int32).toUInt32 &&& Int32.toUInt32 31)).toInt32) &&& 255), ((((a2).toUInt32 >>> ((0 : Int32).toUInt32 &&& Int32.toUInt32 31)).toInt32) &&& 255), ((((a3).toUInt32 >>> ((24 : Int32).toUInt32 &&& Int32.toUInt32 31)).toInt32) &&& 255), ((((a3).toUInt32 >>> ((16 : Int32).toUInt32 &&& Int32.toUInt32 31)).toInt32) &&& 255), ((((a3).toUInt32 >>> ((8 : Int32).toUInt32 &&& Int32.toUInt32 31)).toInt32) &&& 255), ((((a3).toUInt32 >>> ((0 : Int32).toUInt32 &&& Int32.toUInt32 31)).toInt32) &&& 255), ((((a4).toUInt32 >>> ((24 : Int32).toUInt32 &&& Int32.toUInt32 31)).toInt32) &&& 255), ((((a4).toUInt32 >>> ((16 : Int32).toUInt32 &&& Int32.toUInt32 31)).toInt32) &&& 255)] ++ List.replicate 386 0)))).set 174 (.inr (8, [.ref 175, .int 14]))).set 175 (.inl (0, .inl ([((((a1).toUInt32 >>> ((24 : Int32).toUInt32 &&& Int32.toUInt32 31)).toInt32) &&& 255), ((((a1).toUInt32 >>> ((16 : Int32).toUInt32 &&& Int32.toUInt32 31)).toInt32) &&& 255), ((((a1).toUInt32 >>> ((8 : Int32).toUInt32 &&& Int32.toUInt32 31)).toInt32) &&& 255), ((((a1).toUInt32 >>> ((0 : Int32).toUInt32 &&& Int32.toUInt32 31)).toInt32) &&& 255), ((((a2).toUInt32 >>> ((24 : Int32).toUInt32 &&& Int32.toUInt32 31)).toInt32) &&& 255), ((((a2).toUInt32 >>> ((16 : Int32).toUInt32 &&& Int32.toUInt32 31)).toInt32) &&& 255), ((((a2).toUInt32 >>> ((8 : Int32).toUInt32 &&& Int32.toUInt32 31)).toInt32) &&& 255), ((((a2).toUInt32 >>> ((0 : Int32).toUInt32 &&& Int32.toUInt32 31)).toInt32) &&& 255), ((((a3).toUInt32 >>> ((24 : Int32).toUInt32 &&& Int32.toUInt32 31)).toInt32) &&& 255), ((((a3).toUInt32 >>> ((16 : Int32).toUInt32 &&& Int32.toUInt32 31)).toInt32) &&& 255), ((((a3).toUInt32 >>> ((8 : Int32).toUInt32 &&& Int32.toUInt32 31)).toInt32) &&& 255), ((((a3).toUInt32 >>> ((0 : Int32).toUInt32 &&& Int32.toUInt32 31)).toInt32) &&& 255), ((((a4).toUInt32 >>> ((24 : Int32).toUInt32 &&& Int32.toUInt32 31)).toInt32) &&& 255), ((((a4).toUInt32 >>> ((16 : Int32).toUInt32 &&& Int32.toUInt32 31)).toInt32) &&& 255), ((((a4).toUInt32 >>> ((8 : Int32).toUInt32 &&& Int32.toUInt32 31)).toInt32) &&& 255)] ++ List.replicate 385 0)))).set 174 (.inr (8, [.ref 175, .int 15]))).set 175 (.inl (0, .inl ([((((a1).toUInt32 >>> ((24 : Int32).toUInt32 &&& Int32.toUInt32 31)).toInt32) &&& 255), ((((a1).toUInt32 >>> ((16 : Int32).toUInt32 &&& Int32.toUInt32 31)).toInt32) &&& 255), ((((a1).toUInt32 >>> ((8 : Int32).toUInt32 &&& Int32.toUInt32 31)).toInt32) &&& 255), ((((a1).toUInt32 >>> ((0 : Int32).toUInt32 &&& Int32.toUInt32 31)).toInt32) &&& 255), ((((a2).toUInt32 >>> ((24 : Int32).toUInt32 &&& Int32.toUInt32 31)).toInt32) &&& 255), ((((a2).toUInt32 >>> ((16 : Int32).toUInt32 &&& Int32.toUInt32 31)).toInt32) &&& 255), ((((a2).toUInt32 >>> ((8 : Int32).toUInt32 &&& Int32.toUInt32 31)).toInt32) &&& 255), ((((a2).toUInt32 >>> ((0 : Int32).toUInt32 &&& Int32.toUInt32 31)).toInt32) &&& 255), ((((a3).toUInt32 >>> ((24 : Int32).toUInt32 &&& Int32.toUInt32 31)).toInt32) &&& 255), ((((a3).toUInt32 >>> ((16 : Int32).toUInt32 &&& Int32.toUInt32 31)).toInt32) &&& 255), ((((a3).toUInt32 >>> ((8 : Int32).toUInt32 &&& Int32.toUInt32 31)).toInt32) &&& 255), ((((a3).toUInt32 >>> ((0 : Int32).toUInt32 &&& Int32.toUInt32 31)).toInt32) &&& 255), ((((a4).toUInt32 >>> ((24 : Int32).toUInt32 &&& Int32.toUInt32 31)).toInt32) &&& 255), ((((a4).toUInt32 >>> ((16 : Int32).toUInt32 &&& Int32.toUInt32 31)).toInt32) &&& 255), ((((a4).toUInt32 >>> ((8 : Int32).toUInt32 &&& Int32.toUInt32 31)).toInt32) &&& 255), ((((a4).toUInt32 >>> ((0 : Int32).toUInt32 &&& Int32.toUInt32 31)).toInt32) &&& 255)] ++ List.replicate 384 0)))).set 174 (.inr (8, [.ref 175, .int 16])), n)) _
    refine At.enter rfl ?_
    refine r_bipush 24 rfl ?_
    refine r_istore_n ([(2, .int 24), (0, .ref 174), (1, .int a5)]) rfl ?_
    refine Ar.fall 3 rfl ?_
    refine At.enter rfl ?_
    refine r_iload_n rfl ?_
    refine r_iff 7 rfl (by decide) ?_
    refine At.enter rfl ?_
    refine r_aload_n rfl ?_
    refine r_get (v := .int 16) (en_gs_eq (en_gs_ne (by decide) (en_gs_eq (en_gs_ne (by decide) (en_gs_eq (en_gs_ne (by decide) (en_gs_eq (en_gs_ne (by decide) (en_gs_eq (en_gs_ne (by decide) (en_gs_eq (en_gs_ne (by decide) (en_gs_eq (en_gs_ne (by decide) (en_gs_eq (en_gs_ne (by decide) (en_gs_eq (en_gs_ne (by decide) (en_gs_eq (en_gs_ne (by decide) (en_gs_eq (en_gs_ne (by decide) (en_gs_eq (en_gs_ne (by decide) (en_gs_eq (en_gs_ne (by decide) (en_gs_eq (en_gs_ne (by decide) (en_gs_eq (en_gs_ne (by decide) (en_gs_eq (en_gs_ne (by decide) hx_174)))))))))))))))))))))))))))))))) rfl ?_
    refine r_sipush 400 rfl ?_
    refine r_icf 17 rfl (by decide) ?_
    refine At.enter rfl ?_
    refine r_aload_n rfl ?_
    refine r_get (v := .ref 175) (en_gs_eq (en_gs_ne (by decide) (en_gs_eq (en_gs_ne (by decide) (en_gs_eq (en_gs_ne (by decide) (en_gs_eq (en_gs_ne (by decide) (en_gs_eq (en_gs_ne (by decide) (en_gs_eq (en_gs_ne (by decide) (en_gs_eq (en_gs_ne (by decide) (en_gs_eq (en_gs_ne (by decide) (en_gs_eq (en_gs_ne (by decide) (en_gs_eq (en_gs_ne (by decide) (en_gs_eq (en_gs_ne (by decide) (en_gs_eq (en_gs_ne (by decide) (en_gs_eq (en_gs_ne (by decide) (en_gs_eq (en_gs_ne (by decide) (en_gs_eq (en_gs_ne (by decide) (en_gs_eq (en_gs_ne (by decide) hx_174)))))))))))))))))))))))))))))))) rfl ?_
    refine r_aload_n rfl ?_
    refine r_get (v := .int 16) (en_gs_eq (en_gs_ne (by decide) (en_gs_eq (en_gs_ne (by decide) (en_gs_eq (en_gs_ne (by decide) (en_gs_eq (en_gs_ne (by decide) (en_gs_eq (en_gs_ne (by decide) (en_gs_eq (en_gs_ne (by decide) (en_gs_eq (en_gs_ne (by decide) (en_gs_eq (en_gs_ne (by decide) (en_gs_eq (en_gs_ne (by decide) (en_gs_eq (en_gs_ne (by decide) (en_gs_eq (en_gs_ne (by decide) (en_gs_eq (en_gs_ne (by decide) (en_gs_eq (en_gs_ne (by decide) (en_gs_eq (en_gs_ne (by decide) (en_gs_eq (en_gs_ne (by decide) (en_gs_eq (en_gs_ne (by decide) hx_174)))))))))))))))))))))))))))))))) rfl ?_
    refine r_iload_n rfl ?_
    refine r_iload_n rfl ?_
    refine r_iushr (((a5).toUInt32 >>> ((24 : Int32).toUInt32 &&& Int32.toUInt32 31)).toInt32) rfl ?_
    refine r_sipush 255 rfl ?_
    refine r_iand ((((a5).toUInt32 >>> ((24 : Int32).toUInt32 &&& Int32.toUInt32 31)).toInt32) &&& 255) rfl ?_
    refine r_iast (en_gs_ne (by decide) (en_gs_eq (en_gs_ne (by decide) (en_gs_eq (en_gs_ne (by decide) (en_gs_eq (en_gs_ne (by decide) (en_gs_eq (en_gs_ne (by decide) (en_gs_eq (en_gs_ne (by decide) (en_gs_eq (en_gs_ne (by decide) (en_gs_eq (en_gs_ne (by decide) (en_gs_eq (en_gs_ne (by decide) (en_gs_eq (en_gs_ne (by decide) (en_gs_eq (en_gs_ne (by decide) (en_gs_eq (en_gs_ne (by decide) (en_gs_eq (en_gs_ne (by decide) (en_gs_eq (en_gs_ne (by decide) (en_gs_eq (en_gs_ne (by decide) (en_gs_eq (en_gs_ne (by decide) (en_gs_eq hx_175)))))))))))))))))))))))))))))))) (by decide) (Nat.le_of_ble_eq_true rfl) ([((((a1).toUInt32 >>> ((24 : Int32).toUInt32 &&& Int32.toUInt32 31)).toInt32) &&& 255), ((((a1).toUInt32 >>> ((16 : Int32).toUInt32 &&& Int32.toUInt32 31)).toInt32) &&& 255), ((((a1).toUInt32 >>> ((8 : Int32).toUInt32 &&& Int32.toUInt32 31)).toInt32) &&& 255), ((((a1).toUInt32 >>> ((0 : Int32).toUInt32 &&& Int32.toUInt32 31)).toInt32) &&& 255), ((((a2).toUInt32 >>> ((24 : Int32).toUInt32 &&& Int32.toUInt32 31)).toInt32) &&& 255), ((((a2).toUInt32 >>> ((16 : Int32).toUInt32 &&& Int32.toUInt32 31)).toInt32) &&& 255), ((((a2).toUInt32 >>> ((8 : Int32).toUInt32 &&& Int32.toUInt32 31)).toInt32) &&& 255), ((((a2).toUInt32 >>> ((0 : Int32).toUInt32 &&& Int32.toUInt32 31)).toInt32) &&& 255), ((((a3).toUInt32 >>> ((24 : Int32).toUInt32 &&& Int32.toUInt32 31)).toInt32) &&& 255), ((((a3).toUInt32 >>> ((16 : Int32).toUInt32 &&& Int32.toUInt32 31)).toInt32) &&& 255), ((((a3).toUInt32 >>> ((8 : Int32).toUInt32 &&& Int32.toUInt32 31)).toInt32) &&& 255), ((((a3).toUInt32 >>> ((0 : Int32).toUInt32 &&& Int32.toUInt32 31)).toInt32) &&& 255), ((((a4).toUInt32 >>> ((24 : Int32).toUInt32 &&& Int32.toUInt32 31)).toInt32) &&& 255), ((((a4).toUInt32 >>> ((16 : Int32).toUInt32 &&& Int32.toUInt32 31)).toInt32) &&& 255), ((((a4).toUInt32 >>> ((8 : Int32).toUInt32 &&& Int32.toUInt32 31)).toInt32) &&& 255), ((((a4).toUInt32 >>> ((0 : Int32).toUInt32 &&& Int32.toUInt32 31)).toInt32) &&& 255), ((((a5).toUInt32 >>> ((24 : Int32).toUInt32 &&& Int32.toUInt32 31)).toInt32) &&& 255)] ++ List.replicate 383 0) rfl ?_
    refine r_aload_n rfl ?_
    refine r_dup rfl ?_
    refine r_get (v := .int 16) (en_gs_ne (by decide) (en_gs_eq (en_gs_ne (by decide) (en_gs_eq (en_gs_ne (by decide) (en_gs_eq (en_gs_ne (by decide) (en_gs_eq (en_gs_ne (by decide) (en_gs_eq (en_gs_ne (by decide) (en_gs_eq (en_gs_ne (by decide) (en_gs_eq (en_gs_ne (by decide) (en_gs_eq (en_gs_ne (by decide) (en_gs_eq (en_gs_ne (by decide) (en_gs_eq (en_gs_ne (by decide) (en_gs_eq (en_gs_ne (by decide) (en_gs_eq (en_gs_ne (by decide) (en_gs_eq (en_gs_ne (by decide) (en_gs_eq (en_gs_ne (by decide) (en_gs_eq (en_gs_ne (by decide) (en_gs_eq (en_gs_ne (by decide) hx_174))))))))))))))))))))))))))))))))) rfl ?_
    refine r_iconst 1 rfl ?_
    refine r_iadd 17 rfl ?_
    refine r_putf (en_gs_ne (by decide) (en_gs_eq (en_gs_ne (by decide) (en_gs_eq (en_gs_ne (by decide) (en_gs_eq (en_gs_ne (by decide) (en_gs_eq (en_gs_ne (by decide) (en_gs_eq (en_gs_ne (by decide) (en_gs_eq (en_gs_ne (by decide) (en_gs_eq (en_gs_ne (by decide) (en_gs_eq (en_gs_ne (by decide) (en_gs_eq (en_gs_ne (by decide) (en_gs_eq (en_gs_ne (by decide) (en_gs_eq (en_gs_ne (by decide) (en_gs_eq (en_gs_ne (by decide) (en_gs_eq (en_gs_ne (by decide) (en_gs_eq (en_gs_ne (by decide) (en_gs_eq (en_gs_ne (by decide) (en_gs_eq (en_gs_ne (by decide) hx_174))))))))))))))))))))))))))))))))) (Nat.le_of_ble_eq_true rfl) rfl [.ref 175, .int 17] rfl ?_
    refine r_iinc rfl 16 rfl ([(2, .int 16), (0, .ref 174), (1, .int a5)]) rfl ?_
    refine r_goto ?_
    refine At.enter rfl ?_
    refine r_iload_n rfl ?_
    refine r_iff 7 rfl (by decide) ?_
    refine At.enter rfl ?_
    refine r_aload_n rfl ?_
    refine r_get (v := .int 17) (en_gs_eq (en_gs_ne (by decide) (en_gs_eq (en_gs_ne (by decide) (en_gs_eq (en_gs_ne (by decide) (en_gs_eq (en_gs_ne (by decide) (en_gs_eq (en_gs_ne (by decide) (en_gs_eq (en_gs_ne (by decide) (en_gs_eq (en_gs_ne (by decide) (en_gs_eq (en_gs_ne (by decide) (en_gs_eq (en_gs_ne (by decide) (en_gs_eq (en_gs_ne (by decide) (en_gs_eq (en_gs_ne (by decide) (en_gs_eq (en_gs_ne (by decide) (en_gs_eq (en_gs_ne (by decide) (en_gs_eq (en_gs_ne (by decide) (en_gs_eq (en_gs_ne (by decide) (en_gs_eq (en_gs_ne (by decide) (en_gs_eq (en_gs_ne (by decide) hx_174)))))))))))))))))))))))))))))))))) rfl ?_
    refine r_sipush 400 rfl ?_
    refine r_icf 17 rfl (by decide) ?_
    refine At.enter rfl ?_
    refine r_aload_n rfl ?_
    refine r_get (v := .ref 175) (en_gs_eq (en_gs_ne (by decide) (en_gs_eq (en_gs_ne (by decide) (en_gs_eq (en_gs_ne (by decide) (en_gs_eq (en_gs_ne (by decide) (en_gs_eq (en_gs_ne (by decide) (en_gs_eq (en_gs_ne (by decide) (en_gs_eq (en_gs_ne (by decide) (en_gs_eq (en_gs_ne (by decide) (en_gs_eq (en_gs_ne (by decide) (en_gs_eq (en_gs_ne (by decide) (en_gs_eq (en_gs_ne (by decide) (en_gs_eq (en_gs_ne (by decide) (en_gs_eq (en_gs_ne (by decide) (en_gs_eq (en_gs_ne (by decide) (en_gs_eq (en_gs_ne (by decide) (en_gs_eq (en_gs_ne (by decide) (en_gs_eq (en_gs_ne (by decide) hx_174)))))))))))))))))))))))))))))))))) rfl ?_
    refine r_aload_n rfl ?_
    refine r_get (v := .int 17) (en_gs_eq (en_gs_ne (by decide) (en_gs_eq (en_gs_ne (by decide) (en_gs_eq (en_gs_ne (by decide) (en_gs_eq (en_gs_ne (by decide) (en_gs_eq (en_gs_ne (by decide) (en_gs_eq (en_gs_ne (by decide) (en_gs_eq (en_gs_ne (by decide) (en_gs_eq (en_gs_ne (by decide) (en_gs_eq (en_gs_ne (by decide) (en_gs_eq (en_gs_ne (by decide) (en_gs_eq (en_gs_ne (by decide) (en_gs_eq (en_gs_ne (by decide) (en_gs_eq (en_gs_ne (by decide) (en_gs_eq (en_gs_ne (by decide) (en_gs_eq (en_gs_ne (by decide) (en_gs_eq (en_gs_ne (by decide) (en_gs_eq (en_gs_ne (by decide) hx_174)))))))))))))))))))))))))))))))))) rfl ?_
    refine r_iload_n rfl ?_
    refine r_iload_n rfl ?_
    refine r_iushr (((a5).toUInt32 >>> ((16 : Int32).toUInt32 &&& Int32.toUInt32 31)).toInt32) rfl ?_
    refine r_sipush 255 rfl ?_
    refine r_iand ((((a5).toUInt32 >>> ((16 : Int32).toUInt32 &&& Int32.toUInt32 31)).toInt32) &&& 255) rfl ?_
    refine r_iast (en_gs_ne (by decide) (en_gs_eq (en_gs_ne (by decide) (en_gs_eq (en_gs_ne (by decide) (en_gs_eq (en_gs_ne (by decide) (en_gs_eq (en_gs_ne (by decide) (en_gs_eq (en_gs_ne (by decide) (en_gs_eq (en_gs_ne (by decide) (en_gs_eq (en_gs_ne (by decide) (en_gs_eq (en_gs_ne (by decide) (en_gs_eq (en_gs_ne (by decide) (en_gs_eq (en_gs_ne (by decide) (en_gs_eq (en_gs_ne (by decide) (en_gs_eq (en_gs_ne (by decide) (en_gs_eq (en_gs_ne (by decide) (en_gs_eq (en_gs_ne (by decide) (en_gs_eq (en_gs_ne (by decide) (en_gs_eq (en_gs_ne (by decide) (en_gs_eq hx_175)))))))))))))))))))))))))))))))))) (by decide) (Nat.le_of_ble_eq_true rfl) ([((((a1).toUInt32 >>> ((24 : Int32).toUInt32 &&& Int32.toUInt32 31)).toInt32) &&& 255), ((((a1).toUInt32 >>> ((16 : Int32).toUInt32 &&& Int32.toUInt32 31)).toInt32) &&& 255), ((((a1).toUInt32 >>> ((8 : Int32).toUInt32 &&& Int32.toUInt32 31)).toInt32) &&& 255), ((((a1).toUInt32 >>> ((0 : Int32).toUInt32 &&& Int32.toUInt32 31)).toInt32) &&& 255), ((((a2).toUInt32 >>> ((24 : Int32).toUInt32 &&& Int32.toUInt32 31)).toInt32) &&& 255), ((((a2).toUInt32 >>> ((16 : Int32).toUInt32 &&& Int32.toUInt32 31)).toInt32) &&& 255), ((((a2).toUInt32 >>> ((8 : Int32).toUInt32 &&& Int32.toUInt32 31)).toInt32) &&& 255), ((((a2).toUInt32 >>> ((0 : Int32).toUInt32 &&& Int32.toUInt32 31)).toInt32) &&& 255), ((((a3).toUInt32 >>> ((24 : Int32).toUInt32 &&& Int32.toUInt32 31)).toInt32) &&& 255), ((((a3).toUInt32 >>> ((16 : Int32).toUInt32 &&& Int32.toUInt32 31)).toInt32) &&& 255), ((((a3).toUInt32 >>> ((8 : Int32).toUInt32 &&& Int32.toUInt32 31)).toInt32) &&& 255), ((((a3).toUInt32 >>> ((0 : Int32).toUInt32 &&& Int32.toUInt32 31)).toInt32) &&& 255), ((((a4).toUInt32 >>> ((24 : Int32).toUInt32 &&& Int32.toUInt32 31)).toInt32) &&& 255), ((((a4).toUInt32 >>> ((16 : Int32).toUInt32 &&& Int32.toUInt32 31)).toInt32) &&& 255), ((((a4).toUInt32 >>> ((8 : Int32).toUInt32 &&& Int32.toUInt32 31)).toInt32) &&& 255), ((((a4).toUInt32 >>> ((0 : Int32).toUInt32 &&& Int32.toUInt32 31)).toInt32) &&& 255), ((((a5).toUInt32 >>> ((24 : Int32).toUInt32 &&& Int32.toUInt32 31)).toInt32) &&& 255), ((((a5).toUInt32 >>> ((16 : Int32).toUInt32 &&& Int32.toUInt32 31)).toInt32) &&& 255)] ++ List.replicate 382 0) rfl ?_
    refine r_aload_n rfl ?_
    refine r_dup rfl ?_
    refine r_get (v := .int 17) (en_gs_ne (by decide) (en_gs_eq (en_gs_ne (by decide) (en_gs_eq (en_gs_ne (by decide) (en_gs_eq (en_gs_ne (by decide) (en_gs_eq (en_gs_ne (by decide) (en_gs_eq (en_gs_ne (by decide) (en_gs_eq (en_gs_ne (by decide) (en_gs_eq (en_gs_ne (by decide) (en_gs_eq (en_gs_ne (by decide) (en_gs_eq (en_gs_ne (by decide) (en_gs_eq (en_gs_ne (by decide) (en_gs_eq (en_gs_ne (by decide) (en_gs_eq (en_gs_ne (by decide) (en_gs_eq (en_gs_ne (by decide) (en_gs_eq (en_gs_ne (by decide) (en_gs_eq (en_gs_ne (by decide) (en_gs_eq (en_gs_ne (by decide) (en_gs_eq (en_gs_ne (by decide) hx_174))))))))))))))))))))))))))))))))))) rfl ?_
    refine r_iconst 1 rfl ?_
    refine r_iadd 18 rfl ?_
    refine r_putf (en_gs_ne (by decide) (en_gs_eq (en_gs_ne (by decide) (en_gs_eq (en_gs_ne (by decide) (en_gs_eq (en_gs_ne (by decide) (en_gs_eq (en_gs_ne (by decide) (en_gs_eq (en_gs_ne (by decide) (en_gs_eq (en_gs_ne (by decide) (en_gs_eq (en_gs_ne (by decide) (en_gs_eq (en_gs_ne (by decide) (en_gs_eq (en_gs_ne (by decide) (en_gs_eq (en_gs_ne (by decide) (en_gs_eq (en_gs_ne (by decide) (en_gs_eq (en_gs_ne (by decide) (en_gs_eq (en_gs_ne (by decide) (en_gs_eq (en_gs_ne (by decide) (en_gs_eq (en_gs_ne (by decide) (en_gs_eq (en_gs_ne (by decide) (en_gs_eq (en_gs_ne (by decide) hx_174))))))))))))))))))))))))))))))))))) (Nat.le_of_ble_eq_true rfl) rfl [.ref 175, .int 18] rfl ?_
    refine r_iinc rfl 8 rfl ([(2, .int 8), (0, .ref 174), (1, .int a5)]) rfl ?_
    refine r_goto ?_
    refine At.enter rfl ?_
    refine r_iload_n rfl ?_
    refine r_iff 7 rfl (by decide) ?_
    refine At.enter rfl ?_
    refine r_aload_n rfl ?_
    refine r_get (v := .int 18) (en_gs_eq (en_gs_ne (by decide) (en_gs_eq (en_gs_ne (by decide) (en_gs_eq (en_gs_ne (by decide) (en_gs_eq (en_gs_ne (by decide) (en_gs_eq (en_gs_ne (by decide) (en_gs_eq (en_gs_ne (by decide) (en_gs_eq (en_gs_ne (by decide) (en_gs_eq (en_gs_ne (by decide) (en_gs_eq (en_gs_ne (by decide) (en_gs_eq (en_gs_ne (by decide) (en_gs_eq (en_gs_ne (by decide) (en_gs_eq (en_gs_ne (by decide) (en_gs_eq (en_gs_ne (by decide) (en_gs_eq (en_gs_ne (by decide) (en_gs_eq (en_gs_ne (by decide) (en_gs_eq (en_gs_ne (by decide) (en_gs_eq (en_gs_ne (by decide) (en_gs_eq (en_gs_ne (by decide) hx_174)))))))))))))))))))))))))))))))))))) rfl ?_
    refine r_sipush 400 rfl ?_
    refine r_icf 17 rfl (by decide) ?_
    refine At.enter rfl ?_
    refine r_aload_n rfl ?_
    refine r_get (v := .ref 175) (en_gs_eq (en_gs_ne (by decide) (en_gs_eq (en_gs_ne (by decide) (en_gs_eq (en_gs_ne (by decide) (en_gs_eq (en_gs_ne (by decide) (en_gs_eq (en_gs_ne (by decide) (en_gs_eq (en_gs_ne (by decide) (en_gs_eq (en_gs_ne (by decide) (en_gs_eq (en_gs_ne (by decide) (en_gs_eq (en_gs_ne (by decide) (en_gs_eq (en_gs_ne (by decide) (en_gs_eq (en_gs_ne (by decide) (en_gs_eq (en_gs_ne (by decide) (en_gs_eq (en_gs_ne (by decide) (en_gs_eq (en_gs_ne (by decide) (en_gs_eq (en_gs_ne (by decide) (en_gs_eq (en_gs_ne (by decide) (en_gs_eq (en_gs_ne (by decide) (en_gs_eq (en_gs_ne (by decide) hx_174)))))))))))))))))))))))))))))))))))) rfl ?_
    refine r_aload_n rfl ?_
    refine r_get (v := .int 18) (en_gs_eq (en_gs_ne (by decide) (en_gs_eq (en_gs_ne (by decide) (en_gs_eq (en_gs_ne (by decide) (en_gs_eq (en_gs_ne (by decide) (en_gs_eq (en_gs_ne (by decide) (en_gs_eq (en_gs_ne (by decide) (en_gs_eq (en_gs_ne (by decide) (en_gs_eq (en_gs_ne (by decide) (en_gs_eq (en_gs_ne (by decide) (en_gs_eq (en_gs_ne (by decide) (en_gs_eq (en_gs_ne (by decide) (en_gs_eq (en_gs_ne (by decide) (en_gs_eq (en_gs_ne (by decide) (en_gs_eq (en_gs_ne (by decide) (en_gs_eq (en_gs_ne (by decide) (en_gs_eq (en_gs_ne (by decide) (en_gs_eq (en_gs_ne (by decide) (en_gs_eq (en_gs_ne (by decide) hx_174)))))))))))))))))))))))))))))))))))) rfl ?_
    refine r_iload_n rfl ?_
    refine r_iload_n rfl ?_
    refine r_iushr (((a5).toUInt32 >>> ((8 : Int32).toUInt32 &&& Int32.toUInt32 31)).toInt32) rfl ?_
    refine r_sipush 255 rfl ?_
    refine r_iand ((((a5).toUInt32 >>> ((8 : Int32).toUInt32 &&& Int32.toUInt32 31)).toInt32) &&& 255) rfl ?_
    refine r_iast (en_gs_ne (by decide) (en_gs_eq (en_gs_ne (by decide) (en_gs_eq (en_gs_ne (by decide) (en_gs_eq (en_gs_ne (by decide) (en_gs_eq (en_gs_ne (by decide) (en_gs_eq (en_gs_ne (by decide) (en_gs_eq (en_gs_ne (by decide) (en_gs_eq (en_gs_ne (by decide) (en_gs_eq (en_gs_ne (by decide) (en_gs_eq (en_gs_ne (by decide) (en_gs_eq (en_gs_ne (by decide) (en_gs_eq (en_gs_ne (by decide) (en_gs_eq (en_gs_ne (by decide) (en_gs_eq (en_gs_ne (by decide) (en_gs_eq (en_gs_ne (by decide) (en_gs_eq (en_gs_ne (by decide) (en_gs_eq (en_gs_ne (by decide) (en_gs_eq (en_gs_ne (by decide) (en_gs_eq hx_175)))))))))))))))))))))))))))))))))))) (by decide) (Nat.le_of_ble_eq_true rfl) ([((((a1).toUInt32 >>> ((24 : Int32).toUInt32 &&& Int32.toUInt32 31)).toInt32) &&& 255), ((((a1).toUInt32 >>> ((16 : Int32).toUInt32 &&& Int32.toUInt32 31)).toInt32) &&& 255), ((((a1).toUInt32 >>> ((8 : Int32).toUInt32 &&& Int32.toUInt32 31)).toInt32) &&& 255), ((((a1).toUInt32 >>> ((0 : Int32).toUInt32 &&& Int32.toUInt32 31)).toInt32) &&& 255), ((((a2).toUInt32 >>> ((24 : Int32).toUInt32 &&& Int32.toUInt32 31)).toInt32) &&& 255), ((((a2).toUInt32 >>> ((16 : Int32).toUInt32 &&& Int32.toUInt32 31)).toInt32) &&& 255), ((((a2).toUInt32 >>> ((8 : Int32).toUInt32 &&& Int32.toUInt32 31)).toInt32) &&& 255), ((((a2).toUInt32 >>> ((0 : Int32).toUInt32 &&& Int32.toUInt32 31)).toInt32) &&& 255), ((((a3).toUInt32 >>> ((24 : Int32).toUInt32 &&& Int32.toUInt32 31)).toInt32) &&& 255), ((((a3).toUInt32 >>> ((16 : Int32).toUInt32 &&& Int32.toUInt32 31)).toInt32) &&& 255), ((((a3).toUInt32 >>> ((8 : Int32).toUInt32 &&& Int32.toUInt32 31)).toInt32) &&& 255), ((((a3).toUInt32 >>> ((0 : Int32).toUInt32 &&& Int32.toUInt32 31)).toInt32) &&& 255), ((((a4).toUInt32 >>> ((24 : Int32).toUInt32 &&& Int32.toUInt32 31)).toInt32) &&& 255), ((((a4).toUInt32 >>> ((16 : Int32).toUInt32 &&& Int32.toUInt32 31)).toInt32) &&& 255), ((((a4).toUInt32 >>> ((8 : Int32).toUInt32 &&& Int32.toUInt32 31)).toInt32) &&& 255), ((((a4).toUInt32 >>> ((0 : Int32).toUInt32 &&& Int32.toUInt32 31)).toInt32) &&& 255), ((((a5).toUInt32 >>> ((24 : Int32).toUInt32 &&& Int32.toUInt32 31)).toInt32) &&& 255), ((((a5).toUInt32 >>> ((16 : Int32).toUInt32 &&& Int32.toUInt32 31)).toInt32) &&& 255), ((((a5).toUInt32 >>> ((8 : Int32).toUInt32 &&& Int32.toUInt32 31)).toInt32) &&& 255)] ++ List.replicate 381 0) rfl ?_
    refine r_aload_n rfl ?_
    refine r_dup rfl ?_
    refine r_get (v := .int 18) (en_gs_ne (by decide) (en_gs_eq (en_gs_ne (by decide) (en_gs_eq (en_gs_ne (by decide) (en_gs_eq (en_gs_ne (by decide) (en_gs_eq (en_gs_ne (by decide) (en_gs_eq (en_gs_ne (by decide) (en_gs_eq (en_gs_ne (by decide) (en_gs_eq (en_gs_ne (by decide) (en_gs_eq (en_gs_ne (by decide) (en_gs_eq (en_gs_ne (by decide) (en_gs_eq (en_gs_ne (by decide) (en_gs_eq (en_gs_ne (by decide) (en_gs_eq (en_gs_ne (by decide) (en_gs_eq (en_gs_ne (by decide) (en_gs_eq (en_gs_ne (by decide) (en_gs_eq (en_gs_ne (by decide) (en_gs_eq (en_gs_ne (by decide) (en_gs_eq (en_gs_ne (by decide) (en_gs_eq (en_gs_ne (by decide) hx_174))))))))))))))))))))))))))))))))))))) rfl ?_
    refine r_iconst 1 rfl ?_
    refine r_iadd 19 rfl ?_
    refine r_putf (en_gs_ne (by decide) (en_gs_eq (en_gs_ne (by decide) (en_gs_eq (en_gs_ne (by decide) (en_gs_eq (en_gs_ne (by decide) (en_gs_eq (en_gs_ne (by decide) (en_gs_eq (en_gs_ne (by decide) (en_gs_eq (en_gs_ne (by decide) (en_gs_eq (en_gs_ne (by decide) (en_gs_eq (en_gs_ne (by decide) (en_gs_eq (en_gs_ne (by decide) (en_gs_eq (en_gs_ne (by decide) (en_gs_eq (en_gs_ne (by decide) (en_gs_eq (en_gs_ne (by decide) (en_gs_eq (en_gs_ne (by decide) (en_gs_eq (en_gs_ne (by decide) (en_gs_eq (en_gs_ne (by decide) (en_gs_eq (en_gs_ne (by decide) (en_gs_eq (en_gs_ne (by decide) (en_gs_eq (en_gs_ne (by decide) hx_174))))))))))))))))))))))))))))))))))))) (Nat.le_of_ble_eq_true rfl) rfl [.ref 175, .int 19] rfl ?_
    refine r_iinc rfl 0 rfl ([(2, .int 0), (0, .ref 174), (1, .int a5)]) rfl ?_
    refine r_goto ?_
    refine At.enter rfl ?_
    refine r_iload_n rfl ?_
    refine r_iff 7 rfl (by decide) ?_
    refine At.enter rfl ?_
    refine r_aload_n rfl ?_
    refine r_get (v := .int 19) (en_gs_eq (en_gs_ne (by decide) (en_gs_eq (en_gs_ne (by decide) (en_gs_eq (en_gs_ne (by decide) (en_gs_eq (en_gs_ne (by decide) (en_gs_eq (en_gs_ne (by decide) (en_gs_eq (en_gs_ne (by decide) (en_gs_eq (en_gs_ne (by decide) (en_gs_eq (en_gs_ne (by decide) (en_gs_eq (en_gs_ne (by decide) (en_gs_eq (en_gs_ne (by decide) (en_gs_eq (en_gs_ne (by decide) (en_gs_eq (en_gs_ne (by decide) (en_gs_eq (en_gs_ne (by decide) (en_gs_eq (en_gs_ne (by decide) (en_gs_eq (en_gs_ne (by decide) (en_gs_eq (en_gs_ne (by decide) (en_gs_eq (en_gs_ne (by decide) (en_gs_eq (en_gs_ne (by decide) (en_gs_eq (en_gs_ne (by decide) hx_174)))))))))))))))))))))))))))))))))))))) rfl ?_
    refine r_sipush 400 rfl ?_
    refine r_icf 17 rfl (by decide) ?_
    refine At.enter rfl ?_
    refine r_aload_n rfl ?_
    refine r_get (v := .ref 175) (en_gs_eq (en_gs_ne (by decide) (en_gs_eq (en_gs_ne (by decide) (en_gs_eq (en_gs_ne (by decide) (en_gs_eq (en_gs_ne (by decide) (en_gs_eq (en_gs_ne (by decide) (en_gs_eq (en_gs_ne (by decide) (en_gs_eq (en_gs_ne (by decide) (en_gs_eq (en_gs_ne (by decide) (en_gs_eq (en_gs_ne (by decide) (en_gs_eq (en_gs_ne (by decide) (en_gs_eq (en_gs_ne (by decide) (en_gs_eq (en_gs_ne (by decide) (en_gs_eq (en_gs_ne (by decide) (en_gs_eq (en_gs_ne (by decide) (en_gs_eq (en_gs_ne (by decide) (en_gs_eq (en_gs_ne (by decide) (en_gs_eq (en_gs_ne (by decide) (en_gs_eq (en_gs_ne (by decide) (en_gs_eq (en_gs_ne (by decide) hx_174)))))))))))))))))))))))))))))))))))))) rfl ?_
    refine r_aload_n rfl ?_
    refine r_get (v := .int 19) (en_gs_eq (en_gs_ne (by decide) (en_gs_eq (en_gs_ne (by decide) (en_gs_eq (en_gs_ne (by decide) (en_gs_eq (en_gs_ne (by decide) (en_gs_eq (en_gs_ne (by decide) (en_gs_eq (en_gs_ne (by decide) (en_gs_eq (en_gs_ne (by decide) (en_gs_eq (en_gs_ne (by decide) (en_gs_eq (en_gs_ne (by decide) (en_gs_eq (en_gs_ne (by decide) (en_gs_eq (en_gs_ne (by decide) (en_gs_eq (en_gs_ne (by decide) (en_gs_eq (en_gs_ne (by decide) (en_gs_eq (en_gs_ne (by decide) (en_gs_eq (en_gs_ne (by decide) (en_gs_eq (en_gs_ne (by decide) (en_gs_eq (en_gs_ne (by decide) (en_gs_eq (en_gs_ne (by decide) (en_gs_eq (en_gs_ne (by decide) hx_174)))))))))))))))))))))))))))))))))))))) rfl ?_
    refine r_iload_n rfl ?_
    refine r_iload_n rfl ?_
    refine r_iushr (((a5).toUInt32 >>> ((0 : Int32).toUInt32 &&& Int32.toUInt32 31)).toInt32) rfl ?_
    refine r_sipush 255 rfl ?_
    refine r_iand ((((a5).toUInt32 >>> ((0 : Int32).toUInt32 &&& Int32.toUInt32 31)).toInt32) &&& 255) rfl ?_
    refine r_iast (en_gs_ne (by decide) (en_gs_eq (en_gs_ne (by decide) (en_gs_eq (en_gs_ne (by decide) (en_gs_eq (en_gs_ne (by decide) (en_gs_eq (en_gs_ne (by decide) (en_gs_eq (en_gs_ne (by decide) (en_gs_eq (en_gs_ne (by decide) (en_gs_eq (en_gs_ne (by decide) (en_gs_eq (en_gs_ne (by decide) (en_gs_eq (en_gs_ne (by decide) (en_gs_eq (en_gs_ne (by decide) (en_gs_eq (en_gs_ne (by decide) (en_gs_eq (en_gs_ne (by decide) (en_gs_eq (en_gs_ne (by decide) (en_gs_eq (en_gs_ne (by decide) (en_gs_eq (en_gs_ne (by decide) (en_gs_eq (en_gs_ne (by decide) (en_gs_eq (en_gs_ne (by decide) (en_gs_eq (en_gs_ne (by decide) (en_gs_eq hx_175)))))))))))))))))))))))))))))))))))))) (by decide) (Nat.le_of_ble_eq_true rfl) ([((((a1).toUInt32 >>> ((24 : Int32).toUInt32 &&& Int32.toUInt32 31)).toInt32) &&& 255), ((((a1).toUInt32 >>> ((16 : Int32).toUInt32 &&& Int32.toUInt32 31)).toInt32) &&& 255), ((((a1).toUInt32 >>> ((8 : Int32).toUInt32 &&& Int32.toUInt32 31)).toInt32) &&& 255), ((((a1).toUInt32 >>> ((0 : Int32).toUInt32 &&& Int32.toUInt32 31)).toInt32) &&& 255), ((((a2).toUInt32 >>> ((24 : Int32).toUInt32 &&& Int32.toUInt32 31)).toInt32) &&& 255), ((((a2).toUInt32 >>> ((16 : Int32).toUInt32 &&& Int32.toUInt32 31)).toInt32) &&& 255), ((((a2).toUInt32 >>> ((8 : Int32).toUInt32 &&& Int32.toUInt32 31)).toInt32) &&& 255), ((((a2).toUInt32 >>> ((0 : Int32).toUInt32 &&& Int32.toUInt32 31)).toInt32) &&& 255), ((((a3).toUInt32 >>> ((24 : Int32).toUInt32 &&& Int32.toUInt32 31)).toInt32) &&& 255), ((((a3).toUInt32 >>> ((16 : Int32).toUInt32 &&& Int32.toUInt32 31)).toInt32) &&& 255), ((((a3).toUInt32 >>> ((8 : Int32).toUInt32 &&& Int32.toUInt32 31)).toInt32) &&& 255), ((((a3).toUInt32 >>> ((0 : Int32).toUInt32 &&& Int32.toUInt32 31)).toInt32) &&& 255), ((((a4).toUInt32 >>> ((24 : Int32).toUInt32 &&& Int32.toUInt32 31)).toInt32) &&& 255), ((((a4).toUInt32 >>> ((16 : Int32).toUInt32 &&& Int32.toUInt32 31)).toInt32) &&& 255), ((((a4).toUInt32 >>> ((8 : Int32).toUInt32 &&& Int32.toUInt32 31)).toInt32) &&& 255), ((((a4).toUInt32 >>> ((0 : Int32).toUInt32 &&& Int32.toUInt32 31)).toInt32) &&& 255), ((((a5).toUInt32 >>> ((24 : Int32).toUInt32 &&& Int32.toUInt32 31)).toInt32) &&& 255), ((((a5).toUInt32 >>> ((16 : Int32).toUInt32 &&& Int32.toUInt32 31)).toInt32) &&& 255), ((((a5).toUInt32 >>> ((8 : Int32).toUInt32 &&& Int32.toUInt32 31)).toInt32) &&& 255), ((((a5).toUInt32 >>> ((0 : Int32).toUInt32 &&& Int32.toUInt32 31)).toInt32) &&& 255)] ++ List.replicate 380 0) rfl ?_
    refine r_aload_n rfl ?_
    refine r_dup rfl ?_
    refine r_get (v := .int 19) (en_gs_ne (by decide) (en_gs_eq (en_gs_ne (by decide) (en_gs_eq (en_gs_ne (by decide) (en_gs_eq (en_gs_ne (by decide) (en_gs_eq (en_gs_ne (by decide) (en_gs_eq (en_gs_ne (by decide) (en_gs_eq (en_gs_ne (by decide) (en_gs_eq (en_gs_ne (by decide) (en_gs_eq (en_gs_ne (by decide) (en_gs_eq (en_gs_ne (by decide) (en_gs_eq (en_gs_ne (by decide) (en_gs_eq (en_gs_ne (by decide) (en_gs_eq (en_gs_ne (by decide) (en_gs_eq (en_gs_ne (by decide) (en_gs_eq (en_gs_ne (by decide) (en_gs_eq (en_gs_ne (by decide) (en_gs_eq (en_gs_ne (by decide) (en_gs_eq (en_gs_ne (by decide) (en_gs_eq (en_gs_ne (by decide) (en_gs_eq (en_gs_ne (by decide) hx_174))))))))))))))))))))))))))))))))))))))) rfl ?_
    refine r_iconst 1 rfl ?_
    refine r_iadd 20 rfl ?_
    refine r_putf (en_gs_ne (by decide) (en_gs_eq (en_gs_ne (by decide) (en_gs_eq (en_gs_ne (by decide) (en_gs_eq (en_gs_ne (by decide) (en_gs_eq (en_gs_ne (by decide) (en_gs_eq (en_gs_ne (by decide) (en_gs_eq (en_gs_ne (by decide) (en_gs_eq (en_gs_ne (by decide) (en_gs_eq (en_gs_ne (by decide) (en_gs_eq (en_gs_ne (by decide) (en_gs_eq (en_gs_ne (by decide) (en_gs_eq (en_gs_ne (by decide) (en_gs_eq (en_gs_ne (by decide) (en_gs_eq (en_gs_ne (by decide) (en_gs_eq (en_gs_ne (by decide) (en_gs_eq (en_gs_ne (by decide) (en_gs_eq (en_gs_ne (by decide) (en_gs_eq (en_gs_ne (by decide) (en_gs_eq (en_gs_ne (by decide) (en_gs_eq (en_gs_ne (by decide) hx_174))))))))))))))))))))))))))))))))))))))) (Nat.le_of_ble_eq_true rfl) rfl [.ref 175, .int 20] rfl ?_
    refine r_iinc rfl (-8) rfl ([(2, .int (-8)), (0, .ref 174), (1, .int a5)]) rfl ?_
    refine r_goto ?_
    refine At.enter rfl ?_
    refine r_iload_n rfl ?_
    refine r_ift (by decide) ?_
    refine At.enter rfl ?_
    refine r_vret ?_
    exact ⟨trivial, rfl, rfl⟩
  refine At.enter rfl ?_
  refine r_aload_n rfl ?_
  refine r_get (v := .ref 174) (en_gs_ne (by decide) (en_gs_ne (by decide) (en_gs_ne (by decide) (en_gs_ne (by decide) (en_gs_ne (by decide) (en_gs_ne (by decide) (en_gs_ne (by decide) (en_gs_ne (by decide) (en_gs_ne (by decide) (en_gs_ne (by decide) (en_gs_ne (by decide) (en_gs_ne (by decide) (en_gs_ne (by decide) (en_gs_ne (by decide) (en_gs_ne (by decide) (en_gs_ne (by decide) (en_gs_ne (by decide) (en_gs_ne (by decide) (en_gs_ne (by decide) (en_gs_ne (by decide) (en_gs_ne (by decide) (en_gs_ne (by decide) (en_gs_ne (by decide) (en_gs_ne (by decide) (en_gs_ne (by decide) (en_gs_ne (by decide) (en_gs_ne (by decide) (en_gs_ne (by decide) (en_gs_ne (by decide) (en_gs_ne (by decide) (en_gs_ne (by decide) (en_gs_ne (by decide) (en_gs_ne (by decide) (en_gs_ne (by decide) (en_gs_ne (by decide) (en_gs_ne (by decide) (en_gs_ne (by decide) (en_gs_ne (by decide) (en_gs_ne (by decide) (en_gs_ne (by decide) hx_0)))))))))))))))))))))))))))))))))))))))) rfl ?_
  refine r_get (v := .int 20) (en_gs_eq (en_gs_ne (by decide) (en_gs_eq (en_gs_ne (by decide) (en_gs_eq (en_gs_ne (by decide) (en_gs_eq (en_gs_ne (by decide) (en_gs_eq (en_gs_ne (by decide) (en_gs_eq (en_gs_ne (by decide) (en_gs_eq (en_gs_ne (by decide) (en_gs_eq (en_gs_ne (by decide) (en_gs_eq (en_gs_ne (by decide) (en_gs_eq (en_gs_ne (by decide) (en_gs_eq (en_gs_ne (by decide) (en_gs_eq (en_gs_ne (by decide) (en_gs_eq (en_gs_ne (by decide) (en_gs_eq (en_gs_ne (by decide) (en_gs_eq (en_gs_ne (by decide) (en_gs_eq (en_gs_ne (by decide) (en_gs_eq (en_gs_ne (by decide) (en_gs_eq (en_gs_ne (by decide) (en_gs_eq (en_gs_ne (by decide) (en_gs_eq (en_gs_ne (by decide) hx_174)))))))))))))))))))))))))))))))))))))))) rfl ?_
  refine r_ireti ?_
  exact ⟨congrArg (fun z => some (Value.int z)) rfl, (IsX.set (IsX.set (IsX.set (IsX.set (IsX.set (IsX.set (IsX.set (IsX.set (IsX.set (IsX.set (IsX.set (IsX.set (IsX.set (IsX.set (IsX.set (IsX.set (IsX.set (IsX.set (IsX.set (IsX.set (IsX.set (IsX.set (IsX.set (IsX.set (IsX.set (IsX.set (IsX.set (IsX.set (IsX.set (IsX.set (IsX.set (IsX.set (IsX.set (IsX.set (IsX.set (IsX.set (IsX.set (IsX.set (IsX.set (IsX.set IsX.base (by decide)) (by decide)) (by decide)) (by decide)) (by decide)) (by decide)) (by decide)) (by decide)) (by decide)) (by decide)) (by decide)) (by decide)) (by decide)) (by decide)) (by decide)) (by decide)) (by decide)) (by decide)) (by decide)) (by decide)) (by decide)) (by decide)) (by decide)) (by decide)) (by decide)) (by decide)) (by decide)) (by decide)) (by decide)) (by decide)) (by decide)) (by decide)) (by decide)) (by decide)) (by decide)) (by decide)) (by decide)) (by decide)) (by decide)) (by decide)), rfl⟩
set_option maxRecDepth 100000 in
set_option maxHeartbeats 4000000 in
theorem zm_X11_feed (a : Nat → en_E) (n : Nat) (a1 : Int32) (a2 : Int32) (a3 : Int32) (a4 : Int32) (a5 : Int32) : Ev 14 185 [.ref 231, .int a1, .int a2, .int a3, .int a4, .int a5] (en_pre a 231 hp_M, n) (fun r h' => r = some (.int (20))) := by
  refine Ev.mk rfl rfl ⟨Nat.le_of_ble_eq_true rfl, Or.inr (en_rcI (hm_231 _) rfl)⟩ ?_
  show At _ none _ _ (0, [(0, .ref 231), (1, .int a1), (2, .int a2), (3, .int a3), (4, .int a4), (5, .int a5)], [], (en_pre a 231 hp_M, n)) _
  refine At.enter rfl ?_
  refine r_aload_n rfl ?_
  refine r_iconst 0 rfl ?_
  refine r_putf (hm_231 _) (Nat.le_of_ble_eq_true rfl) rfl [.int 0, .int 0, .ref 232, .ref 233, .ref 234, .ref 235, .int 0, .ref 236, .int 0, .int 0, .int 0, .int 0, .long 0, .int (-1), .int 0, .int 0, .ref 237, .int 0, .ref 238, .ref 239, .int 0, .ref 240, .ref 241, .int 0, .int 0, .ref 242, .ref 243, .int 0, .ref 244, .ref 245, .int 0, .long 0, .long 0, .ref 246, .ref 247, .ref 248, .int 0, .ref 249, .ref 250, .ref 251, .ref 252, .ref 253, .ref 254, .ref 255, .ref 256, .int 0, .int 0, .int 0, .long 0, .ref 257, .ref 258, .int 0] rfl ?_
  refine r_aload_n rfl ?_
  refine r_get (v := .int 0) (en_gs_eq (hm_231 _)) rfl ?_
  refine r_bipush 20 rfl ?_
  refine r_iadd 20 rfl ?_
  refine r_sipush 400 rfl ?_
  refine r_ict (by decide) ?_
  refine At.enter rfl ?_
  refine r_aload_n rfl ?_
  refine r_iload_n rfl ?_
  refine r_callV1v (True)  ((((((((((en_pre a 231 hp_M).set 231 (.inr (11, [.int 0, .int 0, .ref 232, .ref 233, .ref 234, .ref 235, .int 0, .ref 236, .int 0, .int 0, .int 0, .int 0, .long 0, .int (-1), .int 0, .int 0, .ref 237, .int 0, .ref 238, .ref 239, .int 0, .ref 240, .ref 241, .int 0, .int 0, .ref 242, .ref 243, .int 0, .ref 244, .ref 245, .int 0, .long 0, .long 0, .ref 246, .ref 247, .ref 248, .int 0, .ref 249, .ref 250, .ref 251, .ref 252, .ref 253, .ref 254, .ref 255, .ref 256, .int 0, .int 0, .int 0, .long 0, .ref 257, .ref 258, .int 0]))).set 236 (.inl (0, .inl ([((a1 >>> (24 &&& 31)) &&& 255)] ++ List.replicate 399 0)))).set 231 (.inr (11, [.int 0, .int 0, .ref 232, .ref 233, .ref 234, .ref 235, .int 0, .ref 236, .int 1, .int 0, .int 0, .int 0, .long 0, .int (-1), .int 0, .int 0, .ref 237, .int 0, .ref 238, .ref 239, .int 0, .ref 240, .ref 241, .int 0, .int 0, .ref 242, .ref 243, .int 0, .ref 244, .ref 245, .int 0, .long 0, .long 0, .ref 246, .ref 247, .ref 248, .int 0, .ref 249, .ref 250, .ref 251, .ref 252, .ref 253, .ref 254, .ref 255, .ref 256, .int 0, .int 0, .int 0, .long 0, .ref 257, .ref 258, .int 0]))).set 236 (.inl (0, .inl ([((a1 >>> (24 &&& 31)) &&& 255), ((a1 >>> (16 &&& 31)) &&& 255)] ++ List.replicate 398 0)))).set 231 (.inr (11, [.int 0, .int 0, .ref 232, .ref 233, .ref 234, .ref 235, .int 0, .ref 236, .int 2, .int 0, .int 0, .int 0, .long 0, .int (-1), .int 0, .int 0, .ref 237, .int 0, .ref 238, .ref 239, .int 0, .ref 240, .ref 241, .int 0, .int 0, .ref 242, .ref 243, .int 0, .ref 244, .ref 245, .int 0, .long 0, .long 0, .ref 246, .ref 247, .ref 248, .int 0, .ref 249, .ref 250, .ref 251, .ref 252, .ref 253, .ref 254, .ref 255, .ref 256, .int 0, .int 0, .int 0, .long 0, .ref 257, .ref 258, .int 0]))).set 236 (.inl (0, .inl ([((a1 >>> (24 &&& 31)) &&& 255), ((a1 >>> (16 &&& 31)) &&& 255), ((a1 >>> (8 &&& 31)) &&& 255)] ++ List.replicate 397 0)))).set 231 (.inr (11, [.int 0, .int 0, .ref 232, .ref 233, .ref 234, .ref 235, .int 0, .ref 236, .int 3, .int 0, .int 0, .int 0, .long 0, .int (-1), .int 0, .int 0, .ref 237, .int 0, .ref 238, .ref 239, .int 0, .ref 240, .ref 241, .int 0, .int 0, .ref 242, .ref 243, .int 0, .ref 244, .ref 245, .int 0, .long 0, .long 0, .ref 246, .ref 247, .ref 248, .int 0, .ref 249, .ref 250, .ref 251, .ref 252, .ref 253, .ref 254, .ref 255, .ref 256, .int 0, .int 0, .int 0, .long 0, .ref 257, .ref 258, .int 0]))).set 236 (.inl (0, .inl ([((a1 >>> (24 &&& 31)) &&& 255), ((a1 >>> (16 &&& 31)) &&& 255), ((a1 >>> (8 &&& 31)) &&& 255), (a1 &&& 255)] ++ List.replicate 396 0)))).set 231 (.inr (11, [.int 0, .int 0, .ref 232, .ref 233, .ref 234, .ref 235, .int 0, .ref 236, .int 4, .int 0, .int 0, .int 0, .long 0, .int (-1), .int 0, .int 0, .ref 237, .int 0, .ref 238, .ref 239, .int 0, .ref 240, .ref 241, .int 0, .int 0, .ref 242, .ref 243, .int 0, .ref 244, .ref 245, .int 0, .long 0, .long 0, .ref 246, .ref 247, .ref 248, .int 0, .ref 249, .ref 250, .ref 251, .ref 252, .ref 253, .ref 254, .ref 255, .ref 256, .int 0, .int 0, .int 0, .long 0, .ref 257, .ref 258, .int 0])), n) 25 rfl [.ref 231, .int a1] [] (Nat.le_of_ble_eq_true rfl) rfl ?_ (fun _ => ?_)
  · refine Ev.mk rfl rfl ⟨Nat.le_of_ble_eq_true rfl, Or.inr (en_rcI (en_gs_eq (hm_231 _)) rfl)⟩ ?_
    show At _ none _ _ (0, [(0, .ref 231), (1, .int a1)], [], ((en_pre a 231 hp_M).set 231 (.inr (11, [.int 0, .int 0, .ref 232, .ref 233, .ref 234, .ref 235, .int 0, .ref 236, .int 0, .int 0, .int 0, .int 0, .long 0, .int (-1), .int 0, .int 0, .ref 237, .int 0, .ref 238, .ref 239, .int 0, .ref 240, .ref 241, .int 0, .int 0, .ref 242, .ref 243, .int 0, .ref 244, .ref 245, .int 0, .long 0, .long 0, .ref 246, .ref 247, .ref 248, .int 0, .ref 249, .ref 250, .ref 251, .ref 252, .ref 253, .ref 254, .ref 255, .ref 256, .int 0, .int 0, .int 0, .long 0, .ref 257, .ref 258, .int 0])), n)) _
    refine At.enter rfl ?_
    refine r_bipush 24 rfl ?_
    refine r_istore_n ([(2, .int 24), (0, .ref 231), (1, .int a1)]) rfl ?_
    refine Ar.fall 3 rfl ?_
    refine At.enter rfl ?_
    refine r_iload_n rfl ?_
    refine r_iff 7 rfl (by decide) ?_
    refine At.enter rfl ?_
    refine r_aload_n rfl ?_
    refine r_get (v := .ref 236) (en_gs_eq (hm_231 _)) rfl ?_
    refine r_aload_n rfl ?_
    refine r_get (v := .int 0) (en_gs_eq (hm_231 _)) rfl ?_
    refine r_iload_n rfl ?_
    refine r_iload_n rfl ?_
    refine r_ishr (a1 >>> (24 &&& 31)) rfl ?_
    refine r_sipush 255 rfl ?_
    refine r_iand ((a1 >>> (24 &&& 31)) &&& 255) rfl ?_
    refine r_iast (en_gs_ne (by decide) (hm_236 _)) (by decide) (Nat.le_of_ble_eq_true rfl) ([((a1 >>> (24 &&& 31)) &&& 255)] ++ List.replicate 399 0) rfl ?_
    refine r_aload_n rfl ?_
    refine r_dup rfl ?_
    refine r_get (v := .int 0) (en_gs_ne (by decide) (en_gs_eq (hm_231 _))) rfl ?_
    refine r_iconst 1 rfl ?_
    refine r_iadd 1 rfl ?_
    refine r_putf (en_gs_ne (by decide) (en_gs_eq (hm_231 _))) (Nat.le_of_ble_eq_true rfl) rfl [.int 0, .int 0, .ref 232, .ref 233, .ref 234, .ref 235, .int 0, .ref 236, .int 1, .int 0, .int 0, .int 0, .long 0, .int (-1), .int 0, .int 0, .ref 237, .int 0, .ref 238, .ref 239, .int 0, .ref 240, .ref 241, .int 0, .int 0, .ref 242, .ref 243, .int 0, .ref 244, .ref 245, .int 0, .long 0, .long 0, .ref 246, .ref 247, .ref 248, .int 0, .ref 249, .ref 250, .ref 251, .ref 252, .ref 253, .ref 254, .ref 255, .ref 256, .int 0, .int 0, .int 0, .long 0, .ref 257, .ref 258, .int 0] rfl ?_
    refine r_iinc rfl 16 rfl ([(2, .int 16), (0, .ref 231), (1, .int a1)]) rfl ?_
    refine r_goto ?_
    refine At.enter rfl ?_
    refine r_iload_n rfl ?_
    refine r_iff 7 rfl (by decide) ?_
    refine At.enter rfl ?_
    refine r_aload_n rfl ?_
    refine r_get (v := .ref 236) (en_gs_eq (en_gs_ne (by decide) (en_gs_eq (hm_231 _)))) rfl ?_
    refine r_aload_n rfl ?_
    refine r_get (v := .int 1) (en_gs_eq (en_gs_ne (by decide) (en_gs_eq (hm_231 _)))) rfl ?_
    refine r_iload_n rfl ?_
    refine r_iload_n rfl ?_
    refine r_ishr (a1 >>> (16 &&& 31)) rfl ?_
    refine r_sipush 255 rfl ?_
    refine r_iand ((a1 >>> (16 &&& 31)) &&& 255) rfl ?_
    refine r_iast (en_gs_ne (by decide) (en_gs_eq (en_gs_ne (by decide) (hm_236 _)))) (by decide) (Nat.le_of_ble_eq_true rfl) ([((a1 >>> (24 &&& 31)) &&& 255), ((a1 >>> (16 &&& 31)) &&& 255)] ++ List.replicate 398 0) rfl ?_
    refine r_aload_n rfl ?_
    refine r_dup rfl ?_
    refine r_get (v := .int 1) (en_gs_ne (by decide) (en_gs_eq (en_gs_ne (by decide) (en_gs_eq (hm_231 _))))) rfl ?_
    refine r_iconst 1 rfl ?_
    refine r_iadd 2 rfl ?_
    refine r_putf (en_gs_ne (by decide) (en_gs_eq (en_gs_ne (by decide) (en_gs_eq (hm_231 _))))) (Nat.le_of_ble_eq_true rfl) rfl [.int 0, .int 0, .ref 232, .ref 233, .ref 234, .ref 235, .int 0, .ref 236, .int 2, .int 0, .int 0, .int 0, .long 0, .int (-1), .int 0, .int 0, .ref 237, .int 0, .ref 238, .ref 239, .int 0, .ref 240, .ref 241, .int 0, .int 0, .ref 242, .ref 243, .int 0, .ref 244, .ref 245, .int 0, .long 0, .long 0, .ref 246, .ref 247, .ref 248, .int 0, .ref 249, .ref 250, .ref 251, .ref 252, .ref 253, .ref 254, .ref 255, .ref 256, .int 0, .int 0, .int 0, .long 0, .ref 257, .ref 258, .int 0] rfl ?_
    refine r_iinc rfl 8 rfl ([(2, .int 8), (0, .ref 231), (1, .int a1)]) rfl ?_
    refine r_goto ?_
    refine At.enter rfl ?_
    refine r_iload_n rfl ?_
    refine r_iff 7 rfl (by decide) ?_
    refine At.enter rfl ?_
    refine r_aload_n rfl ?_
    refine r_get (v := .ref 236) (en_gs_eq (en_gs_ne (by decide) (en_gs_eq (en_gs_ne (by decide) (en_gs_eq (hm_231 _)))))) rfl ?_
    refine r_aload_n rfl ?_
    refine r_get (v := .int 2) (en_gs_eq (en_gs_ne (by decide) (en_gs_eq (en_gs_ne (by decide) (en_gs_eq (hm_231 _)))))) rfl ?_
    refine r_iload_n rfl ?_
    refine r_iload_n rfl ?_
    refine r_ishr (a1 >>> (8 &&& 31)) rfl ?_
    refine r_sipush 255 rfl ?_
    refine r_iand ((a1 >>> (8 &&& 31)) &&& 255) rfl ?_
    refine r_iast (en_gs_ne (by decide) (en_gs_eq (en_gs_ne (by decide) (en_gs_eq (en_gs_ne (by decide) (hm_236 _)))))) (by decide) (Nat.le_of_ble_eq_true rfl) ([((a1 >>> (24 &&& 31)) &&& 255), ((a1 >>> (16 &&& 31)) &&& 255), ((a1 >>> (8 &&& 31)) &&& 255)] ++ List.replicate 397 0) rfl ?_
    refine r_aload_n rfl ?_
    refine r_dup rfl ?_
    refine r_get (v := .int 2) (en_gs_ne (by decide) (en_gs_eq (en_gs_ne (by decide) (en_gs_eq (en_gs_ne (by decide) (en_gs_eq (hm_231 _))))))) rfl ?_
    refine r_iconst 1 rfl ?_
    refine r_iadd 3 rfl ?_
    refine r_putf (en_gs_ne (by decide) (en_gs_eq (en_gs_ne (by decide) (en_gs_eq (en_gs_ne (by decide) (en_gs_eq (hm_231 _))))))) (Nat.le_of_ble_eq_true rfl) rfl [.int 0, .int 0, .ref 232, .ref 233, .ref 234, .ref 235, .int 0, .ref 236, .int 3, .int 0, .int 0, .int 0, .long 0, .int (-1), .int 0, .int 0, .ref 237, .int 0, .ref 238, .ref 239, .int 0, .ref 240, .ref 241, .int 0, .int 0, .ref 242, .ref 243, .int 0, .ref 244, .ref 245, .int 0, .long 0, .long 0, .ref 246, .ref 247, .ref 248, .int 0, .ref 249, .ref 250, .ref 251, .ref 252, .ref 253, .ref 254, .ref 255, .ref 256, .int 0, .int 0, .int 0, .long 0, .ref 257, .ref 258, .int 0] rfl ?_
    refine r_iinc rfl 0 rfl ([(2, .int 0), (0, .ref 231), (1, .int a1)]) rfl ?_
    refine r_goto ?_
    refine At.enter rfl ?_
    refine r_iload_n rfl ?_
    refine r_iff 7 rfl (by decide) ?_
    refine At.enter rfl ?_
    refine r_aload_n rfl ?_
    refine r_get (v := .ref 236) (en_gs_eq (en_gs_ne (by decide) (en_gs_eq (en_gs_ne (by decide) (en_gs_eq (en_gs_ne (by decide) (en_gs_eq (hm_231 _)))))))) rfl ?_
    refine r_aload_n rfl ?_
    refine r_get (v := .int 3) (en_gs_eq (en_gs_ne (by decide) (en_gs_eq (en_gs_ne (by decide) (en_gs_eq (en_gs_ne (by decide) (en_gs_eq (hm_231 _)))))))) rfl ?_
    refine r_iload_n rfl ?_
    refine r_iload_n rfl ?_
    refine r_ishr a1 (en_shr0 _) ?_
    refine r_sipush 255 rfl ?_
    refine r_iand (a1 &&& 255) rfl ?_
    refine r_iast (en_gs_ne (by decide) (en_gs_eq (en_gs_ne (by decide) (en_gs_eq (en_gs_ne (by decide) (en_gs_eq (en_gs_ne (by decide) (hm_236 _)))))))) (by decide) (Nat.le_of_ble_eq_true rfl) ([((a1 >>> (24 &&& 31)) &&& 255), ((a1 >>> (16 &&& 31)) &&& 255), ((a1 >>> (8 &&& 31)) &&& 255), (a1 &&& 255)] ++ List.replicate 396 0) rfl ?_
    refine r_aload_n rfl ?_
    refine r_dup rfl ?_
    refine r_get (v := .int 3) (en_gs_ne (by decide) (en_gs_eq (en_gs_ne (by decide) (en_gs_eq (en_gs_ne (by decide) (en_gs_eq (en_gs_ne (by decide) (en_gs_eq (hm_231 _))))))))) rfl ?_
    refine r_iconst 1 rfl ?_
    refine r_iadd 4 rfl ?_
    refine r_putf (en_gs_ne (by decide) (en_gs_eq (en_gs_ne (by decide) (en_gs_eq (en_gs_ne (by decide) (en_gs_eq (en_gs_ne (by decide) (en_gs_eq (hm_231 _))))))))) (Nat.le_of_ble_eq_true rfl) rfl [.int 0, .int 0, .ref 232, .ref 233, .ref 234, .ref 235, .int 0, .ref 236, .int 4, .int 0, .int 0, .int 0, .long 0, .int (-1), .int 0, .int 0, .ref 237, .int 0, .ref 238, .ref 239, .int 0, .ref 240, .ref 241, .int 0, .int 0, .ref 242, .ref 243, .int 0, .ref 244, .ref 245, .int 0, .long 0, .long 0, .ref 246, .ref 247, .ref 248, .int 0, .ref 249, .ref 250, .ref 251, .ref 252, .ref 253, .ref 254, .ref 255, .ref 256, .int 0, .int 0, .int 0, .long 0, .ref 257, .ref 258, .int 0] rfl ?_
    refine r_iinc rfl (-8) rfl ([(2, .int (-8)), (0, .ref 231), (1, .int a1)]) rfl ?_
    refine r_goto ?_
    refine At.enter rfl ?_
    refine r_iload_n rfl ?_
    refine r_ift (by decide) ?_
    refine At.enter rfl ?_
    refine r_vret ?_
    exact ⟨trivial, rfl, rfl⟩
  refine At.enter rfl ?_
  refine r_aload_n rfl ?_
  refine r_iload_n rfl ?_
  refine r_callV1v (True)  ((((((((((((((((((en_pre a 231 hp_M).set 231 (.inr (11, [.int 0, .int 0, .ref 232, .ref 233, .ref 234, .ref 235, .int 0, .ref 236, .int 0, .int 0, .int 0, .int 0, .long 0, .int (-1), .int 0, .int 0, .ref 237, .int 0, .ref 238, .ref 239, .int 0, .ref 240, .ref 241, .int 0, .int 0, .ref 242, .ref 243, .int 0, .ref 244, .ref 245, .int 0, .long 0, .long 0, .ref 246, .ref 247, .ref 248, .int 0, .ref 249, .ref 250, .ref 251, .ref 252, .ref 253, .ref 254, .ref 255, .ref 256, .int 0, .int 0, .int 0, .long 0, .ref 257, .ref 258, .int 0]))).set 236 (.inl (0, .inl ([((a1 >>> (24 &&& 31)) &&& 255)] ++ List.replicate 399 0)))).set 231 (.inr (11, [.int 0, .int 0, .ref 232, .ref 233, .ref 234, .ref 235, .int 0, .ref 236, .int 1, .int 0, .int 0, .int 0, .long 0, .int (-1), .int 0, .int 0, .ref 237, .int 0, .ref 238, .ref 239, .int 0, .ref 240, .ref 241, .int 0, .int 0, .ref 242, .ref 243, .int 0, .ref 244, .ref 245, .int 0, .long 0, .long 0, .ref 246, .ref 247, .ref 248, .int 0, .ref 249, .ref 250, .ref 251, .ref 252, .ref 253, .ref 254, .ref 255, .ref 256, .int 0, .int 0, .int 0, .long 0, .ref 257, .ref 258, .int 0]))).set 236 (.inl (0, .inl ([((a1 >>> (24 &&& 31)) &&& 255), ((a1 >>> (16 &&& 31)) &&& 255)] ++ List.replicate 398 0)))).set 231 (.inr (11, [.int 0, .int 0, .ref 232, .ref 233, .ref 234, .ref 235, .int 0, .ref 236, .int 2, .int 0, .int 0, .int 0, .long 0, .int (-1), .int 0, .int 0, .ref 237, .int 0, .ref 238, .ref 239, .int 0, .ref 240, .ref 241, .int 0, .int 0, .ref 242, .ref 243, .int 0, .ref 244, .ref 245, .int 0, .long 0, .long 0, .ref 246, .ref 247, .ref 248, .int 0, .ref 249, .ref 250, .ref 251, .ref 252, .ref 253, .ref 254, .ref 255, .ref 256, .int 0, .int 0, .int 0, .long 0, .ref 257, .ref 258, .int 0]))).set 236 (.inl (0, .inl ([((a1 >>> (24 &&& 31)) &&& 255), ((a1 >>> (16 &&& 31)) &&& 255), ((a1 >>> (8 &&& 31)) &&& 255)] ++ List.replicate 397 0)))).set 231 (.inr (11, [.int 0, .int 0, .ref 232, .ref 233, .ref 234, .ref 235, .int 0, .ref 236, .int 3, .int 0, .int 0, .int 0, .long 0, .int (-1), .int 0, .int 0, .ref 237, .int 0, .ref 238, .ref 239, .int 0, .ref 240, .ref 241, .int 0, .int 0, .ref 242, .ref 243, .int 0, .ref 244, .ref 245, .int 0, .long 0, .long 0, .ref 246, .ref 247, .ref 248, .int 0, .ref 249, .ref 250, .ref 251, .ref 252, .ref 253, .ref 254, .ref 255, .ref 256, .int 0, .int 0, .int 0, .long 0, .ref 257, .ref 258, .int 0]))).set 236 (.inl (0, .inl ([((a1 >>> (24 &&& 31)) &&& 255), ((a1 >>> (16 &&& 31)) &&& 255), ((a1 >>> (8 &&& 31)) &&& 255), (a1 &&& 255)] ++ List.replicate 396 0)))).set 231 (.inr (11, [.int 0, .int 0, .ref 232, .ref 233, .ref 234, .ref 235, .int 0, .ref 236, .int 4, .int 0, .int 0, .int 0, .long 0, .int (-1), .int 0, .int 0, .ref 237, .int 0, .ref 238, .ref 239, .int 0, .ref 240, .ref 241, .int 0, .int 0, .ref 242, .ref 243, .int 0, .ref 244, .ref 245, .int 0, .long 0, .long 0, .ref 246, .ref 247, .ref 248, .int 0, .ref 249, .ref 250, .ref 251, .ref 252, .ref 253, .ref 254, .ref 255, .ref 256, .int 0, .int 0, .int 0, .long 0, .ref 257, .ref 258, .int 0]))).set 236 (.inl (0, .inl ([((a1 >>> (24 &&& 31)) &&& 255), ((a1 >>> (16 &&& 31)) &&& 255), ((a1 >>> (8 &&& 31)) &&& 255), (a1 &&& 255), ((a2 >>> (24 &&& 31)) &&& 255)] ++ List.replicate 395 0)))).set 231 (.inr (11, [.int 0, .int 0, .ref 232, .ref 233, .ref 234, .ref 235, .int 0, .ref 236, .int 5, .int 0, .int 0, .int 0, .long 0, .int (-1), .int 0, .int 0, .ref 237, .int 0, .ref 238, .ref 239, .int 0, .ref 240, .ref 241, .int 0, .int 0, .ref 242, .ref 243, .int 0, .ref 244, .ref 245, .int 0, .long 0, .long 0, .ref 246, .ref 247, .ref 248, .int 0, .ref 249, .ref 250, .ref 251, .ref 252, .ref 253, .ref 254, .ref 255, .ref 256, .int 0, .int 0, .int 0, .long 0, .ref 257, .ref 258, .int 0]))).set 236 (.inl (0, .inl ([((a1 >>> (24 &&& 31)) &&& 255), ((a1 >>> (16 &&& 31)) &&& 255), ((a1 >>> (8 &&& 31)) &&& 255), (a1 &&& 255), ((a2 >>> (24 &&& 31)) &&& 255), ((a2 >>> (16 &&& 31)) &&& 255)] ++ List.replicate 394 0)))).set 231 (.inr (11, [.int 0, .int 0, .ref 232, .ref 233, .ref 234, .ref 235, .int 0, .ref 236, .int 6, .int 0, .int 0, .int 0, .long 0, .int (-1), .int 0, .int 0, .ref 237, .int 0, .ref 238, .ref 239, .int 0, .ref 240, .ref 241, .int 0, .int 0, .ref 242, .ref 243, .int 0, .ref 244, .ref 245, .int 0, .long 0, .long 0, .ref 246, .ref 247, .ref 248, .int 0, .ref 249, .ref 250, .ref 251, .ref 252, .ref 253, .ref 254, .ref 255, .ref 256, .int 0, .int 0, .int 0, .long 0, .ref 257, .ref 258, .int 0]))).set 236 (.inl (0, .inl ([((a1 >>> (24 &&& 31)) &&& 255), ((a1 >>> (16 &&& 31)) &&& 255), ((a1 >>> (8 &&& 31)) &&& 255), (a1 &&& 255), ((a2 >>> (24 &&& 31)) &&& 255), ((a2 >>> (16 &&& 31)) &&& 255), ((a2 >>> (8 &&& 31)) &&& 255)] ++ List.replicate 393 0)))).set 231 (.inr (11, [.int 0, .int 0, .ref 232, .ref 233, .ref 234, .ref 235, .int 0, .ref 236, .int 7, .int 0, .int 0, .int 0, .long 0, .int (-1), .int 0, .int 0, .ref 237, .int 0, .ref 238, .ref 239, .int 0, .ref 240, .ref 241, .int 0, .int 0, .ref 242, .ref 243, .int 0, .ref 244, .ref 245, .int 0, .long 0, .long 0, .ref 246, .ref 247, .ref 248, .int 0, .ref 249, .ref 250, .ref 251, .ref 252, .ref 253, .ref 254, .ref 255, .ref 256, .int 0, .int 0, .int 0, .long 0, .ref 257, .ref 258, .int 0]))).set 236 (.inl (0, .inl ([((a1 >>> (24 &&& 31)) &&& 255), ((a1 >>> (16 &&& 31)) &&& 255), ((a1 >>> (8 &&& 31)) &&& 255), (a1 &&& 255), ((a2 >>> (24 &&& 31)) &&& 255), ((a2 >>> (16 &&& 31)) &&& 255), ((a2 >>> (8 &&& 31)) &&& 255), (a2 &&& 255)] ++ List.replicate 392 0)))).set 231 (.inr (11, [.int 0, .int 0, .ref 232, .ref 233, .ref 234, .ref 235, .int 0, .ref 236, .int 8, .int 0, .int 0, .int 0, .long 0, .int (-1), .int 0, .int 0, .ref 237, .int 0, .ref 238, .ref 239, .int 0, .ref 240, .ref 241, .int 0, .int 0, .ref 242, .ref 243, .int 0, .ref 244, .ref 245, .int 0, .long 0, .long 0, .ref 246, .ref 247, .ref 248, .int 0, .ref 249, .ref 250, .ref 251, .ref 252, .ref 253, .ref 254, .ref 255, .ref 256, .int 0, .int 0, .int 0, .long 0, .ref 257, .ref 258, .int 0])), n) 30 rfl [.ref 231, .int a2] [] (Nat.le_of_ble_eq_true rfl) rfl ?_ (fun _ => ?_)
  · refine Ev.mk rfl rfl ⟨Nat.le_of_ble_eq_true rfl, Or.inr (en_rcI (en_gs_eq (en_gs_ne (by decide) (en_gs_eq (en_gs_ne (by decide) (en_gs_eq (en_gs_ne (by decide) (en_gs_eq (en_gs_ne (by decide) (en_gs_eq (hm_231 _)))))))))) rfl)⟩ ?_
    show At _ none _ _ (0, [(0, .ref 231), (1, .int a2)], [], ((((((((((en_pre a 231 hp_M).set 231 (.inr (11, [.int 0, .int 0, .ref 232, .ref 233, .ref 234, .ref 235, .int 0, .ref 236, .int 0, .int 0, .int 0, .int 0, .long 0, .int (-1), .int 0, .int 0, .ref 237, .int 0, .ref 238, .ref 239, .int 0, .ref 240, .ref 241, .int 0, .int 0, .ref 242, .ref 243, .int 0, .ref 244, .ref 245, .int 0, .long 0, .long 0, .ref 246, .ref 247, .ref 248, .int 0, .ref 249, .ref 250, .ref 251, .ref 252, .ref 253, .ref 254, .ref 255, .ref 256, .int 0, .int 0, .int 0, .long 0, .ref 257, .ref 258, .int 0]))).set 236 (.inl (0, .inl ([((a1 >>> (24 &&& 31)) &&& 255)] ++ List.replicate 399 0)))).set 231 (.inr (11, [.int 0, .int 0, .ref 232, .ref 233, .ref 234, .ref 235, .int 0, .ref 236, .int 1, .int 0, .int 0, .int 0, .long 0, .int (-1), .int 0, .int 0, .ref 237, .int 0, .ref 238, .ref 239, .int 0, .ref 240, .ref 241, .int 0, .int 0, .ref 242, .ref 243, .int 0, .ref 244, .ref 245, .int 0, .long 0, .long 0, .ref 246, .ref 247, .ref 248, .int 0, .ref 249, .ref 250, .ref 251, .ref 252, .ref 253, .ref 254, .ref 255, .ref 256, .int 0, .int 0, .int 0, .long 0, .ref 257, .ref 258, .int 0]))).set 236 (.inl (0, .inl ([((a1 >>> (24 &&& 31)) &&& 255), ((a1 >>> (16 &&& 31)) &&& 255)] ++ List.replicate 398 0)))).set 231 (.inr (11, [.int 0, .int 0, .ref 232, .ref 233, .ref 234, .ref 235, .int 0, .ref 236, .int 2, .int 0, .int 0, .int 0, .long 0, .int (-1), .int 0, .int 0, .ref 237, .int 0, .ref 238, .ref 239, .int 0, .ref 240, .ref 241, .int 0, .int 0, .ref 242, .ref 243, .int 0, .ref 244, .ref 245, .int 0, .long 0, .long 0, .ref 246, .ref 247, .ref 248, .int 0, .ref 249, .ref 250, .ref 251, .ref 252, .ref 253, .ref 254, .ref 255, .ref 256, .int 0, .int 0, .int 0, .long 0, .ref 257, .ref 258, .int 0]))).set 236 (.inl (0, .inl ([((a1 >>> (24 &&& 31)) &&& 255), ((a1 >>> (16 &&& 31)) &&& 255), ((a1 >>> (8 &&& 31)) &&& 255)] ++ List.replicate 397 0)))).set 231 (.inr (11, [.int 0, .int 0, .ref 232, .ref 233, .ref 234, .ref 235, .int 0, .ref 236, .int 3, .int 0, .int 0, .int 0, .long 0, .int (-1), .int 0, .int 0, .ref 237, .int 0, .ref 238, .ref 239, .int 0, .ref 240, .ref 241, .int 0, .int 0, .ref 242, .ref 243, .int 0, .ref 244, .ref 245, .int 0, .long 0, .long 0, .ref 246, .ref 247, .ref 248, .int 0, .ref 249, .ref 250, .ref 251, .ref 252, .ref 253, .ref 254, .ref 255, .ref 256, .int 0, .int 0, .int 0, .long 0, .ref 257, .ref 258, .int 0]))).set 236 (.inl (0, .inl ([((a1 >>> (24 &&& 31)) &&& 255), ((a1 >>> (16 &&& 31)) &&& 255), ((a1 >>> (8 &&& 31)) &&& 255), (a1 &&& 255)] ++ List.replicate 396 0)))).set 231 (.inr (11, [.int 0, .int 0, .ref 232, .ref 233, .ref 234, .ref 235, .int 0, .ref 236, .int 4, .int 0, .int 0, .int 0, .long 0, .int (-1), .int 0, .int 0, .ref 237, .int 0, .ref 238, .ref 239, .int 0, .ref 240, .ref 241, .int 0, .int 0, .ref 242, .ref 243, .int 0, .ref 244, .ref 245, .int 0, .long 0, .long 0, .ref 246, .ref 247, .ref 248, .int 0, .ref 249, .ref 250, .ref 251, .ref 252, .ref 253, .ref 254, .ref 255, .ref 256, .int 0, .int 0, .int 0, .long 0, .ref 257, .ref 258, .int 0])), n)) _
    refine At.enter rfl ?_
    refine r_bipush 24 rfl ?_
    refine r_istore_n ([(2, .int 24), (0, .ref 231), (1, .int a2)]) rfl ?_
    refine Ar.fall 3 rfl ?_
    refine At.enter rfl ?_
    refine r_iload_n rfl ?_
    refine r_iff 7 rfl (by decide) ?_
    refine At.enter rfl ?_
    refine r_aload_n rfl ?_
    refine r_get (v := .ref 236) (en_gs_eq (en_gs_ne (by decide) (en_gs_eq (en_gs_ne (by decide) (en_gs_eq (en_gs_ne (by decide) (en_gs_eq (en_gs_ne (by decide) (en_gs_eq (hm_231 _)))))))))) rfl ?_
    refine r_aload_n rfl ?_
    refine r_get (v := .int 4) (en_gs_eq (en_gs_ne (by decide) (en_gs_eq (en_gs_ne (by decide) (en_gs_eq (en_gs_ne (by decide) (en_gs_eq (en_gs_ne (by decide) (en_gs_eq (hm_231 _)))))))))) rfl ?_
    refine r_iload_n rfl ?_
    refine r_iload_n rfl ?_
    refine r_ishr (a2 >>> (24 &&& 31)) rfl ?_
    refine r_sipush 255 rfl ?_
    refine r_iand ((a2 >>> (24 &&& 31)) &&& 255) rfl ?_
    refine r_iast (en_gs_ne (by decide) (en_gs_eq (en_gs_ne (by decide) (en_gs_eq (en_gs_ne (by decide) (en_gs_eq (en_gs_ne (by decide) (en_gs_eq (en_gs_ne (by decide) (hm_236 _)))))))))) (by decide) (Nat.le_of_ble_eq_true rfl) ([((a1 >>> (24 &&& 31)) &&& 255), ((a1 >>> (16 &&& 31)) &&& 255), ((a1 >>> (8 &&& 31)) &&& 255), (a1 &&& 255), ((a2 >>> (24 &&& 31)) &&& 255)] ++ List.replicate 395 0) rfl ?_
    refine r_aload_n rfl ?_
    refine r_dup rfl ?_
    refine r_get (v := .int 4) (en_gs_ne (by decide) (en_gs_eq (en_gs_ne (by decide) (en_gs_eq (en_gs_ne (by decide) (en_gs_eq (en_gs_ne (by decide) (en_gs_eq (en_gs_ne (by decide) (en_gs_eq (hm_231 _))))))))))) rfl ?_
    refine r_iconst 1 rfl ?_
    refine r_iadd 5 rfl ?_
    refine r_putf (en_gs_ne (by decide) (en_gs_eq (en_gs_ne (by decide) (en_gs_eq (en_gs_ne (by decide) (en_gs_eq (en_gs_ne (by decide) (en_gs_eq (en_gs_ne (by decide) (en_gs_eq (hm_231 _))))))))))) (Nat.le_of_ble_eq_true rfl) rfl [.int 0, .int 0, .ref 232, .ref 233, .ref 234, .ref 235, .int 0, .ref 236, .int 5, .int 0, .int 0, .int 0, .long 0, .int (-1), .int 0, .int 0, .ref 237, .int 0, .ref 238, .ref 239, .int 0, .ref 240, .ref 241, .int 0, .int 0, .ref 242, .ref 243, .int 0, .ref 244, .ref 245, .int 0, .long 0, .long 0, .ref 246, .ref 247, .ref 248, .int 0, .ref 249, .ref 250, .ref 251, .ref 252, .ref 253, .ref 254, .ref 255, .ref 256, .int 0, .int 0, .int 0, .long 0, .ref 257, .ref 258, .int 0] rfl ?_
    refine r_iinc rfl 16 rfl ([(2, .int 16), (0, .ref 231), (1, .int a2)]) rfl ?_
    refine r_goto ?_
    refine At.enter rfl ?_
    refine r_iload_n rfl ?_
    refine r_iff 7 rfl (by decide) ?_
    refine At.enter rfl ?_
    refine r_aload_n rfl ?_
    refine r_get (v := .ref 236) (en_gs_eq (en_gs_ne (by decide) (en_gs_eq (en_gs_ne (by decide) (en_gs_eq (en_gs_ne (by decide) (en_gs_eq (en_gs_ne (by decide) (en_gs_eq (en_gs_ne (by decide) (en_gs_eq (hm_231 _)))))))))))) rfl ?_
    refine r_aload_n rfl ?_
    refine r_get (v := .int 5) (en_gs_eq (en_gs_ne (by decide) (en_gs_eq (en_gs_ne (by decide) (en_gs_eq (en_gs_ne (by decide) (en_gs_eq (en_gs_ne (by decide) (en_gs_eq (en_gs_ne (by decide) (en_gs_eq (hm_231 _)))))))))))) rfl ?_
    refine r_iload_n rfl ?_
    refine r_iload_n rfl ?_
    refine r_ishr (a2 >>> (16 &&& 31)) rfl ?_
    refine r_sipush 255 rfl ?_
    refine r_iand ((a2 >>> (16 &&& 31)) &&& 255) rfl ?_
    refine r_iast (en_gs_ne (by decide) (en_gs_eq (en_gs_ne (by decide) (en_gs_eq (en_gs_ne (by decide) (en_gs_eq (en_gs_ne (by decide) (en_gs_eq (en_gs_ne (by decide) (en_gs_eq (en_gs_ne (by decide) (hm_236 _)))))))))))) (by decide) (Nat.le_of_ble_eq_true rfl) ([((a1 >>> (24 &&& 31)) &&& 255), ((a1 >>> (16 &&& 31)) &&& 255), ((a1 >>> (8 &&& 31)) &&& 255), (a1 &&& 255), ((a2 >>> (24 &&& 31)) &&& 255), ((a2 >>> (16 &&& 31)) &&& 255)] ++ List.replicate 394 0) rfl ?_
    refine r_aload_n rfl ?_
    refine r_dup rfl ?_
    refine r_get (v := .int 5) (en_gs_ne (by decide) (en_gs_eq (en_gs_ne (by decide) (en_gs_eq (en_gs_ne (by decide) (en_gs_eq (en_gs_ne (by decide) (en_gs_eq (en_gs_ne (by decide) (en_gs_eq (en_gs_ne (by decide) (en_gs_eq (hm_231 _))))))))))))) rfl ?_
    refine r_iconst 1 rfl ?_
    refine r_iadd 6 rfl ?_
    refine r_putf (en_gs_ne (by decide) (en_gs_eq (en_gs_ne (by decide) (en_gs_eq (en_gs_ne (by decide) (en_gs_eq (en_gs_ne (by decide) (en_gs_eq (en_gs_ne (by decide) (en_gs_eq (en_gs_ne (by decide) (en_gs_eq (hm_231 _))))))))))))) (Nat.le_of_ble_eq_true rfl) rfl [.int 0, .int 0, .ref 232, .ref 233, .ref 234, .ref 235, .int 0, .ref 236, .int 6, .int 0, .int 0, .int 0, .long 0, .int (-1), .int 0, .int 0, .ref 237, .int 0, .ref 238, .ref 239, .int 0, .ref 240, .ref 241, .int 0, .int 0, .ref 242, .ref 243, .int 0, .ref 244, .ref 245, .int 0, .long 0, .long 0, .ref 246, .ref 247, .ref 248, .int 0, .ref 249, .ref 250, .ref 251, .ref 252, .ref 253, .ref 254, .ref 255, .ref 256, .int 0, .int 0, .int 0, .long 0, .ref 257, .ref 258, .int 0] rfl ?_
    refine r_iinc rfl 8 rfl ([(2, .int 8), (0, .ref 231), (1, .int a2)]) rfl ?_
    refine r_goto ?_
    refine At.enter rfl ?_
    refine r_iload_n rfl ?_
    refine r_iff 7 rfl (by decide) ?_
    refine At.enter rfl ?_
    refine r_aload_n rfl ?_
    refine r_get (v := .ref 236) (en_gs_eq (en_gs_ne (by decide) (en_gs_eq (en_gs_ne (by decide) (en_gs_eq (en_gs_ne (by decide) (en_gs_eq (en_gs_ne (by decide) (en_gs_eq (en_gs_ne (by decide) (en_gs_eq (en_gs_ne (by decide) (en_gs_eq (hm_231 _)))))))))))))) rfl ?_
    refine r_aload_n rfl ?_
    refine r_get (v := .int 6) (en_gs_eq (en_gs_ne (by decide) (en_gs_eq (en_gs_ne (by decide) (en_gs_eq (en_gs_ne (by decide) (en_gs_eq (en_gs_ne (by decide) (en_gs_eq (en_gs_ne (by decide) (en_gs_eq (en_gs_ne (by decide) (en_gs_eq (hm_231 _)))))))))))))) rfl ?_
    refine r_iload_n rfl ?_
    refine r_iload_n rfl ?_
    refine r_ishr (a2 >>> (8 &&& 31)) rfl ?_
    refine r_sipush 255 rfl ?_
    refine r_iand ((a2 >>> (8 &&& 31)) &&& 255) rfl ?_
    refine r_iast (en_gs_ne (by decide) (en_gs_eq (en_gs_ne (by decide) (en_gs_eq (en_gs_ne (by decide) (en_gs_eq (en_gs_ne (by decide) (en_gs_eq (en_gs_ne (by decide) (en_gs_eq (en_gs_ne (by decide) (en_gs_eq (en_gs_ne (by decide) (hm_236 _)))))))))))))) (by decide) (Nat.le_of_ble_eq_true rfl) ([((a1 >>> (24 &&& 31)) &&& 255), ((a1 >>> (16 &&& 31)) &&& 255), ((a1 >>> (8 &&& 31)) &&& 255), (a1 &&& 255), ((a2 >>> (24 &&& 31)) &&& 255), ((a2 >>> (16 &&& 31)) &&& 255), ((a2 >>> (8 &&& 31)) &&& 255)] ++ List.replicate 393 0) rfl ?_
    refine r_aload_n rfl ?_
    refine r_dup rfl ?_
    refine r_get (v := .int 6) (en_gs_ne (by decide) (en_gs_eq (en_gs_ne (by decide) (en_gs_eq (en_gs_ne (by decide) (en_gs_eq (en_gs_ne (by decide) (en_gs_eq (en_gs_ne (by decide) (en_gs_eq (en_gs_ne (by decide) (en_gs_eq (en_gs_ne (by decide) (en_gs_eq (hm_231 _))))))))))))))) rfl ?_
    refine r_iconst 1 rfl ?_
    refine r_iadd 7 rfl ?_
    refine r_putf (en_gs_ne (by decide) (en_gs_eq (en_gs_ne (by decide) (en_gs_eq (en_gs_ne (by decide) (en_gs_eq (en_gs_ne (by decide) (en_gs_eq (en_gs_ne (by decide) (en_gs_eq (en_gs_ne (by decide) (en_gs_eq (en_gs_ne (by decide) (en_gs_eq (hm_231 _))))))))))))))) (Nat.le_of_ble_eq_true rfl) rfl [.int 0, .int 0, .ref 232, .ref 233, .ref 234, .ref 235, .int 0, .ref 236, .int 7, .int 0, .int 0, .int 0, .long 0, .int (-1), .int 0, .int 0, .ref 237, .int 0, .ref 238, .ref 239, .int 0, .ref 240, .ref 241, .int 0, .int 0, .ref 242, .ref 243, .int 0, .ref 244, .ref 245, .int 0, .long 0, .long 0, .ref 246, .ref 247, .ref 248, .int 0, .ref 249, .ref 250, .ref 251, .ref 252, .ref 253, .ref 254, .ref 255, .ref 256, .int 0, .int 0, .int 0, .long 0, .ref 257, .ref 258, .int 0] rfl ?_
    refine r_iinc rfl 0 rfl ([(2, .int 0), (0, .ref 231), (1, .int a2)]) rfl ?_
    refine r_goto ?_
    refine At.enter rfl ?_
    refine r_iload_n rfl ?_
    refine r_iff 7 rfl (by decide) ?_
    refine At.enter rfl ?_
    refine r_aload_n rfl ?_
    refine r_get (v := .ref 236) (en_gs_eq (en_gs_ne (by decide) (en_gs_eq (en_gs_ne (by decide) (en_gs_eq (en_gs_ne (by decide) (en_gs_eq (en_gs_ne (by decide) (en_gs_eq (en_gs_ne (by decide) (en_gs_eq (en_gs_ne (by decide) (en_gs_eq (en_gs_ne (by decide) (en_gs_eq (hm_231 _)))))))))))))))) rfl ?_
    refine r_aload_n rfl ?_
    refine r_get (v := .int 7) (en_gs_eq (en_gs_ne (by decide) (en_gs_eq (en_gs_ne (by decide) (en_gs_eq (en_gs_ne (by decide) (en_gs_eq (en_gs_ne (by decide) (en_gs_eq (en_gs_ne (by decide) (en_gs_eq (en_gs_ne (by decide) (en_gs_eq (en_gs_ne (by decide) (en_gs_eq (hm_231 _)))))))))))))))) rfl ?_
    refine r_iload_n rfl ?_
    refine r_iload_n rfl ?_
    refine r_ishr a2 (en_shr0 _) ?_
    refine r_sipush 255 rfl ?_
    refine r_iand (a2 &&& 255) rfl ?_
    refine r_iast (en_gs_ne (by decide) (en_gs_eq (en_gs_ne (by decide) (en_gs_eq (en_gs_ne (by decide) (en_gs_eq (en_gs_ne (by decide) (en_gs_eq (en_gs_ne (by decide) (en_gs_eq (en_gs_ne (by decide) (en_gs_eq (en_gs_ne (by decide) (en_gs_eq (en_gs_ne (by decide) (hm_236 _)))))))))))))))) (by decide) (Nat.le_of_ble_eq_true rfl) ([((a1 >>> (24 &&& 31)) &&& 255), ((a1 >>> (16 &&& 31)) &&& 255), ((a1 >>> (8 &&& 31)) &&& 255), (a1 &&& 255), ((a2 >>> (24 &&& 31)) &&& 255), ((a2 >>> (16 &&& 31)) &&& 255), ((a2 >>> (8 &&& 31)) &&& 255), (a2 &&& 255)] ++ List.replicate 392 0) rfl ?_
    refine r_aload_n rfl ?_
    refine r_dup rfl ?_
    refine r_get (v := .int 7) (en_gs_ne (by decide) (en_gs_eq (en_gs_ne (by decide) (en_gs_eq (en_gs_ne (by decide) (en_gs_eq (en_gs_ne (by decide) (en_gs_eq (en_gs_ne (by decide) (en_gs_eq (en_gs_ne (by decide) (en_gs_eq (en_gs_ne (by decide) (en_gs_eq (en_gs_ne (by decide) (en_gs_eq (hm_231 _))))))))))))))))) rfl ?_
    refine r_iconst 1 rfl ?_
    refine r_iadd 8 rfl ?_
    refine r_putf (en_gs_ne (by decide) (en_gs_eq (en_gs_ne (by decide) (en_gs_eq (en_gs_ne (by decide) (en_gs_eq (en_gs_ne (by decide) (en_gs_eq (en_gs_ne (by decide) (en_gs_eq (en_gs_ne (by decide) (en_gs_eq (en_gs_ne (by decide) (en_gs_eq (en_gs_ne (by decide) (en_gs_eq (hm_231 _))))))))))))))))) (Nat.le_of_ble_eq_true rfl) rfl [.int 0, .int 0, .ref 232, .ref 233, .ref 234, .ref 235, .int 0, .ref 236, .int 8, .int 0, .int 0, .int 0, .long 0, .int (-1), .int 0, .int 0, .ref 237, .int 0, .ref 238, .ref 239, .int 0, .ref 240, .ref 241, .int 0, .int 0, .ref 242, .ref 243, .int 0, .ref 244, .ref 245, .int 0, .long 0, .long 0, .ref 246, .ref 247, .ref 248, .int 0, .ref 249, .ref 250, .ref 251, .ref 252, .ref 253, .ref 254, .ref 255, .ref 256, .int 0, .int 0, .int 0, .long 0, .ref 257, .ref 258, .int 0] rfl ?_
    refine r_iinc rfl (-8) rfl ([(2, .int (-8)), (0, .ref 231), (1, .int a2)]) rfl ?_
    refine r_goto ?_
    refine At.enter rfl ?_
    refine r_iload_n rfl ?_
    refine r_ift (by decide) ?_
    refine At.enter rfl ?_
    refine r_vret ?_
    exact ⟨trivial, rfl, rfl⟩
  refine At.enter rfl ?_
  refine r_aload_n rfl ?_
  refine r_iload_n rfl ?_
  refine r_callV1v (True)  ((((((((((((((((((((((((((en_pre a 231 hp_M).set 231 (.inr (11, [.int 0, .int 0, .ref 232, .ref 233, .ref 234, .ref 235, .int 0, .ref 236, .int 0, .int 0, .int 0, .int 0, .long 0, .int (-1), .int 0, .int 0, .ref 237, .int 0, .ref 238, .ref 239, .int 0, .ref 240, .ref 241, .int 0, .int 0, .ref 242, .ref 243, .int 0, .ref 244, .ref 245, .int 0, .long 0, .long 0, .ref 246, .ref 247, .ref 248, .int 0, .ref 249, .ref 250, .ref 251, .ref 252, .ref 253, .ref 254, .ref 255, .ref 256, .int 0, .int 0, .int 0, .long 0, .ref 257, .ref 258, .int 0]))).set 236 (.inl (0, .inl ([((a1 >>> (24 &&& 31)) &&& 255)] ++ List.replicate 399 0)))).set 231 (.inr (11, [.int 0, .int 0, .ref 232, .ref 233, .ref 234, .ref 235, .int 0, .ref 236, .int 1, .int 0, .int 0, .int 0, .long 0, .int (-1), .int 0, .int 0, .ref 237, .int 0, .ref 238, .ref 239, .int 0, .ref 240, .ref 241, .int 0, .int 0, .ref 242, .ref 243, .int 0, .ref 244, .ref 245, .int 0, .long 0, .long 0, .ref 246, .ref 247, .ref 248, .int 0, .ref 249, .ref 250, .ref 251, .ref 252, .ref 253, .ref 254, .ref 255, .ref 256, .int 0, .int 0, .int 0, .long 0, .ref 257, .ref 258, .int 0]))).set 236 (.inl (0, .inl ([((a1 >>> (24 &&& 31)) &&& 255), ((a1 >>> (16 &&& 31)) &&& 255)] ++ List.replicate 398 0)))).set 231 (.inr (11, [.int 0, .int 0, .ref 232, .ref 233, .ref 234, .ref 235, .int 0, .ref 236, .int 2, .int 0, .int 0, .int 0, .long 0, .int (-1), .int 0, .int 0, .ref 237, .int 0, .ref 238, .ref 239, .int 0, .ref 240, .ref 241, .int 0, .int 0, .ref 242, .ref 243, .int 0, .ref 244, .ref 245, .int 0, .long 0, .long 0, .ref 246, .ref 247, .ref 248, .int 0, .ref 249, .ref 250, .ref 251, .ref 252, .ref 253, .ref 254, .ref 255, .ref 256, .int 0, .int 0, .int 0, .long 0, .ref 257, .ref 258, .int 0]))).set 236 (.inl (0, .inl ([((a1 >>> (24 &&& 31)) &&& 255), ((a1 >>> (16 &&& 31)) &&& 255), ((a1 >>> (8 &&& 31)) &&& 255)] ++ List.replicate 397 0)))).set 231 (.inr (11, [.int 0, .int 0, .ref 232, .ref 233, .ref 234, .ref 235, .int 0, .ref 236, .int 3, .int 0, .int 0, .int 0, .long 0, .int (-1), .int 0, .int 0, .ref 237, .int 0, .ref 238, .ref 239, .int 0, .ref 240, .ref 241, .int 0, .int 0, .ref 242, .ref 243, .int 0, .ref 244, .ref 245, .int 0, .long 0, .long 0, .ref 246, .ref 247, .ref 248, .int 0, .ref 249, .ref 250, .ref 251, .ref 252, .ref 253, .ref 254, .ref 255, .ref 256, .int 0, .int 0, .int 0, .long 0, .ref 257, .ref 258, .int 0]))).set 236 (.inl (0, .inl ([((a1 >>> (24 &&& 31)) &&& 255), ((a1 >>> (16 &&& 31)) &&& 255), ((a1 >>> (8 &&& 31)) &&& 255), (a1 &&& 255)] ++ List.replicate 396 0)))).set 231 (.inr (11, [.int 0, .int 0, .ref 232, .ref 233, .ref 234, .ref 235, .int 0, .ref 236, .int 4, .int 0, .int 0, .int 0, .long 0, .int (-1), .int 0, .int 0, .ref 237, .int 0, .ref 238, .ref 239, .int 0, .ref 240, .ref 241, .int 0, .int 0, .ref 242, .ref 243, .int 0, .ref 244, .ref 245, .int 0, .long 0, .long 0, .ref 246, .ref 247, .ref 248, .int 0, .ref 249, .ref 250, .ref 251, .ref 252, .ref 253, .ref 254, .ref 255, .ref 256, .int 0, .int 0, .int 0, .long 0, .ref 257, .ref 258, .int 0]))).set 236 (.inl (0, .inl ([((a1 >>> (24 &&& 31)) &&& 255), ((a1 >>> (16 &&& 31)) &&& 255), ((a1 >>> (8 &&& 31)) &&& 255), (a1 &&& 255), ((a2 >>> (24 &&& 31)) &&& 255)] ++ List.replicate 395 0)))).set 231 (.inr (11, [.int 0, .int 0, .ref 232, .ref 233, .ref 234, .ref 235, .int 0, .ref 236, .int 5, .int 0, .int 0, .int 0, .long 0, .int (-1), .int 0, .int 0, .ref 237, .int 0, .ref 238, .ref 239, .int 0, .ref 240, .ref 241, .int 0, .int 0, .ref 242, .ref 243, .int 0, .ref 244, .ref 245, .int 0, .long 0, .long 0, .ref 246, .ref 247, .ref 248, .int 0, .ref 249, .ref 250, .ref 251, .ref 252, .ref 253, .ref 254, .ref 255, .ref 256, .int 0, .int 0, .int 0, .long 0, .ref 257, .ref 258, .int 0]))).set 236 (.inl (0, .inl ([((a1 >>> (24 &&& 31)) &&& 255), ((a1 >>> (16 &&& 31)) &&& 255), ((a1 >>> (8 &&& 31)) &&& 255), (a1 &&& 255), ((a2 >>> (24 &&& 31)) &&& 255), ((a2 >>> (16 &&& 31)) &&& 255)] ++ List.replicate 394 0)))).set 231 (.inr (11, [.int 0, .int 0, .ref 232, .ref 233, .ref 234, .ref 235, .int 0, .ref 236, .int 6, .int 0, .int 0, .int 0, .long 0, .int (-1), .int 0, .int 0, .ref 237, .int 0, .ref 238, .ref 239, .int 0, .ref 240, .ref 241, .int 0, .int 0, .ref 242, .ref 243, .int 0, .ref 244, .ref 245, .int 0, .long 0, .long 0, .ref 246, .ref 247, .ref 248, .int 0, .ref 249, .ref 250, .ref 251, .ref 252, .ref 253, .ref 254, .ref 255, .ref 256, .int 0, .int 0, .int 0, .long 0, .ref 257, .ref 258, .int 0]))).set 236 (.inl (0, .inl ([((a1 >>> (24 &&& 31)) &&& 255), ((a1 >>> (16 &&& 31)) &&& 255), ((a1 >>> (8 &&& 31)) &&& 255), (a1 &&& 255), ((a2 >>> (24 &&& 31)) &&& 255), ((a2 >>> (16 &&& 31)) &&& 255), ((a2 >>> (8 &&& 31)) &&& 255)] ++ List.replicate 393 0)))).set 231 (.inr (11, [.int 0, .int 0, .ref 232, .ref 233, .ref 234, .ref 235, .int 0, .ref 236, .int 7, .int 0, .int 0, .int 0, .long 0, .int (-1), .int 0, .int 0, .ref 237, .int 0, .ref 238, .ref 239, .int 0, .ref 240, .ref 241, .int 0, .int 0, .ref 242, .ref 243, .int 0, .ref 244, .ref 245, .int 0, .long 0, .long 0, .ref 246, .ref 247, .ref 248, .int 0, .ref 249, .ref 250, .ref 251, .ref 252, .ref 253, .ref 254, .ref 255, .ref 256, .int 0, .int 0, .int 0, .long 0, .ref 257, .ref 258, .int 0]))).set 236 (.inl (0, .inl ([((a1 >>> (24 &&& 31)) &&& 255), ((a1 >>> (16 &&& 31)) &&& 255), ((a1 >>> (8 &&& 31)) &&& 255), (a1 &&& 255), ((a2 >>> (24 &&& 31)) &&& 255), ((a2 >>> (16 &&& 31)) &&& 255), ((a2 >>> (8 &&& 31)) &&& 255), (a2 &&& 255)] ++ List.replicate 392 0)))).set 231 (.inr (11, [.int 0, .int 0, .ref 232, .ref 233, .ref 234, .ref 235, .int 0, .ref 236, .int 8, .int 0, .int 0, .int 0, .long 0, .int (-1), .int 0, .int 0, .ref 237, .int 0, .ref 238, .ref 239, .int 0, .ref 240, .ref 241, .int 0, .int 0, .ref 242, .ref 243, .int 0, .ref 244, .ref 245, .int 0, .long 0, .long 0, .ref 246, .ref 247, .ref 248, .int 0, .ref 249, .ref 250, .ref 251, .ref 252, .ref 253, .ref 254, .ref 255, .ref 256, .int 0, .int 0, .int 0, .long 0, .ref 257, .ref 258, .int 0]))).set 236 (.inl (0, .inl ([((a1 >>> (24 &&& 31)) &&& 255), ((a1 >>> (16 &&& 31)) &&& 255), ((a1 >>> (8 &&& 31)) &&& 255), (a1 &&& 255), ((a2 >>> (24 &&& 31)) &&& 255), ((a2 >>> (16 &&& 31)) &&& 255), ((a2 >>> (8 &&& 31)) &&& 255), (a2 &&& 255), ((a3 >>> (24 &&& 31)) &&& 255)] ++ List.replicate 391 0)))).set 231 (.inr (11, [.int 0, .int 0, .ref 232, .ref 233, .ref 234, .ref 235, .int 0, .ref 236, .int 9, .int 0, .int 0, .int 0, .long 0, .int (-1), .int 0, .int 0, .ref 237, .int 0, .ref 238, .ref 239, .int 0, .ref 240, .ref 241, .int 0, .int 0, .ref 242, .ref 243, .int 0, .ref 244, .ref 245, .int 0, .long 0, .long 0, .ref 246, .ref 247, .ref 248, .int 0, .ref 249, .ref 250, .ref 251, .ref 252, .ref 253, .ref 254, .ref 255, .ref 256, .int 0, .int 0, .int 0, .long 0, .ref 257, .ref 258, .int 0]))).set 236 (.inl (0, .inl ([((a1 >>> (24 &&& 31)) &&& 255), ((a1 >>> (16 &&& 31)) &&& 255), ((a1 >>> (8 &&& 31)) &&& 255), (a1 &&& 255), ((a2 >>> (24 &&& 31)) &&& 255), ((a2 >>> (16 &&& 31)) &&& 255), ((a2 >>> (8 &&& 31)) &&& 255), (a2 &&& 255), ((a3 >>> (24 &&& 31)) &&& 255), ((a3 >>> (16 &&& 31)) &&& 255)] ++ List.replicate 390 0)))).set 231 (.inr (11, [.int 0, .int 0, .ref 232, .ref 233, .ref 234, .ref 235, .int 0, .ref 236, .int 10, .int 0, .int 0, .int 0, .long 0, .int (-1), .int 0, .int 0, .ref 237, .int 0, .ref 238, .ref 239, .int 0, .ref 240, .ref 241, .int 0, .int 0, .ref 242, .ref 243, .int 0, .ref 244, .ref 245, .int 0, .long 0, .long 0, .ref 246, .ref 247, .ref 248, .int 0, .ref 249, .ref 250, .ref 251, .ref 252, .ref 253, .ref 254, .ref 255, .ref 256, .int 0, .int 0, .int 0, .long 0, .ref 257, .ref 258, .int 0]))).set 236 (.inl (0, .inl ([((a1 >>> (24 &&& 31)) &&& 255), ((a1 >>> (16 &&& 31)) &&& 255), ((a1 >>> (8 &&& 31)) &&& 255), (a1 &&& 255), ((a2 >>> (24 &&& 31)) &&& 255), ((a2 >>> (16 &&& 31)) &&& 255), ((a2 >>> (8 &&& 31)) &&& 255), (a2 &&& 255), ((a3 >>> (24 &&& 31)) &&& 255), ((a3 >>> (16 &&& 31)) &&& 255), ((a3 >>> (8 &&& 31)) &&& 255)] ++ List.replicate 389 0)))).set 231 (.inr (11, [.int 0, .int 0, .ref 232, .ref 233, .ref 234, .ref 235, .int 0, .ref 236, .int 11, .int 0, .int 0, .int 0, .long 0, .int (-1), .int 0, .int 0, .ref 237, .int 0, .ref 238, .ref 239, .int 0, .ref 240, .ref 241, .int 0, .int 0, .ref 242, .ref 243, .int 0, .ref 244, .ref 245, .int 0, .long 0, .long 0, .ref 246, .ref 247, .ref 248, .int 0, .ref 249, .ref 250, .ref 251, .ref 252, .ref 253, .ref 254, .ref 255, .ref 256, .int 0, .int 0, .int 0, .long 0, .ref 257, .ref 258, .int 0]))).set 236 (.inl (0, .inl ([((a1 >>> (24 &&& 31)) &&& 255), ((a1 >>> (16 &&& 31)) &&& 255), ((a1 >>> (8 &&& 31)) &&& 255), (a1 &&& 255), ((a2 >>> (24 &&& 31)) &&& 255), ((a2 >>> (16 &&& 31)) &&& 255), ((a2 >>> (8 &&& 31)) &&& 255), (a2 &&& 255), ((a3 >>> (24 &&& 31)) &&& 255), ((a3 >>> (16 &&& 31)) &&& 255), ((a3 >>> (8 &&& 31)) &&& 255), (a3 &&& 255)] ++ List.replicate 388 0)))).set 231 (.inr (11, [.int 0, .int 0, .ref 232, .ref 233, .ref 234, .ref 235, .int 0, .ref 236, .int 12, .int 0, .int 0, .int 0, .long 0, .int (-1), .int 0, .int 0, .ref 237, .int 0, .ref 238, .ref 239, .int 0, .ref 240, .ref 241, .int 0, .int 0, .ref 242, .ref 243, .int 0, .ref 244, .ref 245, .int 0, .long 0, .long 0, .ref 246, .ref 247, .ref 248, .int 0, .ref 249, .ref 250, .ref 251, .ref 252, .ref 253, .ref 254, .ref 255, .ref 256, .int 0, .int 0, .int 0, .long 0, .ref 257, .ref 258, .int 0])), n) 35 rfl [.ref 231, .int a3] [] (Nat.le_of_ble_eq_true rfl) rfl ?_ (fun _ => ?_)
  · refine Ev.mk rfl rfl ⟨Nat.le_of_ble_eq_true rfl, Or.inr (en_rcI (en_gs_eq (en_gs_ne (by decide) (en_gs_eq (en_gs_ne (by decide) (en_gs_eq (en_gs_ne (by decide) (en_gs_eq (en_gs_ne (by decide) (en_gs_eq (en_gs_ne (by decide) (en_gs_eq (en_gs_ne (by decide) (en_gs_eq (en_gs_ne (by decide) (en_gs_eq (en_gs_ne (by decide) (en_gs_eq (hm_231 _)))))))))))))))))) rfl)⟩ ?_
    show At _ none _ _ (0, [(0, .ref 231), (1, .int a3)], [], ((((((((((((((((((en_pre a 231 hp_M).set 231 (.inr (11, [.int 0, .int 0, .ref 232, .ref 233, .ref 234, .ref 235, .int 0, .ref 236, .int 0, .int 0, .int 0, .int 0, .long 0, .int (-1), .int 0, .int 0, .ref 237, .int 0, .ref 238, .ref 239, .int 0, .ref 240, .ref 241, .int 0, .int 0, .ref 242, .ref 243, .int 0, .ref 244, .ref 245, .int 0, .long 0, .long 0, .ref 246, .ref 247, .ref 248, .int 0, .ref 249, .ref 250, .ref 251, .ref 252, .ref 253, .ref 254, .ref 255, .ref 256, .int 0, .int 0, .int 0, .long 0, .ref 257, .ref 258, .int 0]))).set 236 (.inl (0, .inl ([((a1 >>> (24 &&& 31)) &&& 255)] ++ List.replicate 399 0)))).set 231 (.inr (11, [.int 0, .int 0, .ref 232, .ref 233, .ref 234, .ref 235, .int 0, .ref 236, .int 1, .int 0, .int 0, .int 0, .long 0, .int (-1), .int 0, .int 0, .ref 237, .int 0, .ref 238, .ref 239, .int 0, .ref 240, .ref 241, .int 0, .int 0, .ref 242, .ref 243, .int 0, .ref 244, .ref 245, .int 0, .long 0, .long 0, .ref 246, .ref 247, .ref 248, .int 0, .ref 249, .ref 250, .ref 251, .ref 252, .ref 253, .ref 254, .ref 255, .ref 256, .int 0, .int 0, .int 0, .long 0, .ref 257, .ref 258, .int 0]))).set 236 (.inl (0, .inl ([((a1 >>> (24 &&& 31)) &&& 255), ((a1 >>> (16 &&& 31)) &&& 255)] ++ List.replicate 398 0)))).set 231 (.inr (11, [.int 0, .int 0, .ref 232, .ref 233, .ref 234, .ref 235, .int 0, .ref 236, .int 2, .int 0, .int 0, .int 0, .long 0, .int (-1), .int 0, .int 0, .ref 237, .int 0, .ref 238, .ref 239, .int 0, .ref 240, .ref 241, .int 0, .int 0, .ref 242, .ref 243, .int 0, .ref 244, .ref 245, .int 0, .long 0, .long 0, .ref 246, .ref 247, .ref 248, .int 0, .ref 249, .ref 250, .ref 251, .ref 252, .ref 253, .ref 254, .ref 255, .ref 256, .int 0, .int 0, .int 0, .long 0, .ref 257, .ref 258, .int 0]))).set 236 (.inl (0, .inl ([((a1 >>> (24 &&& 31)) &&& 255), ((a1 >>> (16 &&& 31)) &&& 255), ((a1 >>> (8 &&& 31)) &&& 255)] ++ List.replicate 397 0)))).set 231 (.inr (11, [.int 0, .int 0, .ref 232, .ref 233, .ref 234, .ref 235, .int 0, .ref 236, .int 3, .int 0, .int 0, .int 0, .long 0, .int (-1), .int 0, .int 0, .ref 237, .int 0, .ref 238, .ref 239, .int 0, .ref 240, .ref 241, .int 0, .int 0, .ref 242, .ref 243, .int 0, .ref 244, .ref 245, .int 0, .long 0, .long 0, .ref 246, .ref 247, .ref 248, .int 0, .ref 249, .ref 250, .ref 251, .ref 252, .ref 253, .ref 254, .ref 255, .ref 256, .int 0, .int 0, .int 0, .long 0, .ref 257, .ref 258, .int 0]))).set 236 (.inl (0, .inl ([((a1 >>> (24 &&& 31)) &&& 255), ((a1 >>> (16 &&& 31)) &&& 255), ((a1 >>> (8 &&& 31)) &&& 255), (a1 &&& 255)] ++ List.replicate 396 0)))).set 231 (.inr (11, [.int 0, .int 0, .ref 232, .ref 233, .ref 234, .ref 235, .int 0, .ref 236, .int 4, .int 0, .int 0, .int 0, .long 0, .int (-1), .int 0, .int 0, .ref 237, .int 0, .ref 238, .ref 239, .int 0, .ref 240, .ref 241, .int 0, .int 0, .ref 242, .ref 243, .int 0, .ref 244, .ref 245, .int 0, .long 0, .long 0, .ref 246, .ref 247, .ref 248, .int 0, .ref 249, .ref 250, .ref 251, .ref 252, .ref 253, .ref 254, .ref 255, .ref 256, .int 0, .int 0, .int 0, .long 0, .ref 257, .ref 258, .int 0]))).set 236 (.inl (0, .inl ([((a1 >>> (24 &&& 31)) &&& 255), ((a1 >>> (16 &&& 31)) &&& 255), ((a1 >>> (8 &&& 31)) &&& 255), (a1 &&& 255), ((a2 >>> (24 &&& 31)) &&& 255)] ++ List.replicate 395 0)))).set 231 (.inr (11, [.int 0, .int 0, .ref 232, .ref 233, .ref 234, .ref 235, .int 0, .ref 236, .int 5, .int 0, .int 0, .int 0, .long 0, .int (-1), .int 0, .int 0, .ref 237, .int 0, .ref 238, .ref 239, .int 0, .ref 240, .ref 241, .int 0, .int 0, .ref 242, .ref 243, .int 0, .ref 244, .ref 245, .int 0, .long 0, .long 0, .ref 246, .ref 247, .ref 248, .int 0, .ref 249, .ref 250, .ref 251, .ref 252, .ref 253, .ref 254, .ref 255, .ref 256, .int 0, .int 0, .int 0, .long 0, .ref 257, .ref 258, .int 0]))).set 236 (.inl (0, .inl ([((a1 >>> (24 &&& 31)) &&& 255), ((a1 >>> (16 &&& 31)) &&& 255), ((a1 >>> (8 &&& 31)) &&& 255), (a1 &&& 255), ((a2 >>> (24 &&& 31)) &&& 255), ((a2 >>> (16 &&& 31)) &&& 255)] ++ List.replicate 394 0)))).set 231 (.inr (11, [.int 0, .int 0, .ref 232, .ref 233, .ref 234, .ref 235, .int 0, .ref 236, .int 6, .int 0, .int 0, .int 0, .long 0, .int (-1), .int 0, .int 0, .ref 237, .int 0, .ref 238, .ref 239, .int 0, .ref 240, .ref 241, .int 0, .int 0, .ref 242, .ref 243, .int 0, .ref 244, .ref 245, .int 0, .long 0, .long 0, .ref 246, .ref 247, .ref 248, .int 0, .ref 249, .ref 250, .ref 251, .ref 252, .ref 253, .ref 254, .ref 255, .ref 256, .int 0, .int 0, .int 0, .long 0, .ref 257, .ref 258, .int 0]))).set 236 (.inl (0, .inl ([((a1 >>> (24 &&& 31)) &&& 255), ((a1 >>> (16 &&& 31)) &&& 255), ((a1 >>> (8 &&& 31)) &&& 255), (a1 &&& 255), ((a2 >>> (24 &&& 31)) &&& 255), ((a2 >>> (16 &&& 31)) &&& 255), ((a2 >>> (8 &&& 31)) &&& 255)] ++ List.replicate 393 0)))).set 231 (.inr (11, [.int 0, .int 0, .ref 232, .ref 233, .ref 234, .ref 235, .int 0, .ref 236, .int 7, .int 0, .int 0, .int 0, .long 0, .int (-1), .int 0, .int 0, .ref 237, .int 0, .ref 238, .ref 239, .int 0, .ref 240, .ref 241, .int 0, .int 0, .ref 242, .ref 243, .int 0, .ref 244, .ref 245, .int 0, .long 0, .long 0, .ref 246, .ref 247, .ref 248, .int 0, .ref 249, .ref 250, .ref 251, .ref 252, .ref 253, .ref 254, .ref 255, .ref 256, .int 0, .int 0, .int 0, .long 0, .ref 257, .ref 258, .int 0]))).set 236 (.inl (0, .inl ([((a1 >>> (24 &&& 31)) &&& 255), ((a1 >>> (16 &&& 31)) &&& 255), ((a1 >>> (8 &&& 31)) &&& 255), (a1 &&& 255), ((a2 >>> (24 &&& 31)) &&& 255), ((a2 >>> (16 &&& 31)) &&& 255), ((a2 >>> (8 &&& 31)) &&& 255), (a2 &&& 255)] ++ List.replicate 392 0)))).set 231 (.inr (11, [.int 0, .int 0, .ref 232, .ref 233, .ref 234, .ref 235, .int 0, .ref 236, .int 8, .int 0, .int 0, .int 0, .long 0, .int (-1), .int 0, .int 0, .ref 237, .int 0, .ref 238, .ref 239, .int 0, .ref 240, .ref 241, .int 0, .int 0, .ref 242, .ref 243, .int 0, .ref 244, .ref 245, .int 0, .long 0, .long 0, .ref 246, .ref 247, .ref 248, .int 0, .ref 249, .ref 250, .ref 251, .ref 252, .ref 253, .ref 254, .ref 255, .ref 256, .int 0, .int 0, .int 0, .long 0, .ref 257, .ref 258, .int 0])), n)) _
    refine At.enter rfl ?_
    refine r_bipush 24 rfl ?_
    refine r_istore_n ([(2, .int 24), (0, .ref 231), (1, .int a3)]) rfl ?_
    refine Ar.fall 3 rfl ?_
    refine At.enter rfl ?_
    refine r_iload_n rfl ?_
    refine r_iff 7 rfl (by decide) ?_
    refine At.enter rfl ?_
    refine r_aload_n rfl ?_
    refine r_get (v := .ref 236) (en_gs_eq (en_gs_ne (by decide) (en_gs_eq (en_gs_ne (by decide) (en_gs_eq (en_gs_ne (by decide) (en_gs_eq (en_gs_ne (by decide) (en_gs_eq (en_gs_ne (by decide) (en_gs_eq (en_gs_ne (by decide) (en_gs_eq (en_gs_ne (by decide) (en_gs_eq (en_gs_ne (by decide) (en_gs_eq (hm_231 _)))))))))))))))))) rfl ?_
    refine r_aload_n rfl ?_
    refine r_get (v := .int 8) (en_gs_eq (en_gs_ne (by decide) (en_gs_eq (en_gs_ne (by decide) (en_gs_eq (en_gs_ne (by decide) (en_gs_eq (en_gs_ne (by decide) (en_gs_eq (en_gs_ne (by decide) (en_gs_eq (en_gs_ne (by decide) (en_gs_eq (en_gs_ne (by decide) (en_gs_eq (en_gs_ne (by decide) (en_gs_eq (hm_231 _)))))))))))))))))) rfl ?_
    refine r_iload_n rfl ?_
    refine r_iload_n rfl ?_
    refine r_ishr (a3 >>> (24 &&& 31)) rfl ?_
    refine r_sipush 255 rfl ?_
    refine r_iand ((a3 >>> (24 &&& 31)) &&& 255) rfl ?_
    refine r_iast (en_gs_ne (by decide) (en_gs_eq (en_gs_ne (by decide) (en_gs_eq (en_gs_ne (by decide) (en_gs_eq (en_gs_ne (by decide) (en_gs_eq (en_gs_ne (by decide) (en_gs_eq (en_gs_ne (by decide) (en_gs_eq (en_gs_ne (by decide) (en_gs_eq (en_gs_ne (by decide) (en_gs_eq (en_gs_ne (by decide) (hm_236 _)))))))))))))))))) (by decide) (Nat.le_of_ble_eq_true rfl) ([((a1 >>> (24 &&& 31)) &&& 255), ((a1 >>> (16 &&& 31)) &&& 255), ((a1 >>> (8 &&& 31)) &&& 255), (a1 &&& 255), ((a2 >>> (24 &&& 31)) &&& 255), ((a2 >>> (16 &&& 31)) &&& 255), ((a2 >>> (8 &&& 31)) &&& 255), (a2 &&& 255), ((a3 >>> (24 &&& 31)) &&& 255)] ++ List.replicate 391 0) rfl ?_
    refine r_aload_n rfl ?_
    refine r_dup rfl ?_
    refine r_get (v := .int 8) (en_gs_ne (by decide) (en_gs_eq (en_gs_ne (by decide) (en_gs_eq (en_gs_ne (by decide) (en_gs_eq (en_gs_ne (by decide) (en_gs_eq (en_gs_ne (by decide) (en_gs_eq (en_gs_ne (by decide) (en_gs_eq (en_gs_ne (by decide) (en_gs_eq (en_gs_ne (by decide) (en_gs_eq (en_gs_ne (by decide) (en_gs_eq (hm_231 _))))))))))))))))))) rfl ?_
    refine r_iconst 1 rfl ?_
    refine r_iadd 9 rfl ?_
    refine r_putf (en_gs_ne (by decide) (en_gs_eq (en_gs_ne (by decide) (en_gs_eq (en_gs_ne (by decide) (en_gs_eq (en_gs_ne (by decide) (en_gs_eq (en_gs_ne (by decide) (en_gs_eq (en_gs_ne (by decide) (en_gs_eq (en_gs_ne (by decide) (en_gs_eq (en_gs_ne (by decide) (en_gs_eq (en_gs_ne (by decide) (en_gs_eq (hm_231 _))))))))))))))))))) (Nat.le_of_ble_eq_true rfl) rfl [.int 0, .int 0, .ref 232, .ref 233, .ref 234, .ref 235, .int 0, .ref 236, .int 9, .int 0, .int 0, .int 0, .long 0, .int (-1), .int 0, .int 0, .ref 237, .int 0, .ref 238, .ref 239, .int 0, .ref 240, .ref 241, .int 0, .int 0, .ref 242, .ref 243, .int 0, .ref 244, .ref 245, .int 0, .long 0, .long 0, .ref 246, .ref 247, .ref 248, .int 0, .ref 249, .ref 250, .ref 251, .ref 252, .ref 253, .ref 254, .ref 255, .ref 256, .int 0, .int 0, .int 0, .long 0, .ref 257, .ref 258, .int 0] rfl ?_
    refine r_iinc rfl 16 rfl ([(2, .int 16), (0, .ref 231), (1, .int a3)]) rfl ?_
    refine r_goto ?_
    refine At.enter rfl ?_
    refine r_iload_n rfl ?_
    refine r_iff 7 rfl (by decide) ?_
    refine At.enter rfl ?_
    refine r_aload_n rfl ?_
    refine r_get (v := .ref 236) (en_gs_eq (en_gs_ne (by decide) (en_gs_eq (en_gs_ne (by decide) (en_gs_eq (en_gs_ne (by decide) (en_gs_eq (en_gs_ne (by decide) (en_gs_eq (en_gs_ne (by decide) (en_gs_eq (en_gs_ne (by decide) (en_gs_eq (en_gs_ne (by decide) (en_gs_eq (en_gs_ne (by decide) (en_gs_eq (en_gs_ne (by decide) (en_gs_eq (hm_231 _)))))))))))))))))))) rfl ?_
    refine r_aload_n rfl ?_
    refine r_get (v := .int 9) (en_gs_eq (en_gs_ne (by decide) (en_gs_eq (en_gs_ne (by decide) (en_gs_eq (en_gs_ne (by decide) (en_gs_eq (en_gs_ne (by decide) (en_gs_eq (en_gs_ne (by decide) (en_gs_eq (en_gs_ne (by decide) (en_gs_eq (en_gs_ne (by decide) (en_gs_eq (en_gs_ne (by decide) (en_gs_eq (en_gs_ne (by decide) (en_gs_eq (hm_231 _)))))))))))))))))))) rfl ?_
    refine r_iload_n rfl ?_
    refine r_iload_n rfl ?_
    refine r_ishr (a3 >>> (16 &&& 31)) rfl ?_
    refine r_sipush 255 rfl ?_
    refine r_iand ((a3 >>> (16 &&& 31)) &&& 255) rfl ?_
    refine r_iast (en_gs_ne (by decide) (en_gs_eq (en_gs_ne (by decide) (en_gs_eq (en_gs_ne (by decide) (en_gs_eq (en_gs_ne (by decide) (en_gs_eq (en_gs_ne (by decide) (en_gs_eq (en_gs_ne (by decide) (en_gs_eq (en_gs_ne (by decide) (en_gs_eq (en_gs_ne (by decide) (en_gs_eq (en_gs_ne (by decide) (en_gs_eq (en_gs_ne (by decide) (hm_236 _)))))))))))))))))))) (by decide) (Nat.le_of_ble_eq_true rfl) ([((a1 >>> (24 &&& 31)) &&& 255), ((a1 >>> (16 &&& 31)) &&& 255), ((a1 >>> (8 &&& 31)) &&& 255), (a1 &&& 255), ((a2 >>> (24 &&& 31)) &&& 255), ((a2 >>> (16 &&& 31)) &&& 255), ((a2 >>> (8 &&& 31)) &&& 255), (a2 &&& 255), ((a3 >>> (24 &&& 31)) &&& 255), ((a3 >>> (16 &&& 31)) &&& 255)] ++ List.replicate 390 0) rfl ?_
    refine r_aload_n rfl ?_
    refine r_dup rfl ?_
    refine r_get (v := .int 9) (en_gs_ne (by decide) (en_gs_eq (en_gs_ne (by decide) (en_gs_eq (en_gs_ne (by decide) (en_gs_eq (en_gs_ne (by decide) (en_gs_eq (en_gs_ne (by decide) (en_gs_eq (en_gs_ne (by decide) (en_gs_eq (en_gs_ne (by decide) (en_gs_eq (en_gs_ne (by decide) (en_gs_eq (en_gs_ne (by decide) (en_gs_eq (en_gs_ne (by decide) (en_gs_eq (hm_231 _))))))))))))))))))))) rfl ?_
    refine r_iconst 1 rfl ?_
    refine r_iadd 10 rfl ?_
    refine r_putf (en_gs_ne (by decide) (en_gs_eq (en_gs_ne (by decide) (en_gs_eq (en_gs_ne (by decide) (en_gs_eq (en_gs_ne (by decide) (en_gs_eq (en_gs_ne (by decide) (en_gs_eq (en_gs_ne (by decide) (en_gs_eq (en_gs_ne (by decide) (en_gs_eq (en_gs_ne (by decide) (en_gs_eq (en_gs_ne (by decide) (en_gs_eq (en_gs_ne (by decide) (en_gs_eq (hm_231 _))))))))))))))))))))) (Nat.le_of_ble_eq_true rfl) rfl [.int 0, .int 0, .ref 232, .ref 233, .ref 234, .ref 235, .int 0, .ref 236, .int 10, .int 0, .int 0, .int 0, .long 0, .int (-1), .int 0, .int 0, .ref 237, .int 0, .ref 238, .ref 239, .int 0, .ref 240, .ref 241, .int 0, .int 0, .ref 242, .ref 243, .int 0, .ref 244, .ref 245, .int 0, .long 0, .long 0, .ref 246, .ref 247, .ref 248, .int 0, .ref 249, .ref 250, .ref 251, .ref 252, .ref 253, .ref 254, .ref 255, .ref 256, .int 0, .int 0, .int 0, .long 0, .ref 257, .ref 258, .int 0] rfl ?_
    refine r_iinc rfl 8 rfl ([(2, .int 8), (0, .ref 231), (1, .int a3)]) rfl ?_
    refine r_goto ?_
    refine At.enter rfl ?_
    refine r_iload_n rfl ?_
    refine r_iff 7 rfl (by decide) ?_
    refine At.enter rfl ?_
    refine r_aload_n rfl ?_
    refine r_get (v := .ref 236) (en_gs_eq (en_gs_ne (by decide) (en_gs_eq (en_gs_ne (by decide) (en_gs_eq (en_gs_ne (by decide) (en_gs_eq (en_gs_ne (by decide) (en_gs_eq (en_gs_ne (by decide) (en_gs_eq (en_gs_ne (by decide) (en_gs_eq (en_gs_ne (by decide) (en_gs_eq (en_gs_ne (by decide) (en_gs_eq (en_gs_ne (by decide) (en_gs_eq (en_gs_ne (by decide) (en_gs_eq (hm_231 _)))))))))))))))))))))) rfl ?_
    refine r_aload_n rfl ?_
    refine r_get (v := .int 10) (en_gs_eq (en_gs_ne (by decide) (en_gs_eq (en_gs_ne (by decide) (en_gs_eq (en_gs_ne (by decide) (en_gs_eq (en_gs_ne (by decide) (en_gs_eq (en_gs_ne (by decide) (en_gs_eq (en_gs_ne (by decide) (en_gs_eq (en_gs_ne (by decide) (en_gs_eq (en_gs_ne (by decide) (en_gs_eq (en_gs_ne (by decide) (en_gs_eq (en_gs_ne (by decide) (en_gs_eq (hm_231 _)))))))))))))))))))))) rfl ?_
    refine r_iload_n rfl ?_
    refine r_iload_n rfl ?_
    refine r_ishr (a3 >>> (8 &&& 31)) rfl ?_
    refine r_sipush 255 rfl ?_
    refine r_iand ((a3 >>> (8 &&& 31)) &&& 255) rfl ?_
    refine r_iast (en_gs_ne (by decide) (en_gs_eq (en_gs_ne (by decide) (en_gs_eq (en_gs_ne (by decide) (en_gs_eq (en_gs_ne (by decide) (en_gs_eq (en_gs_ne (by decide) (en_gs_eq (en_gs_ne (by decide) (en_gs_eq (en_gs_ne (by decide) (en_gs_eq (en_gs_ne (by decide) (en_gs_eq (en_gs_ne (by decide) (en_gs_eq (en_gs_ne (by decide) (en_gs_eq (en_gs_ne (by decide) (hm_236 _)))))))))))))))))))))) (by decide) (Nat.le_of_ble_eq_true rfl) ([((a1 >>> (24 &&& 31)) &&& 255), ((a1 >>> (16 &&& 31)) &&& 255), ((a1 >>> (8 &&& 31)) &&& 255), (a1 &&& 255), ((a2 >>> (24 &&& 31)) &&& 255), ((a2 >>> (16 &&& 31)) &&& 255), ((a2 >>> (8 &&& 31)) &&& 255), (a2 &&& 255), ((a3 >>> (24 &&& 31)) &&& 255), ((a3 >>> (16 &&& 31)) &&& 255), ((a3 >>> (8 &&& 31)) &&& 255)] ++ List.replicate 389 0) rfl ?_
    refine r_aload_n rfl ?_
    refine r_dup rfl ?_
    refine r_get (v := .int 10) (en_gs_ne (by decide) (en_gs_eq (en_gs_ne (by decide) (en_gs_eq (en_gs_ne (by decide) (en_gs_eq (en_gs_ne (by decide) (en_gs_eq (en_gs_ne (by decide) (en_gs_eq (en_gs_ne (by decide) (en_gs_eq (en_gs_ne (by decide) (en_gs_eq (en_gs_ne (by decide) (en_gs_eq (en_gs_ne (by decide) (en_gs_eq (en_gs_ne (by decide) (en_gs_eq (en_gs_ne (by decide) (en_gs_eq (hm_231 _))))))))))))))))))))))) rfl ?_
    refine r_iconst 1 rfl ?_
    refine r_iadd 11 rfl ?_
    refine r_putf (en_gs_ne (by decide) (en_gs_eq (en_gs_ne (by decide) (en_gs_eq (en_gs_ne (by decide) (en_gs_eq (en_gs_ne (by decide) (en_gs_eq (en_gs_ne (by decide) (en_gs_eq (en_gs_ne (by decide) (en_gs_eq (en_gs_ne (by decide) (en_gs_eq (en_gs_ne (by decide) (en_gs_eq (en_gs_ne (by decide) (en_gs_eq (en_gs_ne (by decide) (en_gs_eq (en_gs_ne (by decide) (en_gs_eq (hm_231 _))))))))))))))))))))))) (Nat.le_of_ble_eq_true rfl) rfl [.int 0, .int 0, .ref 232, .ref 233, .ref 234, .ref 235, .int 0, .ref 236, .int 11, .int 0, .int 0, .int 0, .long 0, .int (-1), .int 0, .int 0, .ref 237, .int 0, .ref 238, .ref 239, .int 0, .ref 240, .ref 241, .int 0, .int 0, .ref 242, .ref 243, .int 0, .ref 244, .ref 245, .int 0, .long 0, .long 0, .ref 246, .ref 247, .ref 248, .int 0, .ref 249, .ref 250, .ref 251, .ref 252, .ref 253, .ref 254, .ref 255, .ref 256, .int 0, .int 0, .int 0, .long 0, .ref 257, .ref 258, .int 0] rfl ?_
    refine r_iinc rfl 0 rfl ([(2, .int 0), (0, .ref 231), (1, .int a3)]) rfl ?_
    refine r_goto ?_
    refine At.enter rfl ?_
    refine r_iload_n rfl ?_
    refine r_iff 7 rfl (by decide) ?_
    refine At.enter rfl ?_
    refine r_aload_n rfl ?_
    refine r_get (v := .ref 236) (en_gs_eq (en_gs_ne (by decide) (en_gs_eq (en_gs_ne (by decide) (en_gs_eq (en_gs_ne (by decide) (en_gs_eq (en_gs_ne (by decide) (en_gs_eq (en_gs_ne (by decide) (en_gs_eq (en_gs_ne (by decide) (en_gs_eq (en_gs_ne (by decide) (en_gs_eq (en_gs_ne (by decide) (en_gs_eq (en_gs_ne (by decide) (en_gs_eq (en_gs_ne (by decide) (en_gs_eq (en_gs_ne (by decide) (en_gs_eq (hm_231 _)))))))))))))))))))))))) rfl ?_
    refine r_aload_n rfl ?_
    refine r_get (v := .int 11) (en_gs_eq (en_gs_ne (by decide) (en_gs_eq (en_gs_ne (by decide) (en_gs_eq (en_gs_ne (by decide) (en_gs_eq (en_gs_ne (by decide) (en_gs_eq (en_gs_ne (by decide) (en_gs_eq (en_gs_ne (by decide) (en_gs_eq (en_gs_ne (by decide) (en_gs_eq (en_gs_ne (by decide) (en_gs_eq (en_gs_ne (by decide) (en_gs_eq (en_gs_ne (by decide) (en_gs_eq (en_gs_ne (by decide) (en_gs_eq (hm_231 _)))))))))))))))))))))))) rfl ?_
    refine r_iload_n rfl ?_
    refine r_iload_n rfl ?_
    refine r_ishr a3 (en_shr0 _) ?_
    refine r_sipush 255 rfl ?_
    refine r_iand (a3 &&& 255) rfl ?_
    refine r_iast (en_gs_ne (by decide) (en_gs_eq (en_gs_ne (by decide) (en_gs_eq (en_gs_ne (by decide) (en_gs_eq (en_gs_ne (by decide) (en_gs_eq (en_gs_ne (by decide) (en_gs_eq (en_gs_ne (by decide) (en_gs_eq (en_gs_ne (by decide) (en_gs_eq (en_gs_ne (by decide) (en_gs_eq (en_gs_ne (by decide) (en_gs_eq (en_gs_ne (by decide) (en_gs_eq (en_gs_ne (by decide) (en_gs_eq (en_gs_ne (by decide) (hm_236 _)))))))))))))))))))))))) (by decide) (Nat.le_of_ble_eq_true rfl) ([((a1 >>> (24 &&& 31)) &&& 255), ((a1 >>> (16 &&& 31)) &&& 255), ((a1 >>> (8 &&& 31)) &&& 255), (a1 &&& 255), ((a2 >>> (24 &&& 31)) &&& 255), ((a2 >>> (16 &&& 31)) &&& 255), ((a2 >>> (8 &&& 31)) &&& 255), (a2 &&& 255), ((a3 >>> (24 &&& 31)) &&& 255), ((a3 >>> (16 &&& 31)) &&& 255), ((a3 >>> (8 &&& 31)) &&& 255), (a3 &&& 255)] ++ List.replicate 388 0) rfl ?_
    refine r_aload_n rfl ?_
    refine r_dup rfl ?_
    refine r_get (v := .int 11) (en_gs_ne (by decide) (en_gs_eq (en_gs_ne (by decide) (en_gs_eq (en_gs_ne (by decide) (en_gs_eq (en_gs_ne (by decide) (en_gs_eq (en_gs_ne (by decide) (en_gs_eq (en_gs_ne (by decide) (en_gs_eq (en_gs_ne (by decide) (en_gs_eq (en_gs_ne (by decide) (en_gs_eq (en_gs_ne (by decide) (en_gs_eq (en_gs_ne (by decide) (en_gs_eq (en_gs_ne (by decide) (en_gs_eq (en_gs_ne (by decide) (en_gs_eq (hm_231 _))))))))))))))))))))))))) rfl ?_
    refine r_iconst 1 rfl ?_
    refine r_iadd 12 rfl ?_
    refine r_putf (en_gs_ne (by decide) (en_gs_eq (en_gs_ne (by decide) (en_gs_eq (en_gs_ne (by decide) (en_gs_eq (en_gs_ne (by decide) (en_gs_eq (en_gs_ne (by decide) (en_gs_eq (en_gs_ne (by decide) (en_gs_eq (en_gs_ne (by decide) (en_gs_eq (en_gs_ne (by decide) (en_gs_eq (en_gs_ne (by decide) (en_gs_eq (en_gs_ne (by decide) (en_gs_eq (en_gs_ne (by decide) (en_gs_eq (en_gs_ne (by decide) (en_gs_eq (hm_231 _))))))))))))))))))))))))) (Nat.le_of_ble_eq_true rfl) rfl [.int 0, .int 0, .ref 232, .ref 233, .ref 234, .ref 235, .int 0, .ref 236, .int 12, .int 0, .int 0, .int 0, .long 0, .int (-1), .int 0, .int 0, .ref 237, .int 0, .ref 238, .ref 239, .int 0, .ref 240, .ref 241, .int 0, .int 0, .ref 242, .ref 243, .int 0, .ref 244, .ref 245, .int 0, .long 0, .long 0, .ref 246, .ref 247, .ref 248, .int 0, .ref 249, .ref 250, .ref 251, .ref 252, .ref 253, .ref 254, .ref 255, .ref 256, .int 0, .int 0, .int 0, .long 0, .ref 257, .ref 258, .int 0] rfl ?_
    refine r_iinc rfl (-8) rfl ([(2, .int (-8)), (0, .ref 231), (1, .int a3)]) rfl ?_
    refine r_goto ?_
    refine At.enter rfl ?_
    refine r_iload_n rfl ?_
    refine r_ift (by decide) ?_
    refine At.enter rfl ?_
    refine r_vret ?_
    exact ⟨trivial, rfl, rfl⟩
  refine At.enter rfl ?_
  refine r_aload_n rfl ?_
  refine r_iload rfl ?_
  refine r_callV1v (True)  ((((((((((((((((((((((((((((((((((en_pre a 231 hp_M).set 231 (.inr (11, [.int 0, .int 0, .ref 232, .ref 233, .ref 234, .ref 235, .int 0, .ref 236, .int 0, .int 0, .int 0, .int 0, .long 0, .int (-1), .int 0, .int 0, .ref 237, .int 0, .ref 238, .ref 239, .int 0, .ref 240, .ref 241, .int 0, .int 0, .ref 242, .ref 243, .int 0, .ref 244, .ref 245, .int 0, .long 0, .long 0, .ref 246, .ref 247, .ref 248, .int 0, .ref 249, .ref 250, .ref 251, .ref 252, .ref 253, .ref 254, .ref 255, .ref 256, .int 0, .int 0, .int 0, .long 0, .ref 257, .ref 258, .int 0]))).set 236 (.inl (0, .inl ([((a1 >>> (24 &&& 31)) &&& 255)] ++ List.replicate 399 0)))).set 231 (.inr (11, [.int 0, .int 0, .ref 232, .ref 233, .ref 234, .ref 235, .int 0, .ref 236, .int 1, .int 0, .int 0, .int 0, .long 0, .int (-1), .int 0, .int 0, .ref 237, .int 0, .ref 238, .ref 239, .int 0, .ref 240, .ref 241, .int 0, .int 0, .ref 242, .ref 243, .int 0, .ref 244, .ref 245, .int 0, .long 0, .long 0, .ref 246, .ref 247, .ref 248, .int 0, .ref 249, .ref 250, .ref 251, .ref 252, .ref 253, .ref 254, .ref 255, .ref 256, .int 0, .int 0, .int 0, .long 0, .ref 257, .ref 258, .int 0]))).set 236 (.inl (0, .inl ([((a1 >>> (24 &&& 31)) &&& 255), ((a1 >>> (16 &&& 31)) &&& 255)] ++ List.replicate 398 0)))).set 231 (.inr (11, [.int 0, .int 0, .ref 232, .ref 233, .ref 234, .ref 235, .int 0, .ref 236, .int 2, .int 0, .int 0, .int 0, .long 0, .int (-1), .int 0, .int 0, .ref 237, .int 0, .ref 238, .ref 239, .int 0, .ref 240, .ref 241, .int 0, .int 0, .ref 242, .ref 243, .int 0, .ref 244, .ref 245, .int 0, .long 0, .long 0, .ref 246, .ref 247, .ref 248, .int 0, .ref 249, .ref 250, .ref 251, .ref 252, .ref 253, .ref 254, .ref 255, .ref 256, .int 0, .int 0, .int 0, .long 0, .ref 257, .ref 258, .int 0]))).set 236 (.inl (0, .inl ([((a1 >>> (24 &&& 31)) &&& 255), ((a1 >>> (16 &&& 31)) &&& 255), ((a1 >>> (8 &&& 31)) &&& 255)] ++ List.replicate 397 0)))).set 231 (.inr (11, [.int 0, .int 0, .ref 232, .ref 233, .ref 234, .ref 235, .int 0, .ref 236, .int 3, .int 0, .int 0, .int 0, .long 0, .int (-1), .int 0, .int 0, .ref 237, .int 0, .ref 238, .ref 239, .int 0, .ref 240, .ref 241, .int 0, .int 0, .ref 242, .ref 243, .int 0, .ref 244, .ref 245, .int 0, .long 0, .long 0, .ref 246, .ref 247, .ref 248, .int 0, .ref 249, .ref 250, .ref 251, .ref 252, .ref 253, .ref 254, .ref 255, .ref 256, .int 0, .int 0, .int 0, .long 0, .ref 257, .ref 258, .int 0]))).set 236 (.inl (0, .inl ([((a1 >>> (24 &&& 31)) &&& 255), ((a1 >>> (16 &&& 31)) &&& 255), ((a1 >>> (8 &&& 31)) &&& 255), (a1 &&& 255)] ++ List.replicate 396 0)))).set 231 (.inr (11, [.int 0, .int 0, .ref 232, .ref 233, .ref 234, .ref 235, .int 0, .ref 236, .int 4, .int 0, .int 0, .int 0, .long 0, .int (-1), .int 0, .int 0, .ref 237, .int 0, .ref 238, .ref 239, .int 0, .ref 240, .ref 241, .int 0, .int 0, .ref 242, .ref 243, .int 0, .ref 244, .ref 245, .int 0, .long 0, .long 0, .ref 246, .ref 247, .ref 248, .int 0, .ref 249, .ref 250, .ref 251, .ref 252, .ref 253, .ref 254, .ref 255, .ref 256, .int 0, .int 0, .int 0, .long 0, .ref 257, .ref 258, .int 0]))).set 236 (.inl (0, .inl ([((a1 >>> (24 &&& 31)) &&& 255), ((a1 >>> (16 &&& 31)) &&& 255), ((a1 >>> (8 &&& 31)) &&& 255), (a1 &&& 255), ((a2 >>> (24 &&& 31)) &&& 255)] ++ List.replicate 395 0)))).set 231 (.inr (11, [.int 0, .int 0, .ref 232, .ref 233, .ref 234, .ref 235, .int 0, .ref 236, .int 5, .int 0, .int 0, .int 0, .long 0, .int (-1), .int 0, .int 0, .ref 237, .int 0, .ref 238, .ref 239, .int 0, .ref 240, .ref 241, .int 0, .int 0, .ref 242, .ref 243, .int 0, .ref 244, .ref 245, .int 0, .long 0, .long 0, .ref 246, .ref 247, .ref 248, .int 0, .ref 249, .ref 250, .ref 251, .ref 252, .ref 253, .ref 254, .ref 255, .ref 256, .int 0, .int 0, .int 0, .long 0, .ref 257, .ref 258, .int 0]))).set 236 (.inl (0, .inl ([((a1 >>> (24 &&& 31)) &&& 255), ((a1 >>> (16 &&& 31)) &&& 255), ((a1 >>> (8 &&& 31)) &&& 255), (a1 &&& 255), ((a2 >>> (24 &&& 31)) &&& 255), ((a2 >>> (16 &&& 31)) &&& 255)] ++ List.replicate 394 0)))).set 231 (.inr (11, [.int 0, .int 0, .ref 232, .ref 233, .ref 234, .ref 235, .int 0, .ref 236, .int 6, .int 0, .int 0, .int 0, .long 0, .int (-1), .int 0, .int 0, .ref 237, .int 0, .ref 238, .ref 239, .int 0, .ref 240, .ref 241, .int 0, .int 0, .ref 242, .ref 243, .int 0, .ref 244, .ref 245, .int 0, .long 0, .long 0, .ref 246, .ref 247, .ref 248, .int 0, .ref 249, .ref 250, .ref 251, .ref 252, .ref 253, .ref 254, .ref 255, .ref 256, .int 0, .int 0, .int 0, .long 0, .ref 257, .ref 258, .int 0]))).set 236 (.inl (0, .inl ([((a1 >>> (24 &&& 31)) &&& 255), ((a1 >>> (16 &&& 31)) &&& 255), ((a1 >>> (8 &&& 31)) &&& 255), (a1 &&& 255), ((a2 >>> (24 &&& 31)) &&& 255), ((a2 >>> (16 &&& 31)) &&& 255), ((a2 >>> (8 &&& 31)) &&& 255)] ++ List.replicate 393 0)))).set 231 (.inr (11, [.int 0, .int 0, .ref 232, .ref 233, .ref 234, .ref 235, .int 0, .ref 236, .int 7, .int 0, .int 0, .int 0, .long 0, .int (-1), .int 0, .int 0, .ref 237, .int 0, .ref 238, .ref 239, .int 0, .ref 240, .ref 241, .int 0, .int 0, .ref 242, .ref 243, .int 0, .ref 244, .ref 245, .int 0, .long 0, .long 0, .ref 246, .ref 247, .ref 248, .int 0, .ref 249, .ref 250, .ref 251, .ref 252, .ref 253, .ref 254, .ref 255, .ref 256, .int 0, .int 0, .int 0, .long 0, .ref 257, .ref 258, .int 0]))).set 236 (.inl (0, .inl ([((a1 >>> (24 &&& 31)) &&& 255), ((a1 >>> (16 &&& 31)) &&& 255), ((a1 >>> (8 &&& 31)) &&& 255), (a1 &&& 255), ((a2 >>> (24 &&& 31)) &&& 255), ((a2 >>> (16 &&& 31)) &&& 255), ((a2 >>> (8 &&& 31)) &&& 255), (a2 &&& 255)] ++ List.replicate 392 0)))).set 231 (.inr (11, [.int 0, .int 0, .ref 232, .ref 233, .ref 234, .ref 235, .int 0, .ref 236, .int 8, .int 0, .int 0, .int 0, .long 0, .int (-1), .int 0, .int 0, .ref 237, .int 0, .ref 238, .ref 239, .int 0, .ref 240, .ref 241, .int 0, .int 0, .ref 242, .ref 243, .int 0, .ref 244, .ref 245, .int 0, .long 0, .long 0, .ref 246, .ref 247, .ref 248, .int 0, .ref 249, .ref 250, .ref 251, .ref 252, .ref 253, .ref 254, .ref 255, .ref 256, .int 0, .int 0, .int 0, .long 0, .ref 257, .ref 258, .int 0]))).set 236 (.inl (0, .inl ([((a1 >>> (24 &&& 31)) &&& 255), ((a1 >>> (16 &&& 31)) &&& 255), ((a1 >>> (8 &&& 31)) &&& 255), (a1 &&& 255), ((a2 >>> (24 &&& 31)) &&& 255), ((a2 >>> (16 &&& 31)) &&& 255), ((a2 >>> (8 &&& 31)) &&& 255), (a2 &&& 255), ((a3 >>> (24 &&& 31)) &&& 255)] ++ List.replicate 391 0)))).set 231 (.inr (11, [.int 0, .int 0, .ref 232, .ref 233, .ref 234, .ref 235, .int 0, .ref 236, .int 9, .int 0, .int 0, .int 0, .long 0, .int (-1), .int 0, .int 0, .ref 237, .int 0, .ref 238, .ref 239, .int 0, .ref 240, .ref 241, .int 0, .int 0, .ref 242, .ref 243, .int 0, .ref 244, .ref 245, .int 0, .long 0, .long 0, .ref 246, .ref 247, .ref 248, .int 0, .ref 249, .ref 250, .ref 251, .ref 252, .ref 253, .ref 254, .ref 255, .ref 256, .int 0, .int 0, .int 0, .long 0, .ref 257, .ref 258, .int 0]))).set 236 (.inl (0, .inl ([((a1 >>> (24 &&& 31)) &&& 255), ((a1 >>> (16 &&& 31)) &&& 255), ((a1 >>> (8 &&& 31)) &&& 255), (a1 &&& 255), ((a2 >>> (24 &&& 31)) &&& 255), ((a2 >>> (16 &&& 31)) &&& 255), ((a2 >>> (8 &&& 31)) &&& 255), (a2 &&& 255), ((a3 >>> (24 &&& 31)) &&& 255), ((a3 >>> (16 &&& 31)) &&& 255)] ++ List.replicate 390 0)))).set 231 (.inr (11, [.int 0, .int 0, .ref 232, .ref 233, .ref 234, .ref 235, .int 0, .ref 236, .int 10, .int 0, .int 0, .int 0, .long 0, .int (-1), .int 0, .int 0, .ref 237, .int 0, .ref 238, .ref 239, .int 0, .ref 240, .ref 241, .int 0, .int 0, .ref 242, .ref 243, .int 0, .ref 244, .ref 245, .int 0, .long 0, .long 0, .ref 246, .ref 247, .ref 248, .int 0, .ref 249, .ref 250, .ref 251, .ref 252, .ref 253, .ref 254, .ref 255, .ref 256, .int 0, .int 0, .int 0, .long 0, .ref 257, .ref 258, .int 0]))).set 236 (.inl (0, .inl ([((a1 >>> (24 &&& 31)) &&& 255), ((a1 >>> (16 &&& 31)) &&& 255), ((a1 >>> (8 &&& 31)) &&& 255), (a1 &&& 255), ((a2 >>> (24 &&& 31)) &&& 255), ((a2 >>> (16 &&& 31)) &&& 255), ((a2 >>> (8 &&& 31)) &&& 255), (a2 &&& 255), ((a3 >>> (24 &&& 31)) &&& 255), ((a3 >>> (16 &&& 31)) &&& 255), ((a3 >>> (8 &&& 31)) &&& 255)] ++ List.replicate 389 0)))).set 231 (.inr (11, [.int 0, .int 0, .ref 232, .ref 233, .ref 234, .ref 235, .int 0, .ref 236, .int 11, .int 0, .int 0, .int 0, .long 0, .int (-1), .int 0, .int 0, .ref 237, .int 0, .ref 238, .ref 239, .int 0, .ref 240, .ref 241, .int 0, .int 0, .ref 242, .ref 243, .int 0, .ref 244, .ref 245, .int 0, .long 0, .long 0, .ref 246, .ref 247, .ref 248, .int 0, .ref 249, .ref 250, .ref 251, .ref 252, .ref 253, .ref 254, .ref 255, .ref 256, .int 0, .int 0, .int 0, .long 0, .ref 257, .ref 258, .int 0]))).set 236 (.inl (0, .inl ([((a1 >>> (24 &&& 31)) &&& 255), ((a1 >>> (16 &&& 31)) &&& 255), ((a1 >>> (8 &&& 31)) &&& 255), (a1 &&& 255), ((a2 >>> (24 &&& 31)) &&& 255), ((a2 >>> (16 &&& 31)) &&& 255), ((a2 >>> (8 &&& 31)) &&& 255), (a2 &&& 255), ((a3 >>> (24 &&& 31)) &&& 255), ((a3 >>> (16 &&& 31)) &&& 255), ((a3 >>> (8 &&& 31)) &&& 255), (a3 &&& 255)] ++ List.replicate 388 0)))).set 231 (.inr (11, [.int 0, .int 0, .ref 232, .ref 233, .ref 234, .ref 235, .int 0, .ref 236, .int 12, .int 0, .int 0, .int 0, .long 0, .int (-1), .int 0, .int 0, .ref 237, .int 0, .ref 238, .ref 239, .int 0, .ref 240, .ref 241, .int 0, .int 0, .ref 242, .ref 243, .int 0, .ref 244, .ref 245, .int 0, .long 0, .long 0, .ref 246, .ref 247, .ref 248, .int 0, .ref 249, .ref 250, .ref 251, .ref 252, .ref 253, .ref 254, .ref 255, .ref 256, .int 0, .int 0, .int 0, .long 0, .ref 257, .ref 258, .int 0]))).set 236 (.inl (0, .inl ([((a1 >>> (24 &&& 31)) &&& 255), ((a1 >>> (16 &&& 31)) &&& 255), ((a1 >>> (8 &&& 31)) &&& 255), (a1 &&& 255), ((a2 >>> (24 &&& 31)) &&& 255), ((a2 >>> (16 &&& 31)) &&& 255), ((a2 >>> (8 &&& 31)) &&& 255), (a2 &&& 255), ((a3 >>> (24 &&& 31)) &&& 255), ((a3 >>> (16 &&& 31)) &&& 255), ((a3 >>> (8 &&& 31)) &&& 255), (a3 &&& 255), ((a4 >>> (24 &&& 31)) &&& 255)] ++ List.replicate 387 0)))).set 231 (.inr (11, [.int 0, .int 0, .ref 232, .ref 233, .ref 234, .ref 235, .int 0, .ref 236, .int 13, .int 0, .int 0, .int 0, .long 0, .int (-1), .int 0, .int 0, .ref 237, .int 0, .ref 238, .ref 239, .int 0, .ref 240, .ref 241, .int 0, .int 0, .ref 242, .ref 243, .int 0, .ref 244, .ref 245, .int 0, .long 0, .long 0, .ref 246, .ref 247, .ref 248, .int 0, .ref 249, .ref 250, .ref 251, .ref 252, .ref 253, .ref 254, .ref 255, .ref 256, .int 0, .int 0, .int 0, .long 0, .ref 257, .ref 258, .int 0]))).set 236 (.inl (0, .inl ([((a1 >>> (24 &&& 31)) &&& 255), ((a1 >>> (16 &&& 31)) &&& 255), ((a1 >>> (8 &&& 31)) &&& 255), (a1 &&& 255), ((a2 >>> (24 &&& 31)) &&& 255), ((a2 >>> (16 &&& 31)) &&& 255), ((a2 >>> (8 &&& 31)) &&& 255), (a2 &&& 255), ((a3 >>> (24 &&& 31)) &&& 255), ((a3 >>> (16 &&& 31)) &&& 255), ((a3 >>> (8 &&& 31)) &&& 255), (a3 &&& 255), ((a4 >>> (24 &&& 31)) &&& 255), ((a4 >>> (16 &&& 31)) &&& 255)] ++ List.replicate 386 0)))).set 231 (.inr (11, [.int 0, .int 0, .ref 232, .ref 233, .ref 234, .ref 235, .int 0, .ref 236, .int 14, .int 0, .int 0, .int 0, .long 0, .int (-1), .int 0, .int 0, .ref 237, .int 0, .ref 238, .ref 239, .int 0, .ref 240, .ref 241, .int 0, .int 0, .ref 242, .ref 243, .int 0, .ref 244, .ref 245, .int 0, .long 0, .long 0, .ref 246, .ref 247, .ref 248, .int 0, .ref 249, .ref 250, .ref 251, .ref 252, .ref 253, .ref 254, .ref 255, .ref 256, .int 0, .int 0, .int 0, .long 0, .ref 257, .ref 258, .int 0]))).set 236 (.inl (0, .inl ([((a1 >>> (24 &&& 31)) &&& 255), ((a1 >>> (16 &&& 31)) &&& 255), ((a1 >>> (8 &&& 31)) &&& 255), (a1 &&& 255), ((a2 >>> (24 &&& 31)) &&& 255), ((a2 >>> (16 &&& 31)) &&& 255), ((a2 >>> (8 &&& 31)) &&& 255), (a2 &&& 255), ((a3 >>> (24 &&& 31)) &&& 255), ((a3 >>> (16 &&& 31)) &&& 255), ((a3 >>> (8 &&& 31)) &&& 255), (a3 &&& 255), ((a4 >>> (24 &&& 31)) &&& 255), ((a4 >>> (16 &&& 31)) &&& 255), ((a4 >>> (8 &&& 31)) &&& 255)] ++ List.replicate 385 0)))).set 231 (.inr (11, [.int 0, .int 0, .ref 232, .ref 233, .ref 234, .ref 235, .int 0, .ref 236, .int 15, .int 0, .int 0, .int 0, .long 0, .int (-1), .int 0, .int 0, .ref 237, .int 0, .ref 238, .ref 239, .int 0, .ref 240, .ref 241, .int 0, .int 0, .ref 242, .ref 243, .int 0, .ref 244, .ref 245, .int 0, .long 0, .long 0, .ref 246, .ref 247, .ref 248, .int 0, .ref 249, .ref 250, .ref 251, .ref 252, .ref 253, .ref 254, .ref 255, .ref 256, .int 0, .int 0, .int 0, .long 0, .ref 257, .ref 258, .int 0]))).set 236 (.inl (0, .inl ([((a1 >>> (24 &&& 31)) &&& 255), ((a1 >>> (16 &&& 31)) &&& 255), ((a1 >>> (8 &&& 31)) &&& 255), (a1 &&& 255), ((a2 >>> (24 &&& 31)) &&& 255), ((a2 >>> (16 &&& 31)) &&& 255), ((a2 >>> (8 &&& 31)) &&& 255), (a2 &&& 255), ((a3 >>> (24 &&& 31)) &&& 255), ((a3 >>> (16 &&& 31)) &&& 255), ((a3 >>> (8 &&& 31)) &&& 255), (a3 &&& 255), ((a4 >>> (24 &&& 31)) &&& 255), ((a4 >>> (16 &&& 31)) &&& 255), ((a4 >>> (8 &&& 31)) &&& 255), (a4 &&& 255)] ++ List.replicate 384 0)))).set 231 (.inr (11, [.int 0, .int 0, .ref 232, .ref 233, .ref 234, .ref 235, .int 0, .ref 236, .int 16, .int 0, .int 0, .int 0, .long 0, .int (-1), .int 0, .int 0, .ref 237, .int 0, .ref 238, .ref 239, .int 0, .ref 240, .ref 241, .int 0, .int 0, .ref 242, .ref 243, .int 0, .ref 244, .ref 245, .int 0, .long 0, .long 0, .ref 246, .ref 247, .ref 248, .int 0, .ref 249, .ref 250, .ref 251, .ref 252, .ref 253, .ref 254, .ref 255, .ref 256, .int 0, .int 0, .int 0, .long 0, .ref 257, .ref 258, .int 0])), n) 41 rfl [.ref 231, .int a4] [] (Nat.le_of_ble_eq_true rfl) rfl ?_ (fun _ => ?_)
  · refine Ev.mk rfl rfl ⟨Nat.le_of_ble_eq_true rfl, Or.inr (en_rcI (en_gs_eq (en_gs_ne (by decide) (en_gs_eq (en_gs_ne (by decide) (en_gs_eq (en_gs_ne (by decide) (en_gs_eq (en_gs_ne (by decide) (en_gs_eq (en_gs_ne (by decide) (en_gs_eq (en_gs_ne (by decide) (en_gs_eq (en_gs_ne (by decide) (en_gs_eq (en_gs_ne (by decide) (en_gs_eq (en_gs_ne (by decide) (en_gs_eq (en_gs_ne (by decide) (en_gs_eq (en_gs_ne (by decide) (en_gs_eq (en_gs_ne (by decide) (en_gs_eq (hm_231 _)))))))))))))))))))))))))) rfl)⟩ ?_
    show At _ none _ _ (0, [(0, .ref 231), (1, .int a4)], [], ((((((((((((((((((((((((((en_pre a 231 hp_M).set 231 (.inr (11, [.int 0, .int 0, .ref 232, .ref 233, .ref 234, .ref 235, .int 0, .ref 236, .int 0, .int 0, .int 0, .int 0, .long 0, .int (-1), .int 0, .int 0, .ref 237, .int 0, .ref 238, .ref 239, .int 0, .ref 240, .ref 241, .int 0, .int 0, .ref 242, .ref 243, .int 0, .ref 244, .ref 245, .int 0, .long 0, .long 0, .ref 246, .ref 247, .ref 248, .int 0, .ref 249, .ref 250, .ref 251, .ref 252, .ref 253, .ref 254, .ref 255, .ref 256, .int 0, .int 0, .int 0, .long 0, .ref 257, .ref 258, .int 0]))).set 236 (.inl (0, .inl ([((a1 >>> (24 &&& 31)) &&& 255)] ++ List.replicate 399 0)))).set 231 (.inr (11, [.int 0, .int 0, .ref 232, .ref 233, .ref 234, .ref 235, .int 0, .ref 236, .int 1, .int 0, .int 0, .int 0, .long 0, .int (-1), .int 0, .int 0, .ref 237, .int 0, .ref 238, .ref 239, .int 0, .ref 240, .ref 241, .int 0, .int 0, .ref 242, .ref 243, .int 0, .ref 244, .ref 245, .int 0, .long 0, .long 0, .ref 246, .ref 247, .ref 248, .int 0, .ref 249, .ref 250, .ref 251, .ref 252, .ref 253, .ref 254, .ref 255, .ref 256, .int 0, .int 0, .int 0, .long 0, .ref 257, .ref 258, .int 0]))).set 236 (.inl (0, .inl ([((a1 >>> (24 &&& 31)) &&& 255), ((a1 >>> (16 &&& 31)) &&& 255)] ++ List.replicate 398 0)))).set 231 (.inr (11, [.int 0, .int 0, .ref 232, .ref 233, .ref 234, .ref 235, .int 0, .ref 236, .int 2, .int 0, .int 0, .int 0, .long 0, .int (-1), .int 0, .int 0, .ref 237, .int 0, .ref 238, .ref 239, .int 0, .ref 240, .ref 241, .int 0, .int 0, .ref 242, .ref 243, .int 0, .ref 244, .ref 245, .int 0, .long 0, .long 0, .ref 246, .ref 247, .ref 248, .int 0, .ref 249, .ref 250, .ref 251, .ref 252, .ref 253, .ref 254, .ref 255, .ref 256, .int 0, .int 0, .int 0, .long 0, .ref 257, .ref 258, .int 0]))).set 236 (.inl (0, .inl ([((a1 >>> (24 &&& 31)) &&& 255), ((a1 >>> (16 &&& 31)) &&& 255), ((a1 >>> (8 &&& 31)) &&& 255)] ++ List.replicate 397 0)))).set 231 (.inr (11, [.int 0, .int 0, .ref 232, .ref 233, .ref 234, .ref 235, .int 0, .ref 236, .int 3, .int 0, .int 0, .int 0, .long 0, .int (-1), .int 0, .int 0, .ref 237, .int 0, .ref 238, .ref 239, .int 0, .ref 240, .ref 241, .int 0, .int 0, .ref 242, .ref 243, .int 0, .ref 244, .ref 245, .int 0, .long 0, .long 0, .ref 246, .ref 247, .ref 248, .int 0, .ref 249, .ref 250, .ref 251, .ref 252, .ref 253, .ref 254, .ref 255, .ref 256, .int 0, .int 0, .int 0, .long 0, .ref 257, .ref 258, .int 0]))).set 236 (.inl (0, .inl ([((a1 >>> (24 &&& 31)) &&& 255), ((a1 >>> (16 &&& 31)) &&& 255), ((a1 >>> (8 &&& 31)) &&& 255), (a1 &&& 255)] ++ List.replicate 396 0)))).set 231 (.inr (11, [.int 0, .int 0, .ref 232, .ref 233, .ref 234, .ref 235, .int 0, .ref 236, .int 4, .int 0, .int 0, .int 0, .long 0, .int (-1), .int 0, .int 0, .ref 237, .int 0, .ref 238, .ref 239, .int 0, .ref 240, .ref 241, .int 0, .int 0, .ref 242, .ref 243, .int 0, .ref 244, .ref 245, .int 0, .long 0, .long 0, .ref 246, .ref 247, .ref 248, .int 0, .ref 249, .ref 250, .ref 251, .ref 252, .ref 253, .ref 254, .ref 255, .ref 256, .int 0, .int 0, .int 0, .long 0, .ref 257, .ref 258, .int 0]))).set 236 (.inl (0, .inl ([((a1 >>> (24 &&& 31)) &&& 255), ((a1 >>> (16 &&& 31)) &&& 255), ((a1 >>> (8 &&& 31)) &&& 255), (a1 &&& 255), ((a2 >>> (24 &&& 31)) &&& 255)] ++ List.replicate 395 0)))).set 231 (.inr (11, [.int 0, .int 0, .ref 232, .ref 233, .ref 234, .ref 235, .int 0, .ref 236, .int 5, .int 0, .int 0, .int 0, .long 0, .int (-1), .int 0, .int 0, .ref 237, .int 0, .ref 238, .ref 239, .int 0, .ref 240, .ref 241, .int 0, .int 0, .ref 242, .ref 243, .int 0, .ref 244, .ref 245, .int 0, .long 0, .long 0, .ref 246, .ref 247, .ref 248, .int 0, .ref 249, .ref 250, .ref 251, .ref 252, .ref 253, .ref 254, .ref 255, .ref 256, .int 0, .int 0, .int 0, .long 0, .ref 257, .ref 258, .int 0]))).set 236 (.inl (0, .inl ([((a1 >>> (24 &&& 31)) &&& 255), ((a1 >>> (16 &&& 31)) &&& 255), ((a1 >>> (8 &&& 31)) &&& 255), (a1 &&& 255), ((a2 >>> (24 &&& 31)) &&& 255), ((a2 >>> (16 &&& 31)) &&& 255)] ++ List.replicate 394 0)))).set 231 (.inr (11, [.int 0, .int 0, .ref 232, .ref 233, .ref 234, .ref 235, .int 0, .ref 236, .int 6, .int 0, .int 0, .int 0, .long 0, .int (-1), .int 0, .int 0, .ref 237, .int 0, .ref 238, .ref 239, .int 0, .ref 240, .ref 241, .int 0, .int 0, .ref 242, .ref 243, .int 0, .ref 244, .ref 245, .int 0, .long 0, .long 0, .ref 246, .ref 247, .ref 248, .int 0, .ref 249, .ref 250, .ref 251, .ref 252, .ref 253, .ref 254, .ref 255, .ref 256, .int 0, .int 0, .int 0, .long 0, .ref 257, .ref 258, .int 0]))).set 236 (.inl (0, .inl ([((a1 >>> (24 &&& 31)) &&& 255), ((a1 >>> (16 &&& 31)) &&& 255), ((a1 >>> (8 &&& 31)) &&& 255), (a1 &&& 255), ((a2 >>> (24 &&& 31)) &&& 255), ((a2 >>> (16 &&& 31)) &&& 255), ((a2 >>> (8 &&& 31)) &&& 255)] ++ List.replicate 393 0)))).set 231 (.inr (11, [.int 0, .int 0, .ref 232, .ref 233, .ref 234, .ref 235, .int 0, .ref 236, .int 7, .int 0, .int 0, .int 0, .long 0, .int (-1), .int 0, .int 0, .ref 237, .int 0, .ref 238, .ref 239, .int 0, .ref 240, .ref 241, .int 0, .int 0, .ref 242, .ref 243, .int 0, .ref 244, .ref 245, .int 0, .long 0, .long 0, .ref 246, .ref 247, .ref 248, .int 0, .ref 249, .ref 250, .ref 251, .ref 252, .ref 253, .ref 254, .ref 255, .ref 256, .int 0, .int 0, .int 0, .long 0, .ref 257, .ref 258, .int 0]))).set 236 (.inl (0, .inl ([((a1 >>> (24 &&& 31)) &&& 255), ((a1 >>> (16 &&& 31)) &&& 255), ((a1 >>> (8 &&& 31)) &&& 255), (a1 &&& 255), ((a2 >>> (24 &&& 31)) &&& 255), ((a2 >>> (16 &&& 31)) &&& 255), ((a2 >>> (8 &&& 31)) &&& 255), (a2 &&& 255)] ++ List.replicate 392 0)))).set 231 (.inr (11, [.int 0, .int 0, .ref 232, .ref 233, .ref 234, .ref 235, .int 0, .ref 236, .int 8, .int 0, .int 0, .int 0, .long 0, .int (-1), .int 0, .int 0, .ref 237, .int 0, .ref 238, .ref 239, .int 0, .ref 240, .ref 241, .int 0, .int 0, .ref 242, .ref 243, .int 0, .ref 244, .ref 245, .int 0, .long 0, .long 0, .ref 246, .ref 247, .ref 248, .int 0, .ref 249, .ref 250, .ref 251, .ref 252, .ref 253, .ref 254, .ref 255, .ref 256, .int 0, .int 0, .int 0, .long 0, .ref 257, .ref 258, .int 0]))).set 236 (.inl (0, .inl ([((a1 >>> (24 &&& 31)) &&& 255), ((a1 >>> (16 &&& 31)) &&& 255), ((a1 >>> (8 &&& 31)) &&& 255), (a1 &&& 255), ((a2 >>> (24 &&& 31)) &&& 255), ((a2 >>> (16 &&& 31)) &&& 255), ((a2 >>> (8 &&& 31)) &&& 255), (a2 &&& 255), ((a3 >>> (24 &&& 31)) &&& 255)] ++ List.replicate 391 0)))).set 231 (.inr (11, [.int 0, .int 0, .ref 232, .ref 233, .ref 234, .ref 235, .int 0, .ref 236, .int 9, .int 0, .int 0, .int 0, .long 0, .int (-1), .int 0, .int 0, .ref 237, .int 0, .ref 238, .ref 239, .int 0, .ref 240, .ref 241, .int 0, .int 0, .ref 242, .ref 243, .int 0, .ref 244, .ref 245, .int 0, .long 0, .long 0, .ref 246, .ref 247, .ref 248, .int 0, .ref 249, .ref 250, .ref 251, .ref 252, .ref 253, .ref 254, .ref 255, .ref 256, .int 0, .int 0, .int 0, .long 0, .ref 257, .ref 258, .int 0]))).set 236 (.inl (0, .inl ([((a1 >>> (24 &&& 31)) &&& 255), ((a1 >>> (16 &&& 31)) &&& 255), ((a1 >>> (8 &&& 31)) &&& 255), (a1 &&& 255), ((a2 >>> (24 &&& 31)) &&& 255), ((a2 >>> (16 &&& 31)) &&& 255), ((a2 >>> (8 &&& 31)) &&& 255), (a2 &&& 255), ((a3 >>> (24 &&& 31)) &&& 255), ((a3 >>> (16 &&& 31)) &&& 255)] ++ List.replicate 390 0)))).set 231 (.inr (11, [.int 0, .int 0, .ref 232, .ref 233, .ref 234, .ref 235, .int 0, .ref 236, .int 10, .int 0, .int 0, .int 0, .long 0, .int (-1), .int 0, .int 0, .ref 237, .int 0, .ref 238, .ref 239, .int 0, .ref 240, .ref 241, .int 0, .int 0, .ref 242, .ref 243, .int 0, .ref 244, .ref 245, .int 0, .long 0, .long 0, .ref 246, .ref 247, .ref 248, .int 0, .ref 249, .ref 250, .ref 251, .ref 252, .ref 253, .ref 254, .ref 255, .ref 256, .int 0, .int 0, .int 0, .long 0, .ref 257, .ref 258, .int 0]))).set 236 (.inl (0, .inl ([((a1 >>> (24 &&& 31)) &&& 255), ((a1 >>> (16 &&& 31)) &&& 255), ((a1 >>> (8 &&& 31)) &&& 255), (a1 &&& 255), ((a2 >>> (24 &&& 31)) &&& 255), ((a2 >>> (16 &&& 31)) &&& 255), ((a2 >>> (8 &&& 31)) &&& 255), (a2 &&& 255), ((a3 >>> (24 &&& 31)) &&& 255), ((a3 >>> (16 &&& 31)) &&& 255), ((a3 >>> (8 &&& 31)) &&& 255)] ++ List.replicate 389 0)))).set 231 (.inr (11, [.int 0, .int 0, .ref 232, .ref 233, .ref 234, .ref 235, .int 0, .ref 236, .int 11, .int 0, .int 0, .int 0, .long 0, .int (-1), .int 0, .int 0, .ref 237, .int 0, .ref 238, .ref 239, .int 0, .ref 240, .ref 241, .int 0, .int 0, .ref 242, .ref 243, .int 0, .ref 244, .ref 245, .int 0, .long 0, .long 0, .ref 246, .ref 247, .ref 248, .int 0, .ref 249, .ref 250, .ref 251, .ref 252, .ref 253, .ref 254, .ref 255, .ref 256, .int 0, .int 0, .int 0, .long 0, .ref 257, .ref 258, .int 0]))).set 236 (.inl (0, .inl ([((a1 >>> (24 &&& 31)) &&& 255), ((a1 >>> (16 &&& 31)) &&& 255), ((a1 >>> (8 &&& 31)) &&& 255), (a1 &&& 255), ((a2 >>> (24 &&& 31)) &&& 255), ((a2 >>> (16 &&& 31)) &&& 255), ((a2 >>> (8 &&& 31)) &&& 255), (a2 &&& 255), ((a3 >>> (24 &&& 31)) &&& 255), ((a3 >>> (16 &&& 31)) &&& 255), ((a3 >>> (8 &&& 31)) &&& 255), (a3 &&& 255)] ++ List.replicate 388 0)))).set 231 (.inr (11, [.int 0, .int 0, .ref 232, .ref 233, .ref 234, .ref 235, .int 0, .ref 236, .int 12, .int 0, .int 0, .int 0, .long 0, .int (-1), .int 0, .int 0, .ref 237, .int 0, .ref 238, .ref 239, .int 0, .ref 240, .ref 241, .int 0, .int 0, .ref 242, .ref 243, .int 0, .ref 244, .ref 245, .int 0, .long 0, .long 0, .ref 246, .ref 247, .ref 248, .int 0, .ref 249, .ref 250, .ref 251, .ref 252, .ref 253, .ref 254, .ref 255, .ref 256, .int 0, .int 0, .int 0, .long 0, .ref 257, .ref 258, .int 0])), n)) _
    refine At.enter rfl ?_
    refine r_bipush 24 rfl ?_
    refine r_istore_n ([(2, .int 24), (0, .ref 231), (1, .int a4)]) rfl ?_
    refine Ar.fall 3 rfl ?_
    refine At.enter rfl ?_
    refine r_iload_n rfl ?_
    refine r_iff 7 rfl (by decide) ?_
    refine At.enter rfl ?_
    refine r_aload_n rfl ?_
    refine r_get (v := .ref 236) (en_gs_eq (en_gs_ne (by decide) (en_gs_eq (en_gs_ne (by decide) (en_gs_eq (en_gs_ne (by decide) (en_gs_eq (en_gs_ne (by decide) (en_gs_eq (en_gs_ne (by decide) (en_gs_eq (en_gs_ne (by decide) (en_gs_eq (en_gs_ne (by decide) (en_gs_eq (en_gs_ne (by decide) (en_gs_eq (en_gs_ne (by decide) (en_gs_eq (en_gs_ne (by decide) (en_gs_eq (en_gs_ne (by decide) (en_gs_eq (en_gs_ne (by decide) (en_gs_eq (hm_231 _)))))))))))))))))))))))))) rfl ?_
    refine r_aload_n rfl ?_
    refine r_get (v := .int 12) (en_gs_eq (en_gs_ne (by decide) (en_gs_eq (en_gs_ne (by decide) (en_gs_eq (en_gs_ne (by decide) (en_gs_eq (en_gs_ne (by decide) (en_gs_eq (en_gs_ne (by decide) (en_gs_eq (en_gs_ne (by decide) (en_gs_eq (en_gs_ne (by decide) (en_gs_eq (en_gs_ne (by decide) (en_gs_eq (en_gs_ne (by decide) (en_gs_eq (en_gs_ne (by decide) (en_gs_eq (en_gs_ne (by decide) (en_gs_eq (en_gs_ne (by decide) (en_gs_eq (hm_231 _)))))))))))))))))))))))))) rfl ?_
    refine r_iload_n rfl ?_
    refine r_iload_n rfl ?_
    refine r_ishr (a4 >>> (24 &&& 31)) rfl ?_
    refine r_sipush 255 rfl ?_
    refine r_iand ((a4 >>> (24 &&& 31)) &&& 255) rfl ?_
    refine r_iast (en_gs_ne (by decide) (en_gs_eq (en_gs_ne (by decide) (en_gs_eq (en_gs_ne (by decide) (en_gs_eq (en_gs_ne (by decide) (en_gs_eq (en_gs_ne (by decide) (en_gs_eq (en_gs_ne (by decide) (en_gs_eq (en_gs_ne (by decide) (en_gs_eq (en_gs_ne (by decide) (en_gs_eq (en_gs_ne (by decide) (en_gs_eq (en_gs_ne (by decide) (en_gs_eq (en_gs_ne (by decide) (en_gs_eq (en_gs_ne (by decide) (en_gs_eq (en_gs_ne (by decide) (hm_236 _)))))))))))))))))))))))))) (by decide) (Nat.le_of_ble_eq_true rfl) ([((a1 >>> (24 &&& 31)) &&& 255), ((a1 >>> (16 &&& 31)) &&& 255), ((a1 >>> (8 &&& 31)) &&& 255), (a1 &&& 255), ((a2 >>> (24 &&& 31)) &&& 255), ((a2 >>> (16 &&& 31)) &&& 255), ((a2 >>> (8 &&& 31)) &&& 255), (a2 &&& 255), ((a3 >>> (24 &&& 31)) &&& 255), ((a3 >>> (16 &&& 31)) &&& 255), ((a3 >>> (8 &&& 31)) &&& 255), (a3 &&& 255), ((a4 >>> (24 &&& 31)) &&& 255)] ++ List.replicate 387 0) rfl ?_
    refine r_aload_n rfl ?_
    refine r_dup rfl ?_
    refine r_get (v := .int 12) (en_gs_ne (by decide) (en_gs_eq (en_gs_ne (by decide) (en_gs_eq (en_gs_ne (by decide) (en_gs_eq (en_gs_ne (by decide) (en_gs_eq (en_gs_ne (by decide) (en_gs_eq (en_gs_ne (by decide) (en_gs_eq (en_gs_ne (by decide) (en_gs_eq (en_gs_ne (by decide) (en_gs_eq (en_gs_ne (by decide) (en_gs_eq (en_gs_ne (by decide) (en_gs_eq (en_gs_ne (by decide) (en_gs_eq (en_gs_ne (by decide) (en_gs_eq (en_gs_ne (by decide) (en_gs_eq (hm_231 _))))))))))))))))))))))))))) rfl ?_
    refine r_iconst 1 rfl ?_
    refine r_iadd 13 rfl ?_
    refine r_putf (en_gs_ne (by decide) (en_gs_eq (en_gs_ne (by decide) (en_gs_eq (en_gs_ne (by decide) (en_gs_eq (en_gs_ne (by decide) (en_gs_eq (en_gs_ne (by decide) (en_gs_eq (en_gs_ne (by decide) (en_gs_eq (en_gs_ne (by decide) (en_gs_eq (en_gs_ne (by decide) (en_gs_eq (en_gs_ne (by decide) (en_gs_eq (en_gs_ne (by decide) (en_gs_eq (en_gs_ne (by decide) (en_gs_eq (en_gs_ne (by decide) (en_gs_eq (en_gs_ne (by decide) (en_gs_eq (hm_231 _))))))))))))))))))))))))))) (Nat.le_of_ble_eq_true rfl) rfl [.int 0, .int 0, .ref 232, .ref 233, .ref 234, .ref 235, .int 0, .ref 236, .int 13, .int 0, .int 0, .int 0, .long 0, .int (-1), .int 0, .int 0, .ref 237, .int 0, .ref 238, .ref 239, .int 0, .ref 240, .ref 241, .int 0, .int 0, .ref 242, .ref 243, .int 0, .ref 244, .ref 245, .int 0, .long 0, .long 0, .ref 246, .ref 247, .ref 248, .int 0, .ref 249, .ref 250, .ref 251, .ref 252, .ref 253, .ref 254, .ref 255, .ref 256, .int 0, .int 0, .int 0, .long 0, .ref 257, .ref 258, .int 0] rfl ?_
    refine r_iinc rfl 16 rfl ([(2, .int 16), (0, .ref 231), (1, .int a4)]) rfl ?_
    refine r_goto ?_
    refine At.enter rfl ?_
    refine r_iload_n rfl ?_
    refine r_iff 7 rfl (by decide) ?_
    refine At.enter rfl ?_
    refine r_aload_n rfl ?_
    refine r_get (v := .ref 236) (en_gs_eq (en_gs_ne (by decide) (en_gs_eq (en_gs_ne (by decide) (en_gs_eq (en_gs_ne (by decide) (en_gs_eq (en_gs_ne (by decide) (en_gs_eq (en_gs_ne (by decide) (en_gs_eq (en_gs_ne (by decide) (en_gs_eq (en_gs_ne (by decide) (en_gs_eq (en_gs_ne (by decide) (en_gs_eq (en_gs_ne (by decide) (en_gs_eq (en_gs_ne (by decide) (en_gs_eq (en_gs_ne (by decide) (en_gs_eq (en_gs_ne (by decide) (en_gs_eq (en_gs_ne (by decide) (en_gs_eq (hm_231 _)))))))))))))))))))))))))))) rfl ?_
    refine r_aload_n rfl ?_
    refine r_get (v := .int 13) (en_gs_eq (en_gs_ne (by decide) (en_gs_eq (en_gs_ne (by decide) (en_gs_eq (en_gs_ne (by decide) (en_gs_eq (en_gs_ne (by decide) (en_gs_eq (en_gs_ne (by decide) (en_gs_eq (en_gs_ne (by decide) (en_gs_eq (en_gs_ne (by decide) (en_gs_eq (en_gs_ne (by decide) (en_gs_eq (en_gs_ne (by decide) (en_gs_eq (en_gs_ne (by decide) (en_gs_eq (en_gs_ne (by decide) (en_gs_eq (en_gs_ne (by decide) (en_gs_eq (en_gs_ne (by decide) (en_gs_eq (hm_231 _)))))))))))))))))))))))))))) rfl ?_
    refine r_iload_n rfl ?_
    refine r_iload_n rfl ?_
    refine r_ishr (a4 >>> (16 &&& 31)) rfl ?_
    refine r_sipush 255 rfl ?_
    refine r_iand ((a4 >>> (16 &&& 31)) &&& 255) rfl ?_
    refine r_iast (en_gs_ne (by decide) (en_gs_eq (en_gs_ne (by decide) (en_gs_eq (en_gs_ne (by decide) (en_gs_eq (en_gs_ne (by decide) (en_gs_eq (en_gs_ne (by decide) (en_gs_eq (en_gs_ne (by decide) (en_gs_eq (en_gs_ne (by decide) (en_gs_eq (en_gs_ne (by decide) (en_gs_eq (en_gs_ne (by decide) (en_gs_eq (en_gs_ne (by decide) (en_gs_eq (en_gs_ne (by decide) (en_gs_eq (en_gs_ne (by decide) (en_gs_eq (en_gs_ne (by decide) (en_gs_eq (en_gs_ne (by decide) (hm_236 _)))))))))))))))))))))))))))) (by decide) (Nat.le_of_ble_eq_true rfl) ([((a1 >>> (24 &&& 31)) &&& 255), ((a1 >>> (16 &&& 31)) &&& 255), ((a1 >>> (8 &&& 31)) &&& 255), (a1 &&& 255), ((a2 >>> (24 &&& 31)) &&& 255), ((a2 >>> (16 &&& 31)) &&& 255), ((a2 >>> (8 &&& 31)) &&& 255), (a2 &&& 255), ((a3 >>> (24 &&& 31)) &&& 255), ((a3 >>> (16 &&& 31)) &&& 255), ((a3 >>> (8 &&& 31)) &&& 255), (a3 &&& 255), ((a4 >>> (24 &&& 31)) &&& 255), ((a4 >>> (16 &&& 31)) &&& 255)] ++ List.replicate 386 0) rfl ?_
    refine r_aload_n rfl ?_
    refine r_dup rfl ?_
    refine r_get (v := .int 13) (en_gs_ne (by decide) (en_gs_eq (en_gs_ne (by decide) (en_gs_eq (en_gs_ne (by decide) (en_gs_eq (en_gs_ne (by decide) (en_gs_eq (en_gs_ne (by decide) (en_gs_eq (en_gs_ne (by decide) (en_gs_eq (en_gs_ne (by decide) (en_gs_eq (en_gs_ne (by decide) (en_gs_eq (en_gs_ne (by decide) (en_gs_eq (en_gs_ne (by decide) (en_gs_eq (en_gs_ne (by decide) (en_gs_eq (en_gs_ne (by decide) (en_gs_eq (en_gs_ne (by decide) (en_gs_eq (en_gs_ne (by decide) (en_gs_eq (hm_231 _))))))))))))))))))))))))))))) rfl ?_
    refine r_iconst 1 rfl ?_
    refine r_iadd 14 rfl ?_
    refine r_putf (en_gs_ne (by decide) (en_gs_eq (en_gs_ne (by decide) (en_gs_eq (en_gs_ne (by decide) (en_gs_eq (en_gs_ne (by decide) (en_gs_eq (en_gs_ne (by decide) (en_gs_eq (en_gs_ne (by decide) (en_gs_eq (en_gs_ne (by decide) (en_gs_eq (en_gs_ne (by decide) (en_gs_eq (en_gs_ne (by decide) (en_gs_eq (en_gs_ne (by decide) (en_gs_eq (en_gs_ne (by decide) (en_gs_eq (en_gs_ne (by decide) (en_gs_eq (en_gs_ne (by decide) (en_gs_eq (en_gs_ne (by decide) (en_gs_eq (hm_231 _))))))))))))))))))))))))))))) (Nat.le_of_ble_eq_true rfl) rfl [.int 0, .int 0, .ref 232, .ref 233, .ref 234, .ref 235, .int 0, .ref 236, .int 14, .int 0, .int 0, .int 0, .long 0, .int (-1), .int 0, .int 0, .ref 237, .int 0, .ref 238, .ref 239, .int 0, .ref 240, .ref 241, .int 0, .int 0, .ref 242, .ref 243, .int 0, .ref 244, .ref 245, .int 0, .long 0, .long 0, .ref 246, .ref 247, .ref 248, .int 0, .ref 249, .ref 250, .ref 251, .ref 252, .ref 253, .ref 254, .ref 255, .ref 256, .int 0, .int 0, .int 0, .long 0, .ref 257, .ref 258, .int 0] rfl ?_
    refine r_iinc rfl 8 rfl ([(2, .int 8), (0, .ref 231), (1, .int a4)]) rfl ?_
    refine r_goto ?_
    refine At.enter rfl ?_
    refine r_iload_n rfl ?_
    refine r_iff 7 rfl (by decide) ?_
    refine At.enter rfl ?_
    refine r_aload_n rfl ?_
    refine r_get (v := .ref 236) (en_gs_eq (en_gs_ne (by decide) (en_gs_eq (en_gs_ne (by decide) (en_gs_eq (en_gs_ne (by decide) (en_gs_eq (en_gs_ne (by decide) (en_gs_eq (en_gs_ne (by decide) (en_gs_eq (en_gs_ne (by decide) (en_gs_eq (en_gs_ne (by decide) (en_gs_eq (en_gs_ne (by decide) (en_gs_eq (en_gs_ne (by decide) (en_gs_eq (en_gs_ne (by decide) (en_gs_eq (en_gs_ne (by decide) (en_gs_eq (en_gs_ne (by decide) (en_gs_eq (en_gs_ne (by decide) (en_gs_eq (en_gs_ne (by decide) (en_gs_eq (hm_231 _)))))))))))))))))))))))))))))) rfl ?_
    refine r_aload_n rfl ?_
    refine r_get (v := .int 14) (en_gs_eq (en_gs_ne (by decide) (en_gs_eq (en_gs_ne (by decide) (en_gs_eq (en_gs_ne (by decide) (en_gs_eq (en_gs_ne (by decide) (en_gs_eq (en_gs_ne (by decide) (en_gs_eq (en_gs_ne (by decide) (en_gs_eq (en_gs_ne (by decide) (en_gs_eq (en_gs_ne (by decide) (en_gs_eq (en_gs_ne (by decide) (en_gs_eq (en_gs_ne (by decide) (en_gs_eq (en_gs_ne (by decide) (en_gs_eq (en_gs_ne (by decide) (en_gs_eq (en_gs_ne (by decide) (en_gs_eq (en_gs_ne (by decide) (en_gs_eq (hm_231 _)))))))))))))))))))))))))))))) rfl ?_
    refine r_iload_n rfl ?_
    refine r_iload_n rfl ?_
    refine r_ishr (a4 >>> (8 &&& 31)) rfl ?_
    refine r_sipush 255 rfl ?_
    refine r_iand ((a4 >>> (8 &&& 31)) &&& 255) rfl ?_
    refine r_iast (en_gs_ne (by decide) (en_gs_eq (en_gs_ne (by decide) (en_gs_eq (en_gs_ne (by decide) (en_gs_eq (en_gs_ne (by decide) (en_gs_eq (en_gs_ne (by decide) (en_gs_eq (en_gs_ne (by decide) (en_gs_eq (en_gs_ne (by decide) (en_gs_eq (en_gs_ne (by decide) (en_gs_eq (en_gs_ne (by decide) (en_gs_eq (en_gs_ne (by decide) (en_gs_eq (en_gs_ne (by decide) (en_gs_eq (en_gs_ne (by decide) (en_gs_eq (en_gs_ne (by decide) (en_gs_eq (en_gs_ne (by decide) (en_gs_eq (en_gs_ne (by decide) (hm_236 _)))))))))))))))))))))))))))))) (by decide) (Nat.le_of_ble_eq_true rfl) ([((a1 >>> (24 &&& 31)) &&& 255), ((a1 >>> (16 &&& 31)) &&& 255), ((a1 >>> (8 &&& 31)) &&& 255), (a1 &&& 255), ((a2 >>> (24 &&& 31)) &&& 255), ((a2 >>> (16 &&& 31)) &&& 255), ((a2 >>> (8 &&& 31)) &&& 255), (a2 &&& 255), ((a3 >>> (24 &&& 31)) &&& 255), ((a3 >>> (16 &&& 31)) &&& 255), ((a3 >>> (8 &&& 31)) &&& 255), (a3 &&& 255), ((a4 >>> (24 &&& 31)) &&& 255), ((a4 >>> (16 &&& 31)) &&& 255), ((a4 >>> (8 &&& 31)) &&& 255)] ++ List.replicate 385 0) rfl ?_
    refine r_aload_n rfl ?_
    refine r_dup rfl ?_
    refine r_get (v := .int 14) (en_gs_ne (by decide) (en_gs_eq (en_gs_ne (by decide) (en_gs_eq (en_gs_ne (by decide) (en_gs_eq (en_gs_ne (by decide) (en_gs_eq (en_gs_ne (by decide) (en_gs_eq (en_gs_ne (by decide) (en_gs_eq (en_gs_ne (by decide) (en_gs_eq (en_gs_ne (by decide) (en_gs_eq (en_gs_ne (by decide) (en_gs_eq (en_gs_ne (by decide) (en_gs_eq (en_gs_ne (by decide) (en_gs_eq (en_gs_ne (by decide) (en_gs_eq (en_gs_ne (by decide) (en_gs_eq (en_gs_ne (by decide) (en_gs_eq (en_gs_ne (by decide) (en_gs_eq (hm_231 _))))))))))))))))))))))))))))))) rfl ?_
    refine r_iconst 1 rfl ?_
    refine r_iadd 15 rfl ?_
    refine r_putf (en_gs_ne (by decide) (en_gs_eq (en_gs_ne (by decide) (en_gs_eq (en_gs_ne (by decide) (en_gs_eq (en_gs_ne (by decide) (en_gs_eq (en_gs_ne (by decide) (en_gs_eq (en_gs_ne (by decide) (en_gs_eq (en_gs_ne (by decide) (en_gs_eq (en_gs_ne (by decide) (en_gs_eq (en_gs_ne (by decide) (en_gs_eq (en_gs_ne (by decide) (en_gs_eq (en_gs_ne (by decide) (en_gs_eq (en_gs_ne (by decide) (en_gs_eq (en_gs_ne (by decide) (en_gs_eq (en_gs_ne (by decide) (en_gs_eq (en_gs_ne (by decide) (en_gs_eq (hm_231 _))))))))))))))))))))))))))))))) (Nat.le_of_ble_eq_true rfl) rfl [.int 0, .int 0, .ref 232, .ref 233, .ref 234, .ref 235, .int 0, .ref 236, .int 15, .int 0, .int 0, .int 0, .long 0, .int (-1), .int 0, .int 0, .ref 237, .int 0, .ref 238, .ref 239, .int 0, .ref 240, .ref 241, .int 0, .int 0, .ref 242, .ref 243, .int 0, .ref 244, .ref 245, .int 0, .long 0, .long 0, .ref 246, .ref 247, .ref 248, .int 0, .ref 249, .ref 250, .ref 251, .ref 252, .ref 253, .ref 254, .ref 255, .ref 256, .int 0, .int 0, .int 0, .long 0, .ref 257, .ref 258, .int 0] rfl ?_
    refine r_iinc rfl 0 rfl ([(2, .int 0), (0, .ref 231), (1, .int a4)]) rfl ?_
    refine r_goto ?_
    refine At.enter rfl ?_
    refine r_iload_n rfl ?_
    refine r_iff 7 rfl (by decide) ?_
    refine At.enter rfl ?_
    refine r_aload_n rfl ?_
    refine r_get (v := .ref 236) (en_gs_eq (en_gs_ne (by decide) (en_gs_eq (en_gs_ne (by decide) (en_gs_eq (en_gs_ne (by decide) (en_gs_eq (en_gs_ne (by decide) (en_gs_eq (en_gs_ne (by decide) (en_gs_eq (en_gs_ne (by decide) (en_gs_eq (en_gs_ne (by decide) (en_gs_eq (en_gs_ne (by decide) (en_gs_eq (en_gs_ne (by decide) (en_gs_eq (en_gs_ne (by decide) (en_gs_eq (en_gs_ne (by decide) (en_gs_eq (en_gs_ne (by decide) (en_gs_eq (en_gs_ne (by decide) (en_gs_eq (en_gs_ne (by decide) (en_gs_eq (en_gs_ne (by decide) (en_gs_eq (hm_231 _)))))))))))))))))))))))))))))))) rfl ?_
    refine r_aload_n rfl ?_
    refine r_get (v := .int 15) (en_gs_eq (en_gs_ne (by decide) (en_gs_eq (en_gs_ne (by decide) (en_gs_eq (en_gs_ne (by decide) (en_gs_eq (en_gs_ne (by decide) (en_gs_eq (en_gs_ne (by decide) (en_gs_eq (en_gs_ne (by decide) (en_gs_eq (en_gs_ne (by decide) (en_gs_eq (en_gs_ne (by decide) (en_gs_eq (en_gs_ne (by decide) (en_gs_eq (en_gs_ne (by decide) (en_gs_eq (en_gs_ne (by decide) (en_gs_eq (en_gs_ne (by decide) (en_gs_eq (en_gs_ne (by decide) (en_gs_eq (en_gs_ne (by decide) (en_gs_eq (en_gs_ne (by decide) (en_gs_eq (hm_231 _)))))))))))))))))))))))))))))))) rfl ?_
    refine r_iload_n rfl ?_
    refine r_iload_n rfl ?_
    refine r_ishr a4 (en_shr0 _) ?_
    refine r_sipush 255 rfl ?_
    refine r_iand (a4 &&& 255) rfl ?_
    refine r_iast (en_gs_ne (by decide) (en_gs_eq (en_gs_ne (by decide) (en_gs_eq (en_gs_ne (by decide) (en_gs_eq (en_gs_ne (by decide) (en_gs_eq (en_gs_ne (by decide) (en_gs_eq (en_gs_ne (by decide) (en_gs_eq (en_gs_ne (by decide) (en_gs_eq (en_gs_ne (by decide) (en_gs_eq (en_gs_ne (by decide) (en_gs_eq (en_gs_ne (by decide) (en_gs_eq (en_gs_ne (by decide) (en_gs_eq (en_gs_ne (by decide) (en_gs_eq (en_gs_ne (by decide) (en_gs_eq (en_gs_ne (by decide) (en_gs_eq (en_gs_ne (by decide) (en_gs_eq (en_gs_ne (by decide) (hm_236 _)))))))))))))))))))))))))))))))) (by decide) (Nat.le_of_ble_eq_true rfl) ([((a1 >>> (24 &&& 31)) &&& 255), ((a1 >>> (16 &&& 31)) &&& 255), ((a1 >>> (8 &&& 31)) &&& 255), (a1 &&& 255), ((a2 >>> (24 &&& 31)) &&& 255), ((a2 >>> (16 &&& 31)) &&& 255), ((a2 >>> (8 &&& 31)) &&& 255), (a2 &&& 255), ((a3 >>> (24 &&& 31)) &&& 255), ((a3 >>> (16 &&& 31)) &&& 255), ((a3 >>> (8 &&& 31)) &&& 255), (a3 &&& 255), ((a4 >>> (24 &&& 31)) &&& 255), ((a4 >>> (16 &&& 31)) &&& 255), ((a4 >>> (8 &&& 31)) &&& 255), (a4 &&& 255)] ++ List.replicate 384 0) rfl ?_
    refine r_aload_n rfl ?_
    refine r_dup rfl ?_
    refine r_get (v := .int 15) (en_gs_ne (by decide) (en_gs_eq (en_gs_ne (by decide) (en_gs_eq (en_gs_ne (by decide) (en_gs_eq (en_gs_ne (by decide) (en_gs_eq (en_gs_ne (by decide) (en_gs_eq (en_gs_ne (by decide) (en_gs_eq (en_gs_ne (by decide) (en_gs_eq (en_gs_ne (by decide) (en_gs_eq (en_gs_ne (by decide) (en_gs_eq (en_gs_ne (by decide) (en_gs_eq (en_gs_ne (by decide) (en_gs_eq (en_gs_ne (by decide) (en_gs_eq (en_gs_ne (by decide) (en_gs_eq (en_gs_ne (by decide) (en_gs_eq (en_gs_ne (by decide) (en_gs_eq (en_gs_ne (by decide) (en_gs_eq (hm_231 _))))))))))))))))))))))))))))))))) rfl ?_
    refine r_iconst 1 rfl ?_
    refine r_iadd 16 rfl ?_
    refine r_putf (en_gs_ne (by decide) (en_gs_eq (en_gs_ne (by decide) (en_gs_eq (en_gs_ne (by decide) (en_gs_eq (en_gs_ne (by decide) (en_gs_eq (en_gs_ne (by decide) (en_gs_eq (en_gs_ne (by decide) (en_gs_eq (en_gs_ne (by decide) (en_gs_eq (en_gs_ne (by decide) (en_gs_eq (en_gs_ne (by decide) (en_gs_eq (en_gs_ne (by decide) (en_gs_eq (en_gs_ne (by decide) (en_gs_eq (en_gs_ne (by decide) (en_gs_eq (en_gs_ne (by decide) (en_gs_eq (en_gs_ne (by decide) (en_gs_eq (en_gs_ne (by decide) (en_gs_eq (en_gs_ne (by decide) (en_gs_eq (hm_231 _))))))))))))))))))))))))))))))))) (Nat.le_of_ble_eq_true rfl) rfl [.int 0, .int 0, .ref 232, .ref 233, .ref 234, .ref 235, .int 0, .ref 236, .int 16, .int 0, .int 0, .int 0, .long 0, .int (-1), .int 0, .int 0, .ref 237, .int 0, .ref 238, .ref 239, .int 0, .ref 240, .ref 241, .int 0, .int 0, .ref 242, .ref 243, .int 0, .ref 244, .ref 245, .int 0, .long 0, .long 0, .ref 246, .ref 247, .ref 248, .int 0, .ref 249, .ref 250, .ref 251, .ref 252, .ref 253, .ref 254, .ref 255, .ref 256, .int 0, .int 0, .int 0, .long 0, .ref 257, .ref 258, .int 0] rfl ?_
    refine r_iinc rfl (-8) rfl ([(2, .int (-8)), (0, .ref 231), (1, .int a4)]) rfl ?_
    refine r_goto ?_
    refine At.enter rfl ?_
    refine r_iload_n rfl ?_
    refine r_ift (by decide) ?_
    refine At.enter rfl ?_
    refine r_vret ?_
    exact ⟨trivial, rfl, rfl⟩
  refine At.enter rfl ?_
  refine r_aload_n rfl ?_
  refine r_iload rfl ?_
  refine r_callV1v (True)  ((((((((((((((((((((((((((((((((((((((((((en_pre a 231 hp_M).set 231 (.inr (11, [.int 0, .int 0, .ref 232, .ref 233, .ref 234, .ref 235, .int 0, .ref 236, .int 0, .int 0, .int 0, .int 0, .long 0, .int (-1), .int 0, .int 0, .ref 237, .int 0, .ref 238, .ref 239, .int 0, .ref 240, .ref 241, .int 0, .int 0, .ref 242, .ref 243, .int 0, .ref 244, .ref 245, .int 0, .long 0, .long 0, .ref 246, .ref 247, .ref 248, .int 0, .ref 249, .ref 250, .ref 251, .ref 252, .ref 253, .ref 254, .ref 255, .ref 256, .int 0, .int 0, .int 0, .long 0, .ref 257, .ref 258, .int 0]))).set 236 (.inl (0, .inl ([((a1 >>> (24 &&& 31)) &&& 255)] ++ List.replicate 399 0)))).set 231 (.inr (11, [.int 0, .int 0, .ref 232, .ref 233, .ref 234, .ref 235, .int 0, .ref 236, .int 1, .int 0, .int 0, .int 0, .long 0, .int (-1), .int 0, .int 0, .ref 237, .int 0, .ref 238, .ref 239, .int 0, .ref 240, .ref 241, .int 0, .int 0, .ref 242, .ref 243, .int 0, .ref 244, .ref 245, .int 0, .long 0, .long 0, .ref 246, .ref 247, .ref 248, .int 0, .ref 249, .ref 250, .ref 251, .ref 252, .ref 253, .ref 254, .ref 255, .ref 256, .int 0, .int 0, .int 0, .long 0, .ref 257, .ref 258, .int 0]))).set 236 (.inl (0, .inl ([((a1 >>> (24 &&& 31)) &&& 255), ((a1 >>> (16 &&& 31)) &&& 255)] ++ List.replicate 398 0)))).set 231 (.inr (11, [.int 0, .int 0, .ref 232, .ref 233, .ref 234, .ref 235, .int 0, .ref 236, .int 2, .int 0, .int 0, .int 0, .long 0, .int (-1), .int 0, .int 0, .ref 237, .int 0, .ref 238, .ref 239, .int 0, .ref 240, .ref 241, .int 0, .int 0, .ref 242, .ref 243, .int 0, .ref 244, .ref 245, .int 0, .long 0, .long 0, .ref 246, .ref 247, .ref 248, .int 0, .ref 249, .ref 250, .ref 251, .ref 252, .ref 253, .ref 254, .ref 255, .ref 256, .int 0, .int 0, .int 0, .long 0, .ref 257, .ref 258, .int 0]))).set 236 (.inl (0, .inl ([((a1 >>> (24 &&& 31)) &&& 255), ((a1 >>> (16 &&& 31)) &&& 255), ((a1 >>> (8 &&& 31)) &&& 255)] ++ List.replicate 397 0)))).set 231 (.inr (11, [.int 0, .int 0, .ref 232, .ref 233, .ref 234, .ref 235, .int 0, .ref 236, .int 3, .int 0, .int 0, .int 0, .long 0, .int (-1), .int 0, .int 0, .ref 237, .int 0, .ref 238, .ref 239, .int 0, .ref 240, .ref 241, .int 0, .int 0, .ref 242, .ref 243, .int 0, .ref 244, .ref 245, .int 0, .long 0, .long 0, .ref 246, .ref 247, .ref 248, .int 0, .ref 249, .ref 250, .ref 251, .ref 252, .ref 253, .ref 254, .ref 255, .ref 256, .int 0, .int 0, .int 0, .long 0, .ref 257, .ref 258, .int 0]))).set 236 (.inl (0, .inl ([((a1 >>> (24 &&& 31)) &&& 255), ((a1 >>> (16 &&& 31)) &&& 255), ((a1 >>> (8 &&& 31)) &&& 255), (a1 &&& 255)] ++ List.replicate 396 0)))).set 231 (.inr (11, [.int 0, .int 0, .ref 232, .ref 233, .ref 234, .ref 235, .int 0, .ref 236, .int 4, .int 0, .int 0, .int 0, .long 0, .int (-1), .int 0, .int 0, .ref 237, .int 0, .ref 238, .ref 239, .int 0, .ref 240, .ref 241, .int 0, .int 0, .ref 242, .ref 243, .int 0, .ref 244, .ref 245, .int 0, .long 0, .long 0, .ref 246, .ref 247, .ref 248, .int 0, .ref 249, .ref 250, .ref 251, .ref 252, .ref 253, .ref 254, .ref 255, .ref 256, .int 0, .int 0, .int 0, .long 0, .ref 257, .ref 258, .int 0]))).set 236 (.inl (0, .inl ([((a1 >>> (24 &&& 31)) &&& 255), ((a1 >>> (16 &&& 31)) &&& 255), ((a1 >>> (8 &&& 31)) &&& 255), (a1 &&& 255), ((a2 >>> (24 &&& 31)) &&& 255)] ++ List.replicate 395 0)))).set 231 (.inr (11, [.int 0, .int 0, .ref 232, .ref 233, .ref 234, .ref 235, .int 0, .ref 236, .int 5, .int 0, .int 0, .int 0, .long 0, .int (-1), .int 0, .int 0, .ref 237, .int 0, .ref 238, .ref 239, .int 0, .ref 240, .ref 241, .int 0, .int 0, .ref 242, .ref 243, .int 0, .ref 244, .ref 245, .int 0, .long 0, .long 0, .ref 246, .ref 247, .ref 248, .int 0, .ref 249, .ref 250, .ref 251, .ref 252, .ref 253, .ref 254, .ref 255, .ref 256, .int 0, .int 0, .int 0, .long 0, .ref 257, .ref 258, .int 0]))).set 236 (.inl (0, .inl ([((a1 >>> (24 &&& 31)) &&& 255), ((a1 >>> (16 &&& 31)) &&& 255), ((a1 >>> (8 &&& 31)) &&& 255), (a1 &&& 255), ((a2 >>> (24 &&& 31)) &&& 255), ((a2 >>> (16 &&& 31)) &&& 255)] ++ List.replicate 394 0)))).set 231 (.inr (11, [.int 0, .int 0, .ref 232, .ref 233, .ref 234, .ref 235, .int 0, .ref 236, .int 6, .int 0, .int 0, .int 0, .long 0, .int (-1), .int 0, .int 0, .ref 237, .int 0, .ref 238, .ref 239, .int 0, .ref 240, .ref 241, .int 0, .int 0, .ref 242, .ref 243, .int 0, .ref 244, .ref 245, .int 0, .long 0, .long 0, .ref 246, .ref 247, .ref 248, .int 0, .ref 249, .ref 250, .ref 251, .ref 252, .ref 253, .ref 254, .ref 255, .ref 256, .int 0, .int 0, .int 0, .long 0, .ref 257, .ref 258, .int 0]))).set 236 (.inl (0, .inl ([((a1 >>> (24 &&& 31)) &&& 255), ((a1 >>> (16 &&& 31)) &&& 255), ((a1 >>> (8 &&& 31)) &&& 255), (a1 &&& 255), ((a2 >>> (24 &&& 31)) &&& 255), ((a2 >>> (16 &&& 31)) &&& 255), ((a2 >>> (8 &&& 31)) &&& 255)] ++ List.replicate 393 0)))).set 231 (.inr (11, [.int 0, .int 0, .ref 232, .ref 233, .ref 234, .ref 235, .int 0, .ref 236, .int 7, .int 0, .int 0, .int 0, .long 0, .int (-1), .int 0, .int 0, .ref 237, .int 0, .ref 238, .ref 239, .int 0, .ref 240, .ref 241, .int 0, .int 0, .ref 242, .ref 243, .int 0, .ref 244, .ref 245, .int 0, .long 0, .long 0, .ref 246, .ref 247, .ref 248, .int 0, .ref 249, .ref 250, .ref 251, .ref 252, .ref 253, .ref 254, .ref 255, .ref 256, .int 0, .int 0, .int 0, .long 0, .ref 257, .ref 258, .int 0]))).set 236 (.inl (0, .inl ([((a1 >>> (24 &&& 31)) &&& 255), ((a1 >>> (16 &&& 31)) &&& 255), ((a1 >>> (8 &&& 31)) &&& 255), (a1 &&& 255), ((a2 >>> (24 &&& 31)) &&& 255), ((a2 >>> (16 &&& 31)) &&& 255), ((a2 >>> (8 &&& 31)) &&& 255), (a2 &&& 255)] ++ List.replicate 392 0)))).set 231 (.inr (11, [.int 0, .int 0, .ref 232, .ref 233, .ref 234, .ref 235, .int 0, .ref 236, .int 8, .int 0, .int 0, .int 0, .long 0, .int (-1), .int 0, .int 0, .ref 237, .int 0, .ref 238, .ref 239, .int 0, .ref 240, .ref 241, .int 0, .int 0, .ref 242, .ref 243, .int 0, .ref 244, .ref 245, .int 0, .long 0, .long 0, .ref 246, .ref 247, .ref 248, .int 0, .ref 249, .ref 250, .ref 251, .ref 252, .ref 253, .ref 254, .ref 255, .ref 256, .int 0, .int 0, .int 0, .long 0, .ref 257, .ref 258, .int 0]))).set 236 (.inl (0, .inl ([((a1 >>> (24 &&& 31)) &&& 255), ((a1 >>> (16 &&& 31)) &&& 255), ((a1 >>> (8 &&& 31)) &&& 255), (a1 &&& 255), ((a2 >>> (24 &&& 31)) &&& 255), ((a2 >>> (16 &&& 31)) &&& 255), ((a2 >>> (8 &&& 31)) &&& 255), (a2 &&& 255), ((a3 >>> (24 &&& 31)) &&& 255)] ++ List.replicate 391 0)))).set 231 (.inr (11, [.int 0, .int 0, .ref 232, .ref 233, .ref 234, .ref 235, .int 0, .ref 236, .int 9, .int 0, .int 0, .int 0, .long 0, .int (-1), .int 0, .int 0, .ref 237, .int 0, .ref 238, .ref 239, .int 0, .ref 240, .ref 241, .int 0, .int 0, .ref 242, .ref 243, .int 0, .ref 244, .ref 245, .int 0, .long 0, .long 0, .ref 246, .ref 247, .ref 248, .int 0, .ref 249, .ref 250, .ref 251, .ref 252, .ref 253, .ref 254, .ref 255, .ref 256, .int 0, .int 0, .int 0, .long 0, .ref 257, .ref 258, .int 0]))).set 236 (.inl (0, .inl ([((a1 >>> (24 &&& 31)) &&& 255), ((a1 >>> (16 &&& 31)) &&& 255), ((a1 >>> (8 &&& 31)) &&& 255), (a1 &&& 255), ((a2 >>> (24 &&& 31)) &&& 255), ((a2 >>> (16 &&& 31)) &&& 255), ((a2 >>> (8 &&& 31)) &&& 255), (a2 &&& 255), ((a3 >>> (24 &&& 31)) &&& 255), ((a3 >>> (16 &&& 31)) &&& 255)] ++ List.replicate 390 0)))).set 231 (.inr (11, [.int 0, .int 0, .ref 232, .ref 233, .ref 234, .ref 235, .int 0, .ref 236, .int 10, .int 0, .int 0, .int 0, .long 0, .int (-1), .int 0, .int 0, .ref 237, .int 0, .ref 238, .ref 239, .int 0, .ref 240, .ref 241, .int 0, .int 0, .ref 242, .ref 243, .int 0, .ref 244, .ref 245, .int 0, .long 0, .long 0, .ref 246, .ref 247, .ref 248, .int 0, .ref 249, .ref 250, .ref 251, .ref 252, .ref 253, .ref 254, .ref 255, .ref 256, .int 0, .int 0, .int 0, .long 0, .ref 257, .ref 258, .int 0]))).set 236 (.inl (0, .inl ([((a1 >>> (24 &&& 31)) &&& 255), ((a1 >>> (16 &&& 31)) &&& 255), ((a1 >>> (8 &&& 31)) &&& 255), (a1 &&& 255), ((a2 >>> (24 &&& 31)) &&& 255), ((a2 >>> (16 &&& 31)) &&& 255), ((a2 >>> (8 &&& 31)) &&& 255), (a2 &&& 255), ((a3 >>> (24 &&& 31)) &&& 255), ((a3 >>> (16 &&& 31)) &&& 255), ((a3 >>> (8 &&& 31)) &&& 255)] ++ List.replicate 389 0)))).set 231 (.inr (11, [.int 0, .int 0, .ref 232, .ref 233, .ref 234, .ref 235, .int 0, .ref 236, .int 11, .int 0, .int 0, .int 0, .long 0, .int (-1), .int 0, .int 0, .ref 237, .int 0, .ref 238, .ref 239, .int 0, .ref 240, .ref 241, .int 0, .int 0, .ref 242, .ref 243, .int 0, .ref 244, .ref 245, .int 0, .long 0, .long 0, .ref 246, .ref 247, .ref 248, .int 0, .ref 249, .ref 250, .ref 251, .ref 252, .ref 253, .ref 254, .ref 255, .ref 256, .int 0, .int 0, .int 0, .long 0, .ref 257, .ref 258, .int 0]))).set 236 (.inl (0, .inl ([((a1 >>> (24 &&& 31)) &&& 255), ((a1 >>> (16 &&& 31)) &&& 255), ((a1 >>> (8 &&& 31)) &&& 255), (a1 &&& 255), ((a2 >>> (24 &&& 31)) &&& 255), ((a2 >>> (16 &&& 31)) &&& 255), ((a2 >>> (8 &&& 31)) &&& 255), (a2 &&& 255), ((a3 >>> (24 &&& 31)) &&& 255), ((a3 >>> (16 &&& 31)) &&& 255), ((a3 >>> (8 &&& 31)) &&& 255), (a3 &&& 255)] ++ List.replicate 388 0)))).set 231 (.inr (11, [.int 0, .int 0, .ref 232, .ref 233, .ref 234, .ref 235, .int 0, .ref 236, .int 12, .int 0, .int 0, .int 0, .long 0, .int (-1), .int 0, .int 0, .ref 237, .int 0, .ref 238, .ref 239, .int 0, .ref 240, .ref 241, .int 0, .int 0, .ref 242, .ref 243, .int 0, .ref 244, .ref 245, .int 0, .long 0, .long 0, .ref 246, .ref 247, .ref 248, .int 0, .ref 249, .ref 250, .ref 251, .ref 252, .ref 253, .ref 254, .ref 255, .ref 256, .int 0, .int 0, .int 0, .long 0, .ref 257, .ref 258, .int 0]))).set 236 (.inl (0, .inl ([((a1 >>> (24 &&& 31)) &&& 255), ((a1 >>> (16 &&& 31)) &&& 255), ((a1 >>> (8 &&& 31)) &&& 255), (a1 &&& 255), ((a2 >>> (24 &&& 31)) &&& 255), ((a2 >>> (16 &&& 31)) &&& 255), ((a2 >>> (8 &&& 31)) &&& 255), (a2 &&& 255), ((a3 >>> (24 &&& 31)) &&& 255), ((a3 >>> (16 &&& 31)) &&& 255), ((a3 >>> (8 &&& 31)) &&& 255), (a3 &&& 255), ((a4 >>> (24 &&& 31)) &&& 255)] ++ List.replicate 387 0)))).set 231 (.inr (11, [.int 0, .int 0, .ref 232, .ref 233, .ref 234, .ref 235, .int 0, .ref 236, .int 13, .int 0, .int 0, .int 0, .long 0, .int (-1), .int 0, .int 0, .ref 237, .int 0, .ref 238, .ref 239, .int 0, .ref 240, .ref 241, .int 0, .int 0, .ref 242, .ref 243, .int 0, .ref 244, .ref 245, .int 0, .long 0, .long 0, .ref 246, .ref 247, .ref 248, .int 0, .ref 249, .ref 250, .ref 251, .ref 252, .ref 253, .ref 254, .ref 255, .ref 256, .int 0, .int 0, .int 0, .long 0, .ref 257, .ref 258, .int 0]))).set 236 (.inl (0, .inl ([((a1 >>> (24 &&& 31)) &&& 255), ((a1 >>> (16 &&& 31)) &&& 255), ((a1 >>> (8 &&& 31)) &&& 255), (a1 &&& 255), ((a2 >>> (24 &&& 31)) &&& 255), ((a2 >>> (16 &&& 31)) &&& 255), ((a2 >>> (8 &&& 31)) &&& 255), (a2 &&& 255), ((a3 >>> (24 &&& 31)) &&& 255), ((a3 >>> (16 &&& 31)) &&& 255), ((a3 >>> (8 &&& 31)) &&& 255), (a3 &&& 255), ((a4 >>> (24 &&& 31)) &&& 255), ((a4 >>> (16 &&& 31)) &&& 255)] ++ List.replicate 386 0)))).set 231 (.inr (11, [.int 0, .int 0, .ref 232, .ref 233, .ref 234, .ref 235, .int 0, .ref 236, .int 14, .int 0, .int 0, .int 0, .long 0, .int (-1), .int 0, .int 0, .ref 237, .int 0, .ref 238, .ref 239, .int 0, .ref 240, .ref 241, .int 0, .int 0, .ref 242, .ref 243, .int 0, .ref 244, .ref 245, .int 0, .long 0, .long 0, .ref 246, .ref 247, .ref 248, .int 0, .ref 249, .ref 250, .ref 251, .ref 252, .ref 253, .ref 254, .ref 255, .ref 256, .int 0, .int 0, .int 0, .long 0, .ref 257, .ref 258, .int 0]))).set 236 (.inl (0, .inl ([((a1 >>> (24 &&& 31)) &&& 255), ((a1 >>> (16 &&& 31)) &&& 255), ((a1 >>> (8 &&& 31)) &&& 255), (a1 &&& 255), ((a2 >>> (24 &&& 31)) &&& 255), ((a2 >>> (16 &&& 31)) &&& 255), ((a2 >>> (8 &&& 31)) &&& 255), (a2 &&& 255), ((a3 >>> (24 &&& 31)) &&& 255), ((a3 >>> (16 &&& 31)) &&& 255), ((a3 >>> (8 &&& 31)) &&& 255), (a3 &&& 255), ((a4 >>> (24 &&& 31)) &&& 255), ((a4 >>> (16 &&& 31)) &&& 255), ((a4 >>> (8 &&& 31)) &&& 255)] ++ List.replicate 385 0)))).set 231 (.inr (11, [.int 0, .int 0, .ref 232, .ref 233, .ref 234, .ref 235, .int 0, .ref 236, .int 15, .int 0, .int 0, .int 0, .long 0, .int (-1), .int 0, .int 0, .ref 237, .int 0, .ref 238, .ref 239, .int 0, .ref 240, .ref 241, .int 0, .int 0, .ref 242, .ref 243, .int 0, .ref 244, .ref 245, .int 0, .long 0, .long 0, .ref 246, .ref 247, .ref 248, .int 0, .ref 249, .ref 250, .ref 251, .ref 252, .ref 253, .ref 254, .ref 255, .ref 256, .int 0, .int 0, .int 0, .long 0, .ref 257, .ref 258, .int 0]))).set 236 (.inl (0, .inl ([((a1 >>> (24 &&& 31)) &&& 255), ((a1 >>> (16 &&& 31)) &&& 255), ((a1 >>> (8 &&& 31)) &&& 255), (a1 &&& 255), ((a2 >>> (24 &&& 31)) &&& 255), ((a2 >>> (16 &&& 31)) &&& 255), ((a2 >>> (8 &&& 31)) &&& 255), (a2 &&& 255), ((a3 >>> (24 &&& 31)) &&& 255), ((a3 >>> (16 &&& 31)) &&& 255), ((a3 >>> (8 &&& 31)) &&& 255), (a3 &&& 255), ((a4 >>> (24 &&& 31)) &&& 255), ((a4 >>> (16 &&& 31)) &&& 255), ((a4 >>> (8 &&& 31)) &&& 255), (a4 &&& 255)] ++ List.replicate 384 0)))).set 231 (.inr (11, [.int 0, .int 0, .ref 232, .ref 233, .ref 234, .ref 235, .int 0, .ref 236, .int 16, .int 0, .int 0, .int 0, .long 0, .int (-1), .int 0, .int 0, .ref 237, .int 0, .ref 238, .ref 239, .int 0, .ref 240, .ref 241, .int 0, .int 0, .ref 242, .ref 243, .int 0, .ref 244, .ref 245, .int 0, .long 0, .long 0, .ref 246, .ref 247, .ref 248, .int 0, .ref 249, .ref 250, .ref 251, .ref 252, .ref 253, .ref 254, .ref 255, .ref 256, .int 0, .int 0, .int 0, .long 0, .ref 257, .ref 258, .int 0]))).set 236 (.inl (0, .inl ([((a1 >>> (24 &&& 31)) &&& 255), ((a1 >>> (16 &&& 31)) &&& 255), ((a1 >>> (8 &&& 31)) &&& 255), (a1 &&& 255), ((a2 >>> (24 &&& 31)) &&& 255), ((a2 >>> (16 &&& 31)) &&& 255), ((a2 >>> (8 &&& 31)) &&& 255), (a2 &&& 255), ((a3 >>> (24 &&& 31)) &&& 255), ((a3 >>> (16 &&& 31)) &&& 255), ((a3 >>> (8 &&& 31)) &&& 255), (a3 &&& 255), ((a4 >>> (24 &&& 31)) &&& 255), ((a4 >>> (16 &&& 31)) &&& 255), ((a4 >>> (8 &&& 31)) &&& 255), (a4 &&& 255), ((a5 >>> (24 &&& 31)) &&& 255)] ++ List.replicate 383 0)))).set 231 (.inr (11, [.int 0, .int 0, .ref 232, .ref 233, .ref 234, .ref 235, .int 0, .ref 236, .int 17, .int 0, .int 0, .int 0, .long 0, .int (-1), .int 0, .int 0, .ref 237, .int 0, .ref 238, .ref 239, .int 0, .ref 240, .ref 241, .int 0, .int 0, .ref 242, .ref 243, .int 0, .ref 244, .ref 245, .int 0, .long 0, .long 0, .ref 246, .ref 247, .ref 248, .int 0, .ref 249, .ref 250, .ref 251, .ref 252, .ref 253, .ref 254, .ref 255, .ref 256, .int 0, .int 0, .int 0, .long 0, .ref 257, .ref 258, .int 0]))).set 236 (.inl (0, .inl ([((a1 >>> (24 &&& 31)) &&& 255), ((a1 >>> (16 &&& 31)) &&& 255), ((a1 >>> (8 &&& 31)) &&& 255), (a1 &&& 255), ((a2 >>> (24 &&& 31)) &&& 255), ((a2 >>> (16 &&& 31)) &&& 255), ((a2 >>> (8 &&& 31)) &&& 255), (a2 &&& 255), ((a3 >>> (24 &&& 31)) &&& 255), ((a3 >>> (16 &&& 31)) &&& 255), ((a3 >>> (8 &&& 31)) &&& 255), (a3 &&& 255), ((a4 >>> (24 &&& 31)) &&& 255), ((a4 >>> (16 &&& 31)) &&& 255), ((a4 >>> (8 &&& 31)) &&& 255), (a4 &&& 255), ((a5 >>> (24 &&& 31)) &&& 255), ((a5 >>> (16 &&& 31)) &&& 255)] ++ List.replicate 382 0)))).set 231 (.inr (11, [.int 0, .int 0, .ref 232, .ref 233, .ref 234, .ref 235, .int 0, .ref 236, .int 18, .int 0, .int 0, .int 0, .long 0, .int (-1), .int 0, .int 0, .ref 237, .int 0, .ref 238, .ref 239, .int 0, .ref 240, .ref 241, .int 0, .int 0, .ref 242, .ref 243, .int 0, .ref 244, .ref 245, .int 0, .long 0, .long 0, .ref 246, .ref 247, .ref 248, .int 0, .ref 249, .ref 250, .ref 251, .ref 252, .ref 253, .ref 254, .ref 255, .ref 256, .int 0, .int 0, .int 0, .long 0, .ref 257, .ref 258, .int 0]))).set 236 (.inl (0, .inl ([((a1 >>> (24 &&& 31)) &&& 255), ((a1 >>> (16 &&& 31)) &&& 255), ((a1 >>> (8 &&& 31)) &&& 255), (a1 &&& 255), ((a2 >>> (24 &&& 31)) &&& 255), ((a2 >>> (16 &&& 31)) &&& 255), ((a2 >>> (8 &&& 31)) &&& 255), (a2 &&& 255), ((a3 >>> (24 &&& 31)) &&& 255), ((a3 >>> (16 &&& 31)) &&& 255), ((a3 >>> (8 &&& 31)) &&& 255), (a3 &&& 255), ((a4 >>> (24 &&& 31)) &&& 255), ((a4 >>> (16 &&& 31)) &&& 255), ((a4 >>> (8 &&& 31)) &&& 255), (a4 &&& 255), ((a5 >>> (24 &&& 31)) &&& 255), ((a5 >>> (16 &&& 31)) &&& 255), ((a5 >>> (8 &&& 31)) &&& 255)] ++ List.replicate 381 0)))).set 231 (.inr (11, [.int 0, .int 0, .ref 232, .ref 233, .ref 234, .ref 235, .int 0, .ref 236, .int 19, .int 0, .int 0, .int 0, .long 0, .int (-1), .int 0, .int 0, .ref 237, .int 0, .ref 238, .ref 239, .int 0, .ref 240, .ref 241, .int 0, .int 0, .ref 242, .ref 243, .int 0, .ref 244, .ref 245, .int 0, .long 0, .long 0, .ref 246, .ref 247, .ref 248, .int 0, .ref 249, .ref 250, .ref 251, .ref 252, .ref 253, .ref 254, .ref 255, .ref 256, .int 0, .int 0, .int 0, .long 0, .ref 257, .ref 258, .int 0]))).set 236 (.inl (0, .inl ([((a1 >>> (24 &&& 31)) &&& 255), ((a1 >>> (16 &&& 31)) &&& 255), ((a1 >>> (8 &&& 31)) &&& 255), (a1 &&& 255), ((a2 >>> (24 &&& 31)) &&& 255), ((a2 >>> (16 &&& 31)) &&& 255), ((a2 >>> (8 &&& 31)) &&& 255), (a2 &&& 255), ((a3 >>> (24 &&& 31)) &&& 255), ((a3 >>> (16 &&& 31)) &&& 255), ((a3 >>> (8 &&& 31)) &&& 255), (a3 &&& 255), ((a4 >>> (24 &&& 31)) &&& 255), ((a4 >>> (16 &&& 31)) &&& 255), ((a4 >>> (8 &&& 31)) &&& 255), (a4 &&& 255), ((a5 >>> (24 &&& 31)) &&& 255), ((a5 >>> (16 &&& 31)) &&& 255), ((a5 >>> (8 &&& 31)) &&& 255), (a5 &&& 255)] ++ List.replicate 380 0)))).set 231 (.inr (11, [.int 0, .int 0, .ref 232, .ref 233, .ref 234, .ref 235, .int 0, .ref 236, .int 20, .int 0, .int 0, .int 0, .long 0, .int (-1), .int 0, .int 0, .ref 237, .int 0, .ref 238, .ref 239, .int 0, .ref 240, .ref 241, .int 0, .int 0, .ref 242, .ref 243, .int 0, .ref 244, .ref 245, .int 0, .long 0, .long 0, .ref 246, .ref 247, .ref 248, .int 0, .ref 249, .ref 250, .ref 251, .ref 252, .ref 253, .ref 254, .ref 255, .ref 256, .int 0, .int 0, .int 0, .long 0, .ref 257, .ref 258, .int 0])), n) 47 rfl [.ref 231, .int a5] [] (Nat.le_of_ble_eq_true rfl) rfl ?_ (fun _ => ?_)
  · refine Ev.mk rfl rfl ⟨Nat.le_of_ble_eq_true rfl, Or.inr (en_rcI (en_gs_eq (en_gs_ne (by decide) (en_gs_eq (en_gs_ne (by decide) (en_gs_eq (en_gs_ne (by decide) (en_gs_eq (en_gs_ne (by decide) (en_gs_eq (en_gs_ne (by decide) (en_gs_eq (en_gs_ne (by decide) (en_gs_eq (en_gs_ne (by decide) (en_gs_eq (en_gs_ne (by decide) (en_gs_eq (en_gs_ne (by decide) (en_gs_eq (en_gs_ne (by decide) (en_gs_eq (en_gs_ne (by decide) (en_gs_eq (en_gs_ne (by decide) (en_gs_eq (en_gs_ne (by decide) (en_gs_eq (en_gs_ne (by decide) (en_gs_eq (en_gs_ne (by decide) (en_gs_eq (en_gs_ne (by decide) (en_gs_eq (hm_231 _)))))))))))))))))))))))))))))))))) rfl)⟩ ?_
    show At _ none _ _ (0, [(0, .ref 231), (1, .int a5)], [], ((((((((((((((((((((((((((((((((((en_pre a 231 hp_M).set 231 (.inr (11, [.int 0, .int 0, .ref 232, .ref 233, .ref 234, .ref 235, .int 0, .ref 236, .int 0, .int 0, .int 0, .int 0, .long 0, .int (-1), .int 0, .int 0, .ref 237, .int 0, .ref 238, .ref 239, .int 0, .ref 240, .ref 241, .int 0, .int 0, .ref 242, .ref 243, .int 0, .ref 244, .ref 245, .int 0, .long 0, .long 0, .ref 246, .ref 247, .ref 248, .int 0, .ref 249, .ref 250, .ref 251, .ref 252, .ref 253, .ref 254, .ref 255, .ref 256, .int 0, .int 0, .int 0, .long 0, .ref 257, .ref 258, .int 0]))).set 236 (.inl (0, .inl ([((a1 >>> (24 &&& 31)) &&& 255)] ++ List.replicate 399 0)))).set 231 (.inr (11, [.int 0, .int 0, .ref 232, .ref 233, .ref 234, .ref 235, .int 0, .ref 236, .int 1, .int 0, .int 0, .int 0, .long 0, .int (-1), .int 0, .int 0, .ref 237, .int 0, .ref 238, .ref 239, .int 0, .ref 240, .ref 241, .int 0, .int 0, .ref 242, .ref 243, .int 0, .ref 244, .ref 245, .int 0, .long 0, .long 0, .ref 246, .ref 247, .ref 248, .int 0, .ref 249, .ref 250, .ref 251, .ref 252, .ref 253, .ref 254, .ref 255, .ref 256, .int 0, .int 0, .int 0, .long 0, .ref 257, .ref 258, .int 0]))).set 236 (.inl (0, .inl ([((a1 >>> (24 &&& 31)) &&& 255), ((a1 >>> (16 &&& 31)) &&& 255)] ++ List.replicate 398 0)))).set 231 (.inr (11, [.int 0, .int 0, .ref 232, .ref 233, .ref 234, .ref 235, .int 0, .ref 236, .int 2, .int 0, .int 0, .int 0, .long 0, .int (-1), .int 0, .int 0, .ref 237, .int 0, .ref 238, .ref 239, .int 0, .ref 240, .ref 241, .int 0, .int 0, .ref 242, .ref 243, .int 0, .ref 244, .ref 245, .int 0, .long 0, .long 0, .ref 246, .ref 247, .ref 248, .int 0, .ref 249, .ref 250, .ref 251, .ref 252, .ref 253, .ref 254, .ref 255, .ref 256, .int 0, .int 0, .int 0, .long 0, .ref 257, .ref 258, .int 0]))).set 236 (.inl (0, .inl ([((a1 >>> (24 &&& 31)) &&& 255), ((a1 >>> (16 &&& 31)) &&& 255), ((a1 >>> (8 &&& 31)) &&& 255)] ++ List.replicate 397 0)))).set 231 (.inr (11, [.int 0, .int 0, .ref 232, .ref 233, .ref 234, .ref 235, .int 0, .ref 236, .int 3, .int 0, .int 0, .int 0, .long 0, .int (-1), .int 0, .int 0, .ref 237, .int 0, .ref 238, .ref 239, .int 0, .ref 240, .ref 241, .int 0, .int 0, .ref 242, .ref 243, .int 0, .ref 244, .ref 245, .int 0, .long 0, .long 0, .ref 246, .ref 247, .ref 248, .int 0, .ref 249, .ref 250, .ref 251, .ref 252, .ref 253, .ref 254, .ref 255, .ref 256, .int 0, .int 0, .int 0, .long 0, .ref 257, .ref 258, .int 0]))).set 236 (.inl (0, .inl ([((a1 >>> (24 &&& 31)) &&& 255), ((a1 >>> (16 &&& 31)) &&& 255), ((a1 >>> (8 &&& 31)) &&& 255), (a1 &&& 255)] ++ List.replicate 396 0)))).set 231 (.inr (11, [.int 0, .int 0, .ref 232, .ref 233, .ref 234, .ref 235, .int 0, .ref 236, .int 4, .int 0, .int 0, .int 0, .long 0, .int (-1), .int 0, .int 0, .ref 237, .int 0, .ref 238, .ref 239, .int 0, .ref 240, .ref 241, .int 0, .int 0, .ref 242, .ref 243, .int 0, .ref 244, .ref 245, .int 0, .long 0, .long 0, .ref 246, .ref 247, .ref 248, .int 0, .ref 249, .ref 250, .ref 251, .ref 252, .ref 253, .ref 254, .ref 255, .ref 256, .int 0, .int 0, .int 0, .long 0, .ref 257, .ref 258, .int 0]))).set 236 (.inl (0, .inl ([((a1 >>> (24 &&& 31)) &&& 255), ((a1 >>> (16 &&& 31)) &&& 255), ((a1 >>> (8 &&& 31)) &&& 255), (a1 &&& 255), ((a2 >>> (24 &&& 31)) &&& 255)] ++ List.replicate 395 0)))).set 231 (.inr (11, [.int 0, .int 0, .ref 232, .ref 233, .ref 234, .ref 235, .int 0, .ref 236, .int 5, .int 0, .int 0, .int 0, .long 0, .int (-1), .int 0, .int 0, .ref 237, .int 0, .ref 238, .ref 239, .int 0, .ref 240, .ref 241, .int 0, .int 0, .ref 242, .ref 243, .int 0, .ref 244, .ref 245, .int 0, .long 0, .long 0, .ref 246, .ref 247, .ref 248, .int 0, .ref 249, .ref 250, .ref 251, .ref 252, .ref 253, .ref 254, .ref 255, .ref 256, .int 0, .int 0, .int 0, .long 0, .ref 257, .ref 258, .int 0]))).set 236 (.inl (0, .inl ([((a1 >>> (24 &&& 31)) &&& 255), ((a1 >>> (16 &&& 31)) &&& 255), ((a1 >>> (8 &&& 31)) &&& 255), (a1 &&& 255), ((a2 >>> (24 &&& 31)) &&& 255), ((a2 >>> (16 &&& 31)) &&& 255)] ++ List.replicate 394 0)))).set 231 (.inr (11, [.int 0, .int 0, .ref 232, .ref 233, .ref 234, .ref 235, .int 0, .ref 236, .int 6, .int 0, .int 0, .int 0, .long 0, .int (-1), .int 0, .int 0, .ref 237, .int 0, .ref 238, .ref 239, .int 0, .ref 240, .ref 241, .int 0, .int 0, .ref 242, .ref 243, .int 0, .ref 244, .ref 245, .int 0, .long 0, .long 0, .ref 246, .ref 247, .ref 248, .int 0, .ref 249, .ref 250, .ref 251, .ref 252, .ref 253, .ref 254, .ref 255, .ref 256, .int 0, .int 0, .int 0, .long 0, .ref 257, .ref 258, .int 0]))).set 236 (.inl (0, .inl ([((a1 >>> (24 &&& 31)) &&& 255), ((a1 >>> (16 &&& 31)) &&& 255), ((a1 >>> (8 &&& 31)) &&& 255), (a1 &&& 255), ((a2 >>> (24 &&& 31)) &&& 255), ((a2 >>> (16 &&& 31)) &&& 255), ((a2 >>> (8 &&& 31)) &&& 255)] ++ List.replicate 393 0)))).set 231 (.inr (11, [.int 0, .int 0, .ref 232, .ref 233, .ref 234, .ref 235, .int 0, .ref 236, .int 7, .int 0, .int 0, .int 0, .long 0, .int (-1), .int 0, .int 0, .ref 237, .int 0, .ref 238, .ref 239, .int 0, .ref 240, .ref 241, .int 0, .int 0, .ref 242, .ref 243, .int 0, .ref 244, .ref 245, .int 0, .long 0, .long 0, .ref 246, .ref 247, .ref 248, .int 0, .ref 249, .ref 250, .ref 251, .ref 252, .ref 253, .ref 254, .ref 255, .ref 256, .int 0, .int 0, .int 0, .long 0, .ref 257, .ref 258, .int 0]))).set 236 (.inl (0, .inl ([((a1 >>> (24 &&& 31)) &&& 255), ((a1 >>> (16 &&& 31)) &&& 255), ((a1 >>> (8 &&& 31)) &&& 255), (a1 &&& 255), ((a2 >>> (24 &&& 31)) &&& 255), ((a2 >>> (16 &&& 31)) &&& 255), ((a2 >>> (8 &&& 31)) &&& 255), (a2 &&& 255)] ++ List.replicate 392 0)))).set 231 (.inr (11, [.int 0, .int 0, .ref 232, .ref 233, .ref 234, .ref 235, .int 0, .ref 236, .int 8, .int 0, .int 0, .int 0, .long 0, .int (-1), .int 0, .int 0, .ref 237, .int 0, .ref 238, .ref 239, .int 0, .ref 240, .ref 241, .int 0, .int 0, .ref 242, .ref 243, .int 0, .ref 244, .ref 245, .int 0, .long 0, .long 0, .ref 246, .ref 247, .ref 248, .int 0, .ref 249, .ref 250, .ref 251, .ref 252, .ref 253, .ref 254, .ref 255, .ref 256, .int 0, .int 0, .int 0, .long 0, .ref 257, .ref 258, .int 0]))).set 236 (.inl (0, .inl ([((a1 >>> (24 &&& 31)) &&& 255), ((a1 >>> (16 &&& 31)) &&& 255), ((a1 >>> (8 &&& 31)) &&& 255), (a1 &&& 255), ((a2 >>> (24 &&& 31)) &&& 255), ((a2 >>> (16 &&& 31)) &&& 255), ((a2 >>> (8 &&& 31)) &&& 255), (a2 &&& 255), ((a3 >>> (24 &&& 31)) &&& 255)] ++ List.replicate 391 0)))).set 231 (.inr (11, [.int 0, .int 0, .ref 232, .ref 233, .ref 234, .ref 235, .int 0, .ref 236, .int 9, .int 0, .int 0, .int 0, .long 0, .int (-1), .int 0, .int 0, .ref 237, .int 0, .ref 238, .ref 239, .int 0, .ref 240, .ref 241, .int 0, .int 0, .ref 242, .ref 243, .int 0, .ref 244, .ref 245, .int 0, .long 0, .long 0, .ref 246, .ref 247, .ref 248, .int 0, .ref 249, .ref 250, .ref 251, .ref 252, .ref 253, .ref 254, .ref 255, .ref 256, .int 0, .int 0, .int 0, .long 0, .ref 257, .ref 258, .int 0]))).set 236 (.inl (0, .inl ([((a1 >>> (24 &&& 31)) &&& 255), ((a1 >>> (16 &&& 31)) &&& 255), ((a1 >>> (8 &&& 31)) &&& 255), (a1 &&& 255), ((a2 >>> (24 &&& 31)) &&& 255), ((a2 >>> (16 &&& 31)) &&& 255), ((a2 >>> (8 &&& 31)) &&& 255), (a2 &&& 255), ((a3 >>> (24 &&& 31)) &&& 255), ((a3 >>> (16 &&& 31)) &&& 255)] ++ List.replicate 390 0)))).set 231 (.inr (11, [.int 0, .int 0, .ref 232, .ref 233, .ref 234, .ref 235, .int 0, .ref 236, .int 10, .int 0, .int 0, .int 0, .long 0, .int (-1), .int 0, .int 0, .ref 237, .int 0, .ref 238, .ref 239, .int 0, .ref 240, .ref 241, .int 0, .int 0, .ref 242, .ref 243, .int 0, .ref 244, .ref 245, .int 0, .long 0, .long 0, .ref 246, .ref 247, .ref 248, .int 0, .ref 249, .ref 250, .ref 251, .ref 252, .ref 253, .ref 254, .ref 255, .ref 256, .int 0, .int 0, .int 0, .long 0, .ref 257, .ref 258, .int 0]))).set 236 (.inl (0, .inl ([((a1 >>> (24 &&& 31)) &&& 255), ((a1 >>> (16 &&& 31)) &&& 255), ((a1 >>> (8 &&& 31)) &&& 255), (a1 &&& 255), ((a2 >>> (24 &&& 31)) &&& 255), ((a2 >>> (16 &&& 31)) &&& 255), ((a2 >>> (8 &&& 31)) &&& 255), (a2 &&& 255), ((a3 >>> (24 &&& 31)) &&& 255), ((a3 >>> (16 &&& 31)) &&& 255), ((a3 >>> (8 &&& 31)) &&& 255)] ++ List.replicate 389 0)))).set 231 (.inr (11, [.int 0, .int 0, .ref 232, .ref 233, .ref 234, .ref 235, .int 0, .ref 236, .int 11, .int 0, .int 0, .int 0, .long 0, .int (-1), .int 0, .int 0, .ref 237, .int 0, .ref 238, .ref 239, .int 0, .ref 240, .ref 241, .int 0, .int 0, .ref 242, .ref 243, .int 0, .ref 244, .ref 245, .int 0, .long 0, .long 0, .ref 246, .ref 247, .ref 248, .int 0, .ref 249, .ref 250, .ref 251, .ref 252, .ref 253, .ref 254, .ref 255, .ref 256, .int 0, .int 0, .int 0, .long 0, .ref 257, .ref 258, .int 0]))).set 236 (.inl (0, .inl ([((a1 >>> (24 &&& 31)) &&& 255), ((a1 >>> (16 &&& 31)) &&& 255), ((a1 >>> (8 &&& 31)) &&& 255), (a1 &&& 255), ((a2 >>> (24 &&& 31)) &&& 255), ((a2 >>> (16 &&& 31)) &&& 255), ((a2 >>> (8 &&& 31)) &&& 255), (a2 &&& 255), ((a3 >>> (24 &&& 31)) &&& 255), ((a3 >>> (16 &&& 31)) &&& 255), ((a3 >>> (8 &&& 31)) &&& 255), (a3 &&& 255)] ++ List.replicate 388 0)))).set 231 (.inr (11, [.int 0, .int 0, .ref 232, .ref 233, .ref 234, .ref 235, .int 0, .ref 236, .int 12, .int 0, .int 0, .int 0, .long 0, .int (-1), .int 0, .int 0, .ref 237, .int 0, .ref 238, .ref 239, .int 0, .ref 240, .ref 241, .int 0, .int 0, .ref 242, .ref 243, .int 0, .ref 244, .ref 245, .int 0, .long 0, .long 0, .ref 246, .ref 247, .ref 248, .int 0, .ref 249, .ref 250, .ref 251, .ref 252, .ref 253, .ref 254, .ref 255, .ref 256, .int 0, .int 0, .int 0, .long 0, .ref 257, .ref 258, .int 0]))).set 236 (.inl (0, .inl ([((a1 >>> (24 &&& 31)) &&& 255), ((a1 >>> (16 &&& 31)) &&& 255), ((a1 >>> (8 &&& 31)) &&& 255), (a1 &&& 255), ((a2 >>> (24 &&& 31)) &&& 255), ((a2 >>> (16 &&& 31)) &&& 255), ((a2 >>> (8 &&& 31)) &&& 255), (a2 &&& 255), ((a3 >>> (24 &&& 31)) &&& 255), ((a3 >>> (16 &&& 31)) &&& 255), ((a3 >>> (8 &&& 31)) &&& 255), (a3 &&& 255), ((a4 >>> (24 &&& 31)) &&& 255)] ++ List.replicate 387 0)))).set 231 (.inr (11, [.int 0, .int 0, .ref 232, .ref 233, .ref 234, .ref 235, .int 0, .ref 236, .int 13, .int 0, .int 0, .int 0, .long 0, .int (-1), .int 0, .int 0, .ref 237, .int 0, .ref 238, .ref 239, .int 0, .ref 240, .ref 241, .int 0, .int 0, .ref 242, .ref 243, .int 0, .ref 244, .ref 245, .int 0, .long 0, .long 0, .ref 246, .ref 247, .ref 248, .int 0, .ref 249, .ref 250, .ref 251, .ref 252, .ref 253, .ref 254, .ref 255, .ref 256, .int 0, .int 0, .int 0, .long 0, .ref 257, .ref 258, .int 0]))).set 236 (.inl (0, .inl ([((a1 >>> (24 &&& 31)) &&& 255), ((a1 >>> (16 &&& 31)) &&& 255), ((a1 >>> (8 &&& 31)) &&& 255), (a1 &&& 255), ((a2 >>> (24 &&& 31)) &&& 255), ((a2 >>> (16 &&& 31)) &&& 255), ((a2 >>> (8 &&& 31)) &&& 255), (a2 &&& 255), ((a3 >>> (24 &&& 31)) &&& 255), ((a3 >>> (16 &&& 31)) &&& 255), ((a3 >>> (8 &&& 31)) &&& 255), (a3 &&& 255), ((a4 >>> (24 &&& 31)) &&& 255), ((a4 >>> (16 &&& 31)) &&& 255)] ++ List.replicate 386 0)))).set 231 (.inr (11, [.int 0, .int 0, .ref 232, .ref 233, .ref 234, .ref 235, .int 0, .ref 236, .int 14, .int 0, .int 0, .int 0, .long 0, .int (-1), .int 0, .int 0, .ref 237, .int 0, .ref 238, .ref 239, .int 0, .ref 240, .ref 241, .int 0, .int 0, .ref 242, .ref 243, .int 0, .ref 244, .ref 245, .int 0, .long 0, .long 0, .ref 246, .ref 247, .ref 248, .int 0, .ref 249, .ref 250, .ref 251, .ref 252, .ref 253, .ref 254, .ref 255, .ref 256, .int 0, .int 0, .int 0, .long 0, .ref 257, .ref 258, .int 0]))).set 236 (.inl (0, .inl ([((a1 >>> (24 &&& 31)) &&& 255), ((a1 >>> (16 &&& 31)) &&& 255), ((a1 >>> (8 &&& 31)) &&& 255), (a1 &&& 255), ((a2 >>> (24 &&& 31)) &&& 255), ((a2 >>> (16 &&& 31)) &&& 255), ((a2 >>> (8 &&& 31)) &&& 255), (a2 &&& 255), ((a3 >>> (24 &&& 31)) &&& 255), ((a3 >>> (16 &&& 31)) &&& 255), ((a3 >>> (8 &&& 31)) &&& 255), (a3 &&& 255), ((a4 >>> (24 &&& 31)) &&& 255), ((a4 >>> (16 &&& 31)) &&& 255), ((a4 >>> (8 &&& 31)) &&& 255)] ++ List.replicate 385 0)))).set 231 (.inr (11, [.int 0, .int 0, .ref 232, .ref 233, .ref 234, .ref 235, .int 0, .ref 236, .int 15, .int 0, .int 0, .int 0, .long 0, .int (-1), .int 0, .int 0, .ref 237, .int 0, .ref 238, .ref 239, .int 0, .ref 240, .ref 241, .int 0, .int 0, .ref 242, .ref 243, .int 0, .ref 244, .ref 245, .int 0, .long 0, .long 0, .ref 246, .ref 247, .ref 248, .int 0, .ref 249, .ref 250, .ref 251, .ref 252, .ref 253, .ref 254, .ref 255, .ref 256, .int 0, .int 0, .int 0, .long 0, .ref 257, .ref 258, .int 0]))).set 236 (.inl (0, .inl ([((a1 >>> (24 &&& 31)) &&& 255), ((a1 >>> (16 &&& 31)) &&& 255), ((a1 >>> (8 &&& 31)) &&& 255), (a1 &&& 255), ((a2 >>> (24 &&& 31)) &&& 255), ((a2 >>> (16 &&& 31)) &&& 255), ((a2 >>> (8 &&& 31)) &&& 255), (a2 &&& 255), ((a3 >>> (24 &&& 31)) &&& 255), ((a3 >>> (16 &&& 31)) &&& 255), ((a3 >>> (8 &&& 31)) &&& 255), (a3 &&& 255), ((a4 >>> (24 &&& 31)) &&& 255), ((a4 >>> (16 &&& 31)) &&& 255), ((a4 >>> (8 &&& 31)) &&& 255), (a4 &&& 255)] ++ List.replicate 384 0)))).set 231 (.inr (11, [.int 0, .int 0, .ref 232, .ref 233, .ref 234, .ref 235, .int 0, .ref 236, .int 16, .int 0, .int 0, .int 0, .long 0, .int (-1), .int 0, .int 0, .ref 237, .int 0, .ref 238, .ref 239, .int 0, .ref 240, .ref 241, .int 0, .int 0, .ref 242, .ref 243, .int 0, .ref 244, .ref 245, .int 0, .long 0, .long 0, .ref 246, .ref 247, .ref 248, .int 0, .ref 249, .ref 250, .ref 251, .ref 252, .ref 253, .ref 254, .ref 255, .ref 256, .int 0, .int 0, .int 0, .long 0, .ref 257, .ref 258, .int 0])), n)) _
    refine At.enter rfl ?_
    refine r_bipush 24 rfl ?_
    refine r_istore_n ([(2, .int 24), (0, .ref 231), (1, .int a5)]) rfl ?_
    refine Ar.fall 3 rfl ?_
    refine At.enter rfl ?_
    refine r_iload_n rfl ?_
    refine r_iff 7 rfl (by decide) ?_
    refine At.enter rfl ?_
    refine r_aload_n rfl ?_
    refine r_get (v := .ref 236) (en_gs_eq (en_gs_ne (by decide) (en_gs_eq (en_gs_ne (by decide) (en_gs_eq (en_gs_ne (by decide) (en_gs_eq (en_gs_ne (by decide) (en_gs_eq (en_gs_ne (by decide) (en_gs_eq (en_gs_ne (by decide) (en_gs_eq (en_gs_ne (by decide) (en_gs_eq (en_gs_ne (by decide) (en_gs_eq (en_gs_ne (by decide) (en_gs_eq (en_gs_ne (by decide) (en_gs_eq (en_gs_ne (by decide) (en_gs_eq (en_gs_ne (by decide) (en_gs_eq (en_gs_ne (by decide) (en_gs_eq (en_gs_ne (by decide) (en_gs_eq (en_gs_ne (by decide) (en_gs_eq (en_gs_ne (by decide) (en_gs_eq (hm_231 _)))))))))))))))))))))))))))))))))) rfl ?_
    refine r_aload_n rfl ?_
    refine r_get (v := .int 16) (en_gs_eq (en_gs_ne (by decide) (en_gs_eq (en_gs_ne (by decide) (en_gs_eq (en_gs_ne (by decide) (en_gs_eq (en_gs_ne (by decide) (en_gs_eq (en_gs_ne (by decide) (en_gs_eq (en_gs_ne (by decide) (en_gs_eq (en_gs_ne (by decide) (en_gs_eq (en_gs_ne (by decide) (en_gs_eq (en_gs_ne (by decide) (en_gs_eq (en_gs_ne (by decide) (en_gs_eq (en_gs_ne (by decide) (en_gs_eq (en_gs_ne (by decide) (en_gs_eq (en_gs_ne (by decide) (en_gs_eq (en_gs_ne (by decide) (en_gs_eq (en_gs_ne (by decide) (en_gs_eq (en_gs_ne (by decide) (en_gs_eq (hm_231 _)))))))))))))))))))))))))))))))))) rfl ?_
    refine r_iload_n rfl ?_
    refine r_iload_n rfl ?_
    refine r_ishr (a5 >>> (24 &&& 31)) rfl ?_
    refine r_sipush 255 rfl ?_
    refine r_iand ((a5 >>> (24 &&& 31)) &&& 255) rfl ?_
    refine r_iast (en_gs_ne (by decide) (en_gs_eq (en_gs_ne (by decide) (en_gs_eq (en_gs_ne (by decide) (en_gs_eq (en_gs_ne (by decide) (en_gs_eq (en_gs_ne (by decide) (en_gs_eq (en_gs_ne (by decide) (en_gs_eq (en_gs_ne (by decide) (en_gs_eq (en_gs_ne (by decide) (en_gs_eq (en_gs_ne (by decide) (en_gs_eq (en_gs_ne (by decide) (en_gs_eq (en_gs_ne (by decide) (en_gs_eq (en_gs_ne (by decide) (en_gs_eq (en_gs_ne (by decide) (en_gs_eq (en_gs_ne (by decide) (en_gs_eq (en_gs_ne (by decide) (en_gs_eq (en_gs_ne (by decide) (en_gs_eq (en_gs_ne (by decide) (hm_236 _)))))))))))))))))))))))))))))))))) (by decide) (Nat.le_of_ble_eq_true rfl) ([((a1 >>> (24 &&& 31)) &&& 255), ((a1 >>> (16 &&& 31)) &&& 255), ((a1 >>> (8 &&& 31)) &&& 255), (a1 &&& 255), ((a2 >>> (24 &&& 31)) &&& 255), ((a2 >>> (16 &&& 31)) &&& 255), ((a2 >>> (8 &&& 31)) &&& 255), (a2 &&& 255), ((a3 >>> (24 &&& 31)) &&& 255), ((a3 >>> (16 &&& 31)) &&& 255), ((a3 >>> (8 &&& 31)) &&& 255), (a3 &&& 255), ((a4 >>> (24 &&& 31)) &&& 255), ((a4 >>> (16 &&& 31)) &&& 255), ((a4 >>> (8 &&& 31)) &&& 255), (a4 &&& 255), ((a5 >>> (24 &&& 31)) &&& 255)] ++ List.replicate 383 0) rfl ?_
    refine r_aload_n rfl ?_
    refine r_dup rfl ?_
    refine r_get (v := .int 16) (en_gs_ne (by decide) (en_gs_eq (en_gs_ne (by decide) (en_gs_eq (en_gs_ne (by decide) (en_gs_eq (en_gs_ne (by decide) (en_gs_eq (en_gs_ne (by decide) (en_gs_eq (en_gs_ne (by decide) (en_gs_eq (en_gs_ne (by decide) (en_gs_eq (en_gs_ne (by decide) (en_gs_eq (en_gs_ne (by decide) (en_gs_eq (en_gs_ne (by decide) (en_gs_eq (en_gs_ne (by decide) (en_gs_eq (en_gs_ne (by decide) (en_gs_eq (en_gs_ne (by decide) (en_gs_eq (en_gs_ne (by decide) (en_gs_eq (en_gs_ne (by decide) (en_gs_eq (en_gs_ne (by decide) (en_gs_eq (en_gs_ne (by decide) (en_gs_eq (hm_231 _))))))))))))))))))))))))))))))))))) rfl ?_
    refine r_iconst 1 rfl ?_
    refine r_iadd 17 rfl ?_
    refine r_putf (en_gs_ne (by decide) (en_gs_eq (en_gs_ne (by decide) (en_gs_eq (en_gs_ne (by decide) (en_gs_eq (en_gs_ne (by decide) (en_gs_eq (en_gs_ne (by decide) (en_gs_eq (en_gs_ne (by decide) (en_gs_eq (en_gs_ne (by decide) (en_gs_eq (en_gs_ne (by decide) (en_gs_eq (en_gs_ne (by decide) (en_gs_eq (en_gs_ne (by decide) (en_gs_eq (en_gs_ne (by decide) (en_gs_eq (en_gs_ne (by decide) (en_gs_eq (en_gs_ne (by decide) (en_gs_eq (en_gs_ne (by decide) (en_gs_eq (en_gs_ne (by decide) (en_gs_eq (en_gs_ne (by decide) (en_gs_eq (en_gs_ne (by decide) (en_gs_eq (hm_231 _))))))))))))))))))))))))))))))))))) (Nat.le_of_ble_eq_true rfl) rfl [.int 0, .int 0, .ref 232, .ref 233, .ref 234, .ref 235, .int 0, .ref 236, .int 17, .int 0, .int 0, .int 0, .long 0, .int (-1), .int 0, .int 0, .ref 237, .int 0, .ref 238, .ref 239, .int 0, .ref 240, .ref 241, .int 0, .int 0, .ref 242, .ref 243, .int 0, .ref 244, .ref 245, .int 0, .long 0, .long 0, .ref 246, .ref 247, .ref 248, .int 0, .ref 249, .ref 250, .ref 251, .ref 252, .ref 253, .ref 254, .ref 255, .ref 256, .int 0, .int 0, .int 0, .long 0, .ref 257, .ref 258, .int 0] rfl ?_
    refine r_iinc rfl 16 rfl ([(2, .int 16), (0, .ref 231), (1, .int a5)]) rfl ?_
    refine r_goto ?_
    refine At.enter rfl ?_
    refine r_iload_n rfl ?_
    refine r_iff 7 rfl (by decide) ?_
    refine At.enter rfl ?_
    refine r_aload_n rfl ?_
    refine r_get (v := .ref 236) (en_gs_eq (en_gs_ne (by decide) (en_gs_eq (en_gs_ne (by decide) (en_gs_eq (en_gs_ne (by decide) (en_gs_eq (en_gs_ne (by decide) (en_gs_eq (en_gs_ne (by decide) (en_gs_eq (en_gs_ne (by decide) (en_gs_eq (en_gs_ne (by decide) (en_gs_eq (en_gs_ne (by decide) (en_gs_eq (en_gs_ne (by decide) (en_gs_eq (en_gs_ne (by decide) (en_gs_eq (en_gs_ne (by decide) (en_gs_eq (en_gs_ne (by decide) (en_gs_eq (en_gs_ne (by decide) (en_gs_eq (en_gs_ne (by decide) (en_gs_eq (en_gs_ne (by decide) (en_gs_eq (en_gs_ne (by decide) (en_gs_eq (en_gs_ne (by decide) (en_gs_eq (hm_231 _)))))))))))))))))))))))))))))))))))) rfl ?_
    refine r_aload_n rfl ?_
    refine r_get (v := .int 17) (en_gs_eq (en_gs_ne (by decide) (en_gs_eq (en_gs_ne (by decide) (en_gs_eq (en_gs_ne (by decide) (en_gs_eq (en_gs_ne (by decide) (en_gs_eq (en_gs_ne (by decide) (en_gs_eq (en_gs_ne (by decide) (en_gs_eq (en_gs_ne (by decide) (en_gs_eq (en_gs_ne (by decide) (en_gs_eq (en_gs_ne (by decide) (en_gs_eq (en_gs_ne (by decide) (en_gs_eq (en_gs_ne (by decide) (en_gs_eq (en_gs_ne (by decide) (en_gs_eq (en_gs_ne (by decide) (en_gs_eq (en_gs_ne (by decide) (en_gs_eq (en_gs_ne (by decide) (en_gs_eq (en_gs_ne (by decide) (en_gs_eq (en_gs_ne (by decide) (en_gs_eq (hm_231 _)))))))))))))))))))))))))))))))))))) rfl ?_
    refine r_iload_n rfl ?_
    refine r_iload_n rfl ?_
    refine r_ishr (a5 >>> (16 &&& 31)) rfl ?_
    refine r_sipush 255 rfl ?_
    refine r_iand ((a5 >>> (16 &&& 31)) &&& 255) rfl ?_
    refine r_iast (en_gs_ne (by decide) (en_gs_eq (en_gs_ne (by decide) (en_gs_eq (en_gs_ne (by decide) (en_gs_eq (en_gs_ne (by decide) (en_gs_eq (en_gs_ne (by decide) (en_gs_eq (en_gs_ne (by decide) (en_gs_eq (en_gs_ne (by decide) (en_gs_eq (en_gs_ne (by decide) (en_gs_eq (en_gs_ne (by decide) (en_gs_eq (en_gs_ne (by decide) (en_gs_eq (en_gs_ne (by decide) (en_gs_eq (en_gs_ne (by decide) (en_gs_eq (en_gs_ne (by decide) (en_gs_eq (en_gs_ne (by decide) (en_gs_eq (en_gs_ne (by decide) (en_gs_eq (en_gs_ne (by decide) (en_gs_eq (en_gs_ne (by decide) (en_gs_eq (en_gs_ne (by decide) (hm_236 _)))))))))))))))))))))))))))))))))))) (by decide) (Nat.le_of_ble_eq_true rfl) ([((a1 >>> (24 &&& 31)) &&& 255), ((a1 >>> (16 &&& 31)) &&& 255), ((a1 >>> (8 &&& 31)) &&& 255), (a1 &&& 255), ((a2 >>> (24 &&& 31)) &&& 255), ((a2 >>> (16 &&& 31)) &&& 255), ((a2 >>> (8 &&& 31)) &&& 255), (a2 &&& 255), ((a3 >>> (24 &&& 31)) &&& 255), ((a3 >>> (16 &&& 31)) &&& 255), ((a3 >>> (8 &&& 31)) &&& 255), (a3 &&& 255), ((a4 >>> (24 &&& 31)) &&& 255), ((a4 >>> (16 &&& 31)) &&& 255), ((a4 >>> (8 &&& 31)) &&& 255), (a4 &&& 255), ((a5 >>> (24 &&& 31)) &&& 255), ((a5 >>> (16 &&& 31)) &&& 255)] ++ List.replicate 382 0) rfl ?_
    refine r_aload_n rfl ?_
    refine r_dup rfl ?_
    refine r_get (v := .int 17) (en_gs_ne (by decide) (en_gs_eq (en_gs_ne (by decide) (en_gs_eq (en_gs_ne (by decide) (en_gs_eq (en_gs_ne (by decide) (en_gs_eq (en_gs_ne (by decide) (en_gs_eq (en_gs_ne (by decide) (en_gs_eq (en_gs_ne (by decide) (en_gs_eq (en_gs_ne (by decide) (en_gs_eq (en_gs_ne (by decide) (en_gs_eq (en_gs_ne (by decide) (en_gs_eq (en_gs_ne (by decide) (en_gs_eq (en_gs_ne (by decide) (en_gs_eq (en_gs_ne (by decide) (en_gs_eq (en_gs_ne (by decide) (en_gs_eq (en_gs_ne (by decide) (en_gs_eq (en_gs_ne (by decide) (en_gs_eq (en_gs_ne (by decide) (en_gs_eq (en_gs_ne (by decide) (en_gs_eq (hm_231 _))))))))))))))))))))))))))))))))))))) rfl ?_
    refine r_iconst 1 rfl ?_
    refine r_iadd 18 rfl ?_
    refine r_putf (en_gs_ne (by decide) (en_gs_eq (en_gs_ne (by decide) (en_gs_eq (en_gs_ne (by decide) (en_gs_eq (en_gs_ne (by decide) (en_gs_eq (en_gs_ne (by decide) (en_gs_eq (en_gs_ne (by decide) (en_gs_eq (en_gs_ne (by decide) (en_gs_eq (en_gs_ne (by decide) (en_gs_eq (en_gs_ne (by decide) (en_gs_eq (en_gs_ne (by decide) (en_gs_eq (en_gs_ne (by decide) (en_gs_eq (en_gs_ne (by decide) (en_gs_eq (en_gs_ne (by decide) (en_gs_eq (en_gs_ne (by decide) (en_gs_eq (en_gs_ne (by decide) (en_gs_eq (en_gs_ne (by decide) (en_gs_eq (en_gs_ne (by decide) (en_gs_eq (en_gs_ne (by decide) (en_gs_eq (hm_231 _))))))))))))))))))))))))))))))))))))) (Nat.le_of_ble_eq_true rfl) rfl [.int 0, .int 0, .ref 232, .ref 233, .ref 234, .ref 235, .int 0, .ref 236, .int 18, .int 0, .int 0, .int 0, .long 0, .int (-1), .int 0, .int 0, .ref 237, .int 0, .ref 238, .ref 239, .int 0, .ref 240, .ref 241, .int 0, .int 0, .ref 242, .ref 243, .int 0, .ref 244, .ref 245, .int 0, .long 0, .long 0, .ref 246, .ref 247, .ref 248, .int 0, .ref 249, .ref 250, .ref 251, .ref 252, .ref 253, .ref 254, .ref 255, .ref 256, .int 0, .int 0, .int 0, .long 0, .ref 257, .ref 258, .int 0] rfl ?_
    refine r_iinc rfl 8 rfl ([(2, .int 8), (0, .ref 231), (1, .int a5)]) rfl ?_
    refine r_goto ?_
    refine At.enter rfl ?_
    refine r_iload_n rfl ?_
    refine r_iff 7 rfl (by decide) ?_
    refine At.enter rfl ?_
    refine r_aload_n rfl ?_
    refine r_get (v := .ref 236) (en_gs_eq (en_gs_ne (by decide) (en_gs_eq (en_gs_ne (by decide) (en_gs_eq (en_gs_ne (by decide) (en_gs_eq (en_gs_ne (by decide) (en_gs_eq (en_gs_ne (by decide) (en_gs_eq (en_gs_ne (by decide) (en_gs_eq (en_gs_ne (by decide) (en_gs_eq (en_gs_ne (by decide) (en_gs_eq (en_gs_ne (by decide) (en_gs_eq (en_gs_ne (by decide) (en_gs_eq (en_gs_ne (by decide) (en_gs_eq (en_gs_ne (by decide) (en_gs_eq (en_gs_ne (by decide) (en_gs_eq (en_gs_ne (by decide) (en_gs_eq (en_gs_ne (by decide) (en_gs_eq (en_gs_ne (by decide) (en_gs_eq (en_gs_ne (by decide) (en_gs_eq (en_gs_ne (by decide) (en_gs_eq (hm_231 _)))))))))))))))))))))))))))))))))))))) rfl ?_
    refine r_aload_n rfl ?_
    refine r_get (v := .int 18) (en_gs_eq (en_gs_ne (by decide) (en_gs_eq (en_gs_ne (by decide) (en_gs_eq (en_gs_ne (by decide) (en_gs_eq (en_gs_ne (by decide) (en_gs_eq (en_gs_ne (by decide) (en_gs_eq (en_gs_ne (by decide) (en_gs_eq (en_gs_ne (by decide) (en_gs_eq (en_gs_ne (by decide) (en_gs_eq (en_gs_ne (by decide) (en_gs_eq (en_gs_ne (by decide) (en_gs_eq (en_gs_ne (by decide) (en_gs_eq (en_gs_ne (by decide) (en_gs_eq (en_gs_ne (by decide) (en_gs_eq (en_gs_ne (by decide) (en_gs_eq (en_gs_ne (by decide) (en_gs_eq (en_gs_ne (by decide) (en_gs_eq (en_gs_ne (by decide) (en_gs_eq (en_gs_ne (by decide) (en_gs_eq (hm_231 _)))))))))))))))))))))))))))))))))))))) rfl ?_
    refine r_iload_n rfl ?_
    refine r_iload_n rfl ?_
    refine r_ishr (a5 >>> (8 &&& 31)) rfl ?_
    refine r_sipush 255 rfl ?_
    refine r_iand ((a5 >>> (8 &&& 31)) &&& 255) rfl ?_
    refine r_iast (en_gs_ne (by decide) (en_gs_eq (en_gs_ne (by decide) (en_gs_eq (en_gs_ne (by decide) (en_gs_eq (en_gs_ne (by decide) (en_gs_eq (en_gs_ne (by decide) (en_gs_eq (en_gs_ne (by decide) (en_gs_eq (en_gs_ne (by decide) (en_gs_eq (en_gs_ne (by decide) (en_gs_eq (en_gs_ne (by decide) (en_gs_eq (en_gs_ne (by decide) (en_gs_eq (en_gs_ne (by decide) (en_gs_eq (en_gs_ne (by decide) (en_gs_eq (en_gs_ne (by decide) (en_gs_eq (en_gs_ne (by decide) (en_gs_eq (en_gs_ne (by decide) (en_gs_eq (en_gs_ne (by decide) (en_gs_eq (en_gs_ne (by decide) (en_gs_eq (en_gs_ne (by decide) (en_gs_eq (en_gs_ne (by decide) (hm_236 _)))))))))))))))))))))))))))))))))))))) (by decide) (Nat.le_of_ble_eq_true rfl) ([((a1 >>> (24 &&& 31)) &&& 255), ((a1 >>> (16 &&& 31)) &&& 255), ((a1 >>> (8 &&& 31)) &&& 255), (a1 &&& 255), ((a2 >>> (24 &&& 31)) &&& 255), ((a2 >>> (16 &&& 31)) &&& 255), ((a2 >>> (8 &&& 31)) &&& 255), (a2 &&& 255), ((a3 >>> (24 &&& 31)) &&& 255), ((a3 >>> (16 &&& 31)) &&& 255), ((a3 >>> (8 &&& 31)) &&& 255), (a3 &&& 255), ((a4 >>> (24 &&& 31)) &&& 255), ((a4 >>> (16 &&& 31)) &&& 255), ((a4 >>> (8 &&& 31)) &&& 255), (a4 &&& 255), ((a5 >>> (24 &&& 31)) &&& 255), ((a5 >>> (16 &&& 31)) &&& 255), ((a5 >>> (8 &&& 31)) &&& 255)] ++ List.replicate 381 0) rfl ?_
    refine r_aload_n rfl ?_
    refine r_dup rfl ?_
    refine r_get (v := .int 18) (en_gs_ne (by decide) (en_gs_eq (en_gs_ne (by decide) (en_gs_eq (en_gs_ne (by decide) (en_gs_eq (en_gs_ne (by decide) (en_gs_eq (en_gs_ne (by decide) (en_gs_eq (en_gs_ne (by decide) (en_gs_eq (en_gs_ne (by decide) (en_gs_eq (en_gs_ne (by decide) (en_gs_eq (en_gs_ne (by decide) (en_gs_eq (en_gs_ne (by decide) (en_gs_eq (en_gs_ne (by decide) (en_gs_eq (en_gs_ne (by decide) (en_gs_eq (en_gs_ne (by decide) (en_gs_eq (en_gs_ne (by decide) (en_gs_eq (en_gs_ne (by decide) (en_gs_eq (en_gs_ne (by decide) (en_gs_eq (en_gs_ne (by decide) (en_gs_eq (en_gs_ne (by decide) (en_gs_eq (en_gs_ne (by decide) (en_gs_eq (hm_231 _))))))))))))))))))))))))))))))))))))))) rfl ?_
    refine r_iconst 1 rfl ?_
    refine r_iadd 19 rfl ?_
    refine r_putf (en_gs_ne (by decide) (en_gs_eq (en_gs_ne (by decide) (en_gs_eq (en_gs_ne (by decide) (en_gs_eq (en_gs_ne (by decide) (en_gs_eq (en_gs_ne (by decide) (en_gs_eq (en_gs_ne (by decide) (en_gs_eq (en_gs_ne (by decide) (en_gs_eq (en_gs_ne (by decide) (en_gs_eq (en_gs_ne (by decide) (en_gs_eq (en_gs_ne (by decide) (en_gs_eq (en_gs_ne (by decide) (en_gs_eq (en_gs_ne (by decide) (en_gs_eq (en_gs_ne (by decide) (en_gs_eq (en_gs_ne (by decide) (en_gs_eq (en_gs_ne (by decide) (en_gs_eq (en_gs_ne (by decide) (en_gs_eq (en_gs_ne (by decide) (en_gs_eq (en_gs_ne (by decide) (en_gs_eq (en_gs_ne (by decide) (en_gs_eq (hm_231 _))))))))))))))))))))))))))))))))))))))) (Nat.le_of_ble_eq_true rfl) rfl [.int 0, .int 0, .ref 232, .ref 233, .ref 234, .ref 235, .int 0, .ref 236, .int 19, .int 0, .int 0, .int 0, .long 0, .int (-1), .int 0, .int 0, .ref 237, .int 0, .ref 238, .ref 239, .int 0, .ref 240, .ref 241, .int 0, .int 0, .ref 242, .ref 243, .int 0, .ref 244, .ref 245, .int 0, .long 0, .long 0, .ref 246, .ref 247, .ref 248, .int 0, .ref 249, .ref 250, .ref 251, .ref 252, .ref 253, .ref 254, .ref 255, .ref 256, .int 0, .int 0, .int 0, .long 0, .ref 257, .ref 258, .int 0] rfl ?_
    refine r_iinc rfl 0 rfl ([(2, .int 0), (0, .ref 231), (1, .int a5)]) rfl ?_
    refine r_goto ?_
    refine At.enter rfl ?_
    refine r_iload_n rfl ?_
    refine r_iff 7 rfl (by decide) ?_
    refine At.enter rfl ?_
    refine r_aload_n rfl ?_
    refine r_get (v := .ref 236) (en_gs_eq (en_gs_ne (by decide) (en_gs_eq (en_gs_ne (by decide) (en_gs_eq (en_gs_ne (by decide) (en_gs_eq (en_gs_ne (by decide) (en_gs_eq (en_gs_ne (by decide) (en_gs_eq (en_gs_ne (by decide) (en_gs_eq (en_gs_ne (by decide) (en_gs_eq (en_gs_ne (by decide) (en_gs_eq (en_gs_ne (by decide) (en_gs_eq (en_gs_ne (by decide) (en_gs_eq (en_gs_ne (by decide) (en_gs_eq (en_gs_ne (by decide) (en_gs_eq (en_gs_ne (by decide) (en_gs_eq (en_gs_ne (by decide) (en_gs_eq (en_gs_ne (by decide) (en_gs_eq (en_gs_ne (by decide) (en_gs_eq (en_gs_ne (by decide) (en_gs_eq (en_gs_ne (by decide) (en_gs_eq (en_gs_ne (by decide) (en_gs_eq (hm_231 _)))))))))))))))))))))))))))))))))))))))) rfl ?_
    refine r_aload_n rfl ?_
    refine r_get (v := .int 19) (en_gs_eq (en_gs_ne (by decide) (en_gs_eq (en_gs_ne (by decide) (en_gs_eq (en_gs_ne (by decide) (en_gs_eq (en_gs_ne (by decide) (en_gs_eq (en_gs_ne (by decide) (en_gs_eq (en_gs_ne (by decide) (en_gs_eq (en_gs_ne (by decide) (en_gs_eq (en_gs_ne (by decide) (en_gs_eq (en_gs_ne (by decide) (en_gs_eq (en_gs_ne (by decide) (en_gs_eq (en_gs_ne (by decide) (en_gs_eq (en_gs_ne (by decide) (en_gs_eq (en_gs_ne (by decide) (en_gs_eq (en_gs_ne (by decide) (en_gs_eq (en_gs_ne (by decide) (en_gs_eq (en_gs_ne (by decide) (en_gs_eq (en_gs_ne (by decide) (en_gs_eq (en_gs_ne (by decide) (en_gs_eq (en_gs_ne (by decide) (en_gs_eq (hm_231 _)))))))))))))))))))))))))))))))))))))))) rfl ?_
    refine r_iload_n rfl ?_
    refine r_iload_n rfl ?_
    refine r_ishr a5 (en_shr0 _) ?_
    refine r_sipush 255 rfl ?_
    refine r_iand (a5 &&& 255) rfl ?_
    refine r_iast (en_gs_ne (by decide) (en_gs_eq (en_gs_ne (by decide) (en_gs_eq (en_gs_ne (by decide) (en_gs_eq (en_gs_ne (by decide) (en_gs_eq (en_gs_ne (by decide) (en_gs_eq (en_gs_ne (by decide) (en_gs_eq (en_gs_ne (by decide) (en_gs_eq (en_gs_ne (by decide) (en_gs_eq (en_gs_ne (by decide) (en_gs_eq (en_gs_ne (by decide) (en_gs_eq (en_gs_ne (by decide) (en_gs_eq (en_gs_ne (by decide) (en_gs_eq (en_gs_ne (by decide) (en_gs_eq (en_gs_ne (by decide) (en_gs_eq (en_gs_ne (by decide) (en_gs_eq (en_gs_ne (by decide) (en_gs_eq (en_gs_ne (by decide) (en_gs_eq (en_gs_ne (by decide) (en_gs_eq (en_gs_ne (by decide) (en_gs_eq (en_gs_ne (by decide) (hm_236 _)))))))))))))))))))))))))))))))))))))))) (by decide) (Nat.le_of_ble_eq_true rfl) ([((a1 >>> (24 &&& 31)) &&& 255), ((a1 >>> (16 &&& 31)) &&& 255), ((a1 >>> (8 &&& 31)) &&& 255), (a1 &&& 255), ((a2 >>> (24 &&& 31)) &&& 255), ((a2 >>> (16 &&& 31)) &&& 255), ((a2 >>> (8 &&& 31)) &&& 255), (a2 &&& 255), ((a3 >>> (24 &&& 31)) &&& 255), ((a3 >>> (16 &&& 31)) &&& 255), ((a3 >>> (8 &&& 31)) &&& 255), (a3 &&& 255), ((a4 >>> (24 &&& 31)) &&& 255), ((a4 >>> (16 &&& 31)) &&& 255), ((a4 >>> (8 &&& 31)) &&& 255), (a4 &&& 255), ((a5 >>> (24 &&& 31)) &&& 255), ((a5 >>> (16 &&& 31)) &&& 255), ((a5 >>> (8 &&& 31)) &&& 255), (a5 &&& 255)] ++ List.replicate 380 0) rfl ?_
    refine r_aload_n rfl ?_
    refine r_dup rfl ?_
    refine r_get (v := .int 19) (en_gs_ne (by decide) (en_gs_eq (en_gs_ne (by decide) (en_gs_eq (en_gs_ne (by decide) (en_gs_eq (en_gs_ne (by decide) (en_gs_eq (en_gs_ne (by decide) (en_gs_eq (en_gs_ne (by decide) (en_gs_eq (en_gs_ne (by decide) (en_gs_eq (en_gs_ne (by decide) (en_gs_eq (en_gs_ne (by decide) (en_gs_eq (en_gs_ne (by decide) (en_gs_eq (en_gs_ne (by decide) (en_gs_eq (en_gs_ne (by decide) (en_gs_eq (en_gs_ne (by decide) (en_gs_eq (en_gs_ne (by decide) (en_gs_eq (en_gs_ne (by decide) (en_gs_eq (en_gs_ne (by decide) (en_gs_eq (en_gs_ne (by decide) (en_gs_eq (en_gs_ne (by decide) (en_gs_eq (en_gs_ne (by decide) (en_gs_eq (en_gs_ne (by decide) (en_gs_eq (hm_231 _))))))))))))))))))))))))))))))))))))))))) rfl ?_
    refine r_iconst 1 rfl ?_
    refine r_iadd 20 rfl ?_
    refine r_putf (en_gs_ne (by decide) (en_gs_eq (en_gs_ne (by decide) (en_gs_eq (en_gs_ne (by decide) (en_gs_eq (en_gs_ne (by decide) (en_gs_eq (en_gs_ne (by decide) (en_gs_eq (en_gs_ne (by decide) (en_gs_eq (en_gs_ne (by decide) (en_gs_eq (en_gs_ne (by decide) (en_gs_eq (en_gs_ne (by decide) (en_gs_eq (en_gs_ne (by decide) (en_gs_eq (en_gs_ne (by decide) (en_gs_eq (en_gs_ne (by decide) (en_gs_eq (en_gs_ne (by decide) (en_gs_eq (en_gs_ne (by decide) (en_gs_eq (en_gs_ne (by decide) (en_gs_eq (en_gs_ne (by decide) (en_gs_eq (en_gs_ne (by decide) (en_gs_eq (en_gs_ne (by decide) (en_gs_eq (en_gs_ne (by decide) (en_gs_eq (en_gs_ne (by decide) (en_gs_eq (hm_231 _))))))))))))))))))))))))))))))))))))))))) (Nat.le_of_ble_eq_true rfl) rfl [.int 0, .int 0, .ref 232, .ref 233, .ref 234, .ref 235, .int 0, .ref 236, .int 20, .int 0, .int 0, .int 0, .long 0, .int (-1), .int 0, .int 0, .ref 237, .int 0, .ref 238, .ref 239, .int 0, .ref 240, .ref 241, .int 0, .int 0, .ref 242, .ref 243, .int 0, .ref 244, .ref 245, .int 0, .long 0, .long 0, .ref 246, .ref 247, .ref 248, .int 0, .ref 249, .ref 250, .ref 251, .ref 252, .ref 253, .ref 254, .ref 255, .ref 256, .int 0, .int 0, .int 0, .long 0, .ref 257, .ref 258, .int 0] rfl ?_
    refine r_iinc rfl (-8) rfl ([(2, .int (-8)), (0, .ref 231), (1, .int a5)]) rfl ?_
    refine r_goto ?_
    refine At.enter rfl ?_
    refine r_iload_n rfl ?_
    refine r_ift (by decide) ?_
    refine At.enter rfl ?_
    refine r_vret ?_
    exact ⟨trivial, rfl, rfl⟩
  refine At.enter rfl ?_
  refine r_aload_n rfl ?_
  refine r_get (v := .int 20) (en_gs_eq (en_gs_ne (by decide) (en_gs_eq (en_gs_ne (by decide) (en_gs_eq (en_gs_ne (by decide) (en_gs_eq (en_gs_ne (by decide) (en_gs_eq (en_gs_ne (by decide) (en_gs_eq (en_gs_ne (by decide) (en_gs_eq (en_gs_ne (by decide) (en_gs_eq (en_gs_ne (by decide) (en_gs_eq (en_gs_ne (by decide) (en_gs_eq (en_gs_ne (by decide) (en_gs_eq (en_gs_ne (by decide) (en_gs_eq (en_gs_ne (by decide) (en_gs_eq (en_gs_ne (by decide) (en_gs_eq (en_gs_ne (by decide) (en_gs_eq (en_gs_ne (by decide) (en_gs_eq (en_gs_ne (by decide) (en_gs_eq (en_gs_ne (by decide) (en_gs_eq (en_gs_ne (by decide) (en_gs_eq (en_gs_ne (by decide) (en_gs_eq (en_gs_ne (by decide) (en_gs_eq (hm_231 _)))))))))))))))))))))))))))))))))))))))))) rfl ?_
  refine r_ireti ?_
  exact congrArg (fun z => some (Value.int z)) rfl
def sp_end (a1 : Int32) : Int32 := if a1.toInt = 0 then 0 else -1
set_option maxRecDepth 100000 in
set_option maxHeartbeats 4000000 in
theorem zx_X10_end (n : Nat) (a1 : Int32) : Ev 14 112 [.ref 0, .int a1] (hp_X ++ hp_M, n) (fun r h' => r = some (.int (sp_end a1)) ∧ IsX h'.1 ∧ h'.2 = n) := by
  refine Ev.mk rfl rfl ⟨Nat.le_of_ble_eq_true rfl, Or.inr (en_rcI hx_0 rfl)⟩ ?_
  show At _ none _ _ (0, [(0, .ref 0), (1, .int a1)], [], (hp_X ++ hp_M, n)) _
  refine At.enter rfl ?_
  refine r_iload_n rfl ?_
  refine r_iconst 0 rfl ?_
  refine r_aload_n rfl ?_
  refine r_get (v := .ref 174) hx_0 rfl ?_
  refine r_get (v := .int 0) hx_174 rfl ?_
  refine r_callS3s (((a1).toInt < (0))) (((a1).toInt ≥ (0)) ∧ ((a1).toInt > (0))) (((a1).toInt ≥ (0)) ∧ ((a1).toInt ≤ (0))) (.int 0) (.int 0) (.int 1) (hp_X ++ hp_M, n) (hp_X ++ hp_M, n) (hp_X ++ hp_M, n) 12 rfl [.int a1, .int 0, .int 0] [] (Nat.le_of_ble_eq_true rfl) rfl ?_ (fun c1_ => ?_) (fun ⟨c1_, c2_⟩ => ?_) (fun ⟨c1_, c2_⟩ => ?_)
  · refine Ev.mk rfl rfl ⟨Nat.le_of_ble_eq_true rfl, Or.inl rfl⟩ ?_
    show At _ none _ _ (0, [(0, .int a1), (1, .int 0), (2, .int 0)], [], (hp_X ++ hp_M, n)) _
    refine At.enter rfl ?_
    refine r_iload_n rfl ?_
    refine r_iload_n rfl ?_
    refine r_ics 5 rfl (fun c1 => ?_) (fun c1 => ?_)
    · have c1_ : (a1).toInt < (0) := (by have z := en_i_lt_t c1; (try simp only [Int32.toInt_toInt64] at z); exact z)
      refine At.enter rfl ?_
      refine r_iconst 0 rfl ?_
      refine Ar.fall 15 rfl ?_
      refine At.enter rfl ?_
      refine r_iretz (by decide) ?_
      exact Or.inl ⟨c1_, rfl, rfl⟩
    · have c1_ : (a1).toInt ≥ (0) := (by have z := en_i_lt_f c1; (try simp only [Int32.toInt_toInt64] at z); exact z)
      refine At.enter rfl ?_
      refine r_iload_n rfl ?_
      refine r_iload_n rfl ?_
      refine r_ics 10 rfl (fun c2 => ?_) (fun c2 => ?_)
      · have c2_ : (a1).toInt > (0) := (by have z := en_i_gt_t c2; (try simp only [Int32.toInt_toInt64] at z); exact z)
        refine At.enter rfl ?_
        refine r_iconst 0 rfl ?_
        refine Ar.fall 15 rfl ?_
        refine At.enter rfl ?_
        refine r_iretz (by decide) ?_
        exact Or.inr (Or.inl ⟨⟨c1_, c2_⟩, rfl, rfl⟩)
      · have c2_ : (a1).toInt ≤ (0) := (by have z := en_i_gt_f c2; (try simp only [Int32.toInt_toInt64] at z); exact z)
        refine At.enter rfl ?_
        refine r_iconst 1 rfl ?_
        refine r_goto ?_
        refine At.enter rfl ?_
        refine r_iretz (by decide) ?_
        exact Or.inr (Or.inr (⟨⟨c1_, c2_⟩, rfl, rfl⟩))
  · refine At.enter rfl ?_
    refine r_iff 15 rfl (by decide) ?_
    refine At.enter rfl ?_
    refine r_iconst (-1) rfl ?_
    refine r_ireti ?_
    exact ⟨congrArg (fun z => some (Value.int z)) (by unfold sp_end; (repeat' split) <;> first | rfl | omega), IsX.base, rfl⟩
  · refine At.enter rfl ?_
    refine r_iff 15 rfl (by decide) ?_
    refine At.enter rfl ?_
    refine r_iconst (-1) rfl ?_
    refine r_ireti ?_
    exact ⟨congrArg (fun z => some (Value.int z)) (by unfold sp_end; (repeat' split) <;> first | rfl | omega), IsX.base, rfl⟩
  · refine At.enter rfl ?_
    refine r_ift (by decide) ?_
    refine At.enter rfl ?_
    refine r_aload_n rfl ?_
    refine r_get (v := .ref 174) hx_0 rfl ?_
    refine r_iload_n rfl ?_
    refine r_putf hx_174 (Nat.le_of_ble_eq_true rfl) rfl [.ref 175, .int a1] rfl ?_
    refine r_iload_n rfl ?_
    refine r_ireti ?_
    exact ⟨congrArg (fun z => some (Value.int z)) (by unfold sp_end; (repeat' split) <;> first | rfl | omega), (IsX.set IsX.base (by decide)), rfl⟩
set_option maxRecDepth 100000 in
set_option maxHeartbeats 4000000 in
theorem zm_X11_end (a : Nat → en_E) (n : Nat) (a1 : Int32) : Ev 14 186 [.ref 231, .int a1] (en_pre a 231 hp_M, n) (fun r h' => r = some (.int (sp_end a1))) := by
  refine Ev.mk rfl rfl ⟨Nat.le_of_ble_eq_true rfl, Or.inr (en_rcI (hm_231 _) rfl)⟩ ?_
  show At _ none _ _ (0, [(0, .ref 231), (1, .int a1)], [], (en_pre a 231 hp_M, n)) _
  refine At.enter rfl ?_
  refine r_aload_n rfl ?_
  refine r_iconst 0 rfl ?_
  refine r_putf (hm_231 _) (Nat.le_of_ble_eq_true rfl) rfl [.int 0, .int 0, .ref 232, .ref 233, .ref 234, .ref 235, .int 0, .ref 236, .int 0, .int 0, .int 0, .int 0, .long 0, .int (-1), .int 0, .int 0, .ref 237, .int 0, .ref 238, .ref 239, .int 0, .ref 240, .ref 241, .int 0, .int 0, .ref 242, .ref 243, .int 0, .ref 244, .ref 245, .int 0, .long 0, .long 0, .ref 246, .ref 247, .ref 248, .int 0, .ref 249, .ref 250, .ref 251, .ref 252, .ref 253, .ref 254, .ref 255, .ref 256, .int 0, .int 0, .int 0, .long 0, .ref 257, .ref 258, .int 0] rfl ?_
  refine r_iload_n rfl ?_
  refine r_ifs 9 rfl (fun c1 => ?_) (fun c1 => ?_)
  · have c1_ : (a1).toInt < (0) := (by have z := en_k_lt_t c1; (try simp only [Int32.toInt_toInt64] at z); exact z)
    refine At.enter rfl ?_
    refine r_iconst (-1) rfl ?_
    refine r_ireti ?_
    exact congrArg (fun z => some (Value.int z)) (by unfold sp_end; (repeat' split) <;> first | rfl | omega)
  · have c1_ : (a1).toInt ≥ (0) := (by have z := en_k_lt_f c1; (try simp only [Int32.toInt_toInt64] at z); exact z)
    refine At.enter rfl ?_
    refine r_iload_n rfl ?_
    refine r_aload_n rfl ?_
    refine r_get (v := .int 0) (en_gs_eq (hm_231 _)) rfl ?_
    refine r_ics 17 rfl (fun c2 => ?_) (fun c2 => ?_)
    · have c2_ : (a1).toInt ≤ (0) := (by have z := en_i_le_t c2; (try simp only [Int32.toInt_toInt64] at z); exact z)
      refine At.enter rfl ?_
      refine r_aload_n rfl ?_
      refine r_iload_n rfl ?_
      refine r_putf (en_gs_eq (hm_231 _)) (Nat.le_of_ble_eq_true rfl) rfl [.int 0, .int 0, .ref 232, .ref 233, .ref 234, .ref 235, .int 0, .ref 236, .int a1, .int 0, .int 0, .int 0, .long 0, .int (-1), .int 0, .int 0, .ref 237, .int 0, .ref 238, .ref 239, .int 0, .ref 240, .ref 241, .int 0, .int 0, .ref 242, .ref 243, .int 0, .ref 244, .ref 245, .int 0, .long 0, .long 0, .ref 246, .ref 247, .ref 248, .int 0, .ref 249, .ref 250, .ref 251, .ref 252, .ref 253, .ref 254, .ref 255, .ref 256, .int 0, .int 0, .int 0, .long 0, .ref 257, .ref 258, .int 0] rfl ?_
      refine r_iload_n rfl ?_
      refine r_ireti ?_
      exact congrArg (fun z => some (Value.int z)) (by unfold sp_end; (repeat' split) <;> first | rfl | omega)
    · have c2_ : (a1).toInt > (0) := (by have z := en_i_le_f c2; (try simp only [Int32.toInt_toInt64] at z); exact z)
      refine At.enter rfl ?_
      refine r_iconst (-1) rfl ?_
      refine r_ireti ?_
      exact congrArg (fun z => some (Value.int z)) (by unfold sp_end; (repeat' split) <;> first | rfl | omega)
set_option maxRecDepth 100000 in
set_option maxHeartbeats 4000000 in
theorem zx_X10_row (n : Nat) : Ev 14 113 [.ref 0] (hp_X ++ hp_M, n) (fun r h' => r = some (.int (-6)) ∧ IsX h'.1 ∧ h'.2 = n) := by
  refine Ev.mk rfl rfl ⟨Nat.le_of_ble_eq_true rfl, Or.inr (en_rcI hx_0 rfl)⟩ ?_
  show At _ none _ _ (0, [(0, .ref 0)], [], (hp_X ++ hp_M, n)) _
  refine At.enter rfl ?_
  refine r_aload_n rfl ?_
  refine r_get (v := .ref 174) hx_0 rfl ?_
  refine r_get (v := .int 0) hx_174 rfl ?_
  refine r_istore_n ([(1, .int 0), (0, .ref 0)]) rfl ?_
  refine r_iload_n rfl ?_
  refine r_iff 12 rfl (by decide) ?_
  refine At.enter rfl ?_
  refine r_aload_n rfl ?_
  refine r_bipush (-6) rfl ?_
  refine r_callV1s (True) (.int (-6)) (((hp_X ++ hp_M).set 0 (.inr (10, [.ref 1, .ref 58, .ref 173, .ref 174, .ref 176, .ref 184, .ref 188, .ref 204, .ref 220, .ref 222, .ref 223, .ref 228, .ref 229, .ref 230, .int 0, .int 0, .int 0, .int (-6)]))).set 230 (.inl (0, .inl ([0, 0, 0, 0, 0, 0, 1]))), n) 18 rfl [.ref 0, .int (-6)] [] (Nat.le_of_ble_eq_true rfl) rfl ?_ (fun _ => ?_)
  · refine Ev.mk rfl rfl ⟨Nat.le_of_ble_eq_true rfl, Or.inr (en_rcI hx_0 rfl)⟩ ?_
    show At _ none _ _ (0, [(0, .ref 0), (1, .int (-6))], [], (hp_X ++ hp_M, n)) _
    refine At.enter rfl ?_
    refine r_aload_n rfl ?_
    refine r_iload_n rfl ?_
    refine r_putf hx_0 (Nat.le_of_ble_eq_true rfl) rfl [.ref 1, .ref 58, .ref 173, .ref 174, .ref 176, .ref 184, .ref 188, .ref 204, .ref 220, .ref 222, .ref 223, .ref 228, .ref 229, .ref 230, .int 0, .int 0, .int 0, .int (-6)] rfl ?_
    refine r_iload_n rfl ?_
    refine r_ineg 6 rfl ?_
    refine r_iconst 0 rfl ?_
    refine r_bipush 6 rfl ?_
    refine r_callS1s (True) (.int 1) ((hp_X ++ hp_M).set 0 (.inr (10, [.ref 1, .ref 58, .ref 173, .ref 174, .ref 176, .ref 184, .ref 188, .ref 204, .ref 220, .ref 222, .ref 223, .ref 228, .ref 229, .ref 230, .int 0, .int 0, .int 0, .int (-6)])), n) 13 rfl [.int 6, .int 0, .int 6] [] (Nat.le_of_ble_eq_true rfl) rfl ?_ (fun _ => ?_)
    · refine Ev.mk rfl rfl ⟨Nat.le_of_ble_eq_true rfl, Or.inl rfl⟩ ?_
      show At _ none _ _ (0, [(0, .int 6), (1, .int 0), (2, .int 6)], [], ((hp_X ++ hp_M).set 0 (.inr (10, [.ref 1, .ref 58, .ref 173, .ref 174, .ref 176, .ref 184, .ref 188, .ref 204, .ref 220, .ref 222, .ref 223, .ref 228, .ref 229, .ref 230, .int 0, .int 0, .int 0, .int (-6)])), n)) _
      refine At.enter rfl ?_
      refine r_iload_n rfl ?_
      refine r_iload_n rfl ?_
      refine r_icf 5 rfl (by decide) ?_
      refine At.enter rfl ?_
      refine r_iload_n rfl ?_
      refine r_iload_n rfl ?_
      refine r_icf 10 rfl (by decide) ?_
      refine At.enter rfl ?_
      refine r_iconst 1 rfl ?_
      refine r_goto ?_
      refine At.enter rfl ?_
      refine r_iretz (by decide) ?_
      exact ⟨trivial, rfl, rfl⟩
    refine At.enter rfl ?_
    refine r_iff 16 rfl (by decide) ?_
    refine At.enter rfl ?_
    refine r_aload_n rfl ?_
    refine r_get (v := .ref 230) (en_gs_eq hx_0) rfl ?_
    refine r_iload_n rfl ?_
    refine r_ineg 6 rfl ?_
    refine r_dup2 ⟨rfl, rfl⟩ ?_
    refine r_iald (v := 0) (en_gs_ne (by decide) hx_230) (by decide) rfl ?_
    refine r_iconst 1 rfl ?_
    refine r_iadd 1 rfl ?_
    refine r_iast (en_gs_ne (by decide) hx_230) (by decide) (Nat.le_of_ble_eq_true rfl) ([0, 0, 0, 0, 0, 0, 1]) rfl ?_
    refine Ar.fall 27 rfl ?_
    refine At.enter rfl ?_
    refine r_iload_n rfl ?_
    refine r_ireti ?_
    exact ⟨trivial, rfl, rfl⟩
  refine At.enter rfl ?_
  refine r_ireti ?_
  exact ⟨congrArg (fun z => some (Value.int z)) rfl, (IsX.set (IsX.set IsX.base (by decide)) (by decide)), rfl⟩
set_option maxRecDepth 100000 in
set_option maxHeartbeats 4000000 in
theorem zm_X11_row (a : Nat → en_E) (n : Nat) : Ev 14 182 [.ref 231] (en_pre a 231 hp_M, n) (fun r h' => r = some (.int (-6))) := by
  refine Ev.mk rfl rfl ⟨Nat.le_of_ble_eq_true rfl, Or.inr (en_rcI (hm_231 _) rfl)⟩ ?_
  show At _ none _ _ (0, [(0, .ref 231)], [], (en_pre a 231 hp_M, n)) _
  refine At.enter rfl ?_
  refine r_aload_n rfl ?_
  refine r_iconst 0 rfl ?_
  refine r_putf (hm_231 _) (Nat.le_of_ble_eq_true rfl) rfl [.int 0, .int 0, .ref 232, .ref 233, .ref 234, .ref 235, .int 0, .ref 236, .int 0, .int 0, .int 0, .int 0, .long 0, .int (-1), .int 0, .int 0, .ref 237, .int 0, .ref 238, .ref 239, .int 0, .ref 240, .ref 241, .int 0, .int 0, .ref 242, .ref 243, .int 0, .ref 244, .ref 245, .int 0, .long 0, .long 0, .ref 246, .ref 247, .ref 248, .int 0, .ref 249, .ref 250, .ref 251, .ref 252, .ref 253, .ref 254, .ref 255, .ref 256, .int 0, .int 0, .int 0, .long 0, .ref 257, .ref 258, .int 0] rfl ?_
  refine r_aload_n rfl ?_
  refine r_get (v := .int 0) (en_gs_eq (hm_231 _)) rfl ?_
  refine r_istore_n ([(1, .int 0), (0, .ref 231)]) rfl ?_
  refine r_aload_n rfl ?_
  refine r_iconst 0 rfl ?_
  refine r_putf (en_gs_eq (hm_231 _)) (Nat.le_of_ble_eq_true rfl) rfl [.int 0, .int 0, .ref 232, .ref 233, .ref 234, .ref 235, .int 0, .ref 236, .int 0, .int 0, .int 0, .int 0, .long 0, .int (-1), .int 0, .int 0, .ref 237, .int 0, .ref 238, .ref 239, .int 0, .ref 240, .ref 241, .int 0, .int 0, .ref 242, .ref 243, .int 0, .ref 244, .ref 245, .int 0, .long 0, .long 0, .ref 246, .ref 247, .ref 248, .int 0, .ref 249, .ref 250, .ref 251, .ref 252, .ref 253, .ref 254, .ref 255, .ref 256, .int 0, .int 0, .int 0, .long 0, .ref 257, .ref 258, .int 0] rfl ?_
  refine r_iload_n rfl ?_
  refine r_iff 19 rfl (by decide) ?_
  refine At.enter rfl ?_
  refine r_aload_n rfl ?_
  refine r_bipush (-6) rfl ?_
  refine r_callV1s (True) (.int (-6)) (((((en_pre a 231 hp_M).set 231 (.inr (11, [.int 0, .int 0, .ref 232, .ref 233, .ref 234, .ref 235, .int 0, .ref 236, .int 0, .int 0, .int 0, .int 0, .long 0, .int (-1), .int 0, .int 0, .ref 237, .int 0, .ref 238, .ref 239, .int 0, .ref 240, .ref 241, .int 0, .int 0, .ref 242, .ref 243, .int 0, .ref 244, .ref 245, .int 0, .long 0, .long 0, .ref 246, .ref 247, .ref 248, .int 0, .ref 249, .ref 250, .ref 251, .ref 252, .ref 253, .ref 254, .ref 255, .ref 256, .int 0, .int 0, .int 0, .long 0, .ref 257, .ref 258, .int 0]))).set 231 (.inr (11, [.int 0, .int 0, .ref 232, .ref 233, .ref 234, .ref 235, .int 0, .ref 236, .int 0, .int 0, .int 0, .int 0, .long 0, .int (-1), .int 0, .int 0, .ref 237, .int 0, .ref 238, .ref 239, .int 0, .ref 240, .ref 241, .int 0, .int 0, .ref 242, .ref 243, .int 0, .ref 244, .ref 245, .int 0, .long 0, .long 0, .ref 246, .ref 247, .ref 248, .int 0, .ref 249, .ref 250, .ref 251, .ref 252, .ref 253, .ref 254, .ref 255, .ref 256, .int 0, .int 0, .int 0, .long 0, .ref 257, .ref 258, .int 0]))).set 231 (.inr (11, [.int 0, .int (-6), .ref 232, .ref 233, .ref 234, .ref 235, .int 0, .ref 236, .int 0, .int 0, .int 0, .int 0, .long 0, .int (-1), .int 0, .int 0, .ref 237, .int 0, .ref 238, .ref 239, .int 0, .ref 240, .ref 241, .int 0, .int 0, .ref 242, .ref 243, .int 0, .ref 244, .ref 245, .int 0, .long 0, .long 0, .ref 246, .ref 247, .ref 248, .int 0, .ref 249, .ref 250, .ref 251, .ref 252, .ref 253, .ref 254, .ref 255, .ref 256, .int 0, .int 0, .int 0, .long 0, .ref 257, .ref 258, .int 0]))).set 232 (.inl (0, .inl ([0, 0, 0, 0, 0, 0, 1]))), n) 25 rfl [.ref 231, .int (-6)] [] (Nat.le_of_ble_eq_true rfl) rfl ?_ (fun _ => ?_)
  · refine Ev.mk rfl rfl ⟨Nat.le_of_ble_eq_true rfl, Or.inr (en_rcI (en_gs_eq (en_gs_eq (hm_231 _))) rfl)⟩ ?_
    show At _ none _ _ (0, [(0, .ref 231), (1, .int (-6))], [], (((en_pre a 231 hp_M).set 231 (.inr (11, [.int 0, .int 0, .ref 232, .ref 233, .ref 234, .ref 235, .int 0, .ref 236, .int 0, .int 0, .int 0, .int 0, .long 0, .int (-1), .int 0, .int 0, .ref 237, .int 0, .ref 238, .ref 239, .int 0, .ref 240, .ref 241, .int 0, .int 0, .ref 242, .ref 243, .int 0, .ref 244, .ref 245, .int 0, .long 0, .long 0, .ref 246, .ref 247, .ref 248, .int 0, .ref 249, .ref 250, .ref 251, .ref 252, .ref 253, .ref 254, .ref 255, .ref 256, .int 0, .int 0, .int 0, .long 0, .ref 257, .ref 258, .int 0]))).set 231 (.inr (11, [.int 0, .int 0, .ref 232, .ref 233, .ref 234, .ref 235, .int 0, .ref 236, .int 0, .int 0, .int 0, .int 0, .long 0, .int (-1), .int 0, .int 0, .ref 237, .int 0, .ref 238, .ref 239, .int 0, .ref 240, .ref 241, .int 0, .int 0, .ref 242, .ref 243, .int 0, .ref 244, .ref 245, .int 0, .long 0, .long 0, .ref 246, .ref 247, .ref 248, .int 0, .ref 249, .ref 250, .ref 251, .ref 252, .ref 253, .ref 254, .ref 255, .ref 256, .int 0, .int 0, .int 0, .long 0, .ref 257, .ref 258, .int 0])), n)) _
    refine At.enter rfl ?_
    refine r_aload_n rfl ?_
    refine r_iload_n rfl ?_
    refine r_iff 5 rfl (by decide) ?_
    refine At.enter rfl ?_
    refine r_iload_n rfl ?_
    refine r_goto ?_
    refine At.enter rfl ?_
    refine r_putf (en_gs_eq (en_gs_eq (hm_231 _))) (Nat.le_of_ble_eq_true rfl) rfl [.int 0, .int (-6), .ref 232, .ref 233, .ref 234, .ref 235, .int 0, .ref 236, .int 0, .int 0, .int 0, .int 0, .long 0, .int (-1), .int 0, .int 0, .ref 237, .int 0, .ref 238, .ref 239, .int 0, .ref 240, .ref 241, .int 0, .int 0, .ref 242, .ref 243, .int 0, .ref 244, .ref 245, .int 0, .long 0, .long 0, .ref 246, .ref 247, .ref 248, .int 0, .ref 249, .ref 250, .ref 251, .ref 252, .ref 253, .ref 254, .ref 255, .ref 256, .int 0, .int 0, .int 0, .long 0, .ref 257, .ref 258, .int 0] rfl ?_
    refine r_iload_n rfl ?_
    refine r_iff 17 rfl (by decide) ?_
    refine At.enter rfl ?_
    refine r_aload_n rfl ?_
    refine r_get (v := .ref 232) (en_gs_eq (en_gs_eq (en_gs_eq (hm_231 _)))) rfl ?_
    refine r_iload_n rfl ?_
    refine r_ineg 6 rfl ?_
    refine r_dup2 ⟨rfl, rfl⟩ ?_
    refine r_iald (v := 0) (en_gs_ne (by decide) (en_gs_ne (by decide) (en_gs_ne (by decide) (hm_232 _)))) (by decide) rfl ?_
    refine r_iconst 1 rfl ?_
    refine r_iadd 1 rfl ?_
    refine r_iast (en_gs_ne (by decide) (en_gs_ne (by decide) (en_gs_ne (by decide) (hm_232 _)))) (by decide) (Nat.le_of_ble_eq_true rfl) ([0, 0, 0, 0, 0, 0, 1]) rfl ?_
    refine Ar.fall 28 rfl ?_
    refine At.enter rfl ?_
    refine r_iload_n rfl ?_
    refine r_ireti ?_
    exact ⟨trivial, rfl, rfl⟩
  refine At.enter rfl ?_
  refine r_ireti ?_
  exact congrArg (fun z => some (Value.int z)) rfl
set_option maxRecDepth 100000 in
set_option maxHeartbeats 4000000 in
theorem zx_X10_dropped (n : Nat) : Ev 14 114 [.ref 0] (hp_X ++ hp_M, n) (fun r h' => r = some (.int (0)) ∧ IsX h'.1 ∧ h'.2 = n) := by
  refine Ev.mk rfl rfl ⟨Nat.le_of_ble_eq_true rfl, Or.inr (en_rcI hx_0 rfl)⟩ ?_
  show At _ none _ _ (0, [(0, .ref 0)], [], (hp_X ++ hp_M, n)) _
  refine At.enter rfl ?_
  refine r_aload_n rfl ?_
  refine r_get (v := .int 0) hx_0 rfl ?_
  refine r_ireti ?_
  exact ⟨congrArg (fun z => some (Value.int z)) rfl, IsX.base, rfl⟩
set_option maxRecDepth 100000 in
set_option maxHeartbeats 4000000 in
theorem zm_X11_dropped (a : Nat → en_E) (n : Nat) : Ev 14 183 [.ref 231] (en_pre a 231 hp_M, n) (fun r h' => r = some (.int (0))) := by
  refine Ev.mk rfl rfl ⟨Nat.le_of_ble_eq_true rfl, Or.inr (en_rcI (hm_231 _) rfl)⟩ ?_
  show At _ none _ _ (0, [(0, .ref 231)], [], (en_pre a 231 hp_M, n)) _
  refine At.enter rfl ?_
  refine r_aload_n rfl ?_
  refine r_iconst 0 rfl ?_
  refine r_putf (hm_231 _) (Nat.le_of_ble_eq_true rfl) rfl [.int 0, .int 0, .ref 232, .ref 233, .ref 234, .ref 235, .int 0, .ref 236, .int 0, .int 0, .int 0, .int 0, .long 0, .int (-1), .int 0, .int 0, .ref 237, .int 0, .ref 238, .ref 239, .int 0, .ref 240, .ref 241, .int 0, .int 0, .ref 242, .ref 243, .int 0, .ref 244, .ref 245, .int 0, .long 0, .long 0, .ref 246, .ref 247, .ref 248, .int 0, .ref 249, .ref 250, .ref 251, .ref 252, .ref 253, .ref 254, .ref 255, .ref 256, .int 0, .int 0, .int 0, .long 0, .ref 257, .ref 258, .int 0] rfl ?_
  refine r_aload_n rfl ?_
  refine r_get (v := .int 0) (en_gs_eq (hm_231 _)) rfl ?_
  refine r_ireti ?_
  exact congrArg (fun z => some (Value.int z)) rfl
