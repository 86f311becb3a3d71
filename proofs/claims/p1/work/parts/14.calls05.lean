def sp_terms (a1 a2 : Int32) : Int32 := if a1.toInt = 0 ∧ 0 ≤ a2.toInt ∧ a2.toInt ≤ 99 then 60 else if a1.toInt = 1 ∧ 1 ≤ a2.toInt ∧ a2.toInt ≤ 4 then 2 else -1
set_option maxRecDepth 100000 in
set_option maxHeartbeats 4000000 in
theorem zx_X10_terms (n : Nat) (a1 : Int32) (a2 : Int32) : Ev 14 110 [.ref 0, .int a1, .int a2] (hp_X ++ hp_M, n) (fun r h' => r = some (.int (sp_terms a1 a2)) ∧ IsX h'.1 ∧ h'.2 = n) := by
  refine Ev.mk rfl rfl ⟨Nat.le_of_ble_eq_true rfl, Or.inr (en_rcI hx_0 rfl)⟩ ?_
  show At _ none _ _ (0, [(0, .ref 0), (1, .int a1), (2, .int a2)], [], (hp_X ++ hp_M, n)) _
  refine At.enter rfl ?_
  refine r_iload_n rfl ?_
  refine r_ifs 4 rfl (fun c1 => ?_) (fun c1 => ?_)
  · have c1_ : (a1).toInt ≠ (0) := (by have z := en_k_ne_t c1; (try simp only [Int32.toInt_toInt64] at z); exact z)
    refine At.enter rfl ?_
    refine r_iload_n rfl ?_
    refine r_iconst 1 rfl ?_
    refine r_ics 38 rfl (fun c2 => ?_) (fun c2 => ?_)
    · have c2_ : (a1).toInt ≠ (1) := (by have z := en_i_ne_t c2; (try simp only [Int32.toInt_toInt64] at z); exact z)
      refine At.enter rfl ?_
      refine r_aload_n rfl ?_
      refine r_iconst (-1) rfl ?_
      refine r_callV1s (True) (.int (-1)) (((hp_X ++ hp_M).set 0 (.inr (10, [.ref 1, .ref 58, .ref 173, .ref 174, .ref 176, .ref 184, .ref 188, .ref 204, .ref 220, .ref 222, .ref 223, .ref 228, .ref 229, .ref 230, .int 0, .int 0, .int 0, .int (-1)]))).set 230 (.inl (0, .inl ([0, 1, 0, 0, 0, 0, 0]))), n) 71 rfl [.ref 0, .int (-1)] [] (Nat.le_of_ble_eq_true rfl) rfl ?_ (fun _ => ?_)
      · refine Ev.mk rfl rfl ⟨Nat.le_of_ble_eq_true rfl, Or.inr (en_rcI hx_0 rfl)⟩ ?_
        show At _ none _ _ (0, [(0, .ref 0), (1, .int (-1))], [], (hp_X ++ hp_M, n)) _
        refine At.enter rfl ?_
        refine r_aload_n rfl ?_
        refine r_iload_n rfl ?_
        refine r_putf hx_0 (Nat.le_of_ble_eq_true rfl) rfl [.ref 1, .ref 58, .ref 173, .ref 174, .ref 176, .ref 184, .ref 188, .ref 204, .ref 220, .ref 222, .ref 223, .ref 228, .ref 229, .ref 230, .int 0, .int 0, .int 0, .int (-1)] rfl ?_
        refine r_iload_n rfl ?_
        refine r_ineg 1 rfl ?_
        refine r_iconst 0 rfl ?_
        refine r_bipush 6 rfl ?_
        refine r_callS1s (True) (.int 1) ((hp_X ++ hp_M).set 0 (.inr (10, [.ref 1, .ref 58, .ref 173, .ref 174, .ref 176, .ref 184, .ref 188, .ref 204, .ref 220, .ref 222, .ref 223, .ref 228, .ref 229, .ref 230, .int 0, .int 0, .int 0, .int (-1)])), n) 13 rfl [.int 1, .int 0, .int 6] [] (Nat.le_of_ble_eq_true rfl) rfl ?_ (fun _ => ?_)
        · refine Ev.mk rfl rfl ⟨Nat.le_of_ble_eq_true rfl, Or.inl rfl⟩ ?_
          show At _ none _ _ (0, [(0, .int 1), (1, .int 0), (2, .int 6)], [], ((hp_X ++ hp_M).set 0 (.inr (10, [.ref 1, .ref 58, .ref 173, .ref 174, .ref 176, .ref 184, .ref 188, .ref 204, .ref 220, .ref 222, .ref 223, .ref 228, .ref 229, .ref 230, .int 0, .int 0, .int 0, .int (-1)])), n)) _
          refine At.enter rfl ?_
          refine r_iload_n rfl ?_
          refine r_iload_n rfl ?_
          refine r_icf 5 rfl (by decide) ?_
          refine At.enter rfl ?_
          refine r_iload_n rfl ?_
          refine r_iload_n rfl ?_
          refine r_icf 10 rfl (by decide) ?_
          refine At.enter rfl ?_
          refine r_iconst 1 rfl ?_
          refine r_goto ?_
          refine At.enter rfl ?_
          refine r_iretz (by decide) ?_
          exact ⟨trivial, rfl, rfl⟩
        refine At.enter rfl ?_
        refine r_iff 16 rfl (by decide) ?_
        refine At.enter rfl ?_
        refine r_aload_n rfl ?_
        refine r_get (v := .ref 230) (en_gs_eq hx_0) rfl ?_
        refine r_iload_n rfl ?_
        refine r_ineg 1 rfl ?_
        refine r_dup2 ⟨rfl, rfl⟩ ?_
        refine r_iald (v := 0) (en_gs_ne (by decide) hx_230) (by decide) rfl ?_
        refine r_iconst 1 rfl ?_
        refine r_iadd 1 rfl ?_
        refine r_iast (en_gs_ne (by decide) hx_230) (by decide) (Nat.le_of_ble_eq_true rfl) ([0, 1, 0, 0, 0, 0, 0]) (by decide +kernel) ?_
        refine Ar.fall 27 rfl ?_
        refine At.enter rfl ?_
        refine r_iload_n rfl ?_
        refine r_ireti ?_
        exact ⟨trivial, rfl, rfl⟩
      refine At.enter rfl ?_
      refine r_ireti ?_
      exact ⟨congrArg (fun z => some (Value.int z)) (by unfold sp_terms; (repeat' split) <;> first | rfl | omega), (IsX.set (IsX.set IsX.base (by decide)) (by decide)), rfl⟩
    · have c2_ : (a1).toInt = (1) := (by have z := en_i_ne_f c2; (try simp only [Int32.toInt_toInt64] at z); exact z)
      refine At.enter rfl ?_
      refine r_iload_n rfl ?_
      refine r_iconst 1 rfl ?_
      refine r_iconst 4 rfl ?_
      refine r_callS3s (((a2).toInt < (1))) (((a2).toInt ≥ (1)) ∧ ((a2).toInt > (4))) (((a2).toInt ≥ (1)) ∧ ((a2).toInt ≤ (4))) (.int 0) (.int 0) (.int 1) (hp_X ++ hp_M, n) (hp_X ++ hp_M, n) (hp_X ++ hp_M, n) 44 rfl [.int a2, .int 1, .int 4] [] (Nat.le_of_ble_eq_true rfl) rfl ?_ (fun c3_ => ?_) (fun ⟨c3_, c4_⟩ => ?_) (fun ⟨c3_, c4_⟩ => ?_)
      · refine Ev.mk rfl rfl ⟨Nat.le_of_ble_eq_true rfl, Or.inl rfl⟩ ?_
        show At _ none _ _ (0, [(0, .int a2), (1, .int 1), (2, .int 4)], [], (hp_X ++ hp_M, n)) _
        refine At.enter rfl ?_
        refine r_iload_n rfl ?_
        refine r_iload_n rfl ?_
        refine r_ics 5 rfl (fun c3 => ?_) (fun c3 => ?_)
        · have c3_ : (a2).toInt < (1) := (by have z := en_i_lt_t c3; (try simp only [Int32.toInt_toInt64] at z); exact z)
          refine At.enter rfl ?_
          refine r_iconst 0 rfl ?_
          refine Ar.fall 15 rfl ?_
          refine At.enter rfl ?_
          refine r_iretz (by decide) ?_
          exact Or.inl ⟨c3_, rfl, rfl⟩
        · have c3_ : (a2).toInt ≥ (1) := (by have z := en_i_lt_f c3; (try simp only [Int32.toInt_toInt64] at z); exact z)
          refine At.enter rfl ?_
          refine r_iload_n rfl ?_
          refine r_iload_n rfl ?_
          refine r_ics 10 rfl (fun c4 => ?_) (fun c4 => ?_)
          · have c4_ : (a2).toInt > (4) := (by have z := en_i_gt_t c4; (try simp only [Int32.toInt_toInt64] at z); exact z)
            refine At.enter rfl ?_
            refine r_iconst 0 rfl ?_
            refine Ar.fall 15 rfl ?_
            refine At.enter rfl ?_
            refine r_iretz (by decide) ?_
            exact Or.inr (Or.inl ⟨⟨c3_, c4_⟩, rfl, rfl⟩)
          · have c4_ : (a2).toInt ≤ (4) := (by have z := en_i_gt_f c4; (try simp only [Int32.toInt_toInt64] at z); exact z)
            refine At.enter rfl ?_
            refine r_iconst 1 rfl ?_
            refine r_goto ?_
            refine At.enter rfl ?_
            refine r_iretz (by decide) ?_
            exact Or.inr (Or.inr (⟨⟨c3_, c4_⟩, rfl, rfl⟩))
      · refine At.enter rfl ?_
        refine r_ift (by decide) ?_
        refine At.enter rfl ?_
        refine r_aload_n rfl ?_
        refine r_iconst (-1) rfl ?_
        refine r_callV1s (True) (.int (-1)) (((hp_X ++ hp_M).set 0 (.inr (10, [.ref 1, .ref 58, .ref 173, .ref 174, .ref 176, .ref 184, .ref 188, .ref 204, .ref 220, .ref 222, .ref 223, .ref 228, .ref 229, .ref 230, .int 0, .int 0, .int 0, .int (-1)]))).set 230 (.inl (0, .inl ([0, 1, 0, 0, 0, 0, 0]))), n) 71 rfl [.ref 0, .int (-1)] [] (Nat.le_of_ble_eq_true rfl) rfl ?_ (fun _ => ?_)
        · refine Ev.mk rfl rfl ⟨Nat.le_of_ble_eq_true rfl, Or.inr (en_rcI hx_0 rfl)⟩ ?_
          show At _ none _ _ (0, [(0, .ref 0), (1, .int (-1))], [], (hp_X ++ hp_M, n)) _
          refine At.enter rfl ?_
          refine r_aload_n rfl ?_
          refine r_iload_n rfl ?_
          refine r_putf hx_0 (Nat.le_of_ble_eq_true rfl) rfl [.ref 1, .ref 58, .ref 173, .ref 174, .ref 176, .ref 184, .ref 188, .ref 204, .ref 220, .ref 222, .ref 223, .ref 228, .ref 229, .ref 230, .int 0, .int 0, .int 0, .int (-1)] rfl ?_
          refine r_iload_n rfl ?_
          refine r_ineg 1 rfl ?_
          refine r_iconst 0 rfl ?_
          refine r_bipush 6 rfl ?_
          refine r_callS1s (True) (.int 1) ((hp_X ++ hp_M).set 0 (.inr (10, [.ref 1, .ref 58, .ref 173, .ref 174, .ref 176, .ref 184, .ref 188, .ref 204, .ref 220, .ref 222, .ref 223, .ref 228, .ref 229, .ref 230, .int 0, .int 0, .int 0, .int (-1)])), n) 13 rfl [.int 1, .int 0, .int 6] [] (Nat.le_of_ble_eq_true rfl) rfl ?_ (fun _ => ?_)
          · refine Ev.mk rfl rfl ⟨Nat.le_of_ble_eq_true rfl, Or.inl rfl⟩ ?_
            show At _ none _ _ (0, [(0, .int 1), (1, .int 0), (2, .int 6)], [], ((hp_X ++ hp_M).set 0 (.inr (10, [.ref 1, .ref 58, .ref 173, .ref 174, .ref 176, .ref 184, .ref 188, .ref 204, .ref 220, .ref 222, .ref 223, .ref 228, .ref 229, .ref 230, .int 0, .int 0, .int 0, .int (-1)])), n)) _
            refine At.enter rfl ?_
            refine r_iload_n rfl ?_
            refine r_iload_n rfl ?_
            refine r_icf 5 rfl (by decide) ?_
            refine At.enter rfl ?_
            refine r_iload_n rfl ?_
            refine r_iload_n rfl ?_
            refine r_icf 10 rfl (by decide) ?_
            refine At.enter rfl ?_
            refine r_iconst 1 rfl ?_
            refine r_goto ?_
            refine At.enter rfl ?_
            refine r_iretz (by decide) ?_
            exact ⟨trivial, rfl, rfl⟩
          refine At.enter rfl ?_
          refine r_iff 16 rfl (by decide) ?_
          refine At.enter rfl ?_
          refine r_aload_n rfl ?_
          refine r_get (v := .ref 230) (en_gs_eq hx_0) rfl ?_
          refine r_iload_n rfl ?_
          refine r_ineg 1 rfl ?_
          refine r_dup2 ⟨rfl, rfl⟩ ?_
          refine r_iald (v := 0) (en_gs_ne (by decide) hx_230) (by decide) rfl ?_
          refine r_iconst 1 rfl ?_
          refine r_iadd 1 rfl ?_
          refine r_iast (en_gs_ne (by decide) hx_230) (by decide) (Nat.le_of_ble_eq_true rfl) ([0, 1, 0, 0, 0, 0, 0]) (by decide +kernel) ?_
          refine Ar.fall 27 rfl ?_
          refine At.enter rfl ?_
          refine r_iload_n rfl ?_
          refine r_ireti ?_
          exact ⟨trivial, rfl, rfl⟩
        refine At.enter rfl ?_
        refine r_ireti ?_
        exact ⟨congrArg (fun z => some (Value.int z)) (by unfold sp_terms; (repeat' split) <;> first | rfl | omega), (IsX.set (IsX.set IsX.base (by decide)) (by decide)), rfl⟩
      · refine At.enter rfl ?_
        refine r_ift (by decide) ?_
        refine At.enter rfl ?_
        refine r_aload_n rfl ?_
        refine r_iconst (-1) rfl ?_
        refine r_callV1s (True) (.int (-1)) (((hp_X ++ hp_M).set 0 (.inr (10, [.ref 1, .ref 58, .ref 173, .ref 174, .ref 176, .ref 184, .ref 188, .ref 204, .ref 220, .ref 222, .ref 223, .ref 228, .ref 229, .ref 230, .int 0, .int 0, .int 0, .int (-1)]))).set 230 (.inl (0, .inl ([0, 1, 0, 0, 0, 0, 0]))), n) 71 rfl [.ref 0, .int (-1)] [] (Nat.le_of_ble_eq_true rfl) rfl ?_ (fun _ => ?_)
        · refine Ev.mk rfl rfl ⟨Nat.le_of_ble_eq_true rfl, Or.inr (en_rcI hx_0 rfl)⟩ ?_
          show At _ none _ _ (0, [(0, .ref 0), (1, .int (-1))], [], (hp_X ++ hp_M, n)) _
          refine At.enter rfl ?_
          refine r_aload_n rfl ?_
          refine r_iload_n rfl ?_
          refine r_putf hx_0 (Nat.le_of_ble_eq_true rfl) rfl [.ref 1, .ref 58, .ref 173, .ref 174, .ref 176, .ref 184, .ref 188, .ref 204, .ref 220, .ref 222, .ref 223, .ref 228, .ref 229, .ref 230, .int 0, .int 0, .int 0, .int (-1)] rfl ?_
          refine r_iload_n rfl ?_
          refine r_ineg 1 rfl ?_
          refine r_iconst 0 rfl ?_
          refine r_bipush 6 rfl ?_
          refine r_callS1s (True) (.int 1) ((hp_X ++ hp_M).set 0 (.inr (10, [.ref 1, .ref 58, .ref 173, .ref 174, .ref 176, .ref 184, .ref 188, .ref 204, .ref 220, .ref 222, .ref 223, .ref 228, .ref 229, .ref 230, .int 0, .int 0, .int 0, .int (-1)])), n) 13 rfl [.int 1, .int 0, .int 6] [] (Nat.le_of_ble_eq_true rfl) rfl ?_ (fun _ => ?_)
          · refine Ev.mk rfl rfl ⟨Nat.le_of_ble_eq_true rfl, Or.inl rfl⟩ ?_
            show At _ none _ _ (0, [(0, .int 1), (1, .int 0), (2, .int 6)], [], ((hp_X ++ hp_M).set 0 (.inr (10, [.ref 1, .ref 58, .ref 173, .ref 174, .ref 176, .ref 184, .ref 188, .ref 204, .ref 220, .ref 222, .ref 223, .ref 228, .ref 229, .ref 230, .int 0, .int 0, .int 0, .int (-1)])), n)) _
            refine At.enter rfl ?_
            refine r_iload_n rfl ?_
            refine r_iload_n rfl ?_
            refine r_icf 5 rfl (by decide) ?_
            refine At.enter rfl ?_
            refine r_iload_n rfl ?_
            refine r_iload_n rfl ?_
            refine r_icf 10 rfl (by decide) ?_
            refine At.enter rfl ?_
            refine r_iconst 1 rfl ?_
            refine r_goto ?_
            refine At.enter rfl ?_
            refine r_iretz (by decide) ?_
            exact ⟨trivial, rfl, rfl⟩
          refine At.enter rfl ?_
          refine r_iff 16 rfl (by decide) ?_
          refine At.enter rfl ?_
          refine r_aload_n rfl ?_
          refine r_get (v := .ref 230) (en_gs_eq hx_0) rfl ?_
          refine r_iload_n rfl ?_
          refine r_ineg 1 rfl ?_
          refine r_dup2 ⟨rfl, rfl⟩ ?_
          refine r_iald (v := 0) (en_gs_ne (by decide) hx_230) (by decide) rfl ?_
          refine r_iconst 1 rfl ?_
          refine r_iadd 1 rfl ?_
          refine r_iast (en_gs_ne (by decide) hx_230) (by decide) (Nat.le_of_ble_eq_true rfl) ([0, 1, 0, 0, 0, 0, 0]) (by decide +kernel) ?_
          refine Ar.fall 27 rfl ?_
          refine At.enter rfl ?_
          refine r_iload_n rfl ?_
          refine r_ireti ?_
          exact ⟨trivial, rfl, rfl⟩
        refine At.enter rfl ?_
        refine r_ireti ?_
        exact ⟨congrArg (fun z => some (Value.int z)) (by unfold sp_terms; (repeat' split) <;> first | rfl | omega), (IsX.set (IsX.set IsX.base (by decide)) (by decide)), rfl⟩
      · refine At.enter rfl ?_
        refine r_iff 47 rfl (by decide) ?_
        refine At.enter rfl ?_
        refine r_aload_n rfl ?_
        refine r_get (v := .ref 1) hx_0 rfl ?_
        refine r_get (v := .int 2) hx_1 rfl ?_
        refine r_istore_n ([(3, .int 2), (0, .ref 0), (1, .int a1), (2, .int a2)]) rfl ?_
        refine r_aload_n rfl ?_
        refine r_get (v := .ref 1) hx_0 rfl ?_
        refine r_iload_n rfl ?_
        refine r_putf hx_1 (Nat.le_of_ble_eq_true rfl) rfl [.int 0, .ref 2, .ref 3, .ref 4, .int 0, .ref 5, .int 0, .ref 6, .ref 7, .int (-1), .int 60, .int a2, .int 0, .ref 14, .ref 15] rfl ?_
        refine r_goto ?_
        refine At.enter rfl ?_
        refine r_aload_n rfl ?_
        refine r_callV1v (True)  ((((((hp_X ++ hp_M).set 1 (.inr (0, [.int 0, .ref 2, .ref 3, .ref 4, .int 0, .ref 5, .int 0, .ref 6, .ref 7, .int (-1), .int 60, .int a2, .int 0, .ref 14, .ref 15]))).set 0 (.inr (10, [.ref 1, .ref 58, .ref 173, .ref 174, .ref 176, .ref 184, .ref 188, .ref 204, .ref 220, .ref 222, .ref 223, .ref 228, .ref 229, .ref 230, .int 0, .int 0, .int 0, .int 0]))).set 220 (.inr (7, [.ref 1, .ref 204, .int (-1), .int 0, .int 0, .ref 221]))).set 222 (.inr (6, [.ref 1, .ref 204, .int 0, .int 0, .int 0, .int 0]))).set 223 (.inr (2, [.ref 1, .ref 185, .ref 224, .ref 225, .ref 226, .int 0, .int 0, .int 0, .int 0, .int 0, .int 0, .int 0, .ref 227])), n) 76 rfl [.ref 0] [] (Nat.le_of_ble_eq_true rfl) rfl ?_ (fun _ => ?_)
        · refine Ev.mk rfl rfl ⟨Nat.le_of_ble_eq_true rfl, Or.inr (en_rcI (en_gs_ne (by decide) hx_0) rfl)⟩ ?_
          show At _ none _ _ (0, [(0, .ref 0)], [], ((hp_X ++ hp_M).set 1 (.inr (0, [.int 0, .ref 2, .ref 3, .ref 4, .int 0, .ref 5, .int 0, .ref 6, .ref 7, .int (-1), .int 60, .int a2, .int 0, .ref 14, .ref 15])), n)) _
          refine At.enter rfl ?_
          refine r_aload_n rfl ?_
          refine r_iconst 0 rfl ?_
          refine r_putf (en_gs_ne (by decide) hx_0) (Nat.le_of_ble_eq_true rfl) rfl [.ref 1, .ref 58, .ref 173, .ref 174, .ref 176, .ref 184, .ref 188, .ref 204, .ref 220, .ref 222, .ref 223, .ref 228, .ref 229, .ref 230, .int 0, .int 0, .int 0, .int 0] rfl ?_
          refine r_aload_n rfl ?_
          refine r_get (v := .ref 220) (en_gs_eq (en_gs_ne (by decide) hx_0)) rfl ?_
          refine r_callV1v (True)  ((((hp_X ++ hp_M).set 1 (.inr (0, [.int 0, .ref 2, .ref 3, .ref 4, .int 0, .ref 5, .int 0, .ref 6, .ref 7, .int (-1), .int 60, .int a2, .int 0, .ref 14, .ref 15]))).set 0 (.inr (10, [.ref 1, .ref 58, .ref 173, .ref 174, .ref 176, .ref 184, .ref 188, .ref 204, .ref 220, .ref 222, .ref 223, .ref 228, .ref 229, .ref 230, .int 0, .int 0, .int 0, .int 0]))).set 220 (.inr (7, [.ref 1, .ref 204, .int (-1), .int 0, .int 0, .ref 221])), n) 12 rfl [.ref 220] [] (Nat.le_of_ble_eq_true rfl) rfl ?_ (fun _ => ?_)
          · refine Ev.mk rfl rfl ⟨Nat.le_of_ble_eq_true rfl, Or.inr (en_rcI (en_gs_ne (by decide) (en_gs_ne (by decide) hx_220)) rfl)⟩ ?_
            show At _ none _ _ (0, [(0, .ref 220)], [], (((hp_X ++ hp_M).set 1 (.inr (0, [.int 0, .ref 2, .ref 3, .ref 4, .int 0, .ref 5, .int 0, .ref 6, .ref 7, .int (-1), .int 60, .int a2, .int 0, .ref 14, .ref 15]))).set 0 (.inr (10, [.ref 1, .ref 58, .ref 173, .ref 174, .ref 176, .ref 184, .ref 188, .ref 204, .ref 220, .ref 222, .ref 223, .ref 228, .ref 229, .ref 230, .int 0, .int 0, .int 0, .int 0])), n)) _
            refine At.enter rfl ?_
            refine r_aload_n rfl ?_
            refine r_iconst (-1) rfl ?_
            refine r_putf (en_gs_ne (by decide) (en_gs_ne (by decide) hx_220)) (Nat.le_of_ble_eq_true rfl) rfl [.ref 1, .ref 204, .int (-1), .int 0, .int 0, .ref 221] rfl ?_
            refine r_vret ?_
            exact ⟨trivial, rfl, rfl⟩
          refine At.enter rfl ?_
          refine r_aload_n rfl ?_
          refine r_get (v := .ref 222) (en_gs_ne (by decide) (en_gs_eq (en_gs_ne (by decide) hx_0))) rfl ?_
          refine r_callV1v (True)  (((((hp_X ++ hp_M).set 1 (.inr (0, [.int 0, .ref 2, .ref 3, .ref 4, .int 0, .ref 5, .int 0, .ref 6, .ref 7, .int (-1), .int 60, .int a2, .int 0, .ref 14, .ref 15]))).set 0 (.inr (10, [.ref 1, .ref 58, .ref 173, .ref 174, .ref 176, .ref 184, .ref 188, .ref 204, .ref 220, .ref 222, .ref 223, .ref 228, .ref 229, .ref 230, .int 0, .int 0, .int 0, .int 0]))).set 220 (.inr (7, [.ref 1, .ref 204, .int (-1), .int 0, .int 0, .ref 221]))).set 222 (.inr (6, [.ref 1, .ref 204, .int 0, .int 0, .int 0, .int 0])), n) 19 rfl [.ref 222] [] (Nat.le_of_ble_eq_true rfl) rfl ?_ (fun _ => ?_)
          · refine Ev.mk rfl rfl ⟨Nat.le_of_ble_eq_true rfl, Or.inr (en_rcI (en_gs_ne (by decide) (en_gs_ne (by decide) (en_gs_ne (by decide) hx_222))) rfl)⟩ ?_
            show At _ none _ _ (0, [(0, .ref 222)], [], ((((hp_X ++ hp_M).set 1 (.inr (0, [.int 0, .ref 2, .ref 3, .ref 4, .int 0, .ref 5, .int 0, .ref 6, .ref 7, .int (-1), .int 60, .int a2, .int 0, .ref 14, .ref 15]))).set 0 (.inr (10, [.ref 1, .ref 58, .ref 173, .ref 174, .ref 176, .ref 184, .ref 188, .ref 204, .ref 220, .ref 222, .ref 223, .ref 228, .ref 229, .ref 230, .int 0, .int 0, .int 0, .int 0]))).set 220 (.inr (7, [.ref 1, .ref 204, .int (-1), .int 0, .int 0, .ref 221])), n)) _
            refine At.enter rfl ?_
            refine r_aload_n rfl ?_
            refine r_iconst 0 rfl ?_
            refine r_putf (en_gs_ne (by decide) (en_gs_ne (by decide) (en_gs_ne (by decide) hx_222))) (Nat.le_of_ble_eq_true rfl) rfl [.ref 1, .ref 204, .int 0, .int 0, .int 0, .int 0] rfl ?_
            refine r_vret ?_
            exact ⟨trivial, rfl, rfl⟩
          refine At.enter rfl ?_
          refine r_aload_n rfl ?_
          refine r_get (v := .ref 223) (en_gs_ne (by decide) (en_gs_ne (by decide) (en_gs_eq (en_gs_ne (by decide) hx_0)))) rfl ?_
          refine r_callV1v (True)  ((((((hp_X ++ hp_M).set 1 (.inr (0, [.int 0, .ref 2, .ref 3, .ref 4, .int 0, .ref 5, .int 0, .ref 6, .ref 7, .int (-1), .int 60, .int a2, .int 0, .ref 14, .ref 15]))).set 0 (.inr (10, [.ref 1, .ref 58, .ref 173, .ref 174, .ref 176, .ref 184, .ref 188, .ref 204, .ref 220, .ref 222, .ref 223, .ref 228, .ref 229, .ref 230, .int 0, .int 0, .int 0, .int 0]))).set 220 (.inr (7, [.ref 1, .ref 204, .int (-1), .int 0, .int 0, .ref 221]))).set 222 (.inr (6, [.ref 1, .ref 204, .int 0, .int 0, .int 0, .int 0]))).set 223 (.inr (2, [.ref 1, .ref 185, .ref 224, .ref 225, .ref 226, .int 0, .int 0, .int 0, .int 0, .int 0, .int 0, .int 0, .ref 227])), n) 26 rfl [.ref 223] [] (Nat.le_of_ble_eq_true rfl) rfl ?_ (fun _ => ?_)
          · refine Ev.mk rfl rfl ⟨Nat.le_of_ble_eq_true rfl, Or.inr (en_rcI (en_gs_ne (by decide) (en_gs_ne (by decide) (en_gs_ne (by decide) (en_gs_ne (by decide) hx_223)))) rfl)⟩ ?_
            show At _ none _ _ (0, [(0, .ref 223)], [], (((((hp_X ++ hp_M).set 1 (.inr (0, [.int 0, .ref 2, .ref 3, .ref 4, .int 0, .ref 5, .int 0, .ref 6, .ref 7, .int (-1), .int 60, .int a2, .int 0, .ref 14, .ref 15]))).set 0 (.inr (10, [.ref 1, .ref 58, .ref 173, .ref 174, .ref 176, .ref 184, .ref 188, .ref 204, .ref 220, .ref 222, .ref 223, .ref 228, .ref 229, .ref 230, .int 0, .int 0, .int 0, .int 0]))).set 220 (.inr (7, [.ref 1, .ref 204, .int (-1), .int 0, .int 0, .ref 221]))).set 222 (.inr (6, [.ref 1, .ref 204, .int 0, .int 0, .int 0, .int 0])), n)) _
            refine At.enter rfl ?_
            refine r_aload_n rfl ?_
            refine r_iconst 0 rfl ?_
            refine r_putf (en_gs_ne (by decide) (en_gs_ne (by decide) (en_gs_ne (by decide) (en_gs_ne (by decide) hx_223)))) (Nat.le_of_ble_eq_true rfl) rfl [.ref 1, .ref 185, .ref 224, .ref 225, .ref 226, .int 0, .int 0, .int 0, .int 0, .int 0, .int 0, .int 0, .ref 227] rfl ?_
            refine r_aload_n rfl ?_
            refine r_iconst 0 rfl ?_
            refine r_putf (en_gs_eq (en_gs_ne (by decide) (en_gs_ne (by decide) (en_gs_ne (by decide) (en_gs_ne (by decide) hx_223))))) (Nat.le_of_ble_eq_true rfl) rfl [.ref 1, .ref 185, .ref 224, .ref 225, .ref 226, .int 0, .int 0, .int 0, .int 0, .int 0, .int 0, .int 0, .ref 227] rfl ?_
            refine Ar.hp en_sd0 ?_
            refine r_vret ?_
            exact ⟨trivial, rfl, rfl⟩
          refine At.enter rfl ?_
          refine r_vret ?_
          exact ⟨trivial, rfl, rfl⟩
        refine At.enter rfl ?_
        refine r_aload_n rfl ?_
        refine r_iload_n rfl ?_
        refine r_callV1s (True) (.int 2) ((((((hp_X ++ hp_M).set 1 (.inr (0, [.int 0, .ref 2, .ref 3, .ref 4, .int 0, .ref 5, .int 0, .ref 6, .ref 7, .int (-1), .int 60, .int a2, .int 0, .ref 14, .ref 15]))).set 0 (.inr (10, [.ref 1, .ref 58, .ref 173, .ref 174, .ref 176, .ref 184, .ref 188, .ref 204, .ref 220, .ref 222, .ref 223, .ref 228, .ref 229, .ref 230, .int 0, .int 0, .int 0, .int 0]))).set 220 (.inr (7, [.ref 1, .ref 204, .int (-1), .int 0, .int 0, .ref 221]))).set 222 (.inr (6, [.ref 1, .ref 204, .int 0, .int 0, .int 0, .int 0]))).set 223 (.inr (2, [.ref 1, .ref 185, .ref 224, .ref 225, .ref 226, .int 0, .int 0, .int 0, .int 0, .int 0, .int 0, .int 0, .ref 227])), n) 81 rfl [.ref 0, .int 2] [] (Nat.le_of_ble_eq_true rfl) rfl ?_ (fun _ => ?_)
        · refine Ev.mk rfl rfl ⟨Nat.le_of_ble_eq_true rfl, Or.inr (en_rcI (en_gs_ne (by decide) (en_gs_ne (by decide) (en_gs_ne (by decide) (en_gs_eq (en_gs_ne (by decide) hx_0))))) rfl)⟩ ?_
          show At _ none _ _ (0, [(0, .ref 0), (1, .int 2)], [], ((((((hp_X ++ hp_M).set 1 (.inr (0, [.int 0, .ref 2, .ref 3, .ref 4, .int 0, .ref 5, .int 0, .ref 6, .ref 7, .int (-1), .int 60, .int a2, .int 0, .ref 14, .ref 15]))).set 0 (.inr (10, [.ref 1, .ref 58, .ref 173, .ref 174, .ref 176, .ref 184, .ref 188, .ref 204, .ref 220, .ref 222, .ref 223, .ref 228, .ref 229, .ref 230, .int 0, .int 0, .int 0, .int 0]))).set 220 (.inr (7, [.ref 1, .ref 204, .int (-1), .int 0, .int 0, .ref 221]))).set 222 (.inr (6, [.ref 1, .ref 204, .int 0, .int 0, .int 0, .int 0]))).set 223 (.inr (2, [.ref 1, .ref 185, .ref 224, .ref 225, .ref 226, .int 0, .int 0, .int 0, .int 0, .int 0, .int 0, .int 0, .ref 227])), n)) _
          refine At.enter rfl ?_
          refine r_aload_n rfl ?_
          refine r_iconst 0 rfl ?_
          refine r_putf (en_gs_ne (by decide) (en_gs_ne (by decide) (en_gs_ne (by decide) (en_gs_eq (en_gs_ne (by decide) hx_0))))) (Nat.le_of_ble_eq_true rfl) rfl [.ref 1, .ref 58, .ref 173, .ref 174, .ref 176, .ref 184, .ref 188, .ref 204, .ref 220, .ref 222, .ref 223, .ref 228, .ref 229, .ref 230, .int 0, .int 0, .int 0, .int 0] rfl ?_
          refine Ar.hp (en_sdS (by decide) (en_sdS (by decide) (en_sdS (by decide) en_sd0))) ?_
          refine r_iload_n rfl ?_
          refine r_ireti ?_
          exact ⟨trivial, rfl, rfl⟩
        refine At.enter rfl ?_
        refine r_ireti ?_
        exact ⟨congrArg (fun z => some (Value.int z)) (by unfold sp_terms; (repeat' split) <;> first | rfl | omega), (IsX.set (IsX.set (IsX.set (IsX.set (IsX.set IsX.base (by decide)) (by decide)) (by decide)) (by decide)) (by decide)), rfl⟩
  · have c1_ : (a1).toInt = (0) := (by have z := en_k_ne_f c1; (try simp only [Int32.toInt_toInt64] at z); exact z)
    refine At.enter rfl ?_
    refine r_iload_n rfl ?_
    refine r_iconst 0 rfl ?_
    refine r_bipush 99 rfl ?_
    refine r_callS3s (((a2).toInt < (0))) (((a2).toInt ≥ (0)) ∧ ((a2).toInt > (99))) (((a2).toInt ≥ (0)) ∧ ((a2).toInt ≤ (99))) (.int 0) (.int 0) (.int 1) (hp_X ++ hp_M, n) (hp_X ++ hp_M, n) (hp_X ++ hp_M, n) 11 rfl [.int a2, .int 0, .int 99] [] (Nat.le_of_ble_eq_true rfl) rfl ?_ (fun c5_ => ?_) (fun ⟨c5_, c6_⟩ => ?_) (fun ⟨c5_, c6_⟩ => ?_)
    · refine Ev.mk rfl rfl ⟨Nat.le_of_ble_eq_true rfl, Or.inl rfl⟩ ?_
      show At _ none _ _ (0, [(0, .int a2), (1, .int 0), (2, .int 99)], [], (hp_X ++ hp_M, n)) _
      refine At.enter rfl ?_
      refine r_iload_n rfl ?_
      refine r_iload_n rfl ?_
      refine r_ics 5 rfl (fun c5 => ?_) (fun c5 => ?_)
      · have c5_ : (a2).toInt < (0) := (by have z := en_i_lt_t c5; (try simp only [Int32.toInt_toInt64] at z); exact z)
        refine At.enter rfl ?_
        refine r_iconst 0 rfl ?_
        refine Ar.fall 15 rfl ?_
        refine At.enter rfl ?_
        refine r_iretz (by decide) ?_
        exact Or.inl ⟨c5_, rfl, rfl⟩
      · have c5_ : (a2).toInt ≥ (0) := (by have z := en_i_lt_f c5; (try simp only [Int32.toInt_toInt64] at z); exact z)
        refine At.enter rfl ?_
        refine r_iload_n rfl ?_
        refine r_iload_n rfl ?_
        refine r_ics 10 rfl (fun c6 => ?_) (fun c6 => ?_)
        · have c6_ : (a2).toInt > (99) := (by have z := en_i_gt_t c6; (try simp only [Int32.toInt_toInt64] at z); exact z)
          refine At.enter rfl ?_
          refine r_iconst 0 rfl ?_
          refine Ar.fall 15 rfl ?_
          refine At.enter rfl ?_
          refine r_iretz (by decide) ?_
          exact Or.inr (Or.inl ⟨⟨c5_, c6_⟩, rfl, rfl⟩)
        · have c6_ : (a2).toInt ≤ (99) := (by have z := en_i_gt_f c6; (try simp only [Int32.toInt_toInt64] at z); exact z)
          refine At.enter rfl ?_
          refine r_iconst 1 rfl ?_
          refine r_goto ?_
          refine At.enter rfl ?_
          refine r_iretz (by decide) ?_
          exact Or.inr (Or.inr (⟨⟨c5_, c6_⟩, rfl, rfl⟩))
    · refine At.enter rfl ?_
      refine r_ift (by decide) ?_
      refine At.enter rfl ?_
      refine r_iload_n rfl ?_
      refine r_iconst 1 rfl ?_
      refine r_ics 38 rfl (fun c7 => ?_) (fun c7 => ?_)
      · have c7_ : (a1).toInt ≠ (1) := (by have z := en_i_ne_t c7; (try simp only [Int32.toInt_toInt64] at z); exact z)
        refine At.enter rfl ?_
        refine r_aload_n rfl ?_
        refine r_iconst (-1) rfl ?_
        refine r_callV1s (True) (.int (-1)) (((hp_X ++ hp_M).set 0 (.inr (10, [.ref 1, .ref 58, .ref 173, .ref 174, .ref 176, .ref 184, .ref 188, .ref 204, .ref 220, .ref 222, .ref 223, .ref 228, .ref 229, .ref 230, .int 0, .int 0, .int 0, .int (-1)]))).set 230 (.inl (0, .inl ([0, 1, 0, 0, 0, 0, 0]))), n) 71 rfl [.ref 0, .int (-1)] [] (Nat.le_of_ble_eq_true rfl) rfl ?_ (fun _ => ?_)
        · refine Ev.mk rfl rfl ⟨Nat.le_of_ble_eq_true rfl, Or.inr (en_rcI hx_0 rfl)⟩ ?_
          show At _ none _ _ (0, [(0, .ref 0), (1, .int (-1))], [], (hp_X ++ hp_M, n)) _
          refine At.enter rfl ?_
          refine r_aload_n rfl ?_
          refine r_iload_n rfl ?_
          refine r_putf hx_0 (Nat.le_of_ble_eq_true rfl) rfl [.ref 1, .ref 58, .ref 173, .ref 174, .ref 176, .ref 184, .ref 188, .ref 204, .ref 220, .ref 222, .ref 223, .ref 228, .ref 229, .ref 230, .int 0, .int 0, .int 0, .int (-1)] rfl ?_
          refine r_iload_n rfl ?_
          refine r_ineg 1 rfl ?_
          refine r_iconst 0 rfl ?_
          refine r_bipush 6 rfl ?_
          refine r_callS1s (True) (.int 1) ((hp_X ++ hp_M).set 0 (.inr (10, [.ref 1, .ref 58, .ref 173, .ref 174, .ref 176, .ref 184, .ref 188, .ref 204, .ref 220, .ref 222, .ref 223, .ref 228, .ref 229, .ref 230, .int 0, .int 0, .int 0, .int (-1)])), n) 13 rfl [.int 1, .int 0, .int 6] [] (Nat.le_of_ble_eq_true rfl) rfl ?_ (fun _ => ?_)
          · refine Ev.mk rfl rfl ⟨Nat.le_of_ble_eq_true rfl, Or.inl rfl⟩ ?_
            show At _ none _ _ (0, [(0, .int 1), (1, .int 0), (2, .int 6)], [], ((hp_X ++ hp_M).set 0 (.inr (10, [.ref 1, .ref 58, .ref 173, .ref 174, .ref 176, .ref 184, .ref 188, .ref 204, .ref 220, .ref 222, .ref 223, .ref 228, .ref 229, .ref 230, .int 0, .int 0, .int 0, .int (-1)])), n)) _
            refine At.enter rfl ?_
            refine r_iload_n rfl ?_
            refine r_iload_n rfl ?_
            refine r_icf 5 rfl (by decide) ?_
            refine At.enter rfl ?_
            refine r_iload_n rfl ?_
            refine r_iload_n rfl ?_
            refine r_icf 10 rfl (by decide) ?_
            refine At.enter rfl ?_
            refine r_iconst 1 rfl ?_
            refine r_goto ?_
            refine At.enter rfl ?_
            refine r_iretz (by decide) ?_
            exact ⟨trivial, rfl, rfl⟩
          refine At.enter rfl ?_
          refine r_iff 16 rfl (by decide) ?_
          refine At.enter rfl ?_
          refine r_aload_n rfl ?_
          refine r_get (v := .ref 230) (en_gs_eq hx_0) rfl ?_
          refine r_iload_n rfl ?_
          refine r_ineg 1 rfl ?_
          refine r_dup2 ⟨rfl, rfl⟩ ?_
          refine r_iald (v := 0) (en_gs_ne (by decide) hx_230) (by decide) rfl ?_
          refine r_iconst 1 rfl ?_
          refine r_iadd 1 rfl ?_
          refine r_iast (en_gs_ne (by decide) hx_230) (by decide) (Nat.le_of_ble_eq_true rfl) ([0, 1, 0, 0, 0, 0, 0]) (by decide +kernel) ?_
          refine Ar.fall 27 rfl ?_
          refine At.enter rfl ?_
          refine r_iload_n rfl ?_
          refine r_ireti ?_
          exact ⟨trivial, rfl, rfl⟩
        refine At.enter rfl ?_
        refine r_ireti ?_
        exact ⟨congrArg (fun z => some (Value.int z)) (by unfold sp_terms; (repeat' split) <;> first | rfl | omega), (IsX.set (IsX.set IsX.base (by decide)) (by decide)), rfl⟩
      · have c7_ : (a1).toInt = (1) := (by have z := en_i_ne_f c7; (try simp only [Int32.toInt_toInt64] at z); exact z)
        exfalso; omega
    · refine At.enter rfl ?_
      refine r_ift (by decide) ?_
      refine At.enter rfl ?_
      refine r_iload_n rfl ?_
      refine r_iconst 1 rfl ?_
      refine r_ics 38 rfl (fun c8 => ?_) (fun c8 => ?_)
      · have c8_ : (a1).toInt ≠ (1) := (by have z := en_i_ne_t c8; (try simp only [Int32.toInt_toInt64] at z); exact z)
        refine At.enter rfl ?_
        refine r_aload_n rfl ?_
        refine r_iconst (-1) rfl ?_
        refine r_callV1s (True) (.int (-1)) (((hp_X ++ hp_M).set 0 (.inr (10, [.ref 1, .ref 58, .ref 173, .ref 174, .ref 176, .ref 184, .ref 188, .ref 204, .ref 220, .ref 222, .ref 223, .ref 228, .ref 229, .ref 230, .int 0, .int 0, .int 0, .int (-1)]))).set 230 (.inl (0, .inl ([0, 1, 0, 0, 0, 0, 0]))), n) 71 rfl [.ref 0, .int (-1)] [] (Nat.le_of_ble_eq_true rfl) rfl ?_ (fun _ => ?_)
        · refine Ev.mk rfl rfl ⟨Nat.le_of_ble_eq_true rfl, Or.inr (en_rcI hx_0 rfl)⟩ ?_
          show At _ none _ _ (0, [(0, .ref 0), (1, .int (-1))], [], (hp_X ++ hp_M, n)) _
          refine At.enter rfl ?_
          refine r_aload_n rfl ?_
          refine r_iload_n rfl ?_
          refine r_putf hx_0 (Nat.le_of_ble_eq_true rfl) rfl [.ref 1, .ref 58, .ref 173, .ref 174, .ref 176, .ref 184, .ref 188, .ref 204, .ref 220, .ref 222, .ref 223, .ref 228, .ref 229, .ref 230, .int 0, .int 0, .int 0, .int (-1)] rfl ?_
          refine r_iload_n rfl ?_
          refine r_ineg 1 rfl ?_
          refine r_iconst 0 rfl ?_
          refine r_bipush 6 rfl ?_
          refine r_callS1s (True) (.int 1) ((hp_X ++ hp_M).set 0 (.inr (10, [.ref 1, .ref 58, .ref 173, .ref 174, .ref 176, .ref 184, .ref 188, .ref 204, .ref 220, .ref 222, .ref 223, .ref 228, .ref 229, .ref 230, .int 0, .int 0, .int 0, .int (-1)])), n) 13 rfl [.int 1, .int 0, .int 6] [] (Nat.le_of_ble_eq_true rfl) rfl ?_ (fun _ => ?_)
          · refine Ev.mk rfl rfl ⟨Nat.le_of_ble_eq_true rfl, Or.inl rfl⟩ ?_
            show At _ none _ _ (0, [(0, .int 1), (1, .int 0), (2, .int 6)], [], ((hp_X ++ hp_M).set 0 (.inr (10, [.ref 1, .ref 58, .ref 173, .ref 174, .ref 176, .ref 184, .ref 188, .ref 204, .ref 220, .ref 222, .ref 223, .ref 228, .ref 229, .ref 230, .int 0, .int 0, .int 0, .int (-1)])), n)) _
            refine At.enter rfl ?_
            refine r_iload_n rfl ?_
            refine r_iload_n rfl ?_
            refine r_icf 5 rfl (by decide) ?_
            refine At.enter rfl ?_
            refine r_iload_n rfl ?_
            refine r_iload_n rfl ?_
            refine r_icf 10 rfl (by decide) ?_
            refine At.enter rfl ?_
            refine r_iconst 1 rfl ?_
            refine r_goto ?_
            refine At.enter rfl ?_
            refine r_iretz (by decide) ?_
            exact ⟨trivial, rfl, rfl⟩
          refine At.enter rfl ?_
          refine r_iff 16 rfl (by decide) ?_
          refine At.enter rfl ?_
          refine r_aload_n rfl ?_
          refine r_get (v := .ref 230) (en_gs_eq hx_0) rfl ?_
          refine r_iload_n rfl ?_
          refine r_ineg 1 rfl ?_
          refine r_dup2 ⟨rfl, rfl⟩ ?_
          refine r_iald (v := 0) (en_gs_ne (by decide) hx_230) (by decide) rfl ?_
          refine r_iconst 1 rfl ?_
          refine r_iadd 1 rfl ?_
          refine r_iast (en_gs_ne (by decide) hx_230) (by decide) (Nat.le_of_ble_eq_true rfl) ([0, 1, 0, 0, 0, 0, 0]) (by decide +kernel) ?_
          refine Ar.fall 27 rfl ?_
          refine At.enter rfl ?_
          refine r_iload_n rfl ?_
          refine r_ireti ?_
          exact ⟨trivial, rfl, rfl⟩
        refine At.enter rfl ?_
        refine r_ireti ?_
        exact ⟨congrArg (fun z => some (Value.int z)) (by unfold sp_terms; (repeat' split) <;> first | rfl | omega), (IsX.set (IsX.set IsX.base (by decide)) (by decide)), rfl⟩
      · have c8_ : (a1).toInt = (1) := (by have z := en_i_ne_f c8; (try simp only [Int32.toInt_toInt64] at z); exact z)
        exfalso; omega
    · refine At.enter rfl ?_
      refine r_iff 14 rfl (by decide) ?_
      refine At.enter rfl ?_
      refine r_aload_n rfl ?_
      refine r_get (v := .ref 1) hx_0 rfl ?_
      refine r_get (v := .int 60) hx_1 rfl ?_
      refine r_istore_n ([(3, .int 60), (0, .ref 0), (1, .int a1), (2, .int a2)]) rfl ?_
      refine r_aload_n rfl ?_
      refine r_get (v := .ref 1) hx_0 rfl ?_
      refine r_iload_n rfl ?_
      refine r_putf hx_1 (Nat.le_of_ble_eq_true rfl) rfl [.int 0, .ref 2, .ref 3, .ref 4, .int 0, .ref 5, .int 0, .ref 6, .ref 7, .int (-1), .int a2, .int 2, .int 0, .ref 14, .ref 15] rfl ?_
      refine r_goto ?_
      refine At.enter rfl ?_
      refine r_aload_n rfl ?_
      refine r_callV1v (True)  ((((((hp_X ++ hp_M).set 1 (.inr (0, [.int 0, .ref 2, .ref 3, .ref 4, .int 0, .ref 5, .int 0, .ref 6, .ref 7, .int (-1), .int a2, .int 2, .int 0, .ref 14, .ref 15]))).set 0 (.inr (10, [.ref 1, .ref 58, .ref 173, .ref 174, .ref 176, .ref 184, .ref 188, .ref 204, .ref 220, .ref 222, .ref 223, .ref 228, .ref 229, .ref 230, .int 0, .int 0, .int 0, .int 0]))).set 220 (.inr (7, [.ref 1, .ref 204, .int (-1), .int 0, .int 0, .ref 221]))).set 222 (.inr (6, [.ref 1, .ref 204, .int 0, .int 0, .int 0, .int 0]))).set 223 (.inr (2, [.ref 1, .ref 185, .ref 224, .ref 225, .ref 226, .int 0, .int 0, .int 0, .int 0, .int 0, .int 0, .int 0, .ref 227])), n) 76 rfl [.ref 0] [] (Nat.le_of_ble_eq_true rfl) rfl ?_ (fun _ => ?_)
      · refine Ev.mk rfl rfl ⟨Nat.le_of_ble_eq_true rfl, Or.inr (en_rcI (en_gs_ne (by decide) hx_0) rfl)⟩ ?_
        show At _ none _ _ (0, [(0, .ref 0)], [], ((hp_X ++ hp_M).set 1 (.inr (0, [.int 0, .ref 2, .ref 3, .ref 4, .int 0, .ref 5, .int 0, .ref 6, .ref 7, .int (-1), .int a2, .int 2, .int 0, .ref 14, .ref 15])), n)) _
        refine At.enter rfl ?_
        refine r_aload_n rfl ?_
        refine r_iconst 0 rfl ?_
        refine r_putf (en_gs_ne (by decide) hx_0) (Nat.le_of_ble_eq_true rfl) rfl [.ref 1, .ref 58, .ref 173, .ref 174, .ref 176, .ref 184, .ref 188, .ref 204, .ref 220, .ref 222, .ref 223, .ref 228, .ref 229, .ref 230, .int 0, .int 0, .int 0, .int 0] rfl ?_
        refine r_aload_n rfl ?_
        refine r_get (v := .ref 220) (en_gs_eq (en_gs_ne (by decide) hx_0)) rfl ?_
        refine r_callV1v (True)  ((((hp_X ++ hp_M).set 1 (.inr (0, [.int 0, .ref 2, .ref 3, .ref 4, .int 0, .ref 5, .int 0, .ref 6, .ref 7, .int (-1), .int a2, .int 2, .int 0, .ref 14, .ref 15]))).set 0 (.inr (10, [.ref 1, .ref 58, .ref 173, .ref 174, .ref 176, .ref 184, .ref 188, .ref 204, .ref 220, .ref 222, .ref 223, .ref 228, .ref 229, .ref 230, .int 0, .int 0, .int 0, .int 0]))).set 220 (.inr (7, [.ref 1, .ref 204, .int (-1), .int 0, .int 0, .ref 221])), n) 12 rfl [.ref 220] [] (Nat.le_of_ble_eq_true rfl) rfl ?_ (fun _ => ?_)
        · refine Ev.mk rfl rfl ⟨Nat.le_of_ble_eq_true rfl, Or.inr (en_rcI (en_gs_ne (by decide) (en_gs_ne (by decide) hx_220)) rfl)⟩ ?_
          show At _ none _ _ (0, [(0, .ref 220)], [], (((hp_X ++ hp_M).set 1 (.inr (0, [.int 0, .ref 2, .ref 3, .ref 4, .int 0, .ref 5, .int 0, .ref 6, .ref 7, .int (-1), .int a2, .int 2, .int 0, .ref 14, .ref 15]))).set 0 (.inr (10, [.ref 1, .ref 58, .ref 173, .ref 174, .ref 176, .ref 184, .ref 188, .ref 204, .ref 220, .ref 222, .ref 223, .ref 228, .ref 229, .ref 230, .int 0, .int 0, .int 0, .int 0])), n)) _
          refine At.enter rfl ?_
          refine r_aload_n rfl ?_
          refine r_iconst (-1) rfl ?_
          refine r_putf (en_gs_ne (by decide) (en_gs_ne (by decide) hx_220)) (Nat.le_of_ble_eq_true rfl) rfl [.ref 1, .ref 204, .int (-1), .int 0, .int 0, .ref 221] rfl ?_
          refine r_vret ?_
          exact ⟨trivial, rfl, rfl⟩
        refine At.enter rfl ?_
        refine r_aload_n rfl ?_
        refine r_get (v := .ref 222) (en_gs_ne (by decide) (en_gs_eq (en_gs_ne (by decide) hx_0))) rfl ?_
        refine r_callV1v (True)  (((((hp_X ++ hp_M).set 1 (.inr (0, [.int 0, .ref 2, .ref 3, .ref 4, .int 0, .ref 5, .int 0, .ref 6, .ref 7, .int (-1), .int a2, .int 2, .int 0, .ref 14, .ref 15]))).set 0 (.inr (10, [.ref 1, .ref 58, .ref 173, .ref 174, .ref 176, .ref 184, .ref 188, .ref 204, .ref 220, .ref 222, .ref 223, .ref 228, .ref 229, .ref 230, .int 0, .int 0, .int 0, .int 0]))).set 220 (.inr (7, [.ref 1, .ref 204, .int (-1), .int 0, .int 0, .ref 221]))).set 222 (.inr (6, [.ref 1, .ref 204, .int 0, .int 0, .int 0, .int 0])), n) 19 rfl [.ref 222] [] (Nat.le_of_ble_eq_true rfl) rfl ?_ (fun _ => ?_)
        · refine Ev.mk rfl rfl ⟨Nat.le_of_ble_eq_true rfl, Or.inr (en_rcI (en_gs_ne (by decide) (en_gs_ne (by decide) (en_gs_ne (by decide) hx_222))) rfl)⟩ ?_
          show At _ none _ _ (0, [(0, .ref 222)], [], ((((hp_X ++ hp_M).set 1 (.inr (0, [.int 0, .ref 2, .ref 3, .ref 4, .int 0, .ref 5, .int 0, .ref 6, .ref 7, .int (-1), .int a2, .int 2, .int 0, .ref 14, .ref 15]))).set 0 (.inr (10, [.ref 1, .ref 58, .ref 173, .ref 174, .ref 176, .ref 184, .ref 188, .ref 204, .ref 220, .ref 222, .ref 223, .ref 228, .ref 229, .ref 230, .int 0, .int 0, .int 0, .int 0]))).set 220 (.inr (7, [.ref 1, .ref 204, .int (-1), .int 0, .int 0, .ref 221])), n)) _
          refine At.enter rfl ?_
          refine r_aload_n rfl ?_
          refine r_iconst 0 rfl ?_
          refine r_putf (en_gs_ne (by decide) (en_gs_ne (by decide) (en_gs_ne (by decide) hx_222))) (Nat.le_of_ble_eq_true rfl) rfl [.ref 1, .ref 204, .int 0, .int 0, .int 0, .int 0] rfl ?_
          refine r_vret ?_
          exact ⟨trivial, rfl, rfl⟩
        refine At.enter rfl ?_
        refine r_aload_n rfl ?_
        refine r_get (v := .ref 223) (en_gs_ne (by decide) (en_gs_ne (by decide) (en_gs_eq (en_gs_ne (by decide) hx_0)))) rfl ?_
        refine r_callV1v (True)  ((((((hp_X ++ hp_M).set 1 (.inr (0, [.int 0, .ref 2, .ref 3, .ref 4, .int 0, .ref 5, .int 0, .ref 6, .ref 7, .int (-1), .int a2, .int 2, .int 0, .ref 14, .ref 15]))).set 0 (.inr (10, [.ref 1, .ref 58, .ref 173, .ref 174, .ref 176, .ref 184, .ref 188, .ref 204, .ref 220, .ref 222, .ref 223, .ref 228, .ref 229, .ref 230, .int 0, .int 0, .int 0, .int 0]))).set 220 (.inr (7, [.ref 1, .ref 204, .int (-1), .int 0, .int 0, .ref 221]))).set 222 (.inr (6, [.ref 1, .ref 204, .int 0, .int 0, .int 0, .int 0]))).set 223 (.inr (2, [.ref 1, .ref 185, .ref 224, .ref 225, .ref 226, .int 0, .int 0, .int 0, .int 0, .int 0, .int 0, .int 0, .ref 227])), n) 26 rfl [.ref 223] [] (Nat.le_of_ble_eq_true rfl) rfl ?_ (fun _ => ?_)
        · refine Ev.mk rfl rfl ⟨Nat.le_of_ble_eq_true rfl, Or.inr (en_rcI (en_gs_ne (by decide) (en_gs_ne (by decide) (en_gs_ne (by decide) (en_gs_ne (by decide) hx_223)))) rfl)⟩ ?_
          show At _ none _ _ (0, [(0, .ref 223)], [], (((((hp_X ++ hp_M).set 1 (.inr (0, [.int 0, .ref 2, .ref 3, .ref 4, .int 0, .ref 5, .int 0, .ref 6, .ref 7, .int (-1), .int a2, .int 2, .int 0, .ref 14, .ref 15]))).set 0 (.inr (10, [.ref 1, .ref 58, .ref 173, .ref 174, .ref 176, .ref 184, .ref 188, .ref 204, .ref 220, .ref 222, .ref 223, .ref 228, .ref 229, .ref 230, .int 0, .int 0, .int 0, .int 0]))).set 220 (.inr (7, [.ref 1, .ref 204, .int (-1), .int 0, .int 0, .ref 221]))).set 222 (.inr (6, [.ref 1, .ref 204, .int 0, .int 0, .int 0, .int 0])), n)) _
          refine At.enter rfl ?_
          refine r_aload_n rfl ?_
          refine r_iconst 0 rfl ?_
          refine r_putf (en_gs_ne (by decide) (en_gs_ne (by decide) (en_gs_ne (by decide) (en_gs_ne (by decide) hx_223)))) (Nat.le_of_ble_eq_true rfl) rfl [.ref 1, .ref 185, .ref 224, .ref 225, .ref 226, .int 0, .int 0, .int 0, .int 0, .int 0, .int 0, .int 0, .ref 227] rfl ?_
          refine r_aload_n rfl ?_
          refine r_iconst 0 rfl ?_
          refine r_putf (en_gs_eq (en_gs_ne (by decide) (en_gs_ne (by decide) (en_gs_ne (by decide) (en_gs_ne (by decide) hx_223))))) (Nat.le_of_ble_eq_true rfl) rfl [.ref 1, .ref 185, .ref 224, .ref 225, .ref 226, .int 0, .int 0, .int 0, .int 0, .int 0, .int 0, .int 0, .ref 227] rfl ?_
          refine Ar.hp en_sd0 ?_
          refine r_vret ?_
          exact ⟨trivial, rfl, rfl⟩
        refine At.enter rfl ?_
        refine r_vret ?_
        exact ⟨trivial, rfl, rfl⟩
      refine At.enter rfl ?_
      refine r_aload_n rfl ?_
      refine r_iload_n rfl ?_
      refine r_callV1s (True) (.int 60) ((((((hp_X ++ hp_M).set 1 (.inr (0, [.int 0, .ref 2, .ref 3, .ref 4, .int 0, .ref 5, .int 0, .ref 6, .ref 7, .int (-1), .int a2, .int 2, .int 0, .ref 14, .ref 15]))).set 0 (.inr (10, [.ref 1, .ref 58, .ref 173, .ref 174, .ref 176, .ref 184, .ref 188, .ref 204, .ref 220, .ref 222, .ref 223, .ref 228, .ref 229, .ref 230, .int 0, .int 0, .int 0, .int 0]))).set 220 (.inr (7, [.ref 1, .ref 204, .int (-1), .int 0, .int 0, .ref 221]))).set 222 (.inr (6, [.ref 1, .ref 204, .int 0, .int 0, .int 0, .int 0]))).set 223 (.inr (2, [.ref 1, .ref 185, .ref 224, .ref 225, .ref 226, .int 0, .int 0, .int 0, .int 0, .int 0, .int 0, .int 0, .ref 227])), n) 81 rfl [.ref 0, .int 60] [] (Nat.le_of_ble_eq_true rfl) rfl ?_ (fun _ => ?_)
      · refine Ev.mk rfl rfl ⟨Nat.le_of_ble_eq_true rfl, Or.inr (en_rcI (en_gs_ne (by decide) (en_gs_ne (by decide) (en_gs_ne (by decide) (en_gs_eq (en_gs_ne (by decide) hx_0))))) rfl)⟩ ?_
        show At _ none _ _ (0, [(0, .ref 0), (1, .int 60)], [], ((((((hp_X ++ hp_M).set 1 (.inr (0, [.int 0, .ref 2, .ref 3, .ref 4, .int 0, .ref 5, .int 0, .ref 6, .ref 7, .int (-1), .int a2, .int 2, .int 0, .ref 14, .ref 15]))).set 0 (.inr (10, [.ref 1, .ref 58, .ref 173, .ref 174, .ref 176, .ref 184, .ref 188, .ref 204, .ref 220, .ref 222, .ref 223, .ref 228, .ref 229, .ref 230, .int 0, .int 0, .int 0, .int 0]))).set 220 (.inr (7, [.ref 1, .ref 204, .int (-1), .int 0, .int 0, .ref 221]))).set 222 (.inr (6, [.ref 1, .ref 204, .int 0, .int 0, .int 0, .int 0]))).set 223 (.inr (2, [.ref 1, .ref 185, .ref 224, .ref 225, .ref 226, .int 0, .int 0, .int 0, .int 0, .int 0, .int 0, .int 0, .ref 227])), n)) _
        refine At.enter rfl ?_
        refine r_aload_n rfl ?_
        refine r_iconst 0 rfl ?_
        refine r_putf (en_gs_ne (by decide) (en_gs_ne (by decide) (en_gs_ne (by decide) (en_gs_eq (en_gs_ne (by decide) hx_0))))) (Nat.le_of_ble_eq_true rfl) rfl [.ref 1, .ref 58, .ref 173, .ref 174, .ref 176, .ref 184, .ref 188, .ref 204, .ref 220, .ref 222, .ref 223, .ref 228, .ref 229, .ref 230, .int 0, .int 0, .int 0, .int 0] rfl ?_
        refine Ar.hp (en_sdS (by decide) (en_sdS (by decide) (en_sdS (by decide) en_sd0))) ?_
        refine r_iload_n rfl ?_
        refine r_ireti ?_
        exact ⟨trivial, rfl, rfl⟩
      refine At.enter rfl ?_
      refine r_ireti ?_
      exact ⟨congrArg (fun z => some (Value.int z)) (by unfold sp_terms; (repeat' split) <;> first | rfl | omega), (IsX.set (IsX.set (IsX.set (IsX.set (IsX.set IsX.base (by decide)) (by decide)) (by decide)) (by decide)) (by decide)), rfl⟩
set_option maxRecDepth 100000 in
set_option maxHeartbeats 4000000 in
theorem zm_X11_terms (a : Nat → en_E) (n : Nat) (a1 : Int32) (a2 : Int32) : Ev 14 181 [.ref 231, .int a1, .int a2] (en_pre a 231 hp_M, n) (fun r h' => r = some (.int (sp_terms a1 a2)) ∧ h'.1.length = 259 ∧ h'.2 = n) := by
  refine Ev.mk rfl rfl ⟨Nat.le_of_ble_eq_true rfl, Or.inr (en_rcI (hm_231 _) rfl)⟩ ?_
  show At _ none _ _ (0, [(0, .ref 231), (1, .int a1), (2, .int a2)], [], (en_pre a 231 hp_M, n)) _
  refine At.enter rfl ?_
  refine r_aload_n rfl ?_
  refine r_iconst 0 rfl ?_
  refine r_putf (hm_231 _) (Nat.le_of_ble_eq_true rfl) rfl [.int 0, .int 0, .ref 232, .ref 233, .ref 234, .ref 235, .int 0, .ref 236, .int 0, .int 0, .int 0, .int 0, .long 0, .int (-1), .int 0, .int 0, .ref 237, .int 0, .ref 238, .ref 239, .int 0, .ref 240, .ref 241, .int 0, .int 0, .ref 242, .ref 243, .int 0, .ref 244, .ref 245, .int 0, .long 0, .long 0, .ref 246, .ref 247, .ref 248, .int 0, .ref 249, .ref 250, .ref 251, .ref 252, .ref 253, .ref 254, .ref 255, .ref 256, .int 0, .int 0, .int 0, .long 0, .ref 257, .ref 258, .int 0] rfl ?_
  refine r_iload_n rfl ?_
  refine r_ifs 9 rfl (fun c1 => ?_) (fun c1 => ?_)
  · have c1_ : (a1).toInt ≠ (0) := (by have z := en_k_ne_t c1; (try simp only [Int32.toInt_toInt64] at z); exact z)
    refine At.enter rfl ?_
    refine r_iload_n rfl ?_
    refine r_iconst 1 rfl ?_
    refine r_ics 26 rfl (fun c2 => ?_) (fun c2 => ?_)
    · have c2_ : (a1).toInt ≠ (1) := (by have z := en_i_ne_t c2; (try simp only [Int32.toInt_toInt64] at z); exact z)
      refine At.enter rfl ?_
      refine r_iconst 0 rfl ?_
      refine Ar.fall 43 rfl ?_
      refine At.enter rfl ?_
      refine r_istore_n ([(3, .int 0), (0, .ref 231), (1, .int a1), (2, .int a2)]) rfl ?_
      refine r_iload_n rfl ?_
      refine r_ift (by decide) ?_
      refine At.enter rfl ?_
      refine r_aload_n rfl ?_
      refine r_iconst (-1) rfl ?_
      refine r_callV1s (True) (.int (-1)) (((en_pre a 231 hp_M).set 231 (.inr (11, [.int 0, .int (-1), .ref 232, .ref 233, .ref 234, .ref 235, .int 0, .ref 236, .int 0, .int 0, .int 0, .int 0, .long 0, .int (-1), .int 0, .int 0, .ref 237, .int 0, .ref 238, .ref 239, .int 0, .ref 240, .ref 241, .int 0, .int 0, .ref 242, .ref 243, .int 0, .ref 244, .ref 245, .int 0, .long 0, .long 0, .ref 246, .ref 247, .ref 248, .int 0, .ref 249, .ref 250, .ref 251, .ref 252, .ref 253, .ref 254, .ref 255, .ref 256, .int 0, .int 0, .int 0, .long 0, .ref 257, .ref 258, .int 0]))).set 232 (.inl (0, .inl ([0, 1, 0, 0, 0, 0, 0]))), n) 64 rfl [.ref 231, .int (-1)] [] (Nat.le_of_ble_eq_true rfl) rfl ?_ (fun _ => ?_)
      · refine Ev.mk rfl rfl ⟨Nat.le_of_ble_eq_true rfl, Or.inr (en_rcI (en_gs_eq (hm_231 _)) rfl)⟩ ?_
        show At _ none _ _ (0, [(0, .ref 231), (1, .int (-1))], [], ((en_pre a 231 hp_M).set 231 (.inr (11, [.int 0, .int 0, .ref 232, .ref 233, .ref 234, .ref 235, .int 0, .ref 236, .int 0, .int 0, .int 0, .int 0, .long 0, .int (-1), .int 0, .int 0, .ref 237, .int 0, .ref 238, .ref 239, .int 0, .ref 240, .ref 241, .int 0, .int 0, .ref 242, .ref 243, .int 0, .ref 244, .ref 245, .int 0, .long 0, .long 0, .ref 246, .ref 247, .ref 248, .int 0, .ref 249, .ref 250, .ref 251, .ref 252, .ref 253, .ref 254, .ref 255, .ref 256, .int 0, .int 0, .int 0, .long 0, .ref 257, .ref 258, .int 0])), n)) _
        refine At.enter rfl ?_
        refine r_aload_n rfl ?_
        refine r_iload_n rfl ?_
        refine r_iff 5 rfl (by decide) ?_
        refine At.enter rfl ?_
        refine r_iload_n rfl ?_
        refine r_goto ?_
        refine At.enter rfl ?_
        refine r_putf (en_gs_eq (hm_231 _)) (Nat.le_of_ble_eq_true rfl) rfl [.int 0, .int (-1), .ref 232, .ref 233, .ref 234, .ref 235, .int 0, .ref 236, .int 0, .int 0, .int 0, .int 0, .long 0, .int (-1), .int 0, .int 0, .ref 237, .int 0, .ref 238, .ref 239, .int 0, .ref 240, .ref 241, .int 0, .int 0, .ref 242, .ref 243, .int 0, .ref 244, .ref 245, .int 0, .long 0, .long 0, .ref 246, .ref 247, .ref 248, .int 0, .ref 249, .ref 250, .ref 251, .ref 252, .ref 253, .ref 254, .ref 255, .ref 256, .int 0, .int 0, .int 0, .long 0, .ref 257, .ref 258, .int 0] rfl ?_
        refine Ar.hp en_sd0 ?_
        refine r_iload_n rfl ?_
        refine r_iff 17 rfl (by decide) ?_
        refine At.enter rfl ?_
        refine r_aload_n rfl ?_
        refine r_get (v := .ref 232) (en_gs_eq (hm_231 _)) rfl ?_
        refine r_iload_n rfl ?_
        refine r_ineg 1 rfl ?_
        refine r_dup2 ⟨rfl, rfl⟩ ?_
        refine r_iald (v := 0) (en_gs_ne (by decide) (hm_232 _)) (by decide) rfl ?_
        refine r_iconst 1 rfl ?_
        refine r_iadd 1 rfl ?_
        refine r_iast (en_gs_ne (by decide) (hm_232 _)) (by decide) (Nat.le_of_ble_eq_true rfl) ([0, 1, 0, 0, 0, 0, 0]) (by decide +kernel) ?_
        refine Ar.fall 28 rfl ?_
        refine At.enter rfl ?_
        refine r_iload_n rfl ?_
        refine r_ireti ?_
        exact ⟨trivial, rfl, rfl⟩
      refine At.enter rfl ?_
      refine r_ireti ?_
      exact ⟨congrArg (fun z => some (Value.int z)) (by unfold sp_terms; (repeat' split) <;> first | rfl | omega), (en_lset (en_lset (en_prel a))), rfl⟩
    · have c2_ : (a1).toInt = (1) := (by have z := en_i_ne_f c2; (try simp only [Int32.toInt_toInt64] at z); exact z)
      refine At.enter rfl ?_
      refine r_iload_n rfl ?_
      refine r_i2l ((a2).toInt64) rfl ?_
      refine r_lconst 1 rfl ?_
      refine r_ldc2 4 rfl ?_
      refine r_callS3s (((a2).toInt < (1))) (((a2).toInt ≥ (1)) ∧ ((a2).toInt > (4))) (((a2).toInt ≥ (1)) ∧ ((a2).toInt ≤ (4))) (.int 0) (.int 0) (.int 1) ((en_pre a 231 hp_M).set 231 (.inr (11, [.int 0, .int 0, .ref 232, .ref 233, .ref 234, .ref 235, .int 0, .ref 236, .int 0, .int 0, .int 0, .int 0, .long 0, .int (-1), .int 0, .int 0, .ref 237, .int 0, .ref 238, .ref 239, .int 0, .ref 240, .ref 241, .int 0, .int 0, .ref 242, .ref 243, .int 0, .ref 244, .ref 245, .int 0, .long 0, .long 0, .ref 246, .ref 247, .ref 248, .int 0, .ref 249, .ref 250, .ref 251, .ref 252, .ref 253, .ref 254, .ref 255, .ref 256, .int 0, .int 0, .int 0, .long 0, .ref 257, .ref 258, .int 0])), n) ((en_pre a 231 hp_M).set 231 (.inr (11, [.int 0, .int 0, .ref 232, .ref 233, .ref 234, .ref 235, .int 0, .ref 236, .int 0, .int 0, .int 0, .int 0, .long 0, .int (-1), .int 0, .int 0, .ref 237, .int 0, .ref 238, .ref 239, .int 0, .ref 240, .ref 241, .int 0, .int 0, .ref 242, .ref 243, .int 0, .ref 244, .ref 245, .int 0, .long 0, .long 0, .ref 246, .ref 247, .ref 248, .int 0, .ref 249, .ref 250, .ref 251, .ref 252, .ref 253, .ref 254, .ref 255, .ref 256, .int 0, .int 0, .int 0, .long 0, .ref 257, .ref 258, .int 0])), n) ((en_pre a 231 hp_M).set 231 (.inr (11, [.int 0, .int 0, .ref 232, .ref 233, .ref 234, .ref 235, .int 0, .ref 236, .int 0, .int 0, .int 0, .int 0, .long 0, .int (-1), .int 0, .int 0, .ref 237, .int 0, .ref 238, .ref 239, .int 0, .ref 240, .ref 241, .int 0, .int 0, .ref 242, .ref 243, .int 0, .ref 244, .ref 245, .int 0, .long 0, .long 0, .ref 246, .ref 247, .ref 248, .int 0, .ref 249, .ref 250, .ref 251, .ref 252, .ref 253, .ref 254, .ref 255, .ref 256, .int 0, .int 0, .int 0, .long 0, .ref 257, .ref 258, .int 0])), n) 35 rfl [.long (a2).toInt64, .long 1, .long 4] [] (Nat.le_of_ble_eq_true rfl) rfl ?_ (fun c3_ => ?_) (fun ⟨c3_, c4_⟩ => ?_) (fun ⟨c3_, c4_⟩ => ?_)
      · refine Ev.mk rfl rfl ⟨Nat.le_of_ble_eq_true rfl, Or.inl rfl⟩ ?_
        show At _ none _ _ (0, [(0, .long (a2).toInt64), (2, .long 1), (4, .long 4)], [], ((en_pre a 231 hp_M).set 231 (.inr (11, [.int 0, .int 0, .ref 232, .ref 233, .ref 234, .ref 235, .int 0, .ref 236, .int 0, .int 0, .int 0, .int 0, .long 0, .int (-1), .int 0, .int 0, .ref 237, .int 0, .ref 238, .ref 239, .int 0, .ref 240, .ref 241, .int 0, .int 0, .ref 242, .ref 243, .int 0, .ref 244, .ref 245, .int 0, .long 0, .long 0, .ref 246, .ref 247, .ref 248, .int 0, .ref 249, .ref 250, .ref 251, .ref 252, .ref 253, .ref 254, .ref 255, .ref 256, .int 0, .int 0, .int 0, .long 0, .ref 257, .ref 258, .int 0])), n)) _
        refine At.enter rfl ?_
        refine r_lload_n rfl ?_
        refine r_lload_n rfl ?_
        refine r_lcmp (lg_cmp (a2).toInt64 1) rfl ?_
        refine r_ifs 6 rfl (fun c3 => ?_) (fun c3 => ?_)
        · have c3_ : (a2).toInt < (1) := (by have z := en_j_lt_t c3; (try simp only [Int32.toInt_toInt64] at z); exact z)
          refine At.enter rfl ?_
          refine r_iconst 0 rfl ?_
          refine Ar.fall 18 rfl ?_
          refine At.enter rfl ?_
          refine r_iretz (by decide) ?_
          exact Or.inl ⟨c3_, rfl, rfl⟩
        · have c3_ : (a2).toInt ≥ (1) := (by have z := en_j_lt_f c3; (try simp only [Int32.toInt_toInt64] at z); exact z)
          refine At.enter rfl ?_
          refine r_lload_n rfl ?_
          refine r_lload rfl ?_
          refine r_lcmp (lg_cmp (a2).toInt64 4) rfl ?_
          refine r_ifs 13 rfl (fun c4 => ?_) (fun c4 => ?_)
          · have c4_ : (a2).toInt > (4) := (by have z := en_j_gt_t c4; (try simp only [Int32.toInt_toInt64] at z); exact z)
            refine At.enter rfl ?_
            refine r_iconst 0 rfl ?_
            refine Ar.fall 18 rfl ?_
            refine At.enter rfl ?_
            refine r_iretz (by decide) ?_
            exact Or.inr (Or.inl ⟨⟨c3_, c4_⟩, rfl, rfl⟩)
          · have c4_ : (a2).toInt ≤ (4) := (by have z := en_j_gt_f c4; (try simp only [Int32.toInt_toInt64] at z); exact z)
            refine At.enter rfl ?_
            refine r_iconst 1 rfl ?_
            refine r_goto ?_
            refine At.enter rfl ?_
            refine r_iretz (by decide) ?_
            exact Or.inr (Or.inr (⟨⟨c3_, c4_⟩, rfl, rfl⟩))
      · refine At.enter rfl ?_
        refine r_ift (by decide) ?_
        refine At.enter rfl ?_
        refine r_iconst 0 rfl ?_
        refine Ar.fall 43 rfl ?_
        refine At.enter rfl ?_
        refine r_istore_n ([(3, .int 0), (0, .ref 231), (1, .int a1), (2, .int a2)]) rfl ?_
        refine r_iload_n rfl ?_
        refine r_ift (by decide) ?_
        refine At.enter rfl ?_
        refine r_aload_n rfl ?_
        refine r_iconst (-1) rfl ?_
        refine r_callV1s (True) (.int (-1)) (((en_pre a 231 hp_M).set 231 (.inr (11, [.int 0, .int (-1), .ref 232, .ref 233, .ref 234, .ref 235, .int 0, .ref 236, .int 0, .int 0, .int 0, .int 0, .long 0, .int (-1), .int 0, .int 0, .ref 237, .int 0, .ref 238, .ref 239, .int 0, .ref 240, .ref 241, .int 0, .int 0, .ref 242, .ref 243, .int 0, .ref 244, .ref 245, .int 0, .long 0, .long 0, .ref 246, .ref 247, .ref 248, .int 0, .ref 249, .ref 250, .ref 251, .ref 252, .ref 253, .ref 254, .ref 255, .ref 256, .int 0, .int 0, .int 0, .long 0, .ref 257, .ref 258, .int 0]))).set 232 (.inl (0, .inl ([0, 1, 0, 0, 0, 0, 0]))), n) 64 rfl [.ref 231, .int (-1)] [] (Nat.le_of_ble_eq_true rfl) rfl ?_ (fun _ => ?_)
        · refine Ev.mk rfl rfl ⟨Nat.le_of_ble_eq_true rfl, Or.inr (en_rcI (en_gs_eq (hm_231 _)) rfl)⟩ ?_
          show At _ none _ _ (0, [(0, .ref 231), (1, .int (-1))], [], ((en_pre a 231 hp_M).set 231 (.inr (11, [.int 0, .int 0, .ref 232, .ref 233, .ref 234, .ref 235, .int 0, .ref 236, .int 0, .int 0, .int 0, .int 0, .long 0, .int (-1), .int 0, .int 0, .ref 237, .int 0, .ref 238, .ref 239, .int 0, .ref 240, .ref 241, .int 0, .int 0, .ref 242, .ref 243, .int 0, .ref 244, .ref 245, .int 0, .long 0, .long 0, .ref 246, .ref 247, .ref 248, .int 0, .ref 249, .ref 250, .ref 251, .ref 252, .ref 253, .ref 254, .ref 255, .ref 256, .int 0, .int 0, .int 0, .long 0, .ref 257, .ref 258, .int 0])), n)) _
          refine At.enter rfl ?_
          refine r_aload_n rfl ?_
          refine r_iload_n rfl ?_
          refine r_iff 5 rfl (by decide) ?_
          refine At.enter rfl ?_
          refine r_iload_n rfl ?_
          refine r_goto ?_
          refine At.enter rfl ?_
          refine r_putf (en_gs_eq (hm_231 _)) (Nat.le_of_ble_eq_true rfl) rfl [.int 0, .int (-1), .ref 232, .ref 233, .ref 234, .ref 235, .int 0, .ref 236, .int 0, .int 0, .int 0, .int 0, .long 0, .int (-1), .int 0, .int 0, .ref 237, .int 0, .ref 238, .ref 239, .int 0, .ref 240, .ref 241, .int 0, .int 0, .ref 242, .ref 243, .int 0, .ref 244, .ref 245, .int 0, .long 0, .long 0, .ref 246, .ref 247, .ref 248, .int 0, .ref 249, .ref 250, .ref 251, .ref 252, .ref 253, .ref 254, .ref 255, .ref 256, .int 0, .int 0, .int 0, .long 0, .ref 257, .ref 258, .int 0] rfl ?_
          refine Ar.hp en_sd0 ?_
          refine r_iload_n rfl ?_
          refine r_iff 17 rfl (by decide) ?_
          refine At.enter rfl ?_
          refine r_aload_n rfl ?_
          refine r_get (v := .ref 232) (en_gs_eq (hm_231 _)) rfl ?_
          refine r_iload_n rfl ?_
          refine r_ineg 1 rfl ?_
          refine r_dup2 ⟨rfl, rfl⟩ ?_
          refine r_iald (v := 0) (en_gs_ne (by decide) (hm_232 _)) (by decide) rfl ?_
          refine r_iconst 1 rfl ?_
          refine r_iadd 1 rfl ?_
          refine r_iast (en_gs_ne (by decide) (hm_232 _)) (by decide) (Nat.le_of_ble_eq_true rfl) ([0, 1, 0, 0, 0, 0, 0]) (by decide +kernel) ?_
          refine Ar.fall 28 rfl ?_
          refine At.enter rfl ?_
          refine r_iload_n rfl ?_
          refine r_ireti ?_
          exact ⟨trivial, rfl, rfl⟩
        refine At.enter rfl ?_
        refine r_ireti ?_
        exact ⟨congrArg (fun z => some (Value.int z)) (by unfold sp_terms; (repeat' split) <;> first | rfl | omega), (en_lset (en_lset (en_prel a))), rfl⟩
      · refine At.enter rfl ?_
        refine r_ift (by decide) ?_
        refine At.enter rfl ?_
        refine r_iconst 0 rfl ?_
        refine Ar.fall 43 rfl ?_
        refine At.enter rfl ?_
        refine r_istore_n ([(3, .int 0), (0, .ref 231), (1, .int a1), (2, .int a2)]) rfl ?_
        refine r_iload_n rfl ?_
        refine r_ift (by decide) ?_
        refine At.enter rfl ?_
        refine r_aload_n rfl ?_
        refine r_iconst (-1) rfl ?_
        refine r_callV1s (True) (.int (-1)) (((en_pre a 231 hp_M).set 231 (.inr (11, [.int 0, .int (-1), .ref 232, .ref 233, .ref 234, .ref 235, .int 0, .ref 236, .int 0, .int 0, .int 0, .int 0, .long 0, .int (-1), .int 0, .int 0, .ref 237, .int 0, .ref 238, .ref 239, .int 0, .ref 240, .ref 241, .int 0, .int 0, .ref 242, .ref 243, .int 0, .ref 244, .ref 245, .int 0, .long 0, .long 0, .ref 246, .ref 247, .ref 248, .int 0, .ref 249, .ref 250, .ref 251, .ref 252, .ref 253, .ref 254, .ref 255, .ref 256, .int 0, .int 0, .int 0, .long 0, .ref 257, .ref 258, .int 0]))).set 232 (.inl (0, .inl ([0, 1, 0, 0, 0, 0, 0]))), n) 64 rfl [.ref 231, .int (-1)] [] (Nat.le_of_ble_eq_true rfl) rfl ?_ (fun _ => ?_)
        · refine Ev.mk rfl rfl ⟨Nat.le_of_ble_eq_true rfl, Or.inr (en_rcI (en_gs_eq (hm_231 _)) rfl)⟩ ?_
          show At _ none _ _ (0, [(0, .ref 231), (1, .int (-1))], [], ((en_pre a 231 hp_M).set 231 (.inr (11, [.int 0, .int 0, .ref 232, .ref 233, .ref 234, .ref 235, .int 0, .ref 236, .int 0, .int 0, .int 0, .int 0, .long 0, .int (-1), .int 0, .int 0, .ref 237, .int 0, .ref 238, .ref 239, .int 0, .ref 240, .ref 241, .int 0, .int 0, .ref 242, .ref 243, .int 0, .ref 244, .ref 245, .int 0, .long 0, .long 0, .ref 246, .ref 247, .ref 248, .int 0, .ref 249, .ref 250, .ref 251, .ref 252, .ref 253, .ref 254, .ref 255, .ref 256, .int 0, .int 0, .int 0, .long 0, .ref 257, .ref 258, .int 0])), n)) _
          refine At.enter rfl ?_
          refine r_aload_n rfl ?_
          refine r_iload_n rfl ?_
          refine r_iff 5 rfl (by decide) ?_
          refine At.enter rfl ?_
          refine r_iload_n rfl ?_
          refine r_goto ?_
          refine At.enter rfl ?_
          refine r_putf (en_gs_eq (hm_231 _)) (Nat.le_of_ble_eq_true rfl) rfl [.int 0, .int (-1), .ref 232, .ref 233, .ref 234, .ref 235, .int 0, .ref 236, .int 0, .int 0, .int 0, .int 0, .long 0, .int (-1), .int 0, .int 0, .ref 237, .int 0, .ref 238, .ref 239, .int 0, .ref 240, .ref 241, .int 0, .int 0, .ref 242, .ref 243, .int 0, .ref 244, .ref 245, .int 0, .long 0, .long 0, .ref 246, .ref 247, .ref 248, .int 0, .ref 249, .ref 250, .ref 251, .ref 252, .ref 253, .ref 254, .ref 255, .ref 256, .int 0, .int 0, .int 0, .long 0, .ref 257, .ref 258, .int 0] rfl ?_
          refine Ar.hp en_sd0 ?_
          refine r_iload_n rfl ?_
          refine r_iff 17 rfl (by decide) ?_
          refine At.enter rfl ?_
          refine r_aload_n rfl ?_
          refine r_get (v := .ref 232) (en_gs_eq (hm_231 _)) rfl ?_
          refine r_iload_n rfl ?_
          refine r_ineg 1 rfl ?_
          refine r_dup2 ⟨rfl, rfl⟩ ?_
          refine r_iald (v := 0) (en_gs_ne (by decide) (hm_232 _)) (by decide) rfl ?_
          refine r_iconst 1 rfl ?_
          refine r_iadd 1 rfl ?_
          refine r_iast (en_gs_ne (by decide) (hm_232 _)) (by decide) (Nat.le_of_ble_eq_true rfl) ([0, 1, 0, 0, 0, 0, 0]) (by decide +kernel) ?_
          refine Ar.fall 28 rfl ?_
          refine At.enter rfl ?_
          refine r_iload_n rfl ?_
          refine r_ireti ?_
          exact ⟨trivial, rfl, rfl⟩
        refine At.enter rfl ?_
        refine r_ireti ?_
        exact ⟨congrArg (fun z => some (Value.int z)) (by unfold sp_terms; (repeat' split) <;> first | rfl | omega), (en_lset (en_lset (en_prel a))), rfl⟩
      · refine At.enter rfl ?_
        refine r_iff 38 rfl (by decide) ?_
        refine At.enter rfl ?_
        refine r_iconst 1 rfl ?_
        refine r_goto ?_
        refine At.enter rfl ?_
        refine r_istore_n ([(3, .int 1), (0, .ref 231), (1, .int a1), (2, .int a2)]) rfl ?_
        refine r_iload_n rfl ?_
        refine r_iff 48 rfl (by decide) ?_
        refine At.enter rfl ?_
        refine r_aload_n rfl ?_
        refine r_iconst 5 rfl ?_
        refine r_iload_n rfl ?_
        refine r_iadd (5 + a1) rfl ?_
        refine r_iload_n rfl ?_
        refine r_callV1s (((a1).toInt = 1)) (.int 2) (((en_pre a 231 hp_M).set 231 (.inr (11, [.int 0, .int 0, .ref 232, .ref 233, .ref 234, .ref 235, .int 0, .ref 236, .int 0, .int 0, .int 0, .int 0, .long 0, .int (-1), .int 0, .int 0, .ref 237, .int 0, .ref 238, .ref 239, .int 0, .ref 240, .ref 241, .int 0, .int 0, .ref 242, .ref 243, .int 0, .ref 244, .ref 245, .int 0, .long 0, .long 0, .ref 246, .ref 247, .ref 248, .int 0, .ref 249, .ref 250, .ref 251, .ref 252, .ref 253, .ref 254, .ref 255, .ref 256, .int 0, .int 0, .int 0, .long 0, .ref 257, .ref 258, .int 0]))).set 233 (.inl (0, .inl ([0, 0, 0, (-1), 0, 60, a2] ++ List.replicate 5503 0))), n) 56 rfl [.ref 231, .int (5 + a1), .int a2] [] (Nat.le_of_ble_eq_true rfl) rfl ?_ (fun c5_1 => ?_)
        · refine Ev.mk rfl rfl ⟨Nat.le_of_ble_eq_true rfl, Or.inr (en_rcI (en_gs_eq (hm_231 _)) rfl)⟩ ?_
          show At _ none _ _ (0, [(0, .ref 231), (1, .int (5 + a1)), (2, .int a2)], [], ((en_pre a 231 hp_M).set 231 (.inr (11, [.int 0, .int 0, .ref 232, .ref 233, .ref 234, .ref 235, .int 0, .ref 236, .int 0, .int 0, .int 0, .int 0, .long 0, .int (-1), .int 0, .int 0, .ref 237, .int 0, .ref 238, .ref 239, .int 0, .ref 240, .ref 241, .int 0, .int 0, .ref 242, .ref 243, .int 0, .ref 244, .ref 245, .int 0, .long 0, .long 0, .ref 246, .ref 247, .ref 248, .int 0, .ref 249, .ref 250, .ref 251, .ref 252, .ref 253, .ref 254, .ref 255, .ref 256, .int 0, .int 0, .int 0, .long 0, .ref 257, .ref 258, .int 0])), n)) _
          refine At.enter rfl ?_
          refine r_aload_n rfl ?_
          refine r_get (v := .ref 233) (en_gs_eq (hm_231 _)) rfl ?_
          refine r_iload_n rfl ?_
          have c5_1 : (a1).toInt = 1 := by omega
          have c5_1_e : a1 = 1 := Int32.toInt_inj.mp c5_1
          subst c5_1_e
          refine r_iald (v := 2) (en_gs_ne (by decide) (hm_233 _)) (by decide) rfl ?_
          refine r_istore_n ([(3, .int 2), (0, .ref 231), (1, .int 6), (2, .int a2)]) rfl ?_
          refine r_aload_n rfl ?_
          refine r_get (v := .ref 233) (en_gs_eq (hm_231 _)) rfl ?_
          refine r_iload_n rfl ?_
          refine r_iload_n rfl ?_
          refine r_iast (en_gs_ne (by decide) (hm_233 _)) (by decide) (Nat.le_of_ble_eq_true rfl) ([0, 0, 0, (-1), 0, 60, a2] ++ List.replicate 5503 0) rfl ?_
          refine r_aload_n rfl ?_
          refine r_iload_n rfl ?_
          refine r_callV1s (True) (.int 2) (((en_pre a 231 hp_M).set 231 (.inr (11, [.int 0, .int 0, .ref 232, .ref 233, .ref 234, .ref 235, .int 0, .ref 236, .int 0, .int 0, .int 0, .int 0, .long 0, .int (-1), .int 0, .int 0, .ref 237, .int 0, .ref 238, .ref 239, .int 0, .ref 240, .ref 241, .int 0, .int 0, .ref 242, .ref 243, .int 0, .ref 244, .ref 245, .int 0, .long 0, .long 0, .ref 246, .ref 247, .ref 248, .int 0, .ref 249, .ref 250, .ref 251, .ref 252, .ref 253, .ref 254, .ref 255, .ref 256, .int 0, .int 0, .int 0, .long 0, .ref 257, .ref 258, .int 0]))).set 233 (.inl (0, .inl ([0, 0, 0, (-1), 0, 60, a2] ++ List.replicate 5503 0))), n) 19 rfl [.ref 231, .int 2] [] (Nat.le_of_ble_eq_true rfl) rfl ?_ (fun _ => ?_)
          · refine Ev.mk rfl rfl ⟨Nat.le_of_ble_eq_true rfl, Or.inr (en_rcI (en_gs_ne (by decide) (en_gs_eq (hm_231 _))) rfl)⟩ ?_
            show At _ none _ _ (0, [(0, .ref 231), (1, .int 2)], [], (((en_pre a 231 hp_M).set 231 (.inr (11, [.int 0, .int 0, .ref 232, .ref 233, .ref 234, .ref 235, .int 0, .ref 236, .int 0, .int 0, .int 0, .int 0, .long 0, .int (-1), .int 0, .int 0, .ref 237, .int 0, .ref 238, .ref 239, .int 0, .ref 240, .ref 241, .int 0, .int 0, .ref 242, .ref 243, .int 0, .ref 244, .ref 245, .int 0, .long 0, .long 0, .ref 246, .ref 247, .ref 248, .int 0, .ref 249, .ref 250, .ref 251, .ref 252, .ref 253, .ref 254, .ref 255, .ref 256, .int 0, .int 0, .int 0, .long 0, .ref 257, .ref 258, .int 0]))).set 233 (.inl (0, .inl ([0, 0, 0, (-1), 0, 60, a2] ++ List.replicate 5503 0))), n)) _
            refine At.enter rfl ?_
            refine r_aload_n rfl ?_
            refine r_iconst 0 rfl ?_
            refine r_putf (en_gs_ne (by decide) (en_gs_eq (hm_231 _))) (Nat.le_of_ble_eq_true rfl) rfl [.int 0, .int 0, .ref 232, .ref 233, .ref 234, .ref 235, .int 0, .ref 236, .int 0, .int 0, .int 0, .int 0, .long 0, .int (-1), .int 0, .int 0, .ref 237, .int 0, .ref 238, .ref 239, .int 0, .ref 240, .ref 241, .int 0, .int 0, .ref 242, .ref 243, .int 0, .ref 244, .ref 245, .int 0, .long 0, .long 0, .ref 246, .ref 247, .ref 248, .int 0, .ref 249, .ref 250, .ref 251, .ref 252, .ref 253, .ref 254, .ref 255, .ref 256, .int 0, .int 0, .int 0, .long 0, .ref 257, .ref 258, .int 0] rfl ?_
            refine Ar.hp (en_sdS (by decide) en_sd0) ?_
            refine r_iload_n rfl ?_
            refine r_ireti ?_
            exact ⟨trivial, rfl, rfl⟩
          refine At.enter rfl ?_
          refine r_ireti ?_
          exact ⟨c5_1, rfl, rfl⟩
        refine At.enter rfl ?_
        refine r_goto ?_
        refine At.enter rfl ?_
        refine r_ireti ?_
        exact ⟨congrArg (fun z => some (Value.int z)) (by unfold sp_terms; (repeat' split) <;> first | rfl | omega), (en_lset (en_lset (en_prel a))), rfl⟩
  · have c1_ : (a1).toInt = (0) := (by have z := en_k_ne_f c1; (try simp only [Int32.toInt_toInt64] at z); exact z)
    refine At.enter rfl ?_
    refine r_iload_n rfl ?_
    refine r_i2l ((a2).toInt64) rfl ?_
    refine r_lconst 0 rfl ?_
    refine r_ldc2 99 rfl ?_
    refine r_callS3s (((a2).toInt < (0))) (((a2).toInt ≥ (0)) ∧ ((a2).toInt > (99))) (((a2).toInt ≥ (0)) ∧ ((a2).toInt ≤ (99))) (.int 0) (.int 0) (.int 1) ((en_pre a 231 hp_M).set 231 (.inr (11, [.int 0, .int 0, .ref 232, .ref 233, .ref 234, .ref 235, .int 0, .ref 236, .int 0, .int 0, .int 0, .int 0, .long 0, .int (-1), .int 0, .int 0, .ref 237, .int 0, .ref 238, .ref 239, .int 0, .ref 240, .ref 241, .int 0, .int 0, .ref 242, .ref 243, .int 0, .ref 244, .ref 245, .int 0, .long 0, .long 0, .ref 246, .ref 247, .ref 248, .int 0, .ref 249, .ref 250, .ref 251, .ref 252, .ref 253, .ref 254, .ref 255, .ref 256, .int 0, .int 0, .int 0, .long 0, .ref 257, .ref 258, .int 0])), n) ((en_pre a 231 hp_M).set 231 (.inr (11, [.int 0, .int 0, .ref 232, .ref 233, .ref 234, .ref 235, .int 0, .ref 236, .int 0, .int 0, .int 0, .int 0, .long 0, .int (-1), .int 0, .int 0, .ref 237, .int 0, .ref 238, .ref 239, .int 0, .ref 240, .ref 241, .int 0, .int 0, .ref 242, .ref 243, .int 0, .ref 244, .ref 245, .int 0, .long 0, .long 0, .ref 246, .ref 247, .ref 248, .int 0, .ref 249, .ref 250, .ref 251, .ref 252, .ref 253, .ref 254, .ref 255, .ref 256, .int 0, .int 0, .int 0, .long 0, .ref 257, .ref 258, .int 0])), n) ((en_pre a 231 hp_M).set 231 (.inr (11, [.int 0, .int 0, .ref 232, .ref 233, .ref 234, .ref 235, .int 0, .ref 236, .int 0, .int 0, .int 0, .int 0, .long 0, .int (-1), .int 0, .int 0, .ref 237, .int 0, .ref 238, .ref 239, .int 0, .ref 240, .ref 241, .int 0, .int 0, .ref 242, .ref 243, .int 0, .ref 244, .ref 245, .int 0, .long 0, .long 0, .ref 246, .ref 247, .ref 248, .int 0, .ref 249, .ref 250, .ref 251, .ref 252, .ref 253, .ref 254, .ref 255, .ref 256, .int 0, .int 0, .int 0, .long 0, .ref 257, .ref 258, .int 0])), n) 18 rfl [.long (a2).toInt64, .long 0, .long 99] [] (Nat.le_of_ble_eq_true rfl) rfl ?_ (fun c6_ => ?_) (fun ⟨c6_, c7_⟩ => ?_) (fun ⟨c6_, c7_⟩ => ?_)
    · refine Ev.mk rfl rfl ⟨Nat.le_of_ble_eq_true rfl, Or.inl rfl⟩ ?_
      show At _ none _ _ (0, [(0, .long (a2).toInt64), (2, .long 0), (4, .long 99)], [], ((en_pre a 231 hp_M).set 231 (.inr (11, [.int 0, .int 0, .ref 232, .ref 233, .ref 234, .ref 235, .int 0, .ref 236, .int 0, .int 0, .int 0, .int 0, .long 0, .int (-1), .int 0, .int 0, .ref 237, .int 0, .ref 238, .ref 239, .int 0, .ref 240, .ref 241, .int 0, .int 0, .ref 242, .ref 243, .int 0, .ref 244, .ref 245, .int 0, .long 0, .long 0, .ref 246, .ref 247, .ref 248, .int 0, .ref 249, .ref 250, .ref 251, .ref 252, .ref 253, .ref 254, .ref 255, .ref 256, .int 0, .int 0, .int 0, .long 0, .ref 257, .ref 258, .int 0])), n)) _
      refine At.enter rfl ?_
      refine r_lload_n rfl ?_
      refine r_lload_n rfl ?_
      refine r_lcmp (lg_cmp (a2).toInt64 0) rfl ?_
      refine r_ifs 6 rfl (fun c6 => ?_) (fun c6 => ?_)
      · have c6_ : (a2).toInt < (0) := (by have z := en_j_lt_t c6; (try simp only [Int32.toInt_toInt64] at z); exact z)
        refine At.enter rfl ?_
        refine r_iconst 0 rfl ?_
        refine Ar.fall 18 rfl ?_
        refine At.enter rfl ?_
        refine r_iretz (by decide) ?_
        exact Or.inl ⟨c6_, rfl, rfl⟩
      · have c6_ : (a2).toInt ≥ (0) := (by have z := en_j_lt_f c6; (try simp only [Int32.toInt_toInt64] at z); exact z)
        refine At.enter rfl ?_
        refine r_lload_n rfl ?_
        refine r_lload rfl ?_
        refine r_lcmp (lg_cmp (a2).toInt64 99) rfl ?_
        refine r_ifs 13 rfl (fun c7 => ?_) (fun c7 => ?_)
        · have c7_ : (a2).toInt > (99) := (by have z := en_j_gt_t c7; (try simp only [Int32.toInt_toInt64] at z); exact z)
          refine At.enter rfl ?_
          refine r_iconst 0 rfl ?_
          refine Ar.fall 18 rfl ?_
          refine At.enter rfl ?_
          refine r_iretz (by decide) ?_
          exact Or.inr (Or.inl ⟨⟨c6_, c7_⟩, rfl, rfl⟩)
        · have c7_ : (a2).toInt ≤ (99) := (by have z := en_j_gt_f c7; (try simp only [Int32.toInt_toInt64] at z); exact z)
          refine At.enter rfl ?_
          refine r_iconst 1 rfl ?_
          refine r_goto ?_
          refine At.enter rfl ?_
          refine r_iretz (by decide) ?_
          exact Or.inr (Or.inr (⟨⟨c6_, c7_⟩, rfl, rfl⟩))
    · refine At.enter rfl ?_
      refine r_goto ?_
      refine At.enter rfl ?_
      refine r_istore_n ([(3, .int 0), (0, .ref 231), (1, .int a1), (2, .int a2)]) rfl ?_
      refine r_iload_n rfl ?_
      refine r_ift (by decide) ?_
      refine At.enter rfl ?_
      refine r_aload_n rfl ?_
      refine r_iconst (-1) rfl ?_
      refine r_callV1s (True) (.int (-1)) (((en_pre a 231 hp_M).set 231 (.inr (11, [.int 0, .int (-1), .ref 232, .ref 233, .ref 234, .ref 235, .int 0, .ref 236, .int 0, .int 0, .int 0, .int 0, .long 0, .int (-1), .int 0, .int 0, .ref 237, .int 0, .ref 238, .ref 239, .int 0, .ref 240, .ref 241, .int 0, .int 0, .ref 242, .ref 243, .int 0, .ref 244, .ref 245, .int 0, .long 0, .long 0, .ref 246, .ref 247, .ref 248, .int 0, .ref 249, .ref 250, .ref 251, .ref 252, .ref 253, .ref 254, .ref 255, .ref 256, .int 0, .int 0, .int 0, .long 0, .ref 257, .ref 258, .int 0]))).set 232 (.inl (0, .inl ([0, 1, 0, 0, 0, 0, 0]))), n) 64 rfl [.ref 231, .int (-1)] [] (Nat.le_of_ble_eq_true rfl) rfl ?_ (fun _ => ?_)
      · refine Ev.mk rfl rfl ⟨Nat.le_of_ble_eq_true rfl, Or.inr (en_rcI (en_gs_eq (hm_231 _)) rfl)⟩ ?_
        show At _ none _ _ (0, [(0, .ref 231), (1, .int (-1))], [], ((en_pre a 231 hp_M).set 231 (.inr (11, [.int 0, .int 0, .ref 232, .ref 233, .ref 234, .ref 235, .int 0, .ref 236, .int 0, .int 0, .int 0, .int 0, .long 0, .int (-1), .int 0, .int 0, .ref 237, .int 0, .ref 238, .ref 239, .int 0, .ref 240, .ref 241, .int 0, .int 0, .ref 242, .ref 243, .int 0, .ref 244, .ref 245, .int 0, .long 0, .long 0, .ref 246, .ref 247, .ref 248, .int 0, .ref 249, .ref 250, .ref 251, .ref 252, .ref 253, .ref 254, .ref 255, .ref 256, .int 0, .int 0, .int 0, .long 0, .ref 257, .ref 258, .int 0])), n)) _
        refine At.enter rfl ?_
        refine r_aload_n rfl ?_
        refine r_iload_n rfl ?_
        refine r_iff 5 rfl (by decide) ?_
        refine At.enter rfl ?_
        refine r_iload_n rfl ?_
        refine r_goto ?_
        refine At.enter rfl ?_
        refine r_putf (en_gs_eq (hm_231 _)) (Nat.le_of_ble_eq_true rfl) rfl [.int 0, .int (-1), .ref 232, .ref 233, .ref 234, .ref 235, .int 0, .ref 236, .int 0, .int 0, .int 0, .int 0, .long 0, .int (-1), .int 0, .int 0, .ref 237, .int 0, .ref 238, .ref 239, .int 0, .ref 240, .ref 241, .int 0, .int 0, .ref 242, .ref 243, .int 0, .ref 244, .ref 245, .int 0, .long 0, .long 0, .ref 246, .ref 247, .ref 248, .int 0, .ref 249, .ref 250, .ref 251, .ref 252, .ref 253, .ref 254, .ref 255, .ref 256, .int 0, .int 0, .int 0, .long 0, .ref 257, .ref 258, .int 0] rfl ?_
        refine Ar.hp en_sd0 ?_
        refine r_iload_n rfl ?_
        refine r_iff 17 rfl (by decide) ?_
        refine At.enter rfl ?_
        refine r_aload_n rfl ?_
        refine r_get (v := .ref 232) (en_gs_eq (hm_231 _)) rfl ?_
        refine r_iload_n rfl ?_
        refine r_ineg 1 rfl ?_
        refine r_dup2 ⟨rfl, rfl⟩ ?_
        refine r_iald (v := 0) (en_gs_ne (by decide) (hm_232 _)) (by decide) rfl ?_
        refine r_iconst 1 rfl ?_
        refine r_iadd 1 rfl ?_
        refine r_iast (en_gs_ne (by decide) (hm_232 _)) (by decide) (Nat.le_of_ble_eq_true rfl) ([0, 1, 0, 0, 0, 0, 0]) (by decide +kernel) ?_
        refine Ar.fall 28 rfl ?_
        refine At.enter rfl ?_
        refine r_iload_n rfl ?_
        refine r_ireti ?_
        exact ⟨trivial, rfl, rfl⟩
      refine At.enter rfl ?_
      refine r_ireti ?_
      exact ⟨congrArg (fun z => some (Value.int z)) (by unfold sp_terms; (repeat' split) <;> first | rfl | omega), (en_lset (en_lset (en_prel a))), rfl⟩
    · refine At.enter rfl ?_
      refine r_goto ?_
      refine At.enter rfl ?_
      refine r_istore_n ([(3, .int 0), (0, .ref 231), (1, .int a1), (2, .int a2)]) rfl ?_
      refine r_iload_n rfl ?_
      refine r_ift (by decide) ?_
      refine At.enter rfl ?_
      refine r_aload_n rfl ?_
      refine r_iconst (-1) rfl ?_
      refine r_callV1s (True) (.int (-1)) (((en_pre a 231 hp_M).set 231 (.inr (11, [.int 0, .int (-1), .ref 232, .ref 233, .ref 234, .ref 235, .int 0, .ref 236, .int 0, .int 0, .int 0, .int 0, .long 0, .int (-1), .int 0, .int 0, .ref 237, .int 0, .ref 238, .ref 239, .int 0, .ref 240, .ref 241, .int 0, .int 0, .ref 242, .ref 243, .int 0, .ref 244, .ref 245, .int 0, .long 0, .long 0, .ref 246, .ref 247, .ref 248, .int 0, .ref 249, .ref 250, .ref 251, .ref 252, .ref 253, .ref 254, .ref 255, .ref 256, .int 0, .int 0, .int 0, .long 0, .ref 257, .ref 258, .int 0]))).set 232 (.inl (0, .inl ([0, 1, 0, 0, 0, 0, 0]))), n) 64 rfl [.ref 231, .int (-1)] [] (Nat.le_of_ble_eq_true rfl) rfl ?_ (fun _ => ?_)
      · refine Ev.mk rfl rfl ⟨Nat.le_of_ble_eq_true rfl, Or.inr (en_rcI (en_gs_eq (hm_231 _)) rfl)⟩ ?_
        show At _ none _ _ (0, [(0, .ref 231), (1, .int (-1))], [], ((en_pre a 231 hp_M).set 231 (.inr (11, [.int 0, .int 0, .ref 232, .ref 233, .ref 234, .ref 235, .int 0, .ref 236, .int 0, .int 0, .int 0, .int 0, .long 0, .int (-1), .int 0, .int 0, .ref 237, .int 0, .ref 238, .ref 239, .int 0, .ref 240, .ref 241, .int 0, .int 0, .ref 242, .ref 243, .int 0, .ref 244, .ref 245, .int 0, .long 0, .long 0, .ref 246, .ref 247, .ref 248, .int 0, .ref 249, .ref 250, .ref 251, .ref 252, .ref 253, .ref 254, .ref 255, .ref 256, .int 0, .int 0, .int 0, .long 0, .ref 257, .ref 258, .int 0])), n)) _
        refine At.enter rfl ?_
        refine r_aload_n rfl ?_
        refine r_iload_n rfl ?_
        refine r_iff 5 rfl (by decide) ?_
        refine At.enter rfl ?_
        refine r_iload_n rfl ?_
        refine r_goto ?_
        refine At.enter rfl ?_
        refine r_putf (en_gs_eq (hm_231 _)) (Nat.le_of_ble_eq_true rfl) rfl [.int 0, .int (-1), .ref 232, .ref 233, .ref 234, .ref 235, .int 0, .ref 236, .int 0, .int 0, .int 0, .int 0, .long 0, .int (-1), .int 0, .int 0, .ref 237, .int 0, .ref 238, .ref 239, .int 0, .ref 240, .ref 241, .int 0, .int 0, .ref 242, .ref 243, .int 0, .ref 244, .ref 245, .int 0, .long 0, .long 0, .ref 246, .ref 247, .ref 248, .int 0, .ref 249, .ref 250, .ref 251, .ref 252, .ref 253, .ref 254, .ref 255, .ref 256, .int 0, .int 0, .int 0, .long 0, .ref 257, .ref 258, .int 0] rfl ?_
        refine Ar.hp en_sd0 ?_
        refine r_iload_n rfl ?_
        refine r_iff 17 rfl (by decide) ?_
        refine At.enter rfl ?_
        refine r_aload_n rfl ?_
        refine r_get (v := .ref 232) (en_gs_eq (hm_231 _)) rfl ?_
        refine r_iload_n rfl ?_
        refine r_ineg 1 rfl ?_
        refine r_dup2 ⟨rfl, rfl⟩ ?_
        refine r_iald (v := 0) (en_gs_ne (by decide) (hm_232 _)) (by decide) rfl ?_
        refine r_iconst 1 rfl ?_
        refine r_iadd 1 rfl ?_
        refine r_iast (en_gs_ne (by decide) (hm_232 _)) (by decide) (Nat.le_of_ble_eq_true rfl) ([0, 1, 0, 0, 0, 0, 0]) (by decide +kernel) ?_
        refine Ar.fall 28 rfl ?_
        refine At.enter rfl ?_
        refine r_iload_n rfl ?_
        refine r_ireti ?_
        exact ⟨trivial, rfl, rfl⟩
      refine At.enter rfl ?_
      refine r_ireti ?_
      exact ⟨congrArg (fun z => some (Value.int z)) (by unfold sp_terms; (repeat' split) <;> first | rfl | omega), (en_lset (en_lset (en_prel a))), rfl⟩
    · refine At.enter rfl ?_
      refine r_goto ?_
      refine At.enter rfl ?_
      refine r_istore_n ([(3, .int 1), (0, .ref 231), (1, .int a1), (2, .int a2)]) rfl ?_
      refine r_iload_n rfl ?_
      refine r_iff 48 rfl (by decide) ?_
      refine At.enter rfl ?_
      refine r_aload_n rfl ?_
      refine r_iconst 5 rfl ?_
      refine r_iload_n rfl ?_
      refine r_iadd (5 + a1) rfl ?_
      refine r_iload_n rfl ?_
      refine r_callV1s (((a1).toInt = 0)) (.int 60) (((en_pre a 231 hp_M).set 231 (.inr (11, [.int 0, .int 0, .ref 232, .ref 233, .ref 234, .ref 235, .int 0, .ref 236, .int 0, .int 0, .int 0, .int 0, .long 0, .int (-1), .int 0, .int 0, .ref 237, .int 0, .ref 238, .ref 239, .int 0, .ref 240, .ref 241, .int 0, .int 0, .ref 242, .ref 243, .int 0, .ref 244, .ref 245, .int 0, .long 0, .long 0, .ref 246, .ref 247, .ref 248, .int 0, .ref 249, .ref 250, .ref 251, .ref 252, .ref 253, .ref 254, .ref 255, .ref 256, .int 0, .int 0, .int 0, .long 0, .ref 257, .ref 258, .int 0]))).set 233 (.inl (0, .inl ([0, 0, 0, (-1), 0, a2, 2] ++ List.replicate 5503 0))), n) 56 rfl [.ref 231, .int (5 + a1), .int a2] [] (Nat.le_of_ble_eq_true rfl) rfl ?_ (fun c8_0 => ?_)
      · refine Ev.mk rfl rfl ⟨Nat.le_of_ble_eq_true rfl, Or.inr (en_rcI (en_gs_eq (hm_231 _)) rfl)⟩ ?_
        show At _ none _ _ (0, [(0, .ref 231), (1, .int (5 + a1)), (2, .int a2)], [], ((en_pre a 231 hp_M).set 231 (.inr (11, [.int 0, .int 0, .ref 232, .ref 233, .ref 234, .ref 235, .int 0, .ref 236, .int 0, .int 0, .int 0, .int 0, .long 0, .int (-1), .int 0, .int 0, .ref 237, .int 0, .ref 238, .ref 239, .int 0, .ref 240, .ref 241, .int 0, .int 0, .ref 242, .ref 243, .int 0, .ref 244, .ref 245, .int 0, .long 0, .long 0, .ref 246, .ref 247, .ref 248, .int 0, .ref 249, .ref 250, .ref 251, .ref 252, .ref 253, .ref 254, .ref 255, .ref 256, .int 0, .int 0, .int 0, .long 0, .ref 257, .ref 258, .int 0])), n)) _
        refine At.enter rfl ?_
        refine r_aload_n rfl ?_
        refine r_get (v := .ref 233) (en_gs_eq (hm_231 _)) rfl ?_
        refine r_iload_n rfl ?_
        have c8_0 : (a1).toInt = 0 := by omega
        have c8_0_e : a1 = 0 := Int32.toInt_inj.mp c8_0
        subst c8_0_e
        refine r_iald (v := 60) (en_gs_ne (by decide) (hm_233 _)) (by decide) rfl ?_
        refine r_istore_n ([(3, .int 60), (0, .ref 231), (1, .int 5), (2, .int a2)]) rfl ?_
        refine r_aload_n rfl ?_
        refine r_get (v := .ref 233) (en_gs_eq (hm_231 _)) rfl ?_
        refine r_iload_n rfl ?_
        refine r_iload_n rfl ?_
        refine r_iast (en_gs_ne (by decide) (hm_233 _)) (by decide) (Nat.le_of_ble_eq_true rfl) ([0, 0, 0, (-1), 0, a2, 2] ++ List.replicate 5503 0) rfl ?_
        refine r_aload_n rfl ?_
        refine r_iload_n rfl ?_
        refine r_callV1s (True) (.int 60) (((en_pre a 231 hp_M).set 231 (.inr (11, [.int 0, .int 0, .ref 232, .ref 233, .ref 234, .ref 235, .int 0, .ref 236, .int 0, .int 0, .int 0, .int 0, .long 0, .int (-1), .int 0, .int 0, .ref 237, .int 0, .ref 238, .ref 239, .int 0, .ref 240, .ref 241, .int 0, .int 0, .ref 242, .ref 243, .int 0, .ref 244, .ref 245, .int 0, .long 0, .long 0, .ref 246, .ref 247, .ref 248, .int 0, .ref 249, .ref 250, .ref 251, .ref 252, .ref 253, .ref 254, .ref 255, .ref 256, .int 0, .int 0, .int 0, .long 0, .ref 257, .ref 258, .int 0]))).set 233 (.inl (0, .inl ([0, 0, 0, (-1), 0, a2, 2] ++ List.replicate 5503 0))), n) 19 rfl [.ref 231, .int 60] [] (Nat.le_of_ble_eq_true rfl) rfl ?_ (fun _ => ?_)
        · refine Ev.mk rfl rfl ⟨Nat.le_of_ble_eq_true rfl, Or.inr (en_rcI (en_gs_ne (by decide) (en_gs_eq (hm_231 _))) rfl)⟩ ?_
          show At _ none _ _ (0, [(0, .ref 231), (1, .int 60)], [], (((en_pre a 231 hp_M).set 231 (.inr (11, [.int 0, .int 0, .ref 232, .ref 233, .ref 234, .ref 235, .int 0, .ref 236, .int 0, .int 0, .int 0, .int 0, .long 0, .int (-1), .int 0, .int 0, .ref 237, .int 0, .ref 238, .ref 239, .int 0, .ref 240, .ref 241, .int 0, .int 0, .ref 242, .ref 243, .int 0, .ref 244, .ref 245, .int 0, .long 0, .long 0, .ref 246, .ref 247, .ref 248, .int 0, .ref 249, .ref 250, .ref 251, .ref 252, .ref 253, .ref 254, .ref 255, .ref 256, .int 0, .int 0, .int 0, .long 0, .ref 257, .ref 258, .int 0]))).set 233 (.inl (0, .inl ([0, 0, 0, (-1), 0, a2, 2] ++ List.replicate 5503 0))), n)) _
          refine At.enter rfl ?_
          refine r_aload_n rfl ?_
          refine r_iconst 0 rfl ?_
          refine r_putf (en_gs_ne (by decide) (en_gs_eq (hm_231 _))) (Nat.le_of_ble_eq_true rfl) rfl [.int 0, .int 0, .ref 232, .ref 233, .ref 234, .ref 235, .int 0, .ref 236, .int 0, .int 0, .int 0, .int 0, .long 0, .int (-1), .int 0, .int 0, .ref 237, .int 0, .ref 238, .ref 239, .int 0, .ref 240, .ref 241, .int 0, .int 0, .ref 242, .ref 243, .int 0, .ref 244, .ref 245, .int 0, .long 0, .long 0, .ref 246, .ref 247, .ref 248, .int 0, .ref 249, .ref 250, .ref 251, .ref 252, .ref 253, .ref 254, .ref 255, .ref 256, .int 0, .int 0, .int 0, .long 0, .ref 257, .ref 258, .int 0] rfl ?_
          refine Ar.hp (en_sdS (by decide) en_sd0) ?_
          refine r_iload_n rfl ?_
          refine r_ireti ?_
          exact ⟨trivial, rfl, rfl⟩
        refine At.enter rfl ?_
        refine r_ireti ?_
        exact ⟨c8_0, rfl, rfl⟩
      refine At.enter rfl ?_
      refine r_goto ?_
      refine At.enter rfl ?_
      refine r_ireti ?_
      exact ⟨congrArg (fun z => some (Value.int z)) (by unfold sp_terms; (repeat' split) <;> first | rfl | omega), (en_lset (en_lset (en_prel a))), rfl⟩
