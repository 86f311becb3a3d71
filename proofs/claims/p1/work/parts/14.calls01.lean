def sp_put (a1 a2 a3 : Int32) : Int32 := if (a2.toInt = 0 ∧ -1 ≤ a3.toInt ∧ a3.toInt ≤ 11) ∨ (a2.toInt = 1 ∧ 1 ≤ a3.toInt ∧ a3.toInt ≤ 9) ∨ (a2.toInt = 2 ∧ 0 ≤ a3.toInt ∧ a3.toInt ≤ 99) then -2 else -1
set_option maxRecDepth 100000 in
set_option maxHeartbeats 4000000 in
theorem zx_X10_put (n : Nat) (a1 : Int32) (a2 : Int32) (a3 : Int32) : Ev 14 105 [.ref 0, .int a1, .int a2, .int a3] (hp_X ++ hp_M, n) (fun r h' => r = some (.int (sp_put a1 a2 a3)) ∧ IsX h'.1 ∧ h'.2 = n) := by
  refine Ev.mk rfl rfl ⟨Nat.le_of_ble_eq_true rfl, Or.inr (en_rcI hx_0 rfl)⟩ ?_
  show At _ none _ _ (0, [(0, .ref 0), (1, .int a1), (2, .int a2), (3, .int a3)], [], (hp_X ++ hp_M, n)) _
  refine At.enter rfl ?_
  refine r_iload_n rfl ?_
  refine r_ifs 4 rfl (fun c1 => ?_) (fun c1 => ?_)
  · have c1_ : (a2).toInt ≠ (0) := (by have z := en_k_ne_t c1; (try simp only [Int32.toInt_toInt64] at z); exact z)
    refine At.enter rfl ?_
    refine r_iload_n rfl ?_
    refine r_iconst 1 rfl ?_
    refine r_ics 19 rfl (fun c2 => ?_) (fun c2 => ?_)
    · have c2_ : (a2).toInt ≠ (1) := (by have z := en_i_ne_t c2; (try simp only [Int32.toInt_toInt64] at z); exact z)
      refine At.enter rfl ?_
      refine r_iload_n rfl ?_
      refine r_iconst 2 rfl ?_
      refine r_ics 31 rfl (fun c3 => ?_) (fun c3 => ?_)
      · have c3_ : (a2).toInt ≠ (2) := (by have z := en_i_ne_t c3; (try simp only [Int32.toInt_toInt64] at z); exact z)
        refine At.enter rfl ?_
        refine r_iconst 0 rfl ?_
        refine Ar.fall 43 rfl ?_
        refine At.enter rfl ?_
        refine r_istore ([(4, .int 0), (0, .ref 0), (1, .int a1), (2, .int a2), (3, .int a3)]) rfl ?_
        refine r_iload rfl ?_
        refine r_iff 50 rfl (by decide) ?_
        refine At.enter rfl ?_
        refine r_aload_n rfl ?_
        refine r_iconst (-1) rfl ?_
        refine r_callV1s (True) (.int (-1)) (((hp_X ++ hp_M).set 0 (.inr (10, [.ref 1, .ref 58, .ref 173, .ref 174, .ref 176, .ref 184, .ref 188, .ref 204, .ref 220, .ref 222, .ref 223, .ref 228, .ref 229, .ref 230, .int 0, .int 0, .int 0, .int (-1)]))).set 230 (.inl (0, .inl ([0, 1, 0, 0, 0, 0, 0]))), n) 55 rfl [.ref 0, .int (-1)] [] (Nat.le_of_ble_eq_true rfl) rfl ?_ (fun _ => ?_)
        · refine Ev.mk rfl rfl ⟨Nat.le_of_ble_eq_true rfl, Or.inr (en_rcI hx_0 rfl)⟩ ?_
          show At _ none _ _ (0, [(0, .ref 0), (1, .int (-1))], [], (hp_X ++ hp_M, n)) _
          refine At.enter rfl ?_
          refine r_aload_n rfl ?_
          refine r_iload_n rfl ?_
          refine r_putf hx_0 (Nat.le_of_ble_eq_true rfl) rfl [.ref 1, .ref 58, .ref 173, .ref 174, .ref 176, .ref 184, .ref 188, .ref 204, .ref 220, .ref 222, .ref 223, .ref 228, .ref 229, .ref 230, .int 0, .int 0, .int 0, .int (-1)] rfl ?_
          refine r_iload_n rfl ?_
          refine r_ineg 1 rfl ?_
          refine r_iconst 0 rfl ?_
          refine r_bipush 6 rfl ?_
          refine r_callS1s (True) (.int 1) ((hp_X ++ hp_M).set 0 (.inr (10, [.ref 1, .ref 58, .ref 173, .ref 174, .ref 176, .ref 184, .ref 188, .ref 204, .ref 220, .ref 222, .ref 223, .ref 228, .ref 229, .ref 230, .int 0, .int 0, .int 0, .int (-1)])), n) 13 rfl [.int 1, .int 0, .int 6] [] (Nat.le_of_ble_eq_true rfl) rfl ?_ (fun _ => ?_)
          · refine Ev.mk rfl rfl ⟨Nat.le_of_ble_eq_true rfl, Or.inl rfl⟩ ?_
            show At _ none _ _ (0, [(0, .int 1), (1, .int 0), (2, .int 6)], [], ((hp_X ++ hp_M).set 0 (.inr (10, [.ref 1, .ref 58, .ref 173, .ref 174, .ref 176, .ref 184, .ref 188, .ref 204, .ref 220, .ref 222, .ref 223, .ref 228, .ref 229, .ref 230, .int 0, .int 0, .int 0, .int (-1)])), n)) _
            refine At.enter rfl ?_
            refine r_iload_n rfl ?_
            refine r_iload_n rfl ?_
            refine r_icf 5 rfl (by decide) ?_
            refine At.enter rfl ?_
            refine r_iload_n rfl ?_
            refine r_iload_n rfl ?_
            refine r_icf 10 rfl (by decide) ?_
            refine At.enter rfl ?_
            refine r_iconst 1 rfl ?_
            refine r_goto ?_
            refine At.enter rfl ?_
            refine r_iretz (by decide) ?_
            exact ⟨trivial, rfl, rfl⟩
          refine At.enter rfl ?_
          refine r_iff 16 rfl (by decide) ?_
          refine At.enter rfl ?_
          refine r_aload_n rfl ?_
          refine r_get (v := .ref 230) (en_gs_eq hx_0) rfl ?_
          refine r_iload_n rfl ?_
          refine r_ineg 1 rfl ?_
          refine r_dup2 ⟨rfl, rfl⟩ ?_
          refine r_iald (v := 0) (en_gs_ne (by decide) hx_230) (by decide) rfl ?_
          refine r_iconst 1 rfl ?_
          refine r_iadd 1 rfl ?_
          refine r_iast (en_gs_ne (by decide) hx_230) (by decide) (Nat.le_of_ble_eq_true rfl) ([0, 1, 0, 0, 0, 0, 0]) (by decide +kernel) ?_
          refine Ar.fall 27 rfl ?_
          refine At.enter rfl ?_
          refine r_iload_n rfl ?_
          refine r_ireti ?_
          exact ⟨trivial, rfl, rfl⟩
        refine At.enter rfl ?_
        refine r_ireti ?_
        exact ⟨congrArg (fun z => some (Value.int z)) (by unfold sp_put; (repeat' split) <;> first | rfl | omega), (IsX.set (IsX.set IsX.base (by decide)) (by decide)), rfl⟩
      · have c3_ : (a2).toInt = (2) := (by have z := en_i_ne_f c3; (try simp only [Int32.toInt_toInt64] at z); exact z)
        refine At.enter rfl ?_
        refine r_iload_n rfl ?_
        refine r_callS3s (((a3).toInt < (0))) (((a3).toInt ≥ (0)) ∧ ((a3).toInt > (99))) (((a3).toInt ≥ (0)) ∧ ((a3).toInt ≤ (99))) (.int 0) (.int 0) (.int 1) (hp_X ++ hp_M, n) (hp_X ++ hp_M, n) (hp_X ++ hp_M, n) 35 rfl [.int a3] [] (Nat.le_of_ble_eq_true rfl) rfl ?_ (fun c4_ => ?_) (fun ⟨c4_, c5_⟩ => ?_) (fun ⟨c4_, c5_⟩ => ?_)
        · refine Ev.mk rfl rfl ⟨Nat.le_of_ble_eq_true rfl, Or.inl rfl⟩ ?_
          show At _ none _ _ (0, [(0, .int a3)], [], (hp_X ++ hp_M, n)) _
          refine At.enter rfl ?_
          refine r_iload_n rfl ?_
          refine r_iconst 0 rfl ?_
          refine r_bipush 99 rfl ?_
          refine r_callS3s (((a3).toInt < (0))) (((a3).toInt ≥ (0)) ∧ ((a3).toInt > (99))) (((a3).toInt ≥ (0)) ∧ ((a3).toInt ≤ (99))) (.int 0) (.int 0) (.int 1) (hp_X ++ hp_M, n) (hp_X ++ hp_M, n) (hp_X ++ hp_M, n) 7 rfl [.int a3, .int 0, .int 99] [] (Nat.le_of_ble_eq_true rfl) rfl ?_ (fun c4_ => ?_) (fun ⟨c4_, c5_⟩ => ?_) (fun ⟨c4_, c5_⟩ => ?_)
          · refine Ev.mk rfl rfl ⟨Nat.le_of_ble_eq_true rfl, Or.inl rfl⟩ ?_
            show At _ none _ _ (0, [(0, .int a3), (1, .int 0), (2, .int 99)], [], (hp_X ++ hp_M, n)) _
            refine At.enter rfl ?_
            refine r_iload_n rfl ?_
            refine r_iload_n rfl ?_
            refine r_ics 5 rfl (fun c4 => ?_) (fun c4 => ?_)
            · have c4_ : (a3).toInt < (0) := (by have z := en_i_lt_t c4; (try simp only [Int32.toInt_toInt64] at z); exact z)
              refine At.enter rfl ?_
              refine r_iconst 0 rfl ?_
              refine Ar.fall 15 rfl ?_
              refine At.enter rfl ?_
              refine r_iretz (by decide) ?_
              exact Or.inl ⟨c4_, rfl, rfl⟩
            · have c4_ : (a3).toInt ≥ (0) := (by have z := en_i_lt_f c4; (try simp only [Int32.toInt_toInt64] at z); exact z)
              refine At.enter rfl ?_
              refine r_iload_n rfl ?_
              refine r_iload_n rfl ?_
              refine r_ics 10 rfl (fun c5 => ?_) (fun c5 => ?_)
              · have c5_ : (a3).toInt > (99) := (by have z := en_i_gt_t c5; (try simp only [Int32.toInt_toInt64] at z); exact z)
                refine At.enter rfl ?_
                refine r_iconst 0 rfl ?_
                refine Ar.fall 15 rfl ?_
                refine At.enter rfl ?_
                refine r_iretz (by decide) ?_
                exact Or.inr (Or.inl ⟨⟨c4_, c5_⟩, rfl, rfl⟩)
              · have c5_ : (a3).toInt ≤ (99) := (by have z := en_i_gt_f c5; (try simp only [Int32.toInt_toInt64] at z); exact z)
                refine At.enter rfl ?_
                refine r_iconst 1 rfl ?_
                refine r_goto ?_
                refine At.enter rfl ?_
                refine r_iretz (by decide) ?_
                exact Or.inr (Or.inr (⟨⟨c4_, c5_⟩, rfl, rfl⟩))
          · refine At.enter rfl ?_
            refine r_iretz (by decide) ?_
            exact Or.inl ⟨c4_, rfl, rfl⟩
          · refine At.enter rfl ?_
            refine r_iretz (by decide) ?_
            exact Or.inr (Or.inl ⟨⟨c4_, c5_⟩, rfl, rfl⟩)
          · refine At.enter rfl ?_
            refine r_iretz (by decide) ?_
            exact Or.inr (Or.inr (⟨⟨c4_, c5_⟩, rfl, rfl⟩))
        · refine At.enter rfl ?_
          refine r_ift (by decide) ?_
          refine At.enter rfl ?_
          refine r_iconst 0 rfl ?_
          refine Ar.fall 43 rfl ?_
          refine At.enter rfl ?_
          refine r_istore ([(4, .int 0), (0, .ref 0), (1, .int a1), (2, .int a2), (3, .int a3)]) rfl ?_
          refine r_iload rfl ?_
          refine r_iff 50 rfl (by decide) ?_
          refine At.enter rfl ?_
          refine r_aload_n rfl ?_
          refine r_iconst (-1) rfl ?_
          refine r_callV1s (True) (.int (-1)) (((hp_X ++ hp_M).set 0 (.inr (10, [.ref 1, .ref 58, .ref 173, .ref 174, .ref 176, .ref 184, .ref 188, .ref 204, .ref 220, .ref 222, .ref 223, .ref 228, .ref 229, .ref 230, .int 0, .int 0, .int 0, .int (-1)]))).set 230 (.inl (0, .inl ([0, 1, 0, 0, 0, 0, 0]))), n) 55 rfl [.ref 0, .int (-1)] [] (Nat.le_of_ble_eq_true rfl) rfl ?_ (fun _ => ?_)
          · refine Ev.mk rfl rfl ⟨Nat.le_of_ble_eq_true rfl, Or.inr (en_rcI hx_0 rfl)⟩ ?_
            show At _ none _ _ (0, [(0, .ref 0), (1, .int (-1))], [], (hp_X ++ hp_M, n)) _
            refine At.enter rfl ?_
            refine r_aload_n rfl ?_
            refine r_iload_n rfl ?_
            refine r_putf hx_0 (Nat.le_of_ble_eq_true rfl) rfl [.ref 1, .ref 58, .ref 173, .ref 174, .ref 176, .ref 184, .ref 188, .ref 204, .ref 220, .ref 222, .ref 223, .ref 228, .ref 229, .ref 230, .int 0, .int 0, .int 0, .int (-1)] rfl ?_
            refine r_iload_n rfl ?_
            refine r_ineg 1 rfl ?_
            refine r_iconst 0 rfl ?_
            refine r_bipush 6 rfl ?_
            refine r_callS1s (True) (.int 1) ((hp_X ++ hp_M).set 0 (.inr (10, [.ref 1, .ref 58, .ref 173, .ref 174, .ref 176, .ref 184, .ref 188, .ref 204, .ref 220, .ref 222, .ref 223, .ref 228, .ref 229, .ref 230, .int 0, .int 0, .int 0, .int (-1)])), n) 13 rfl [.int 1, .int 0, .int 6] [] (Nat.le_of_ble_eq_true rfl) rfl ?_ (fun _ => ?_)
            · refine Ev.mk rfl rfl ⟨Nat.le_of_ble_eq_true rfl, Or.inl rfl⟩ ?_
              show At _ none _ _ (0, [(0, .int 1), (1, .int 0), (2, .int 6)], [], ((hp_X ++ hp_M).set 0 (.inr (10, [.ref 1, .ref 58, .ref 173, .ref 174, .ref 176, .ref 184, .ref 188, .ref 204, .ref 220, .ref 222, .ref 223, .ref 228, .ref 229, .ref 230, .int 0, .int 0, .int 0, .int (-1)])), n)) _
              refine At.enter rfl ?_
              refine r_iload_n rfl ?_
              refine r_iload_n rfl ?_
              refine r_icf 5 rfl (by decide) ?_
              refine At.enter rfl ?_
              refine r_iload_n rfl ?_
              refine r_iload_n rfl ?_
              refine r_icf 10 rfl (by decide) ?_
              refine At.enter rfl ?_
              refine r_iconst 1 rfl ?_
              refine r_goto ?_
              refine At.enter rfl ?_
              refine r_iretz (by decide) ?_
              exact ⟨trivial, rfl, rfl⟩
            refine At.enter rfl ?_
            refine r_iff 16 rfl (by decide) ?_
            refine At.enter rfl ?_
            refine r_aload_n rfl ?_
            refine r_get (v := .ref 230) (en_gs_eq hx_0) rfl ?_
            refine r_iload_n rfl ?_
            refine r_ineg 1 rfl ?_
            refine r_dup2 ⟨rfl, rfl⟩ ?_
            refine r_iald (v := 0) (en_gs_ne (by decide) hx_230) (by decide) rfl ?_
            refine r_iconst 1 rfl ?_
            refine r_iadd 1 rfl ?_
            refine r_iast (en_gs_ne (by decide) hx_230) (by decide) (Nat.le_of_ble_eq_true rfl) ([0, 1, 0, 0, 0, 0, 0]) (by decide +kernel) ?_
            refine Ar.fall 27 rfl ?_
            refine At.enter rfl ?_
            refine r_iload_n rfl ?_
            refine r_ireti ?_
            exact ⟨trivial, rfl, rfl⟩
          refine At.enter rfl ?_
          refine r_ireti ?_
          exact ⟨congrArg (fun z => some (Value.int z)) (by unfold sp_put; (repeat' split) <;> first | rfl | omega), (IsX.set (IsX.set IsX.base (by decide)) (by decide)), rfl⟩
        · refine At.enter rfl ?_
          refine r_ift (by decide) ?_
          refine At.enter rfl ?_
          refine r_iconst 0 rfl ?_
          refine Ar.fall 43 rfl ?_
          refine At.enter rfl ?_
          refine r_istore ([(4, .int 0), (0, .ref 0), (1, .int a1), (2, .int a2), (3, .int a3)]) rfl ?_
          refine r_iload rfl ?_
          refine r_iff 50 rfl (by decide) ?_
          refine At.enter rfl ?_
          refine r_aload_n rfl ?_
          refine r_iconst (-1) rfl ?_
          refine r_callV1s (True) (.int (-1)) (((hp_X ++ hp_M).set 0 (.inr (10, [.ref 1, .ref 58, .ref 173, .ref 174, .ref 176, .ref 184, .ref 188, .ref 204, .ref 220, .ref 222, .ref 223, .ref 228, .ref 229, .ref 230, .int 0, .int 0, .int 0, .int (-1)]))).set 230 (.inl (0, .inl ([0, 1, 0, 0, 0, 0, 0]))), n) 55 rfl [.ref 0, .int (-1)] [] (Nat.le_of_ble_eq_true rfl) rfl ?_ (fun _ => ?_)
          · refine Ev.mk rfl rfl ⟨Nat.le_of_ble_eq_true rfl, Or.inr (en_rcI hx_0 rfl)⟩ ?_
            show At _ none _ _ (0, [(0, .ref 0), (1, .int (-1))], [], (hp_X ++ hp_M, n)) _
            refine At.enter rfl ?_
            refine r_aload_n rfl ?_
            refine r_iload_n rfl ?_
            refine r_putf hx_0 (Nat.le_of_ble_eq_true rfl) rfl [.ref 1, .ref 58, .ref 173, .ref 174, .ref 176, .ref 184, .ref 188, .ref 204, .ref 220, .ref 222, .ref 223, .ref 228, .ref 229, .ref 230, .int 0, .int 0, .int 0, .int (-1)] rfl ?_
            refine r_iload_n rfl ?_
            refine r_ineg 1 rfl ?_
            refine r_iconst 0 rfl ?_
            refine r_bipush 6 rfl ?_
            refine r_callS1s (True) (.int 1) ((hp_X ++ hp_M).set 0 (.inr (10, [.ref 1, .ref 58, .ref 173, .ref 174, .ref 176, .ref 184, .ref 188, .ref 204, .ref 220, .ref 222, .ref 223, .ref 228, .ref 229, .ref 230, .int 0, .int 0, .int 0, .int (-1)])), n) 13 rfl [.int 1, .int 0, .int 6] [] (Nat.le_of_ble_eq_true rfl) rfl ?_ (fun _ => ?_)
            · refine Ev.mk rfl rfl ⟨Nat.le_of_ble_eq_true rfl, Or.inl rfl⟩ ?_
              show At _ none _ _ (0, [(0, .int 1), (1, .int 0), (2, .int 6)], [], ((hp_X ++ hp_M).set 0 (.inr (10, [.ref 1, .ref 58, .ref 173, .ref 174, .ref 176, .ref 184, .ref 188, .ref 204, .ref 220, .ref 222, .ref 223, .ref 228, .ref 229, .ref 230, .int 0, .int 0, .int 0, .int (-1)])), n)) _
              refine At.enter rfl ?_
              refine r_iload_n rfl ?_
              refine r_iload_n rfl ?_
              refine r_icf 5 rfl (by decide) ?_
              refine At.enter rfl ?_
              refine r_iload_n rfl ?_
              refine r_iload_n rfl ?_
              refine r_icf 10 rfl (by decide) ?_
              refine At.enter rfl ?_
              refine r_iconst 1 rfl ?_
              refine r_goto ?_
              refine At.enter rfl ?_
              refine r_iretz (by decide) ?_
              exact ⟨trivial, rfl, rfl⟩
            refine At.enter rfl ?_
            refine r_iff 16 rfl (by decide) ?_
            refine At.enter rfl ?_
            refine r_aload_n rfl ?_
            refine r_get (v := .ref 230) (en_gs_eq hx_0) rfl ?_
            refine r_iload_n rfl ?_
            refine r_ineg 1 rfl ?_
            refine r_dup2 ⟨rfl, rfl⟩ ?_
            refine r_iald (v := 0) (en_gs_ne (by decide) hx_230) (by decide) rfl ?_
            refine r_iconst 1 rfl ?_
            refine r_iadd 1 rfl ?_
            refine r_iast (en_gs_ne (by decide) hx_230) (by decide) (Nat.le_of_ble_eq_true rfl) ([0, 1, 0, 0, 0, 0, 0]) (by decide +kernel) ?_
            refine Ar.fall 27 rfl ?_
            refine At.enter rfl ?_
            refine r_iload_n rfl ?_
            refine r_ireti ?_
            exact ⟨trivial, rfl, rfl⟩
          refine At.enter rfl ?_
          refine r_ireti ?_
          exact ⟨congrArg (fun z => some (Value.int z)) (by unfold sp_put; (repeat' split) <;> first | rfl | omega), (IsX.set (IsX.set IsX.base (by decide)) (by decide)), rfl⟩
        · refine At.enter rfl ?_
          refine r_iff 38 rfl (by decide) ?_
          refine At.enter rfl ?_
          refine r_iconst 1 rfl ?_
          refine r_goto ?_
          refine At.enter rfl ?_
          refine r_istore ([(4, .int 1), (0, .ref 0), (1, .int a1), (2, .int a2), (3, .int a3)]) rfl ?_
          refine r_iload rfl ?_
          refine r_ift (by decide) ?_
          refine At.enter rfl ?_
          refine r_aload_n rfl ?_
          refine r_get (v := .ref 1) hx_0 rfl ?_
          refine r_iload_n rfl ?_
          refine r_callV2s (((a1).toInt < (0))) (((a1).toInt ≥ (0)) ∧ ((a1).toInt ≥ (0))) (.int 0) (.int 0) (hp_X ++ hp_M, n) (hp_X ++ hp_M, n) 64 rfl [.ref 1, .int a1] [] (Nat.le_of_ble_eq_true rfl) rfl ?_ (fun c6_ => ?_) (fun ⟨c6_, c7_⟩ => ?_)
          · refine Ev.mk rfl rfl ⟨Nat.le_of_ble_eq_true rfl, Or.inr (en_rcI hx_1 rfl)⟩ ?_
            show At _ none _ _ (0, [(0, .ref 1), (1, .int a1)], [], (hp_X ++ hp_M, n)) _
            refine At.enter rfl ?_
            refine r_iload_n rfl ?_
            refine r_ifs 4 rfl (fun c6 => ?_) (fun c6 => ?_)
            · have c6_ : (a1).toInt < (0) := (by have z := en_k_lt_t c6; (try simp only [Int32.toInt_toInt64] at z); exact z)
              refine At.enter rfl ?_
              refine r_iconst 0 rfl ?_
              refine Ar.fall 17 rfl ?_
              refine At.enter rfl ?_
              refine r_iretz (by decide) ?_
              exact Or.inl ⟨c6_, rfl, rfl⟩
            · have c6_ : (a1).toInt ≥ (0) := (by have z := en_k_lt_f c6; (try simp only [Int32.toInt_toInt64] at z); exact z)
              refine At.enter rfl ?_
              refine r_iload_n rfl ?_
              refine r_aload_n rfl ?_
              refine r_get (v := .int 0) hx_1 rfl ?_
              refine r_ics 12 rfl (fun c7 => ?_) (fun c7 => ?_)
              · have c7_ : (a1).toInt ≥ (0) := (by have z := en_i_ge_t c7; (try simp only [Int32.toInt_toInt64] at z); exact z)
                refine At.enter rfl ?_
                refine r_iconst 0 rfl ?_
                refine Ar.fall 17 rfl ?_
                refine At.enter rfl ?_
                refine r_iretz (by decide) ?_
                exact Or.inr (⟨⟨c6_, c7_⟩, rfl, rfl⟩)
              · have c7_ : (a1).toInt < (0) := (by have z := en_i_ge_f c7; (try simp only [Int32.toInt_toInt64] at z); exact z)
                exfalso; omega
          · refine At.enter rfl ?_
            refine r_iff 67 rfl (by decide) ?_
            refine At.enter rfl ?_
            refine r_aload_n rfl ?_
            refine r_bipush (-2) rfl ?_
            refine r_callV1s (True) (.int (-2)) (((hp_X ++ hp_M).set 0 (.inr (10, [.ref 1, .ref 58, .ref 173, .ref 174, .ref 176, .ref 184, .ref 188, .ref 204, .ref 220, .ref 222, .ref 223, .ref 228, .ref 229, .ref 230, .int 0, .int 0, .int 0, .int (-2)]))).set 230 (.inl (0, .inl ([0, 0, 1, 0, 0, 0, 0]))), n) 73 rfl [.ref 0, .int (-2)] [] (Nat.le_of_ble_eq_true rfl) rfl ?_ (fun _ => ?_)
            · refine Ev.mk rfl rfl ⟨Nat.le_of_ble_eq_true rfl, Or.inr (en_rcI hx_0 rfl)⟩ ?_
              show At _ none _ _ (0, [(0, .ref 0), (1, .int (-2))], [], (hp_X ++ hp_M, n)) _
              refine At.enter rfl ?_
              refine r_aload_n rfl ?_
              refine r_iload_n rfl ?_
              refine r_putf hx_0 (Nat.le_of_ble_eq_true rfl) rfl [.ref 1, .ref 58, .ref 173, .ref 174, .ref 176, .ref 184, .ref 188, .ref 204, .ref 220, .ref 222, .ref 223, .ref 228, .ref 229, .ref 230, .int 0, .int 0, .int 0, .int (-2)] rfl ?_
              refine r_iload_n rfl ?_
              refine r_ineg 2 rfl ?_
              refine r_iconst 0 rfl ?_
              refine r_bipush 6 rfl ?_
              refine r_callS1s (True) (.int 1) ((hp_X ++ hp_M).set 0 (.inr (10, [.ref 1, .ref 58, .ref 173, .ref 174, .ref 176, .ref 184, .ref 188, .ref 204, .ref 220, .ref 222, .ref 223, .ref 228, .ref 229, .ref 230, .int 0, .int 0, .int 0, .int (-2)])), n) 13 rfl [.int 2, .int 0, .int 6] [] (Nat.le_of_ble_eq_true rfl) rfl ?_ (fun _ => ?_)
              · refine Ev.mk rfl rfl ⟨Nat.le_of_ble_eq_true rfl, Or.inl rfl⟩ ?_
                show At _ none _ _ (0, [(0, .int 2), (1, .int 0), (2, .int 6)], [], ((hp_X ++ hp_M).set 0 (.inr (10, [.ref 1, .ref 58, .ref 173, .ref 174, .ref 176, .ref 184, .ref 188, .ref 204, .ref 220, .ref 222, .ref 223, .ref 228, .ref 229, .ref 230, .int 0, .int 0, .int 0, .int (-2)])), n)) _
                refine At.enter rfl ?_
                refine r_iload_n rfl ?_
                refine r_iload_n rfl ?_
                refine r_icf 5 rfl (by decide) ?_
                refine At.enter rfl ?_
                refine r_iload_n rfl ?_
                refine r_iload_n rfl ?_
                refine r_icf 10 rfl (by decide) ?_
                refine At.enter rfl ?_
                refine r_iconst 1 rfl ?_
                refine r_goto ?_
                refine At.enter rfl ?_
                refine r_iretz (by decide) ?_
                exact ⟨trivial, rfl, rfl⟩
              refine At.enter rfl ?_
              refine r_iff 16 rfl (by decide) ?_
              refine At.enter rfl ?_
              refine r_aload_n rfl ?_
              refine r_get (v := .ref 230) (en_gs_eq hx_0) rfl ?_
              refine r_iload_n rfl ?_
              refine r_ineg 2 rfl ?_
              refine r_dup2 ⟨rfl, rfl⟩ ?_
              refine r_iald (v := 0) (en_gs_ne (by decide) hx_230) (by decide) rfl ?_
              refine r_iconst 1 rfl ?_
              refine r_iadd 1 rfl ?_
              refine r_iast (en_gs_ne (by decide) hx_230) (by decide) (Nat.le_of_ble_eq_true rfl) ([0, 0, 1, 0, 0, 0, 0]) (by decide +kernel) ?_
              refine Ar.fall 27 rfl ?_
              refine At.enter rfl ?_
              refine r_iload_n rfl ?_
              refine r_ireti ?_
              exact ⟨trivial, rfl, rfl⟩
            refine At.enter rfl ?_
            refine r_ireti ?_
            exact ⟨congrArg (fun z => some (Value.int z)) (by unfold sp_put; (repeat' split) <;> first | rfl | omega), (IsX.set (IsX.set IsX.base (by decide)) (by decide)), rfl⟩
          · refine At.enter rfl ?_
            refine r_iff 67 rfl (by decide) ?_
            refine At.enter rfl ?_
            refine r_aload_n rfl ?_
            refine r_bipush (-2) rfl ?_
            refine r_callV1s (True) (.int (-2)) (((hp_X ++ hp_M).set 0 (.inr (10, [.ref 1, .ref 58, .ref 173, .ref 174, .ref 176, .ref 184, .ref 188, .ref 204, .ref 220, .ref 222, .ref 223, .ref 228, .ref 229, .ref 230, .int 0, .int 0, .int 0, .int (-2)]))).set 230 (.inl (0, .inl ([0, 0, 1, 0, 0, 0, 0]))), n) 73 rfl [.ref 0, .int (-2)] [] (Nat.le_of_ble_eq_true rfl) rfl ?_ (fun _ => ?_)
            · refine Ev.mk rfl rfl ⟨Nat.le_of_ble_eq_true rfl, Or.inr (en_rcI hx_0 rfl)⟩ ?_
              show At _ none _ _ (0, [(0, .ref 0), (1, .int (-2))], [], (hp_X ++ hp_M, n)) _
              refine At.enter rfl ?_
              refine r_aload_n rfl ?_
              refine r_iload_n rfl ?_
              refine r_putf hx_0 (Nat.le_of_ble_eq_true rfl) rfl [.ref 1, .ref 58, .ref 173, .ref 174, .ref 176, .ref 184, .ref 188, .ref 204, .ref 220, .ref 222, .ref 223, .ref 228, .ref 229, .ref 230, .int 0, .int 0, .int 0, .int (-2)] rfl ?_
              refine r_iload_n rfl ?_
              refine r_ineg 2 rfl ?_
              refine r_iconst 0 rfl ?_
              refine r_bipush 6 rfl ?_
              refine r_callS1s (True) (.int 1) ((hp_X ++ hp_M).set 0 (.inr (10, [.ref 1, .ref 58, .ref 173, .ref 174, .ref 176, .ref 184, .ref 188, .ref 204, .ref 220, .ref 222, .ref 223, .ref 228, .ref 229, .ref 230, .int 0, .int 0, .int 0, .int (-2)])), n) 13 rfl [.int 2, .int 0, .int 6] [] (Nat.le_of_ble_eq_true rfl) rfl ?_ (fun _ => ?_)
              · refine Ev.mk rfl rfl ⟨Nat.le_of_ble_eq_true rfl, Or.inl rfl⟩ ?_
                show At _ none _ _ (0, [(0, .int 2), (1, .int 0), (2, .int 6)], [], ((hp_X ++ hp_M).set 0 (.inr (10, [.ref 1, .ref 58, .ref 173, .ref 174, .ref 176, .ref 184, .ref 188, .ref 204, .ref 220, .ref 222, .ref 223, .ref 228, .ref 229, .ref 230, .int 0, .int 0, .int 0, .int (-2)])), n)) _
                refine At.enter rfl ?_
                refine r_iload_n rfl ?_
                refine r_iload_n rfl ?_
                refine r_icf 5 rfl (by decide) ?_
                refine At.enter rfl ?_
                refine r_iload_n rfl ?_
                refine r_iload_n rfl ?_
                refine r_icf 10 rfl (by decide) ?_
                refine At.enter rfl ?_
                refine r_iconst 1 rfl ?_
                refine r_goto ?_
                refine At.enter rfl ?_
                refine r_iretz (by decide) ?_
                exact ⟨trivial, rfl, rfl⟩
              refine At.enter rfl ?_
              refine r_iff 16 rfl (by decide) ?_
              refine At.enter rfl ?_
              refine r_aload_n rfl ?_
              refine r_get (v := .ref 230) (en_gs_eq hx_0) rfl ?_
              refine r_iload_n rfl ?_
              refine r_ineg 2 rfl ?_
              refine r_dup2 ⟨rfl, rfl⟩ ?_
              refine r_iald (v := 0) (en_gs_ne (by decide) hx_230) (by decide) rfl ?_
              refine r_iconst 1 rfl ?_
              refine r_iadd 1 rfl ?_
              refine r_iast (en_gs_ne (by decide) hx_230) (by decide) (Nat.le_of_ble_eq_true rfl) ([0, 0, 1, 0, 0, 0, 0]) (by decide +kernel) ?_
              refine Ar.fall 27 rfl ?_
              refine At.enter rfl ?_
              refine r_iload_n rfl ?_
              refine r_ireti ?_
              exact ⟨trivial, rfl, rfl⟩
            refine At.enter rfl ?_
            refine r_ireti ?_
            exact ⟨congrArg (fun z => some (Value.int z)) (by unfold sp_put; (repeat' split) <;> first | rfl | omega), (IsX.set (IsX.set IsX.base (by decide)) (by decide)), rfl⟩
    · have c2_ : (a2).toInt = (1) := (by have z := en_i_ne_f c2; (try simp only [Int32.toInt_toInt64] at z); exact z)
      refine At.enter rfl ?_
      refine r_iload_n rfl ?_
      refine r_callS3s (((a3).toInt < (1))) (((a3).toInt ≥ (1)) ∧ ((a3).toInt > (9))) (((a3).toInt ≥ (1)) ∧ ((a3).toInt ≤ (9))) (.int 0) (.int 0) (.int 1) (hp_X ++ hp_M, n) (hp_X ++ hp_M, n) (hp_X ++ hp_M, n) 23 rfl [.int a3] [] (Nat.le_of_ble_eq_true rfl) rfl ?_ (fun c8_ => ?_) (fun ⟨c8_, c9_⟩ => ?_) (fun ⟨c8_, c9_⟩ => ?_)
      · refine Ev.mk rfl rfl ⟨Nat.le_of_ble_eq_true rfl, Or.inl rfl⟩ ?_
        show At _ none _ _ (0, [(0, .int a3)], [], (hp_X ++ hp_M, n)) _
        refine At.enter rfl ?_
        refine r_iload_n rfl ?_
        refine r_iconst 1 rfl ?_
        refine r_bipush 9 rfl ?_
        refine r_callS3s (((a3).toInt < (1))) (((a3).toInt ≥ (1)) ∧ ((a3).toInt > (9))) (((a3).toInt ≥ (1)) ∧ ((a3).toInt ≤ (9))) (.int 0) (.int 0) (.int 1) (hp_X ++ hp_M, n) (hp_X ++ hp_M, n) (hp_X ++ hp_M, n) 7 rfl [.int a3, .int 1, .int 9] [] (Nat.le_of_ble_eq_true rfl) rfl ?_ (fun c8_ => ?_) (fun ⟨c8_, c9_⟩ => ?_) (fun ⟨c8_, c9_⟩ => ?_)
        · refine Ev.mk rfl rfl ⟨Nat.le_of_ble_eq_true rfl, Or.inl rfl⟩ ?_
          show At _ none _ _ (0, [(0, .int a3), (1, .int 1), (2, .int 9)], [], (hp_X ++ hp_M, n)) _
          refine At.enter rfl ?_
          refine r_iload_n rfl ?_
          refine r_iload_n rfl ?_
          refine r_ics 5 rfl (fun c8 => ?_) (fun c8 => ?_)
          · have c8_ : (a3).toInt < (1) := (by have z := en_i_lt_t c8; (try simp only [Int32.toInt_toInt64] at z); exact z)
            refine At.enter rfl ?_
            refine r_iconst 0 rfl ?_
            refine Ar.fall 15 rfl ?_
            refine At.enter rfl ?_
            refine r_iretz (by decide) ?_
            exact Or.inl ⟨c8_, rfl, rfl⟩
          · have c8_ : (a3).toInt ≥ (1) := (by have z := en_i_lt_f c8; (try simp only [Int32.toInt_toInt64] at z); exact z)
            refine At.enter rfl ?_
            refine r_iload_n rfl ?_
            refine r_iload_n rfl ?_
            refine r_ics 10 rfl (fun c9 => ?_) (fun c9 => ?_)
            · have c9_ : (a3).toInt > (9) := (by have z := en_i_gt_t c9; (try simp only [Int32.toInt_toInt64] at z); exact z)
              refine At.enter rfl ?_
              refine r_iconst 0 rfl ?_
              refine Ar.fall 15 rfl ?_
              refine At.enter rfl ?_
              refine r_iretz (by decide) ?_
              exact Or.inr (Or.inl ⟨⟨c8_, c9_⟩, rfl, rfl⟩)
            · have c9_ : (a3).toInt ≤ (9) := (by have z := en_i_gt_f c9; (try simp only [Int32.toInt_toInt64] at z); exact z)
              refine At.enter rfl ?_
              refine r_iconst 1 rfl ?_
              refine r_goto ?_
              refine At.enter rfl ?_
              refine r_iretz (by decide) ?_
              exact Or.inr (Or.inr (⟨⟨c8_, c9_⟩, rfl, rfl⟩))
        · refine At.enter rfl ?_
          refine r_iretz (by decide) ?_
          exact Or.inl ⟨c8_, rfl, rfl⟩
        · refine At.enter rfl ?_
          refine r_iretz (by decide) ?_
          exact Or.inr (Or.inl ⟨⟨c8_, c9_⟩, rfl, rfl⟩)
        · refine At.enter rfl ?_
          refine r_iretz (by decide) ?_
          exact Or.inr (Or.inr (⟨⟨c8_, c9_⟩, rfl, rfl⟩))
      · refine At.enter rfl ?_
        refine r_iff 26 rfl (by decide) ?_
        refine At.enter rfl ?_
        refine r_iload_n rfl ?_
        refine r_iconst 2 rfl ?_
        refine r_ics 31 rfl (fun c10 => ?_) (fun c10 => ?_)
        · have c10_ : (a2).toInt ≠ (2) := (by have z := en_i_ne_t c10; (try simp only [Int32.toInt_toInt64] at z); exact z)
          refine At.enter rfl ?_
          refine r_iconst 0 rfl ?_
          refine Ar.fall 43 rfl ?_
          refine At.enter rfl ?_
          refine r_istore ([(4, .int 0), (0, .ref 0), (1, .int a1), (2, .int a2), (3, .int a3)]) rfl ?_
          refine r_iload rfl ?_
          refine r_iff 50 rfl (by decide) ?_
          refine At.enter rfl ?_
          refine r_aload_n rfl ?_
          refine r_iconst (-1) rfl ?_
          refine r_callV1s (True) (.int (-1)) (((hp_X ++ hp_M).set 0 (.inr (10, [.ref 1, .ref 58, .ref 173, .ref 174, .ref 176, .ref 184, .ref 188, .ref 204, .ref 220, .ref 222, .ref 223, .ref 228, .ref 229, .ref 230, .int 0, .int 0, .int 0, .int (-1)]))).set 230 (.inl (0, .inl ([0, 1, 0, 0, 0, 0, 0]))), n) 55 rfl [.ref 0, .int (-1)] [] (Nat.le_of_ble_eq_true rfl) rfl ?_ (fun _ => ?_)
          · refine Ev.mk rfl rfl ⟨Nat.le_of_ble_eq_true rfl, Or.inr (en_rcI hx_0 rfl)⟩ ?_
            show At _ none _ _ (0, [(0, .ref 0), (1, .int (-1))], [], (hp_X ++ hp_M, n)) _
            refine At.enter rfl ?_
            refine r_aload_n rfl ?_
            refine r_iload_n rfl ?_
            refine r_putf hx_0 (Nat.le_of_ble_eq_true rfl) rfl [.ref 1, .ref 58, .ref 173, .ref 174, .ref 176, .ref 184, .ref 188, .ref 204, .ref 220, .ref 222, .ref 223, .ref 228, .ref 229, .ref 230, .int 0, .int 0, .int 0, .int (-1)] rfl ?_
            refine r_iload_n rfl ?_
            refine r_ineg 1 rfl ?_
            refine r_iconst 0 rfl ?_
            refine r_bipush 6 rfl ?_
            refine r_callS1s (True) (.int 1) ((hp_X ++ hp_M).set 0 (.inr (10, [.ref 1, .ref 58, .ref 173, .ref 174, .ref 176, .ref 184, .ref 188, .ref 204, .ref 220, .ref 222, .ref 223, .ref 228, .ref 229, .ref 230, .int 0, .int 0, .int 0, .int (-1)])), n) 13 rfl [.int 1, .int 0, .int 6] [] (Nat.le_of_ble_eq_true rfl) rfl ?_ (fun _ => ?_)
            · refine Ev.mk rfl rfl ⟨Nat.le_of_ble_eq_true rfl, Or.inl rfl⟩ ?_
              show At _ none _ _ (0, [(0, .int 1), (1, .int 0), (2, .int 6)], [], ((hp_X ++ hp_M).set 0 (.inr (10, [.ref 1, .ref 58, .ref 173, .ref 174, .ref 176, .ref 184, .ref 188, .ref 204, .ref 220, .ref 222, .ref 223, .ref 228, .ref 229, .ref 230, .int 0, .int 0, .int 0, .int (-1)])), n)) _
              refine At.enter rfl ?_
              refine r_iload_n rfl ?_
              refine r_iload_n rfl ?_
              refine r_icf 5 rfl (by decide) ?_
              refine At.enter rfl ?_
              refine r_iload_n rfl ?_
              refine r_iload_n rfl ?_
              refine r_icf 10 rfl (by decide) ?_
              refine At.enter rfl ?_
              refine r_iconst 1 rfl ?_
              refine r_goto ?_
              refine At.enter rfl ?_
              refine r_iretz (by decide) ?_
              exact ⟨trivial, rfl, rfl⟩
            refine At.enter rfl ?_
            refine r_iff 16 rfl (by decide) ?_
            refine At.enter rfl ?_
            refine r_aload_n rfl ?_
            refine r_get (v := .ref 230) (en_gs_eq hx_0) rfl ?_
            refine r_iload_n rfl ?_
            refine r_ineg 1 rfl ?_
            refine r_dup2 ⟨rfl, rfl⟩ ?_
            refine r_iald (v := 0) (en_gs_ne (by decide) hx_230) (by decide) rfl ?_
            refine r_iconst 1 rfl ?_
            refine r_iadd 1 rfl ?_
            refine r_iast (en_gs_ne (by decide) hx_230) (by decide) (Nat.le_of_ble_eq_true rfl) ([0, 1, 0, 0, 0, 0, 0]) (by decide +kernel) ?_
            refine Ar.fall 27 rfl ?_
            refine At.enter rfl ?_
            refine r_iload_n rfl ?_
            refine r_ireti ?_
            exact ⟨trivial, rfl, rfl⟩
          refine At.enter rfl ?_
          refine r_ireti ?_
          exact ⟨congrArg (fun z => some (Value.int z)) (by unfold sp_put; (repeat' split) <;> first | rfl | omega), (IsX.set (IsX.set IsX.base (by decide)) (by decide)), rfl⟩
        · have c10_ : (a2).toInt = (2) := (by have z := en_i_ne_f c10; (try simp only [Int32.toInt_toInt64] at z); exact z)
          exfalso; omega
      · refine At.enter rfl ?_
        refine r_iff 26 rfl (by decide) ?_
        refine At.enter rfl ?_
        refine r_iload_n rfl ?_
        refine r_iconst 2 rfl ?_
        refine r_ics 31 rfl (fun c11 => ?_) (fun c11 => ?_)
        · have c11_ : (a2).toInt ≠ (2) := (by have z := en_i_ne_t c11; (try simp only [Int32.toInt_toInt64] at z); exact z)
          refine At.enter rfl ?_
          refine r_iconst 0 rfl ?_
          refine Ar.fall 43 rfl ?_
          refine At.enter rfl ?_
          refine r_istore ([(4, .int 0), (0, .ref 0), (1, .int a1), (2, .int a2), (3, .int a3)]) rfl ?_
          refine r_iload rfl ?_
          refine r_iff 50 rfl (by decide) ?_
          refine At.enter rfl ?_
          refine r_aload_n rfl ?_
          refine r_iconst (-1) rfl ?_
          refine r_callV1s (True) (.int (-1)) (((hp_X ++ hp_M).set 0 (.inr (10, [.ref 1, .ref 58, .ref 173, .ref 174, .ref 176, .ref 184, .ref 188, .ref 204, .ref 220, .ref 222, .ref 223, .ref 228, .ref 229, .ref 230, .int 0, .int 0, .int 0, .int (-1)]))).set 230 (.inl (0, .inl ([0, 1, 0, 0, 0, 0, 0]))), n) 55 rfl [.ref 0, .int (-1)] [] (Nat.le_of_ble_eq_true rfl) rfl ?_ (fun _ => ?_)
          · refine Ev.mk rfl rfl ⟨Nat.le_of_ble_eq_true rfl, Or.inr (en_rcI hx_0 rfl)⟩ ?_
            show At _ none _ _ (0, [(0, .ref 0), (1, .int (-1))], [], (hp_X ++ hp_M, n)) _
            refine At.enter rfl ?_
            refine r_aload_n rfl ?_
            refine r_iload_n rfl ?_
            refine r_putf hx_0 (Nat.le_of_ble_eq_true rfl) rfl [.ref 1, .ref 58, .ref 173, .ref 174, .ref 176, .ref 184, .ref 188, .ref 204, .ref 220, .ref 222, .ref 223, .ref 228, .ref 229, .ref 230, .int 0, .int 0, .int 0, .int (-1)] rfl ?_
            refine r_iload_n rfl ?_
            refine r_ineg 1 rfl ?_
            refine r_iconst 0 rfl ?_
            refine r_bipush 6 rfl ?_
            refine r_callS1s (True) (.int 1) ((hp_X ++ hp_M).set 0 (.inr (10, [.ref 1, .ref 58, .ref 173, .ref 174, .ref 176, .ref 184, .ref 188, .ref 204, .ref 220, .ref 222, .ref 223, .ref 228, .ref 229, .ref 230, .int 0, .int 0, .int 0, .int (-1)])), n) 13 rfl [.int 1, .int 0, .int 6] [] (Nat.le_of_ble_eq_true rfl) rfl ?_ (fun _ => ?_)
            · refine Ev.mk rfl rfl ⟨Nat.le_of_ble_eq_true rfl, Or.inl rfl⟩ ?_
              show At _ none _ _ (0, [(0, .int 1), (1, .int 0), (2, .int 6)], [], ((hp_X ++ hp_M).set 0 (.inr (10, [.ref 1, .ref 58, .ref 173, .ref 174, .ref 176, .ref 184, .ref 188, .ref 204, .ref 220, .ref 222, .ref 223, .ref 228, .ref 229, .ref 230, .int 0, .int 0, .int 0, .int (-1)])), n)) _
              refine At.enter rfl ?_
              refine r_iload_n rfl ?_
              refine r_iload_n rfl ?_
              refine r_icf 5 rfl (by decide) ?_
              refine At.enter rfl ?_
              refine r_iload_n rfl ?_
              refine r_iload_n rfl ?_
              refine r_icf 10 rfl (by decide) ?_
              refine At.enter rfl ?_
              refine r_iconst 1 rfl ?_
              refine r_goto ?_
              refine At.enter rfl ?_
              refine r_iretz (by decide) ?_
              exact ⟨trivial, rfl, rfl⟩
            refine At.enter rfl ?_
            refine r_iff 16 rfl (by decide) ?_
            refine At.enter rfl ?_
            refine r_aload_n rfl ?_
            refine r_get (v := .ref 230) (en_gs_eq hx_0) rfl ?_
            refine r_iload_n rfl ?_
            refine r_ineg 1 rfl ?_
            refine r_dup2 ⟨rfl, rfl⟩ ?_
            refine r_iald (v := 0) (en_gs_ne (by decide) hx_230) (by decide) rfl ?_
            refine r_iconst 1 rfl ?_
            refine r_iadd 1 rfl ?_
            refine r_iast (en_gs_ne (by decide) hx_230) (by decide) (Nat.le_of_ble_eq_true rfl) ([0, 1, 0, 0, 0, 0, 0]) (by decide +kernel) ?_
            refine Ar.fall 27 rfl ?_
            refine At.enter rfl ?_
            refine r_iload_n rfl ?_
            refine r_ireti ?_
            exact ⟨trivial, rfl, rfl⟩
          refine At.enter rfl ?_
          refine r_ireti ?_
          exact ⟨congrArg (fun z => some (Value.int z)) (by unfold sp_put; (repeat' split) <;> first | rfl | omega), (IsX.set (IsX.set IsX.base (by decide)) (by decide)), rfl⟩
        · have c11_ : (a2).toInt = (2) := (by have z := en_i_ne_f c11; (try simp only [Int32.toInt_toInt64] at z); exact z)
          exfalso; omega
      · refine At.enter rfl ?_
        refine r_ift (by decide) ?_
        refine At.enter rfl ?_
        refine r_iconst 1 rfl ?_
        refine r_goto ?_
        refine At.enter rfl ?_
        refine r_istore ([(4, .int 1), (0, .ref 0), (1, .int a1), (2, .int a2), (3, .int a3)]) rfl ?_
        refine r_iload rfl ?_
        refine r_ift (by decide) ?_
        refine At.enter rfl ?_
        refine r_aload_n rfl ?_
        refine r_get (v := .ref 1) hx_0 rfl ?_
        refine r_iload_n rfl ?_
        refine r_callV2s (((a1).toInt < (0))) (((a1).toInt ≥ (0)) ∧ ((a1).toInt ≥ (0))) (.int 0) (.int 0) (hp_X ++ hp_M, n) (hp_X ++ hp_M, n) 64 rfl [.ref 1, .int a1] [] (Nat.le_of_ble_eq_true rfl) rfl ?_ (fun c12_ => ?_) (fun ⟨c12_, c13_⟩ => ?_)
        · refine Ev.mk rfl rfl ⟨Nat.le_of_ble_eq_true rfl, Or.inr (en_rcI hx_1 rfl)⟩ ?_
          show At _ none _ _ (0, [(0, .ref 1), (1, .int a1)], [], (hp_X ++ hp_M, n)) _
          refine At.enter rfl ?_
          refine r_iload_n rfl ?_
          refine r_ifs 4 rfl (fun c12 => ?_) (fun c12 => ?_)
          · have c12_ : (a1).toInt < (0) := (by have z := en_k_lt_t c12; (try simp only [Int32.toInt_toInt64] at z); exact z)
            refine At.enter rfl ?_
            refine r_iconst 0 rfl ?_
            refine Ar.fall 17 rfl ?_
            refine At.enter rfl ?_
            refine r_iretz (by decide) ?_
            exact Or.inl ⟨c12_, rfl, rfl⟩
          · have c12_ : (a1).toInt ≥ (0) := (by have z := en_k_lt_f c12; (try simp only [Int32.toInt_toInt64] at z); exact z)
            refine At.enter rfl ?_
            refine r_iload_n rfl ?_
            refine r_aload_n rfl ?_
            refine r_get (v := .int 0) hx_1 rfl ?_
            refine r_ics 12 rfl (fun c13 => ?_) (fun c13 => ?_)
            · have c13_ : (a1).toInt ≥ (0) := (by have z := en_i_ge_t c13; (try simp only [Int32.toInt_toInt64] at z); exact z)
              refine At.enter rfl ?_
              refine r_iconst 0 rfl ?_
              refine Ar.fall 17 rfl ?_
              refine At.enter rfl ?_
              refine r_iretz (by decide) ?_
              exact Or.inr (⟨⟨c12_, c13_⟩, rfl, rfl⟩)
            · have c13_ : (a1).toInt < (0) := (by have z := en_i_ge_f c13; (try simp only [Int32.toInt_toInt64] at z); exact z)
              exfalso; omega
        · refine At.enter rfl ?_
          refine r_iff 67 rfl (by decide) ?_
          refine At.enter rfl ?_
          refine r_aload_n rfl ?_
          refine r_bipush (-2) rfl ?_
          refine r_callV1s (True) (.int (-2)) (((hp_X ++ hp_M).set 0 (.inr (10, [.ref 1, .ref 58, .ref 173, .ref 174, .ref 176, .ref 184, .ref 188, .ref 204, .ref 220, .ref 222, .ref 223, .ref 228, .ref 229, .ref 230, .int 0, .int 0, .int 0, .int (-2)]))).set 230 (.inl (0, .inl ([0, 0, 1, 0, 0, 0, 0]))), n) 73 rfl [.ref 0, .int (-2)] [] (Nat.le_of_ble_eq_true rfl) rfl ?_ (fun _ => ?_)
          · refine Ev.mk rfl rfl ⟨Nat.le_of_ble_eq_true rfl, Or.inr (en_rcI hx_0 rfl)⟩ ?_
            show At _ none _ _ (0, [(0, .ref 0), (1, .int (-2))], [], (hp_X ++ hp_M, n)) _
            refine At.enter rfl ?_
            refine r_aload_n rfl ?_
            refine r_iload_n rfl ?_
            refine r_putf hx_0 (Nat.le_of_ble_eq_true rfl) rfl [.ref 1, .ref 58, .ref 173, .ref 174, .ref 176, .ref 184, .ref 188, .ref 204, .ref 220, .ref 222, .ref 223, .ref 228, .ref 229, .ref 230, .int 0, .int 0, .int 0, .int (-2)] rfl ?_
            refine r_iload_n rfl ?_
            refine r_ineg 2 rfl ?_
            refine r_iconst 0 rfl ?_
            refine r_bipush 6 rfl ?_
            refine r_callS1s (True) (.int 1) ((hp_X ++ hp_M).set 0 (.inr (10, [.ref 1, .ref 58, .ref 173, .ref 174, .ref 176, .ref 184, .ref 188, .ref 204, .ref 220, .ref 222, .ref 223, .ref 228, .ref 229, .ref 230, .int 0, .int 0, .int 0, .int (-2)])), n) 13 rfl [.int 2, .int 0, .int 6] [] (Nat.le_of_ble_eq_true rfl) rfl ?_ (fun _ => ?_)
            · refine Ev.mk rfl rfl ⟨Nat.le_of_ble_eq_true rfl, Or.inl rfl⟩ ?_
              show At _ none _ _ (0, [(0, .int 2), (1, .int 0), (2, .int 6)], [], ((hp_X ++ hp_M).set 0 (.inr (10, [.ref 1, .ref 58, .ref 173, .ref 174, .ref 176, .ref 184, .ref 188, .ref 204, .ref 220, .ref 222, .ref 223, .ref 228, .ref 229, .ref 230, .int 0, .int 0, .int 0, .int (-2)])), n)) _
              refine At.enter rfl ?_
              refine r_iload_n rfl ?_
              refine r_iload_n rfl ?_
              refine r_icf 5 rfl (by decide) ?_
              refine At.enter rfl ?_
              refine r_iload_n rfl ?_
              refine r_iload_n rfl ?_
              refine r_icf 10 rfl (by decide) ?_
              refine At.enter rfl ?_
              refine r_iconst 1 rfl ?_
              refine r_goto ?_
              refine At.enter rfl ?_
              refine r_iretz (by decide) ?_
              exact ⟨trivial, rfl, rfl⟩
            refine At.enter rfl ?_
            refine r_iff 16 rfl (by decide) ?_
            refine At.enter rfl ?_
            refine r_aload_n rfl ?_
            refine r_get (v := .ref 230) (en_gs_eq hx_0) rfl ?_
            refine r_iload_n rfl ?_
            refine r_ineg 2 rfl ?_
            refine r_dup2 ⟨rfl, rfl⟩ ?_
            refine r_iald (v := 0) (en_gs_ne (by decide) hx_230) (by decide) rfl ?_
            refine r_iconst 1 rfl ?_
            refine r_iadd 1 rfl ?_
            refine r_iast (en_gs_ne (by decide) hx_230) (by decide) (Nat.le_of_ble_eq_true rfl) ([0, 0, 1, 0, 0, 0, 0]) (by decide +kernel) ?_
            refine Ar.fall 27 rfl ?_
            refine At.enter rfl ?_
            refine r_iload_n rfl ?_
            refine r_ireti ?_
            exact ⟨trivial, rfl, rfl⟩
          refine At.enter rfl ?_
          refine r_ireti ?_
          exact ⟨congrArg (fun z => some (Value.int z)) (by unfold sp_put; (repeat' split) <;> first | rfl | omega), (IsX.set (IsX.set IsX.base (by decide)) (by decide)), rfl⟩
        · refine At.enter rfl ?_
          refine r_iff 67 rfl (by decide) ?_
          refine At.enter rfl ?_
          refine r_aload_n rfl ?_
          refine r_bipush (-2) rfl ?_
          refine r_callV1s (True) (.int (-2)) (((hp_X ++ hp_M).set 0 (.inr (10, [.ref 1, .ref 58, .ref 173, .ref 174, .ref 176, .ref 184, .ref 188, .ref 204, .ref 220, .ref 222, .ref 223, .ref 228, .ref 229, .ref 230, .int 0, .int 0, .int 0, .int (-2)]))).set 230 (.inl (0, .inl ([0, 0, 1, 0, 0, 0, 0]))), n) 73 rfl [.ref 0, .int (-2)] [] (Nat.le_of_ble_eq_true rfl) rfl ?_ (fun _ => ?_)
          · refine Ev.mk rfl rfl ⟨Nat.le_of_ble_eq_true rfl, Or.inr (en_rcI hx_0 rfl)⟩ ?_
            show At _ none _ _ (0, [(0, .ref 0), (1, .int (-2))], [], (hp_X ++ hp_M, n)) _
            refine At.enter rfl ?_
            refine r_aload_n rfl ?_
            refine r_iload_n rfl ?_
            refine r_putf hx_0 (Nat.le_of_ble_eq_true rfl) rfl [.ref 1, .ref 58, .ref 173, .ref 174, .ref 176, .ref 184, .ref 188, .ref 204, .ref 220, .ref 222, .ref 223, .ref 228, .ref 229, .ref 230, .int 0, .int 0, .int 0, .int (-2)] rfl ?_
            refine r_iload_n rfl ?_
            refine r_ineg 2 rfl ?_
            refine r_iconst 0 rfl ?_
            refine r_bipush 6 rfl ?_
            refine r_callS1s (True) (.int 1) ((hp_X ++ hp_M).set 0 (.inr (10, [.ref 1, .ref 58, .ref 173, .ref 174, .ref 176, .ref 184, .ref 188, .ref 204, .ref 220, .ref 222, .ref 223, .ref 228, .ref 229, .ref 230, .int 0, .int 0, .int 0, .int (-2)])), n) 13 rfl [.int 2, .int 0, .int 6] [] (Nat.le_of_ble_eq_true rfl) rfl ?_ (fun _ => ?_)
            · refine Ev.mk rfl rfl ⟨Nat.le_of_ble_eq_true rfl, Or.inl rfl⟩ ?_
              show At _ none _ _ (0, [(0, .int 2), (1, .int 0), (2, .int 6)], [], ((hp_X ++ hp_M).set 0 (.inr (10, [.ref 1, .ref 58, .ref 173, .ref 174, .ref 176, .ref 184, .ref 188, .ref 204, .ref 220, .ref 222, .ref 223, .ref 228, .ref 229, .ref 230, .int 0, .int 0, .int 0, .int (-2)])), n)) _
              refine At.enter rfl ?_
              refine r_iload_n rfl ?_
              refine r_iload_n rfl ?_
              refine r_icf 5 rfl (by decide) ?_
              refine At.enter rfl ?_
              refine r_iload_n rfl ?_
              refine r_iload_n rfl ?_
              refine r_icf 10 rfl (by decide) ?_
              refine At.enter rfl ?_
              refine r_iconst 1 rfl ?_
              refine r_goto ?_
              refine At.enter rfl ?_
              refine r_iretz (by decide) ?_
              exact ⟨trivial, rfl, rfl⟩
            refine At.enter rfl ?_
            refine r_iff 16 rfl (by decide) ?_
            refine At.enter rfl ?_
            refine r_aload_n rfl ?_
            refine r_get (v := .ref 230) (en_gs_eq hx_0) rfl ?_
            refine r_iload_n rfl ?_
            refine r_ineg 2 rfl ?_
            refine r_dup2 ⟨rfl, rfl⟩ ?_
            refine r_iald (v := 0) (en_gs_ne (by decide) hx_230) (by decide) rfl ?_
            refine r_iconst 1 rfl ?_
            refine r_iadd 1 rfl ?_
            refine r_iast (en_gs_ne (by decide) hx_230) (by decide) (Nat.le_of_ble_eq_true rfl) ([0, 0, 1, 0, 0, 0, 0]) (by decide +kernel) ?_
            refine Ar.fall 27 rfl ?_
            refine At.enter rfl ?_
            refine r_iload_n rfl ?_
            refine r_ireti ?_
            exact ⟨trivial, rfl, rfl⟩
          refine At.enter rfl ?_
          refine r_ireti ?_
          exact ⟨congrArg (fun z => some (Value.int z)) (by unfold sp_put; (repeat' split) <;> first | rfl | omega), (IsX.set (IsX.set IsX.base (by decide)) (by decide)), rfl⟩
  · have c1_ : (a2).toInt = (0) := (by have z := en_k_ne_f c1; (try simp only [Int32.toInt_toInt64] at z); exact z)
    refine At.enter rfl ?_
    refine r_iload_n rfl ?_
    refine r_iconst (-1) rfl ?_
    refine r_bipush 11 rfl ?_
    refine r_callS3s (((a3).toInt < (-1))) (((a3).toInt ≥ (-1)) ∧ ((a3).toInt > (11))) (((a3).toInt ≥ (-1)) ∧ ((a3).toInt ≤ (11))) (.int 0) (.int 0) (.int 1) (hp_X ++ hp_M, n) (hp_X ++ hp_M, n) (hp_X ++ hp_M, n) 11 rfl [.int a3, .int (-1), .int 11] [] (Nat.le_of_ble_eq_true rfl) rfl ?_ (fun c14_ => ?_) (fun ⟨c14_, c15_⟩ => ?_) (fun ⟨c14_, c15_⟩ => ?_)
    · refine Ev.mk rfl rfl ⟨Nat.le_of_ble_eq_true rfl, Or.inl rfl⟩ ?_
      show At _ none _ _ (0, [(0, .int a3), (1, .int (-1)), (2, .int 11)], [], (hp_X ++ hp_M, n)) _
      refine At.enter rfl ?_
      refine r_iload_n rfl ?_
      refine r_iload_n rfl ?_
      refine r_ics 5 rfl (fun c14 => ?_) (fun c14 => ?_)
      · have c14_ : (a3).toInt < (-1) := (by have z := en_i_lt_t c14; (try simp only [Int32.toInt_toInt64] at z); exact z)
        refine At.enter rfl ?_
        refine r_iconst 0 rfl ?_
        refine Ar.fall 15 rfl ?_
        refine At.enter rfl ?_
        refine r_iretz (by decide) ?_
        exact Or.inl ⟨c14_, rfl, rfl⟩
      · have c14_ : (a3).toInt ≥ (-1) := (by have z := en_i_lt_f c14; (try simp only [Int32.toInt_toInt64] at z); exact z)
        refine At.enter rfl ?_
        refine r_iload_n rfl ?_
        refine r_iload_n rfl ?_
        refine r_ics 10 rfl (fun c15 => ?_) (fun c15 => ?_)
        · have c15_ : (a3).toInt > (11) := (by have z := en_i_gt_t c15; (try simp only [Int32.toInt_toInt64] at z); exact z)
          refine At.enter rfl ?_
          refine r_iconst 0 rfl ?_
          refine Ar.fall 15 rfl ?_
          refine At.enter rfl ?_
          refine r_iretz (by decide) ?_
          exact Or.inr (Or.inl ⟨⟨c14_, c15_⟩, rfl, rfl⟩)
        · have c15_ : (a3).toInt ≤ (11) := (by have z := en_i_gt_f c15; (try simp only [Int32.toInt_toInt64] at z); exact z)
          refine At.enter rfl ?_
          refine r_iconst 1 rfl ?_
          refine r_goto ?_
          refine At.enter rfl ?_
          refine r_iretz (by decide) ?_
          exact Or.inr (Or.inr (⟨⟨c14_, c15_⟩, rfl, rfl⟩))
    · refine At.enter rfl ?_
      refine r_iff 14 rfl (by decide) ?_
      refine At.enter rfl ?_
      refine r_iload_n rfl ?_
      refine r_iconst 1 rfl ?_
      refine r_ics 19 rfl (fun c16 => ?_) (fun c16 => ?_)
      · have c16_ : (a2).toInt ≠ (1) := (by have z := en_i_ne_t c16; (try simp only [Int32.toInt_toInt64] at z); exact z)
        refine At.enter rfl ?_
        refine r_iload_n rfl ?_
        refine r_iconst 2 rfl ?_
        refine r_ics 31 rfl (fun c17 => ?_) (fun c17 => ?_)
        · have c17_ : (a2).toInt ≠ (2) := (by have z := en_i_ne_t c17; (try simp only [Int32.toInt_toInt64] at z); exact z)
          refine At.enter rfl ?_
          refine r_iconst 0 rfl ?_
          refine Ar.fall 43 rfl ?_
          refine At.enter rfl ?_
          refine r_istore ([(4, .int 0), (0, .ref 0), (1, .int a1), (2, .int a2), (3, .int a3)]) rfl ?_
          refine r_iload rfl ?_
          refine r_iff 50 rfl (by decide) ?_
          refine At.enter rfl ?_
          refine r_aload_n rfl ?_
          refine r_iconst (-1) rfl ?_
          refine r_callV1s (True) (.int (-1)) (((hp_X ++ hp_M).set 0 (.inr (10, [.ref 1, .ref 58, .ref 173, .ref 174, .ref 176, .ref 184, .ref 188, .ref 204, .ref 220, .ref 222, .ref 223, .ref 228, .ref 229, .ref 230, .int 0, .int 0, .int 0, .int (-1)]))).set 230 (.inl (0, .inl ([0, 1, 0, 0, 0, 0, 0]))), n) 55 rfl [.ref 0, .int (-1)] [] (Nat.le_of_ble_eq_true rfl) rfl ?_ (fun _ => ?_)
          · refine Ev.mk rfl rfl ⟨Nat.le_of_ble_eq_true rfl, Or.inr (en_rcI hx_0 rfl)⟩ ?_
            show At _ none _ _ (0, [(0, .ref 0), (1, .int (-1))], [], (hp_X ++ hp_M, n)) _
            refine At.enter rfl ?_
            refine r_aload_n rfl ?_
            refine r_iload_n rfl ?_
            refine r_putf hx_0 (Nat.le_of_ble_eq_true rfl) rfl [.ref 1, .ref 58, .ref 173, .ref 174, .ref 176, .ref 184, .ref 188, .ref 204, .ref 220, .ref 222, .ref 223, .ref 228, .ref 229, .ref 230, .int 0, .int 0, .int 0, .int (-1)] rfl ?_
            refine r_iload_n rfl ?_
            refine r_ineg 1 rfl ?_
            refine r_iconst 0 rfl ?_
            refine r_bipush 6 rfl ?_
            refine r_callS1s (True) (.int 1) ((hp_X ++ hp_M).set 0 (.inr (10, [.ref 1, .ref 58, .ref 173, .ref 174, .ref 176, .ref 184, .ref 188, .ref 204, .ref 220, .ref 222, .ref 223, .ref 228, .ref 229, .ref 230, .int 0, .int 0, .int 0, .int (-1)])), n) 13 rfl [.int 1, .int 0, .int 6] [] (Nat.le_of_ble_eq_true rfl) rfl ?_ (fun _ => ?_)
            · refine Ev.mk rfl rfl ⟨Nat.le_of_ble_eq_true rfl, Or.inl rfl⟩ ?_
              show At _ none _ _ (0, [(0, .int 1), (1, .int 0), (2, .int 6)], [], ((hp_X ++ hp_M).set 0 (.inr (10, [.ref 1, .ref 58, .ref 173, .ref 174, .ref 176, .ref 184, .ref 188, .ref 204, .ref 220, .ref 222, .ref 223, .ref 228, .ref 229, .ref 230, .int 0, .int 0, .int 0, .int (-1)])), n)) _
              refine At.enter rfl ?_
              refine r_iload_n rfl ?_
              refine r_iload_n rfl ?_
              refine r_icf 5 rfl (by decide) ?_
              refine At.enter rfl ?_
              refine r_iload_n rfl ?_
              refine r_iload_n rfl ?_
              refine r_icf 10 rfl (by decide) ?_
              refine At.enter rfl ?_
              refine r_iconst 1 rfl ?_
              refine r_goto ?_
              refine At.enter rfl ?_
              refine r_iretz (by decide) ?_
              exact ⟨trivial, rfl, rfl⟩
            refine At.enter rfl ?_
            refine r_iff 16 rfl (by decide) ?_
            refine At.enter rfl ?_
            refine r_aload_n rfl ?_
            refine r_get (v := .ref 230) (en_gs_eq hx_0) rfl ?_
            refine r_iload_n rfl ?_
            refine r_ineg 1 rfl ?_
            refine r_dup2 ⟨rfl, rfl⟩ ?_
            refine r_iald (v := 0) (en_gs_ne (by decide) hx_230) (by decide) rfl ?_
            refine r_iconst 1 rfl ?_
            refine r_iadd 1 rfl ?_
            refine r_iast (en_gs_ne (by decide) hx_230) (by decide) (Nat.le_of_ble_eq_true rfl) ([0, 1, 0, 0, 0, 0, 0]) (by decide +kernel) ?_
            refine Ar.fall 27 rfl ?_
            refine At.enter rfl ?_
            refine r_iload_n rfl ?_
            refine r_ireti ?_
            exact ⟨trivial, rfl, rfl⟩
          refine At.enter rfl ?_
          refine r_ireti ?_
          exact ⟨congrArg (fun z => some (Value.int z)) (by unfold sp_put; (repeat' split) <;> first | rfl | omega), (IsX.set (IsX.set IsX.base (by decide)) (by decide)), rfl⟩
        · have c17_ : (a2).toInt = (2) := (by have z := en_i_ne_f c17; (try simp only [Int32.toInt_toInt64] at z); exact z)
          exfalso; omega
      · have c16_ : (a2).toInt = (1) := (by have z := en_i_ne_f c16; (try simp only [Int32.toInt_toInt64] at z); exact z)
        exfalso; omega
    · refine At.enter rfl ?_
      refine r_iff 14 rfl (by decide) ?_
      refine At.enter rfl ?_
      refine r_iload_n rfl ?_
      refine r_iconst 1 rfl ?_
      refine r_ics 19 rfl (fun c18 => ?_) (fun c18 => ?_)
      · have c18_ : (a2).toInt ≠ (1) := (by have z := en_i_ne_t c18; (try simp only [Int32.toInt_toInt64] at z); exact z)
        refine At.enter rfl ?_
        refine r_iload_n rfl ?_
        refine r_iconst 2 rfl ?_
        refine r_ics 31 rfl (fun c19 => ?_) (fun c19 => ?_)
        · have c19_ : (a2).toInt ≠ (2) := (by have z := en_i_ne_t c19; (try simp only [Int32.toInt_toInt64] at z); exact z)
          refine At.enter rfl ?_
          refine r_iconst 0 rfl ?_
          refine Ar.fall 43 rfl ?_
          refine At.enter rfl ?_
          refine r_istore ([(4, .int 0), (0, .ref 0), (1, .int a1), (2, .int a2), (3, .int a3)]) rfl ?_
          refine r_iload rfl ?_
          refine r_iff 50 rfl (by decide) ?_
          refine At.enter rfl ?_
          refine r_aload_n rfl ?_
          refine r_iconst (-1) rfl ?_
          refine r_callV1s (True) (.int (-1)) (((hp_X ++ hp_M).set 0 (.inr (10, [.ref 1, .ref 58, .ref 173, .ref 174, .ref 176, .ref 184, .ref 188, .ref 204, .ref 220, .ref 222, .ref 223, .ref 228, .ref 229, .ref 230, .int 0, .int 0, .int 0, .int (-1)]))).set 230 (.inl (0, .inl ([0, 1, 0, 0, 0, 0, 0]))), n) 55 rfl [.ref 0, .int (-1)] [] (Nat.le_of_ble_eq_true rfl) rfl ?_ (fun _ => ?_)
          · refine Ev.mk rfl rfl ⟨Nat.le_of_ble_eq_true rfl, Or.inr (en_rcI hx_0 rfl)⟩ ?_
            show At _ none _ _ (0, [(0, .ref 0), (1, .int (-1))], [], (hp_X ++ hp_M, n)) _
            refine At.enter rfl ?_
            refine r_aload_n rfl ?_
            refine r_iload_n rfl ?_
            refine r_putf hx_0 (Nat.le_of_ble_eq_true rfl) rfl [.ref 1, .ref 58, .ref 173, .ref 174, .ref 176, .ref 184, .ref 188, .ref 204, .ref 220, .ref 222, .ref 223, .ref 228, .ref 229, .ref 230, .int 0, .int 0, .int 0, .int (-1)] rfl ?_
            refine r_iload_n rfl ?_
            refine r_ineg 1 rfl ?_
            refine r_iconst 0 rfl ?_
            refine r_bipush 6 rfl ?_
            refine r_callS1s (True) (.int 1) ((hp_X ++ hp_M).set 0 (.inr (10, [.ref 1, .ref 58, .ref 173, .ref 174, .ref 176, .ref 184, .ref 188, .ref 204, .ref 220, .ref 222, .ref 223, .ref 228, .ref 229, .ref 230, .int 0, .int 0, .int 0, .int (-1)])), n) 13 rfl [.int 1, .int 0, .int 6] [] (Nat.le_of_ble_eq_true rfl) rfl ?_ (fun _ => ?_)
            · refine Ev.mk rfl rfl ⟨Nat.le_of_ble_eq_true rfl, Or.inl rfl⟩ ?_
              show At _ none _ _ (0, [(0, .int 1), (1, .int 0), (2, .int 6)], [], ((hp_X ++ hp_M).set 0 (.inr (10, [.ref 1, .ref 58, .ref 173, .ref 174, .ref 176, .ref 184, .ref 188, .ref 204, .ref 220, .ref 222, .ref 223, .ref 228, .ref 229, .ref 230, .int 0, .int 0, .int 0, .int (-1)])), n)) _
              refine At.enter rfl ?_
              refine r_iload_n rfl ?_
              refine r_iload_n rfl ?_
              refine r_icf 5 rfl (by decide) ?_
              refine At.enter rfl ?_
              refine r_iload_n rfl ?_
              refine r_iload_n rfl ?_
              refine r_icf 10 rfl (by decide) ?_
              refine At.enter rfl ?_
              refine r_iconst 1 rfl ?_
              refine r_goto ?_
              refine At.enter rfl ?_
              refine r_iretz (by decide) ?_
              exact ⟨trivial, rfl, rfl⟩
            refine At.enter rfl ?_
            refine r_iff 16 rfl (by decide) ?_
            refine At.enter rfl ?_
            refine r_aload_n rfl ?_
            refine r_get (v := .ref 230) (en_gs_eq hx_0) rfl ?_
            refine r_iload_n rfl ?_
            refine r_ineg 1 rfl ?_
            refine r_dup2 ⟨rfl, rfl⟩ ?_
            refine r_iald (v := 0) (en_gs_ne (by decide) hx_230) (by decide) rfl ?_
            refine r_iconst 1 rfl ?_
            refine r_iadd 1 rfl ?_
            refine r_iast (en_gs_ne (by decide) hx_230) (by decide) (Nat.le_of_ble_eq_true rfl) ([0, 1, 0, 0, 0, 0, 0]) (by decide +kernel) ?_
            refine Ar.fall 27 rfl ?_
            refine At.enter rfl ?_
            refine r_iload_n rfl ?_
            refine r_ireti ?_
            exact ⟨trivial, rfl, rfl⟩
          refine At.enter rfl ?_
          refine r_ireti ?_
          exact ⟨congrArg (fun z => some (Value.int z)) (by unfold sp_put; (repeat' split) <;> first | rfl | omega), (IsX.set (IsX.set IsX.base (by decide)) (by decide)), rfl⟩
        · have c19_ : (a2).toInt = (2) := (by have z := en_i_ne_f c19; (try simp only [Int32.toInt_toInt64] at z); exact z)
          exfalso; omega
      · have c18_ : (a2).toInt = (1) := (by have z := en_i_ne_f c18; (try simp only [Int32.toInt_toInt64] at z); exact z)
        exfalso; omega
    · refine At.enter rfl ?_
      refine r_ift (by decide) ?_
      refine At.enter rfl ?_
      refine r_iconst 1 rfl ?_
      refine r_goto ?_
      refine At.enter rfl ?_
      refine r_istore ([(4, .int 1), (0, .ref 0), (1, .int a1), (2, .int a2), (3, .int a3)]) rfl ?_
      refine r_iload rfl ?_
      refine r_ift (by decide) ?_
      refine At.enter rfl ?_
      refine r_aload_n rfl ?_
      refine r_get (v := .ref 1) hx_0 rfl ?_
      refine r_iload_n rfl ?_
      refine r_callV2s (((a1).toInt < (0))) (((a1).toInt ≥ (0)) ∧ ((a1).toInt ≥ (0))) (.int 0) (.int 0) (hp_X ++ hp_M, n) (hp_X ++ hp_M, n) 64 rfl [.ref 1, .int a1] [] (Nat.le_of_ble_eq_true rfl) rfl ?_ (fun c20_ => ?_) (fun ⟨c20_, c21_⟩ => ?_)
      · refine Ev.mk rfl rfl ⟨Nat.le_of_ble_eq_true rfl, Or.inr (en_rcI hx_1 rfl)⟩ ?_
        show At _ none _ _ (0, [(0, .ref 1), (1, .int a1)], [], (hp_X ++ hp_M, n)) _
        refine At.enter rfl ?_
        refine r_iload_n rfl ?_
        refine r_ifs 4 rfl (fun c20 => ?_) (fun c20 => ?_)
        · have c20_ : (a1).toInt < (0) := (by have z := en_k_lt_t c20; (try simp only [Int32.toInt_toInt64] at z); exact z)
          refine At.enter rfl ?_
          refine r_iconst 0 rfl ?_
          refine Ar.fall 17 rfl ?_
          refine At.enter rfl ?_
          refine r_iretz (by decide) ?_
          exact Or.inl ⟨c20_, rfl, rfl⟩
        · have c20_ : (a1).toInt ≥ (0) := (by have z := en_k_lt_f c20; (try simp only [Int32.toInt_toInt64] at z); exact z)
          refine At.enter rfl ?_
          refine r_iload_n rfl ?_
          refine r_aload_n rfl ?_
          refine r_get (v := .int 0) hx_1 rfl ?_
          refine r_ics 12 rfl (fun c21 => ?_) (fun c21 => ?_)
          · have c21_ : (a1).toInt ≥ (0) := (by have z := en_i_ge_t c21; (try simp only [Int32.toInt_toInt64] at z); exact z)
            refine At.enter rfl ?_
            refine r_iconst 0 rfl ?_
            refine Ar.fall 17 rfl ?_
            refine At.enter rfl ?_
            refine r_iretz (by decide) ?_
            exact Or.inr (⟨⟨c20_, c21_⟩, rfl, rfl⟩)
          · have c21_ : (a1).toInt < (0) := (by have z := en_i_ge_f c21; (try simp only [Int32.toInt_toInt64] at z); exact z)
            exfalso; omega
      · refine At.enter rfl ?_
        refine r_iff 67 rfl (by decide) ?_
        refine At.enter rfl ?_
        refine r_aload_n rfl ?_
        refine r_bipush (-2) rfl ?_
        refine r_callV1s (True) (.int (-2)) (((hp_X ++ hp_M).set 0 (.inr (10, [.ref 1, .ref 58, .ref 173, .ref 174, .ref 176, .ref 184, .ref 188, .ref 204, .ref 220, .ref 222, .ref 223, .ref 228, .ref 229, .ref 230, .int 0, .int 0, .int 0, .int (-2)]))).set 230 (.inl (0, .inl ([0, 0, 1, 0, 0, 0, 0]))), n) 73 rfl [.ref 0, .int (-2)] [] (Nat.le_of_ble_eq_true rfl) rfl ?_ (fun _ => ?_)
        · refine Ev.mk rfl rfl ⟨Nat.le_of_ble_eq_true rfl, Or.inr (en_rcI hx_0 rfl)⟩ ?_
          show At _ none _ _ (0, [(0, .ref 0), (1, .int (-2))], [], (hp_X ++ hp_M, n)) _
          refine At.enter rfl ?_
          refine r_aload_n rfl ?_
          refine r_iload_n rfl ?_
          refine r_putf hx_0 (Nat.le_of_ble_eq_true rfl) rfl [.ref 1, .ref 58, .ref 173, .ref 174, .ref 176, .ref 184, .ref 188, .ref 204, .ref 220, .ref 222, .ref 223, .ref 228, .ref 229, .ref 230, .int 0, .int 0, .int 0, .int (-2)] rfl ?_
          refine r_iload_n rfl ?_
          refine r_ineg 2 rfl ?_
          refine r_iconst 0 rfl ?_
          refine r_bipush 6 rfl ?_
          refine r_callS1s (True) (.int 1) ((hp_X ++ hp_M).set 0 (.inr (10, [.ref 1, .ref 58, .ref 173, .ref 174, .ref 176, .ref 184, .ref 188, .ref 204, .ref 220, .ref 222, .ref 223, .ref 228, .ref 229, .ref 230, .int 0, .int 0, .int 0, .int (-2)])), n) 13 rfl [.int 2, .int 0, .int 6] [] (Nat.le_of_ble_eq_true rfl) rfl ?_ (fun _ => ?_)
          · refine Ev.mk rfl rfl ⟨Nat.le_of_ble_eq_true rfl, Or.inl rfl⟩ ?_
            show At _ none _ _ (0, [(0, .int 2), (1, .int 0), (2, .int 6)], [], ((hp_X ++ hp_M).set 0 (.inr (10, [.ref 1, .ref 58, .ref 173, .ref 174, .ref 176, .ref 184, .ref 188, .ref 204, .ref 220, .ref 222, .ref 223, .ref 228, .ref 229, .ref 230, .int 0, .int 0, .int 0, .int (-2)])), n)) _
            refine At.enter rfl ?_
            refine r_iload_n rfl ?_
            refine r_iload_n rfl ?_
            refine r_icf 5 rfl (by decide) ?_
            refine At.enter rfl ?_
            refine r_iload_n rfl ?_
            refine r_iload_n rfl ?_
            refine r_icf 10 rfl (by decide) ?_
            refine At.enter rfl ?_
            refine r_iconst 1 rfl ?_
            refine r_goto ?_
            refine At.enter rfl ?_
            refine r_iretz (by decide) ?_
            exact ⟨trivial, rfl, rfl⟩
          refine At.enter rfl ?_
          refine r_iff 16 rfl (by decide) ?_
          refine At.enter rfl ?_
          refine r_aload_n rfl ?_
          refine r_get (v := .ref 230) (en_gs_eq hx_0) rfl ?_
          refine r_iload_n rfl ?_
          refine r_ineg 2 rfl ?_
          refine r_dup2 ⟨rfl, rfl⟩ ?_
          refine r_iald (v := 0) (en_gs_ne (by decide) hx_230) (by decide) rfl ?_
          refine r_iconst 1 rfl ?_
          refine r_iadd 1 rfl ?_
          refine r_iast (en_gs_ne (by decide) hx_230) (by decide) (Nat.le_of_ble_eq_true rfl) ([0, 0, 1, 0, 0, 0, 0]) (by decide +kernel) ?_
          refine Ar.fall 27 rfl ?_
          refine At.enter rfl ?_
          refine r_iload_n rfl ?_
          refine r_ireti ?_
          exact ⟨trivial, rfl, rfl⟩
        refine At.enter rfl ?_
        refine r_ireti ?_
        exact ⟨congrArg (fun z => some (Value.int z)) (by unfold sp_put; (repeat' split) <;> first | rfl | omega), (IsX.set (IsX.set IsX.base (by decide)) (by decide)), rfl⟩
      · refine At.enter rfl ?_
        refine r_iff 67 rfl (by decide) ?_
        refine At.enter rfl ?_
        refine r_aload_n rfl ?_
        refine r_bipush (-2) rfl ?_
        refine r_callV1s (True) (.int (-2)) (((hp_X ++ hp_M).set 0 (.inr (10, [.ref 1, .ref 58, .ref 173, .ref 174, .ref 176, .ref 184, .ref 188, .ref 204, .ref 220, .ref 222, .ref 223, .ref 228, .ref 229, .ref 230, .int 0, .int 0, .int 0, .int (-2)]))).set 230 (.inl (0, .inl ([0, 0, 1, 0, 0, 0, 0]))), n) 73 rfl [.ref 0, .int (-2)] [] (Nat.le_of_ble_eq_true rfl) rfl ?_ (fun _ => ?_)
        · refine Ev.mk rfl rfl ⟨Nat.le_of_ble_eq_true rfl, Or.inr (en_rcI hx_0 rfl)⟩ ?_
          show At _ none _ _ (0, [(0, .ref 0), (1, .int (-2))], [], (hp_X ++ hp_M, n)) _
          refine At.enter rfl ?_
          refine r_aload_n rfl ?_
          refine r_iload_n rfl ?_
          refine r_putf hx_0 (Nat.le_of_ble_eq_true rfl) rfl [.ref 1, .ref 58, .ref 173, .ref 174, .ref 176, .ref 184, .ref 188, .ref 204, .ref 220, .ref 222, .ref 223, .ref 228, .ref 229, .ref 230, .int 0, .int 0, .int 0, .int (-2)] rfl ?_
          refine r_iload_n rfl ?_
          refine r_ineg 2 rfl ?_
          refine r_iconst 0 rfl ?_
          refine r_bipush 6 rfl ?_
          refine r_callS1s (True) (.int 1) ((hp_X ++ hp_M).set 0 (.inr (10, [.ref 1, .ref 58, .ref 173, .ref 174, .ref 176, .ref 184, .ref 188, .ref 204, .ref 220, .ref 222, .ref 223, .ref 228, .ref 229, .ref 230, .int 0, .int 0, .int 0, .int (-2)])), n) 13 rfl [.int 2, .int 0, .int 6] [] (Nat.le_of_ble_eq_true rfl) rfl ?_ (fun _ => ?_)
          · refine Ev.mk rfl rfl ⟨Nat.le_of_ble_eq_true rfl, Or.inl rfl⟩ ?_
            show At _ none _ _ (0, [(0, .int 2), (1, .int 0), (2, .int 6)], [], ((hp_X ++ hp_M).set 0 (.inr (10, [.ref 1, .ref 58, .ref 173, .ref 174, .ref 176, .ref 184, .ref 188, .ref 204, .ref 220, .ref 222, .ref 223, .ref 228, .ref 229, .ref 230, .int 0, .int 0, .int 0, .int (-2)])), n)) _
            refine At.enter rfl ?_
            refine r_iload_n rfl ?_
            refine r_iload_n rfl ?_
            refine r_icf 5 rfl (by decide) ?_
            refine At.enter rfl ?_
            refine r_iload_n rfl ?_
            refine r_iload_n rfl ?_
            refine r_icf 10 rfl (by decide) ?_
            refine At.enter rfl ?_
            refine r_iconst 1 rfl ?_
            refine r_goto ?_
            refine At.enter rfl ?_
            refine r_iretz (by decide) ?_
            exact ⟨trivial, rfl, rfl⟩
          refine At.enter rfl ?_
          refine r_iff 16 rfl (by decide) ?_
          refine At.enter rfl ?_
          refine r_aload_n rfl ?_
          refine r_get (v := .ref 230) (en_gs_eq hx_0) rfl ?_
          refine r_iload_n rfl ?_
          refine r_ineg 2 rfl ?_
          refine r_dup2 ⟨rfl, rfl⟩ ?_
          refine r_iald (v := 0) (en_gs_ne (by decide) hx_230) (by decide) rfl ?_
          refine r_iconst 1 rfl ?_
          refine r_iadd 1 rfl ?_
          refine r_iast (en_gs_ne (by decide) hx_230) (by decide) (Nat.le_of_ble_eq_true rfl) ([0, 0, 1, 0, 0, 0, 0]) (by decide +kernel) ?_
          refine Ar.fall 27 rfl ?_
          refine At.enter rfl ?_
          refine r_iload_n rfl ?_
          refine r_ireti ?_
          exact ⟨trivial, rfl, rfl⟩
        refine At.enter rfl ?_
        refine r_ireti ?_
        exact ⟨congrArg (fun z => some (Value.int z)) (by unfold sp_put; (repeat' split) <;> first | rfl | omega), (IsX.set (IsX.set IsX.base (by decide)) (by decide)), rfl⟩
set_option maxRecDepth 100000 in
set_option maxHeartbeats 4000000 in
theorem zm_X11_put (a : Nat → en_E) (n : Nat) (a1 : Int32) (a2 : Int32) (a3 : Int32) : Ev 14 173 [.ref 231, .int a1, .int a2, .int a3] (en_pre a 231 hp_M, n) (fun r h' => r = some (.int (sp_put a1 a2 a3)) ∧ h'.1.length = 259 ∧ h'.2 = n) := by
  refine Ev.mk rfl rfl ⟨Nat.le_of_ble_eq_true rfl, Or.inr (en_rcI (hm_231 _) rfl)⟩ ?_
  show At _ none _ _ (0, [(0, .ref 231), (1, .int a1), (2, .int a2), (3, .int a3)], [], (en_pre a 231 hp_M, n)) _
  refine At.enter rfl ?_
  refine r_aload_n rfl ?_
  refine r_iconst 0 rfl ?_
  refine r_putf (hm_231 _) (Nat.le_of_ble_eq_true rfl) rfl [.int 0, .int 0, .ref 232, .ref 233, .ref 234, .ref 235, .int 0, .ref 236, .int 0, .int 0, .int 0, .int 0, .long 0, .int (-1), .int 0, .int 0, .ref 237, .int 0, .ref 238, .ref 239, .int 0, .ref 240, .ref 241, .int 0, .int 0, .ref 242, .ref 243, .int 0, .ref 244, .ref 245, .int 0, .long 0, .long 0, .ref 246, .ref 247, .ref 248, .int 0, .ref 249, .ref 250, .ref 251, .ref 252, .ref 253, .ref 254, .ref 255, .ref 256, .int 0, .int 0, .int 0, .long 0, .ref 257, .ref 258, .int 0] rfl ?_
  refine r_iload_n rfl ?_
  refine r_iload_n rfl ?_
  refine r_callS10s (((a2).toInt = 0) ∧ ((a3).toInt < (-1))) (((a2).toInt = 0) ∧ ((a3).toInt ≥ (-1)) ∧ ((a3).toInt > (11))) (((a2).toInt = 0) ∧ ((a3).toInt ≥ (-1)) ∧ ((a3).toInt ≤ (11))) (((a2).toInt = 1) ∧ ((a3).toInt < (1))) (((a2).toInt = 1) ∧ ((a3).toInt ≥ (1)) ∧ ((a3).toInt > (9))) (((a2).toInt = 1) ∧ ((a3).toInt ≥ (1)) ∧ ((a3).toInt ≤ (9))) (((a2).toInt = 2) ∧ ((a3).toInt < (0))) (((a2).toInt = 2) ∧ ((a3).toInt ≥ (0)) ∧ ((a3).toInt > (99))) (((a2).toInt = 2) ∧ ((a3).toInt ≥ (0)) ∧ ((a3).toInt ≤ (99))) (((a2).toInt < 0 ∨ 2 < (a2).toInt)) (.int 0) (.int 0) (.int 1) (.int 0) (.int 0) (.int 1) (.int 0) (.int 0) (.int 1) (.int 0) ((en_pre a 231 hp_M).set 231 (.inr (11, [.int 0, .int 0, .ref 232, .ref 233, .ref 234, .ref 235, .int 0, .ref 236, .int 0, .int 0, .int 0, .int 0, .long 0, .int (-1), .int 0, .int 0, .ref 237, .int 0, .ref 238, .ref 239, .int 0, .ref 240, .ref 241, .int 0, .int 0, .ref 242, .ref 243, .int 0, .ref 244, .ref 245, .int 0, .long 0, .long 0, .ref 246, .ref 247, .ref 248, .int 0, .ref 249, .ref 250, .ref 251, .ref 252, .ref 253, .ref 254, .ref 255, .ref 256, .int 0, .int 0, .int 0, .long 0, .ref 257, .ref 258, .int 0])), n) ((en_pre a 231 hp_M).set 231 (.inr (11, [.int 0, .int 0, .ref 232, .ref 233, .ref 234, .ref 235, .int 0, .ref 236, .int 0, .int 0, .int 0, .int 0, .long 0, .int (-1), .int 0, .int 0, .ref 237, .int 0, .ref 238, .ref 239, .int 0, .ref 240, .ref 241, .int 0, .int 0, .ref 242, .ref 243, .int 0, .ref 244, .ref 245, .int 0, .long 0, .long 0, .ref 246, .ref 247, .ref 248, .int 0, .ref 249, .ref 250, .ref 251, .ref 252, .ref 253, .ref 254, .ref 255, .ref 256, .int 0, .int 0, .int 0, .long 0, .ref 257, .ref 258, .int 0])), n) ((en_pre a 231 hp_M).set 231 (.inr (11, [.int 0, .int 0, .ref 232, .ref 233, .ref 234, .ref 235, .int 0, .ref 236, .int 0, .int 0, .int 0, .int 0, .long 0, .int (-1), .int 0, .int 0, .ref 237, .int 0, .ref 238, .ref 239, .int 0, .ref 240, .ref 241, .int 0, .int 0, .ref 242, .ref 243, .int 0, .ref 244, .ref 245, .int 0, .long 0, .long 0, .ref 246, .ref 247, .ref 248, .int 0, .ref 249, .ref 250, .ref 251, .ref 252, .ref 253, .ref 254, .ref 255, .ref 256, .int 0, .int 0, .int 0, .long 0, .ref 257, .ref 258, .int 0])), n) ((en_pre a 231 hp_M).set 231 (.inr (11, [.int 0, .int 0, .ref 232, .ref 233, .ref 234, .ref 235, .int 0, .ref 236, .int 0, .int 0, .int 0, .int 0, .long 0, .int (-1), .int 0, .int 0, .ref 237, .int 0, .ref 238, .ref 239, .int 0, .ref 240, .ref 241, .int 0, .int 0, .ref 242, .ref 243, .int 0, .ref 244, .ref 245, .int 0, .long 0, .long 0, .ref 246, .ref 247, .ref 248, .int 0, .ref 249, .ref 250, .ref 251, .ref 252, .ref 253, .ref 254, .ref 255, .ref 256, .int 0, .int 0, .int 0, .long 0, .ref 257, .ref 258, .int 0])), n) ((en_pre a 231 hp_M).set 231 (.inr (11, [.int 0, .int 0, .ref 232, .ref 233, .ref 234, .ref 235, .int 0, .ref 236, .int 0, .int 0, .int 0, .int 0, .long 0, .int (-1), .int 0, .int 0, .ref 237, .int 0, .ref 238, .ref 239, .int 0, .ref 240, .ref 241, .int 0, .int 0, .ref 242, .ref 243, .int 0, .ref 244, .ref 245, .int 0, .long 0, .long 0, .ref 246, .ref 247, .ref 248, .int 0, .ref 249, .ref 250, .ref 251, .ref 252, .ref 253, .ref 254, .ref 255, .ref 256, .int 0, .int 0, .int 0, .long 0, .ref 257, .ref 258, .int 0])), n) ((en_pre a 231 hp_M).set 231 (.inr (11, [.int 0, .int 0, .ref 232, .ref 233, .ref 234, .ref 235, .int 0, .ref 236, .int 0, .int 0, .int 0, .int 0, .long 0, .int (-1), .int 0, .int 0, .ref 237, .int 0, .ref 238, .ref 239, .int 0, .ref 240, .ref 241, .int 0, .int 0, .ref 242, .ref 243, .int 0, .ref 244, .ref 245, .int 0, .long 0, .long 0, .ref 246, .ref 247, .ref 248, .int 0, .ref 249, .ref 250, .ref 251, .ref 252, .ref 253, .ref 254, .ref 255, .ref 256, .int 0, .int 0, .int 0, .long 0, .ref 257, .ref 258, .int 0])), n) ((en_pre a 231 hp_M).set 231 (.inr (11, [.int 0, .int 0, .ref 232, .ref 233, .ref 234, .ref 235, .int 0, .ref 236, .int 0, .int 0, .int 0, .int 0, .long 0, .int (-1), .int 0, .int 0, .ref 237, .int 0, .ref 238, .ref 239, .int 0, .ref 240, .ref 241, .int 0, .int 0, .ref 242, .ref 243, .int 0, .ref 244, .ref 245, .int 0, .long 0, .long 0, .ref 246, .ref 247, .ref 248, .int 0, .ref 249, .ref 250, .ref 251, .ref 252, .ref 253, .ref 254, .ref 255, .ref 256, .int 0, .int 0, .int 0, .long 0, .ref 257, .ref 258, .int 0])), n) ((en_pre a 231 hp_M).set 231 (.inr (11, [.int 0, .int 0, .ref 232, .ref 233, .ref 234, .ref 235, .int 0, .ref 236, .int 0, .int 0, .int 0, .int 0, .long 0, .int (-1), .int 0, .int 0, .ref 237, .int 0, .ref 238, .ref 239, .int 0, .ref 240, .ref 241, .int 0, .int 0, .ref 242, .ref 243, .int 0, .ref 244, .ref 245, .int 0, .long 0, .long 0, .ref 246, .ref 247, .ref 248, .int 0, .ref 249, .ref 250, .ref 251, .ref 252, .ref 253, .ref 254, .ref 255, .ref 256, .int 0, .int 0, .int 0, .long 0, .ref 257, .ref 258, .int 0])), n) ((en_pre a 231 hp_M).set 231 (.inr (11, [.int 0, .int 0, .ref 232, .ref 233, .ref 234, .ref 235, .int 0, .ref 236, .int 0, .int 0, .int 0, .int 0, .long 0, .int (-1), .int 0, .int 0, .ref 237, .int 0, .ref 238, .ref 239, .int 0, .ref 240, .ref 241, .int 0, .int 0, .ref 242, .ref 243, .int 0, .ref 244, .ref 245, .int 0, .long 0, .long 0, .ref 246, .ref 247, .ref 248, .int 0, .ref 249, .ref 250, .ref 251, .ref 252, .ref 253, .ref 254, .ref 255, .ref 256, .int 0, .int 0, .int 0, .long 0, .ref 257, .ref 258, .int 0])), n) ((en_pre a 231 hp_M).set 231 (.inr (11, [.int 0, .int 0, .ref 232, .ref 233, .ref 234, .ref 235, .int 0, .ref 236, .int 0, .int 0, .int 0, .int 0, .long 0, .int (-1), .int 0, .int 0, .ref 237, .int 0, .ref 238, .ref 239, .int 0, .ref 240, .ref 241, .int 0, .int 0, .ref 242, .ref 243, .int 0, .ref 244, .ref 245, .int 0, .long 0, .long 0, .ref 246, .ref 247, .ref 248, .int 0, .ref 249, .ref 250, .ref 251, .ref 252, .ref 253, .ref 254, .ref 255, .ref 256, .int 0, .int 0, .int 0, .long 0, .ref 257, .ref 258, .int 0])), n) 10 rfl [.int a2, .int a3] [] (Nat.le_of_ble_eq_true rfl) rfl ?_ (fun ⟨c1_0, c2_⟩ => ?_) (fun ⟨c1_0, c2_, c3_⟩ => ?_) (fun ⟨c1_0, c2_, c3_⟩ => ?_) (fun ⟨c1_1, c4_⟩ => ?_) (fun ⟨c1_1, c4_, c5_⟩ => ?_) (fun ⟨c1_1, c4_, c5_⟩ => ?_) (fun ⟨c1_2, c6_⟩ => ?_) (fun ⟨c1_2, c6_, c7_⟩ => ?_) (fun ⟨c1_2, c6_, c7_⟩ => ?_) (fun c8 => ?_)
  · refine Ev.mk rfl rfl ⟨Nat.le_of_ble_eq_true rfl, Or.inl rfl⟩ ?_
    show At _ none _ _ (0, [(0, .int a2), (1, .int a3)], [], ((en_pre a 231 hp_M).set 231 (.inr (11, [.int 0, .int 0, .ref 232, .ref 233, .ref 234, .ref 235, .int 0, .ref 236, .int 0, .int 0, .int 0, .int 0, .long 0, .int (-1), .int 0, .int 0, .ref 237, .int 0, .ref 238, .ref 239, .int 0, .ref 240, .ref 241, .int 0, .int 0, .ref 242, .ref 243, .int 0, .ref 244, .ref 245, .int 0, .long 0, .long 0, .ref 246, .ref 247, .ref 248, .int 0, .ref 249, .ref 250, .ref 251, .ref 252, .ref 253, .ref 254, .ref 255, .ref 256, .int 0, .int 0, .int 0, .long 0, .ref 257, .ref 258, .int 0])), n)) _
    refine At.enter rfl ?_
    refine r_iload_n rfl ?_
    by_cases c1_0 : (a2).toInt = 0
    · refine r_tsw 28 (by rw [c1_0]; rfl) ?_
      refine At.enter rfl ?_
      refine r_iload_n rfl ?_
      refine r_i2l ((a3).toInt64) rfl ?_
      refine r_ldc2 (-1) rfl ?_
      refine r_ldc2 11 rfl ?_
      refine r_callS3s (((a3).toInt < (-1))) (((a3).toInt ≥ (-1)) ∧ ((a3).toInt > (11))) (((a3).toInt ≥ (-1)) ∧ ((a3).toInt ≤ (11))) (.int 0) (.int 0) (.int 1) ((en_pre a 231 hp_M).set 231 (.inr (11, [.int 0, .int 0, .ref 232, .ref 233, .ref 234, .ref 235, .int 0, .ref 236, .int 0, .int 0, .int 0, .int 0, .long 0, .int (-1), .int 0, .int 0, .ref 237, .int 0, .ref 238, .ref 239, .int 0, .ref 240, .ref 241, .int 0, .int 0, .ref 242, .ref 243, .int 0, .ref 244, .ref 245, .int 0, .long 0, .long 0, .ref 246, .ref 247, .ref 248, .int 0, .ref 249, .ref 250, .ref 251, .ref 252, .ref 253, .ref 254, .ref 255, .ref 256, .int 0, .int 0, .int 0, .long 0, .ref 257, .ref 258, .int 0])), n) ((en_pre a 231 hp_M).set 231 (.inr (11, [.int 0, .int 0, .ref 232, .ref 233, .ref 234, .ref 235, .int 0, .ref 236, .int 0, .int 0, .int 0, .int 0, .long 0, .int (-1), .int 0, .int 0, .ref 237, .int 0, .ref 238, .ref 239, .int 0, .ref 240, .ref 241, .int 0, .int 0, .ref 242, .ref 243, .int 0, .ref 244, .ref 245, .int 0, .long 0, .long 0, .ref 246, .ref 247, .ref 248, .int 0, .ref 249, .ref 250, .ref 251, .ref 252, .ref 253, .ref 254, .ref 255, .ref 256, .int 0, .int 0, .int 0, .long 0, .ref 257, .ref 258, .int 0])), n) ((en_pre a 231 hp_M).set 231 (.inr (11, [.int 0, .int 0, .ref 232, .ref 233, .ref 234, .ref 235, .int 0, .ref 236, .int 0, .int 0, .int 0, .int 0, .long 0, .int (-1), .int 0, .int 0, .ref 237, .int 0, .ref 238, .ref 239, .int 0, .ref 240, .ref 241, .int 0, .int 0, .ref 242, .ref 243, .int 0, .ref 244, .ref 245, .int 0, .long 0, .long 0, .ref 246, .ref 247, .ref 248, .int 0, .ref 249, .ref 250, .ref 251, .ref 252, .ref 253, .ref 254, .ref 255, .ref 256, .int 0, .int 0, .int 0, .long 0, .ref 257, .ref 258, .int 0])), n) 39 rfl [.long (a3).toInt64, .long (-1), .long 11] [] (Nat.le_of_ble_eq_true rfl) rfl ?_ (fun c2_ => ?_) (fun ⟨c2_, c3_⟩ => ?_) (fun ⟨c2_, c3_⟩ => ?_)
      · refine Ev.mk rfl rfl ⟨Nat.le_of_ble_eq_true rfl, Or.inl rfl⟩ ?_
        show At _ none _ _ (0, [(0, .long (a3).toInt64), (2, .long (-1)), (4, .long 11)], [], ((en_pre a 231 hp_M).set 231 (.inr (11, [.int 0, .int 0, .ref 232, .ref 233, .ref 234, .ref 235, .int 0, .ref 236, .int 0, .int 0, .int 0, .int 0, .long 0, .int (-1), .int 0, .int 0, .ref 237, .int 0, .ref 238, .ref 239, .int 0, .ref 240, .ref 241, .int 0, .int 0, .ref 242, .ref 243, .int 0, .ref 244, .ref 245, .int 0, .long 0, .long 0, .ref 246, .ref 247, .ref 248, .int 0, .ref 249, .ref 250, .ref 251, .ref 252, .ref 253, .ref 254, .ref 255, .ref 256, .int 0, .int 0, .int 0, .long 0, .ref 257, .ref 258, .int 0])), n)) _
        refine At.enter rfl ?_
        refine r_lload_n rfl ?_
        refine r_lload_n rfl ?_
        refine r_lcmp (lg_cmp (a3).toInt64 (-1)) rfl ?_
        refine r_ifs 6 rfl (fun c2 => ?_) (fun c2 => ?_)
        · have c2_ : (a3).toInt < (-1) := (by have z := en_j_lt_t c2; (try simp only [Int32.toInt_toInt64] at z); exact z)
          refine At.enter rfl ?_
          refine r_iconst 0 rfl ?_
          refine Ar.fall 18 rfl ?_
          refine At.enter rfl ?_
          refine r_iretz (by decide) ?_
          exact Or.inl ⟨c2_, rfl, rfl⟩
        · have c2_ : (a3).toInt ≥ (-1) := (by have z := en_j_lt_f c2; (try simp only [Int32.toInt_toInt64] at z); exact z)
          refine At.enter rfl ?_
          refine r_lload_n rfl ?_
          refine r_lload rfl ?_
          refine r_lcmp (lg_cmp (a3).toInt64 11) rfl ?_
          refine r_ifs 13 rfl (fun c3 => ?_) (fun c3 => ?_)
          · have c3_ : (a3).toInt > (11) := (by have z := en_j_gt_t c3; (try simp only [Int32.toInt_toInt64] at z); exact z)
            refine At.enter rfl ?_
            refine r_iconst 0 rfl ?_
            refine Ar.fall 18 rfl ?_
            refine At.enter rfl ?_
            refine r_iretz (by decide) ?_
            exact Or.inr (Or.inl ⟨⟨c2_, c3_⟩, rfl, rfl⟩)
          · have c3_ : (a3).toInt ≤ (11) := (by have z := en_j_gt_f c3; (try simp only [Int32.toInt_toInt64] at z); exact z)
            refine At.enter rfl ?_
            refine r_iconst 1 rfl ?_
            refine r_goto ?_
            refine At.enter rfl ?_
            refine r_iretz (by decide) ?_
            exact Or.inr (Or.inr (⟨⟨c2_, c3_⟩, rfl, rfl⟩))
      · refine At.enter rfl ?_
        refine r_iretz (by decide) ?_
        exact Or.inl ⟨⟨c1_0, c2_⟩, rfl, rfl⟩
      · refine At.enter rfl ?_
        refine r_iretz (by decide) ?_
        exact Or.inr (Or.inl ⟨⟨c1_0, c2_, c3_⟩, rfl, rfl⟩)
      · refine At.enter rfl ?_
        refine r_iretz (by decide) ?_
        exact Or.inr (Or.inr (Or.inl ⟨⟨c1_0, c2_, c3_⟩, rfl, rfl⟩))
    by_cases c1_1 : (a2).toInt = 1
    · refine r_tsw 40 (by rw [c1_1]; rfl) ?_
      refine At.enter rfl ?_
      refine r_iload_n rfl ?_
      refine r_i2l ((a3).toInt64) rfl ?_
      refine r_lconst 1 rfl ?_
      refine r_ldc2 9 rfl ?_
      refine r_callS3s (((a3).toInt < (1))) (((a3).toInt ≥ (1)) ∧ ((a3).toInt > (9))) (((a3).toInt ≥ (1)) ∧ ((a3).toInt ≤ (9))) (.int 0) (.int 0) (.int 1) ((en_pre a 231 hp_M).set 231 (.inr (11, [.int 0, .int 0, .ref 232, .ref 233, .ref 234, .ref 235, .int 0, .ref 236, .int 0, .int 0, .int 0, .int 0, .long 0, .int (-1), .int 0, .int 0, .ref 237, .int 0, .ref 238, .ref 239, .int 0, .ref 240, .ref 241, .int 0, .int 0, .ref 242, .ref 243, .int 0, .ref 244, .ref 245, .int 0, .long 0, .long 0, .ref 246, .ref 247, .ref 248, .int 0, .ref 249, .ref 250, .ref 251, .ref 252, .ref 253, .ref 254, .ref 255, .ref 256, .int 0, .int 0, .int 0, .long 0, .ref 257, .ref 258, .int 0])), n) ((en_pre a 231 hp_M).set 231 (.inr (11, [.int 0, .int 0, .ref 232, .ref 233, .ref 234, .ref 235, .int 0, .ref 236, .int 0, .int 0, .int 0, .int 0, .long 0, .int (-1), .int 0, .int 0, .ref 237, .int 0, .ref 238, .ref 239, .int 0, .ref 240, .ref 241, .int 0, .int 0, .ref 242, .ref 243, .int 0, .ref 244, .ref 245, .int 0, .long 0, .long 0, .ref 246, .ref 247, .ref 248, .int 0, .ref 249, .ref 250, .ref 251, .ref 252, .ref 253, .ref 254, .ref 255, .ref 256, .int 0, .int 0, .int 0, .long 0, .ref 257, .ref 258, .int 0])), n) ((en_pre a 231 hp_M).set 231 (.inr (11, [.int 0, .int 0, .ref 232, .ref 233, .ref 234, .ref 235, .int 0, .ref 236, .int 0, .int 0, .int 0, .int 0, .long 0, .int (-1), .int 0, .int 0, .ref 237, .int 0, .ref 238, .ref 239, .int 0, .ref 240, .ref 241, .int 0, .int 0, .ref 242, .ref 243, .int 0, .ref 244, .ref 245, .int 0, .long 0, .long 0, .ref 246, .ref 247, .ref 248, .int 0, .ref 249, .ref 250, .ref 251, .ref 252, .ref 253, .ref 254, .ref 255, .ref 256, .int 0, .int 0, .int 0, .long 0, .ref 257, .ref 258, .int 0])), n) 49 rfl [.long (a3).toInt64, .long 1, .long 9] [] (Nat.le_of_ble_eq_true rfl) rfl ?_ (fun c4_ => ?_) (fun ⟨c4_, c5_⟩ => ?_) (fun ⟨c4_, c5_⟩ => ?_)
      · refine Ev.mk rfl rfl ⟨Nat.le_of_ble_eq_true rfl, Or.inl rfl⟩ ?_
        show At _ none _ _ (0, [(0, .long (a3).toInt64), (2, .long 1), (4, .long 9)], [], ((en_pre a 231 hp_M).set 231 (.inr (11, [.int 0, .int 0, .ref 232, .ref 233, .ref 234, .ref 235, .int 0, .ref 236, .int 0, .int 0, .int 0, .int 0, .long 0, .int (-1), .int 0, .int 0, .ref 237, .int 0, .ref 238, .ref 239, .int 0, .ref 240, .ref 241, .int 0, .int 0, .ref 242, .ref 243, .int 0, .ref 244, .ref 245, .int 0, .long 0, .long 0, .ref 246, .ref 247, .ref 248, .int 0, .ref 249, .ref 250, .ref 251, .ref 252, .ref 253, .ref 254, .ref 255, .ref 256, .int 0, .int 0, .int 0, .long 0, .ref 257, .ref 258, .int 0])), n)) _
        refine At.enter rfl ?_
        refine r_lload_n rfl ?_
        refine r_lload_n rfl ?_
        refine r_lcmp (lg_cmp (a3).toInt64 1) rfl ?_
        refine r_ifs 6 rfl (fun c4 => ?_) (fun c4 => ?_)
        · have c4_ : (a3).toInt < (1) := (by have z := en_j_lt_t c4; (try simp only [Int32.toInt_toInt64] at z); exact z)
          refine At.enter rfl ?_
          refine r_iconst 0 rfl ?_
          refine Ar.fall 18 rfl ?_
          refine At.enter rfl ?_
          refine r_iretz (by decide) ?_
          exact Or.inl ⟨c4_, rfl, rfl⟩
        · have c4_ : (a3).toInt ≥ (1) := (by have z := en_j_lt_f c4; (try simp only [Int32.toInt_toInt64] at z); exact z)
          refine At.enter rfl ?_
          refine r_lload_n rfl ?_
          refine r_lload rfl ?_
          refine r_lcmp (lg_cmp (a3).toInt64 9) rfl ?_
          refine r_ifs 13 rfl (fun c5 => ?_) (fun c5 => ?_)
          · have c5_ : (a3).toInt > (9) := (by have z := en_j_gt_t c5; (try simp only [Int32.toInt_toInt64] at z); exact z)
            refine At.enter rfl ?_
            refine r_iconst 0 rfl ?_
            refine Ar.fall 18 rfl ?_
            refine At.enter rfl ?_
            refine r_iretz (by decide) ?_
            exact Or.inr (Or.inl ⟨⟨c4_, c5_⟩, rfl, rfl⟩)
          · have c5_ : (a3).toInt ≤ (9) := (by have z := en_j_gt_f c5; (try simp only [Int32.toInt_toInt64] at z); exact z)
            refine At.enter rfl ?_
            refine r_iconst 1 rfl ?_
            refine r_goto ?_
            refine At.enter rfl ?_
            refine r_iretz (by decide) ?_
            exact Or.inr (Or.inr (⟨⟨c4_, c5_⟩, rfl, rfl⟩))
      · refine At.enter rfl ?_
        refine r_iretz (by decide) ?_
        exact Or.inr (Or.inr (Or.inr (Or.inl ⟨⟨c1_1, c4_⟩, rfl, rfl⟩)))
      · refine At.enter rfl ?_
        refine r_iretz (by decide) ?_
        exact Or.inr (Or.inr (Or.inr (Or.inr (Or.inl ⟨⟨c1_1, c4_, c5_⟩, rfl, rfl⟩))))
      · refine At.enter rfl ?_
        refine r_iretz (by decide) ?_
        exact Or.inr (Or.inr (Or.inr (Or.inr (Or.inr (Or.inl ⟨⟨c1_1, c4_, c5_⟩, rfl, rfl⟩)))))
    by_cases c1_2 : (a2).toInt = 2
    · refine r_tsw 50 (by rw [c1_2]; rfl) ?_
      refine At.enter rfl ?_
      refine r_iload_n rfl ?_
      refine r_i2l ((a3).toInt64) rfl ?_
      refine r_lconst 0 rfl ?_
      refine r_ldc2 99 rfl ?_
      refine r_callS3s (((a3).toInt < (0))) (((a3).toInt ≥ (0)) ∧ ((a3).toInt > (99))) (((a3).toInt ≥ (0)) ∧ ((a3).toInt ≤ (99))) (.int 0) (.int 0) (.int 1) ((en_pre a 231 hp_M).set 231 (.inr (11, [.int 0, .int 0, .ref 232, .ref 233, .ref 234, .ref 235, .int 0, .ref 236, .int 0, .int 0, .int 0, .int 0, .long 0, .int (-1), .int 0, .int 0, .ref 237, .int 0, .ref 238, .ref 239, .int 0, .ref 240, .ref 241, .int 0, .int 0, .ref 242, .ref 243, .int 0, .ref 244, .ref 245, .int 0, .long 0, .long 0, .ref 246, .ref 247, .ref 248, .int 0, .ref 249, .ref 250, .ref 251, .ref 252, .ref 253, .ref 254, .ref 255, .ref 256, .int 0, .int 0, .int 0, .long 0, .ref 257, .ref 258, .int 0])), n) ((en_pre a 231 hp_M).set 231 (.inr (11, [.int 0, .int 0, .ref 232, .ref 233, .ref 234, .ref 235, .int 0, .ref 236, .int 0, .int 0, .int 0, .int 0, .long 0, .int (-1), .int 0, .int 0, .ref 237, .int 0, .ref 238, .ref 239, .int 0, .ref 240, .ref 241, .int 0, .int 0, .ref 242, .ref 243, .int 0, .ref 244, .ref 245, .int 0, .long 0, .long 0, .ref 246, .ref 247, .ref 248, .int 0, .ref 249, .ref 250, .ref 251, .ref 252, .ref 253, .ref 254, .ref 255, .ref 256, .int 0, .int 0, .int 0, .long 0, .ref 257, .ref 258, .int 0])), n) ((en_pre a 231 hp_M).set 231 (.inr (11, [.int 0, .int 0, .ref 232, .ref 233, .ref 234, .ref 235, .int 0, .ref 236, .int 0, .int 0, .int 0, .int 0, .long 0, .int (-1), .int 0, .int 0, .ref 237, .int 0, .ref 238, .ref 239, .int 0, .ref 240, .ref 241, .int 0, .int 0, .ref 242, .ref 243, .int 0, .ref 244, .ref 245, .int 0, .long 0, .long 0, .ref 246, .ref 247, .ref 248, .int 0, .ref 249, .ref 250, .ref 251, .ref 252, .ref 253, .ref 254, .ref 255, .ref 256, .int 0, .int 0, .int 0, .long 0, .ref 257, .ref 258, .int 0])), n) 59 rfl [.long (a3).toInt64, .long 0, .long 99] [] (Nat.le_of_ble_eq_true rfl) rfl ?_ (fun c6_ => ?_) (fun ⟨c6_, c7_⟩ => ?_) (fun ⟨c6_, c7_⟩ => ?_)
      · refine Ev.mk rfl rfl ⟨Nat.le_of_ble_eq_true rfl, Or.inl rfl⟩ ?_
        show At _ none _ _ (0, [(0, .long (a3).toInt64), (2, .long 0), (4, .long 99)], [], ((en_pre a 231 hp_M).set 231 (.inr (11, [.int 0, .int 0, .ref 232, .ref 233, .ref 234, .ref 235, .int 0, .ref 236, .int 0, .int 0, .int 0, .int 0, .long 0, .int (-1), .int 0, .int 0, .ref 237, .int 0, .ref 238, .ref 239, .int 0, .ref 240, .ref 241, .int 0, .int 0, .ref 242, .ref 243, .int 0, .ref 244, .ref 245, .int 0, .long 0, .long 0, .ref 246, .ref 247, .ref 248, .int 0, .ref 249, .ref 250, .ref 251, .ref 252, .ref 253, .ref 254, .ref 255, .ref 256, .int 0, .int 0, .int 0, .long 0, .ref 257, .ref 258, .int 0])), n)) _
        refine At.enter rfl ?_
        refine r_lload_n rfl ?_
        refine r_lload_n rfl ?_
        refine r_lcmp (lg_cmp (a3).toInt64 0) rfl ?_
        refine r_ifs 6 rfl (fun c6 => ?_) (fun c6 => ?_)
        · have c6_ : (a3).toInt < (0) := (by have z := en_j_lt_t c6; (try simp only [Int32.toInt_toInt64] at z); exact z)
          refine At.enter rfl ?_
          refine r_iconst 0 rfl ?_
          refine Ar.fall 18 rfl ?_
          refine At.enter rfl ?_
          refine r_iretz (by decide) ?_
          exact Or.inl ⟨c6_, rfl, rfl⟩
        · have c6_ : (a3).toInt ≥ (0) := (by have z := en_j_lt_f c6; (try simp only [Int32.toInt_toInt64] at z); exact z)
          refine At.enter rfl ?_
          refine r_lload_n rfl ?_
          refine r_lload rfl ?_
          refine r_lcmp (lg_cmp (a3).toInt64 99) rfl ?_
          refine r_ifs 13 rfl (fun c7 => ?_) (fun c7 => ?_)
          · have c7_ : (a3).toInt > (99) := (by have z := en_j_gt_t c7; (try simp only [Int32.toInt_toInt64] at z); exact z)
            refine At.enter rfl ?_
            refine r_iconst 0 rfl ?_
            refine Ar.fall 18 rfl ?_
            refine At.enter rfl ?_
            refine r_iretz (by decide) ?_
            exact Or.inr (Or.inl ⟨⟨c6_, c7_⟩, rfl, rfl⟩)
          · have c7_ : (a3).toInt ≤ (99) := (by have z := en_j_gt_f c7; (try simp only [Int32.toInt_toInt64] at z); exact z)
            refine At.enter rfl ?_
            refine r_iconst 1 rfl ?_
            refine r_goto ?_
            refine At.enter rfl ?_
            refine r_iretz (by decide) ?_
            exact Or.inr (Or.inr (⟨⟨c6_, c7_⟩, rfl, rfl⟩))
      · refine At.enter rfl ?_
        refine r_iretz (by decide) ?_
        exact Or.inr (Or.inr (Or.inr (Or.inr (Or.inr (Or.inr (Or.inl ⟨⟨c1_2, c6_⟩, rfl, rfl⟩))))))
      · refine At.enter rfl ?_
        refine r_iretz (by decide) ?_
        exact Or.inr (Or.inr (Or.inr (Or.inr (Or.inr (Or.inr (Or.inr (Or.inl ⟨⟨c1_2, c6_, c7_⟩, rfl, rfl⟩)))))))
      · refine At.enter rfl ?_
        refine r_iretz (by decide) ?_
        exact Or.inr (Or.inr (Or.inr (Or.inr (Or.inr (Or.inr (Or.inr (Or.inr (Or.inl ⟨⟨c1_2, c6_, c7_⟩, rfl, rfl⟩))))))))
    have c8 : (a2).toInt < 0 ∨ 2 < (a2).toInt := by omega
    refine r_tsw 60 (by unfold en_sw; rw [if_pos c8]; rfl) ?_
    refine At.enter rfl ?_
    refine r_iconst 0 rfl ?_
    refine r_iretz (by decide) ?_
    exact Or.inr (Or.inr (Or.inr (Or.inr (Or.inr (Or.inr (Or.inr (Or.inr (Or.inr (⟨c8, rfl, rfl⟩)))))))))
  · refine At.enter rfl ?_
    refine r_iff 13 rfl (by decide) ?_
    refine At.enter rfl ?_
    refine r_aload_n rfl ?_
    refine r_iconst (-1) rfl ?_
    refine r_callV1s (True) (.int (-1)) (((en_pre a 231 hp_M).set 231 (.inr (11, [.int 0, .int (-1), .ref 232, .ref 233, .ref 234, .ref 235, .int 0, .ref 236, .int 0, .int 0, .int 0, .int 0, .long 0, .int (-1), .int 0, .int 0, .ref 237, .int 0, .ref 238, .ref 239, .int 0, .ref 240, .ref 241, .int 0, .int 0, .ref 242, .ref 243, .int 0, .ref 244, .ref 245, .int 0, .long 0, .long 0, .ref 246, .ref 247, .ref 248, .int 0, .ref 249, .ref 250, .ref 251, .ref 252, .ref 253, .ref 254, .ref 255, .ref 256, .int 0, .int 0, .int 0, .long 0, .ref 257, .ref 258, .int 0]))).set 232 (.inl (0, .inl ([0, 1, 0, 0, 0, 0, 0]))), n) 18 rfl [.ref 231, .int (-1)] [] (Nat.le_of_ble_eq_true rfl) rfl ?_ (fun _ => ?_)
    · refine Ev.mk rfl rfl ⟨Nat.le_of_ble_eq_true rfl, Or.inr (en_rcI (en_gs_eq (hm_231 _)) rfl)⟩ ?_
      show At _ none _ _ (0, [(0, .ref 231), (1, .int (-1))], [], ((en_pre a 231 hp_M).set 231 (.inr (11, [.int 0, .int 0, .ref 232, .ref 233, .ref 234, .ref 235, .int 0, .ref 236, .int 0, .int 0, .int 0, .int 0, .long 0, .int (-1), .int 0, .int 0, .ref 237, .int 0, .ref 238, .ref 239, .int 0, .ref 240, .ref 241, .int 0, .int 0, .ref 242, .ref 243, .int 0, .ref 244, .ref 245, .int 0, .long 0, .long 0, .ref 246, .ref 247, .ref 248, .int 0, .ref 249, .ref 250, .ref 251, .ref 252, .ref 253, .ref 254, .ref 255, .ref 256, .int 0, .int 0, .int 0, .long 0, .ref 257, .ref 258, .int 0])), n)) _
      refine At.enter rfl ?_
      refine r_aload_n rfl ?_
      refine r_iload_n rfl ?_
      refine r_iff 5 rfl (by decide) ?_
      refine At.enter rfl ?_
      refine r_iload_n rfl ?_
      refine r_goto ?_
      refine At.enter rfl ?_
      refine r_putf (en_gs_eq (hm_231 _)) (Nat.le_of_ble_eq_true rfl) rfl [.int 0, .int (-1), .ref 232, .ref 233, .ref 234, .ref 235, .int 0, .ref 236, .int 0, .int 0, .int 0, .int 0, .long 0, .int (-1), .int 0, .int 0, .ref 237, .int 0, .ref 238, .ref 239, .int 0, .ref 240, .ref 241, .int 0, .int 0, .ref 242, .ref 243, .int 0, .ref 244, .ref 245, .int 0, .long 0, .long 0, .ref 246, .ref 247, .ref 248, .int 0, .ref 249, .ref 250, .ref 251, .ref 252, .ref 253, .ref 254, .ref 255, .ref 256, .int 0, .int 0, .int 0, .long 0, .ref 257, .ref 258, .int 0] rfl ?_
      refine Ar.hp en_sd0 ?_
      refine r_iload_n rfl ?_
      refine r_iff 17 rfl (by decide) ?_
      refine At.enter rfl ?_
      refine r_aload_n rfl ?_
      refine r_get (v := .ref 232) (en_gs_eq (hm_231 _)) rfl ?_
      refine r_iload_n rfl ?_
      refine r_ineg 1 rfl ?_
      refine r_dup2 ⟨rfl, rfl⟩ ?_
      refine r_iald (v := 0) (en_gs_ne (by decide) (hm_232 _)) (by decide) rfl ?_
      refine r_iconst 1 rfl ?_
      refine r_iadd 1 rfl ?_
      refine r_iast (en_gs_ne (by decide) (hm_232 _)) (by decide) (Nat.le_of_ble_eq_true rfl) ([0, 1, 0, 0, 0, 0, 0]) (by decide +kernel) ?_
      refine Ar.fall 28 rfl ?_
      refine At.enter rfl ?_
      refine r_iload_n rfl ?_
      refine r_ireti ?_
      exact ⟨trivial, rfl, rfl⟩
    refine At.enter rfl ?_
    refine r_ireti ?_
    exact ⟨congrArg (fun z => some (Value.int z)) (by unfold sp_put; (repeat' split) <;> first | rfl | omega), (en_lset (en_lset (en_prel a))), rfl⟩
  · refine At.enter rfl ?_
    refine r_iff 13 rfl (by decide) ?_
    refine At.enter rfl ?_
    refine r_aload_n rfl ?_
    refine r_iconst (-1) rfl ?_
    refine r_callV1s (True) (.int (-1)) (((en_pre a 231 hp_M).set 231 (.inr (11, [.int 0, .int (-1), .ref 232, .ref 233, .ref 234, .ref 235, .int 0, .ref 236, .int 0, .int 0, .int 0, .int 0, .long 0, .int (-1), .int 0, .int 0, .ref 237, .int 0, .ref 238, .ref 239, .int 0, .ref 240, .ref 241, .int 0, .int 0, .ref 242, .ref 243, .int 0, .ref 244, .ref 245, .int 0, .long 0, .long 0, .ref 246, .ref 247, .ref 248, .int 0, .ref 249, .ref 250, .ref 251, .ref 252, .ref 253, .ref 254, .ref 255, .ref 256, .int 0, .int 0, .int 0, .long 0, .ref 257, .ref 258, .int 0]))).set 232 (.inl (0, .inl ([0, 1, 0, 0, 0, 0, 0]))), n) 18 rfl [.ref 231, .int (-1)] [] (Nat.le_of_ble_eq_true rfl) rfl ?_ (fun _ => ?_)
    · refine Ev.mk rfl rfl ⟨Nat.le_of_ble_eq_true rfl, Or.inr (en_rcI (en_gs_eq (hm_231 _)) rfl)⟩ ?_
      show At _ none _ _ (0, [(0, .ref 231), (1, .int (-1))], [], ((en_pre a 231 hp_M).set 231 (.inr (11, [.int 0, .int 0, .ref 232, .ref 233, .ref 234, .ref 235, .int 0, .ref 236, .int 0, .int 0, .int 0, .int 0, .long 0, .int (-1), .int 0, .int 0, .ref 237, .int 0, .ref 238, .ref 239, .int 0, .ref 240, .ref 241, .int 0, .int 0, .ref 242, .ref 243, .int 0, .ref 244, .ref 245, .int 0, .long 0, .long 0, .ref 246, .ref 247, .ref 248, .int 0, .ref 249, .ref 250, .ref 251, .ref 252, .ref 253, .ref 254, .ref 255, .ref 256, .int 0, .int 0, .int 0, .long 0, .ref 257, .ref 258, .int 0])), n)) _
      refine At.enter rfl ?_
      refine r_aload_n rfl ?_
      refine r_iload_n rfl ?_
      refine r_iff 5 rfl (by decide) ?_
      refine At.enter rfl ?_
      refine r_iload_n rfl ?_
      refine r_goto ?_
      refine At.enter rfl ?_
      refine r_putf (en_gs_eq (hm_231 _)) (Nat.le_of_ble_eq_true rfl) rfl [.int 0, .int (-1), .ref 232, .ref 233, .ref 234, .ref 235, .int 0, .ref 236, .int 0, .int 0, .int 0, .int 0, .long 0, .int (-1), .int 0, .int 0, .ref 237, .int 0, .ref 238, .ref 239, .int 0, .ref 240, .ref 241, .int 0, .int 0, .ref 242, .ref 243, .int 0, .ref 244, .ref 245, .int 0, .long 0, .long 0, .ref 246, .ref 247, .ref 248, .int 0, .ref 249, .ref 250, .ref 251, .ref 252, .ref 253, .ref 254, .ref 255, .ref 256, .int 0, .int 0, .int 0, .long 0, .ref 257, .ref 258, .int 0] rfl ?_
      refine Ar.hp en_sd0 ?_
      refine r_iload_n rfl ?_
      refine r_iff 17 rfl (by decide) ?_
      refine At.enter rfl ?_
      refine r_aload_n rfl ?_
      refine r_get (v := .ref 232) (en_gs_eq (hm_231 _)) rfl ?_
      refine r_iload_n rfl ?_
      refine r_ineg 1 rfl ?_
      refine r_dup2 ⟨rfl, rfl⟩ ?_
      refine r_iald (v := 0) (en_gs_ne (by decide) (hm_232 _)) (by decide) rfl ?_
      refine r_iconst 1 rfl ?_
      refine r_iadd 1 rfl ?_
      refine r_iast (en_gs_ne (by decide) (hm_232 _)) (by decide) (Nat.le_of_ble_eq_true rfl) ([0, 1, 0, 0, 0, 0, 0]) (by decide +kernel) ?_
      refine Ar.fall 28 rfl ?_
      refine At.enter rfl ?_
      refine r_iload_n rfl ?_
      refine r_ireti ?_
      exact ⟨trivial, rfl, rfl⟩
    refine At.enter rfl ?_
    refine r_ireti ?_
    exact ⟨congrArg (fun z => some (Value.int z)) (by unfold sp_put; (repeat' split) <;> first | rfl | omega), (en_lset (en_lset (en_prel a))), rfl⟩
  · refine At.enter rfl ?_
    refine r_ift (by decide) ?_
    refine At.enter rfl ?_
    refine r_aload_n rfl ?_
    refine r_iload_n rfl ?_
    refine r_callV2s (((a1).toInt < (0))) (((a1).toInt ≥ (0)) ∧ ((a1).toInt > (-1))) (.int 0) (.int 0) ((en_pre a 231 hp_M).set 231 (.inr (11, [.int 0, .int 0, .ref 232, .ref 233, .ref 234, .ref 235, .int 0, .ref 236, .int 0, .int 0, .int 0, .int 0, .long 0, .int (-1), .int 0, .int 0, .ref 237, .int 0, .ref 238, .ref 239, .int 0, .ref 240, .ref 241, .int 0, .int 0, .ref 242, .ref 243, .int 0, .ref 244, .ref 245, .int 0, .long 0, .long 0, .ref 246, .ref 247, .ref 248, .int 0, .ref 249, .ref 250, .ref 251, .ref 252, .ref 253, .ref 254, .ref 255, .ref 256, .int 0, .int 0, .int 0, .long 0, .ref 257, .ref 258, .int 0])), n) ((en_pre a 231 hp_M).set 231 (.inr (11, [.int 0, .int 0, .ref 232, .ref 233, .ref 234, .ref 235, .int 0, .ref 236, .int 0, .int 0, .int 0, .int 0, .long 0, .int (-1), .int 0, .int 0, .ref 237, .int 0, .ref 238, .ref 239, .int 0, .ref 240, .ref 241, .int 0, .int 0, .ref 242, .ref 243, .int 0, .ref 244, .ref 245, .int 0, .long 0, .long 0, .ref 246, .ref 247, .ref 248, .int 0, .ref 249, .ref 250, .ref 251, .ref 252, .ref 253, .ref 254, .ref 255, .ref 256, .int 0, .int 0, .int 0, .long 0, .ref 257, .ref 258, .int 0])), n) 24 rfl [.ref 231, .int a1] [] (Nat.le_of_ble_eq_true rfl) rfl ?_ (fun c9_ => ?_) (fun ⟨c9_, c10_⟩ => ?_)
    · refine Ev.mk rfl rfl ⟨Nat.le_of_ble_eq_true rfl, Or.inr (en_rcI (en_gs_eq (hm_231 _)) rfl)⟩ ?_
      show At _ none _ _ (0, [(0, .ref 231), (1, .int a1)], [], ((en_pre a 231 hp_M).set 231 (.inr (11, [.int 0, .int 0, .ref 232, .ref 233, .ref 234, .ref 235, .int 0, .ref 236, .int 0, .int 0, .int 0, .int 0, .long 0, .int (-1), .int 0, .int 0, .ref 237, .int 0, .ref 238, .ref 239, .int 0, .ref 240, .ref 241, .int 0, .int 0, .ref 242, .ref 243, .int 0, .ref 244, .ref 245, .int 0, .long 0, .long 0, .ref 246, .ref 247, .ref 248, .int 0, .ref 249, .ref 250, .ref 251, .ref 252, .ref 253, .ref 254, .ref 255, .ref 256, .int 0, .int 0, .int 0, .long 0, .ref 257, .ref 258, .int 0])), n)) _
      refine At.enter rfl ?_
      refine r_iload_n rfl ?_
      refine r_i2l ((a1).toInt64) rfl ?_
      refine r_lconst 0 rfl ?_
      refine r_aload_n rfl ?_
      refine r_get (v := .ref 233) (en_gs_eq (hm_231 _)) rfl ?_
      refine r_iconst 0 rfl ?_
      refine r_iald (v := 0) (en_gs_ne (by decide) (hm_233 _)) (by decide) rfl ?_
      refine r_i2l (0) rfl ?_
      refine r_lconst 1 rfl ?_
      refine r_lsub (-1) rfl ?_
      refine r_callS2s (((a1).toInt < (0))) (((a1).toInt ≥ (0)) ∧ ((a1).toInt > (-1))) (.int 0) (.int 0) ((en_pre a 231 hp_M).set 231 (.inr (11, [.int 0, .int 0, .ref 232, .ref 233, .ref 234, .ref 235, .int 0, .ref 236, .int 0, .int 0, .int 0, .int 0, .long 0, .int (-1), .int 0, .int 0, .ref 237, .int 0, .ref 238, .ref 239, .int 0, .ref 240, .ref 241, .int 0, .int 0, .ref 242, .ref 243, .int 0, .ref 244, .ref 245, .int 0, .long 0, .long 0, .ref 246, .ref 247, .ref 248, .int 0, .ref 249, .ref 250, .ref 251, .ref 252, .ref 253, .ref 254, .ref 255, .ref 256, .int 0, .int 0, .int 0, .long 0, .ref 257, .ref 258, .int 0])), n) ((en_pre a 231 hp_M).set 231 (.inr (11, [.int 0, .int 0, .ref 232, .ref 233, .ref 234, .ref 235, .int 0, .ref 236, .int 0, .int 0, .int 0, .int 0, .long 0, .int (-1), .int 0, .int 0, .ref 237, .int 0, .ref 238, .ref 239, .int 0, .ref 240, .ref 241, .int 0, .int 0, .ref 242, .ref 243, .int 0, .ref 244, .ref 245, .int 0, .long 0, .long 0, .ref 246, .ref 247, .ref 248, .int 0, .ref 249, .ref 250, .ref 251, .ref 252, .ref 253, .ref 254, .ref 255, .ref 256, .int 0, .int 0, .int 0, .long 0, .ref 257, .ref 258, .int 0])), n) 15 rfl [.long (a1).toInt64, .long 0, .long (-1)] [] (Nat.le_of_ble_eq_true rfl) rfl ?_ (fun c9_ => ?_) (fun ⟨c9_, c10_⟩ => ?_)
      · refine Ev.mk rfl rfl ⟨Nat.le_of_ble_eq_true rfl, Or.inl rfl⟩ ?_
        show At _ none _ _ (0, [(0, .long (a1).toInt64), (2, .long 0), (4, .long (-1))], [], ((en_pre a 231 hp_M).set 231 (.inr (11, [.int 0, .int 0, .ref 232, .ref 233, .ref 234, .ref 235, .int 0, .ref 236, .int 0, .int 0, .int 0, .int 0, .long 0, .int (-1), .int 0, .int 0, .ref 237, .int 0, .ref 238, .ref 239, .int 0, .ref 240, .ref 241, .int 0, .int 0, .ref 242, .ref 243, .int 0, .ref 244, .ref 245, .int 0, .long 0, .long 0, .ref 246, .ref 247, .ref 248, .int 0, .ref 249, .ref 250, .ref 251, .ref 252, .ref 253, .ref 254, .ref 255, .ref 256, .int 0, .int 0, .int 0, .long 0, .ref 257, .ref 258, .int 0])), n)) _
        refine At.enter rfl ?_
        refine r_lload_n rfl ?_
        refine r_lload_n rfl ?_
        refine r_lcmp (lg_cmp (a1).toInt64 0) rfl ?_
        refine r_ifs 6 rfl (fun c9 => ?_) (fun c9 => ?_)
        · have c9_ : (a1).toInt < (0) := (by have z := en_j_lt_t c9; (try simp only [Int32.toInt_toInt64] at z); exact z)
          refine At.enter rfl ?_
          refine r_iconst 0 rfl ?_
          refine Ar.fall 18 rfl ?_
          refine At.enter rfl ?_
          refine r_iretz (by decide) ?_
          exact Or.inl ⟨c9_, rfl, rfl⟩
        · have c9_ : (a1).toInt ≥ (0) := (by have z := en_j_lt_f c9; (try simp only [Int32.toInt_toInt64] at z); exact z)
          refine At.enter rfl ?_
          refine r_lload_n rfl ?_
          refine r_lload rfl ?_
          refine r_lcmp (lg_cmp (a1).toInt64 (-1)) rfl ?_
          refine r_ifs 13 rfl (fun c10 => ?_) (fun c10 => ?_)
          · have c10_ : (a1).toInt > (-1) := (by have z := en_j_gt_t c10; (try simp only [Int32.toInt_toInt64] at z); exact z)
            refine At.enter rfl ?_
            refine r_iconst 0 rfl ?_
            refine Ar.fall 18 rfl ?_
            refine At.enter rfl ?_
            refine r_iretz (by decide) ?_
            exact Or.inr (⟨⟨c9_, c10_⟩, rfl, rfl⟩)
          · have c10_ : (a1).toInt ≤ (-1) := (by have z := en_j_gt_f c10; (try simp only [Int32.toInt_toInt64] at z); exact z)
            exfalso; omega
      · refine At.enter rfl ?_
        refine r_iretz (by decide) ?_
        exact Or.inl ⟨c9_, rfl, rfl⟩
      · refine At.enter rfl ?_
        refine r_iretz (by decide) ?_
        exact Or.inr (⟨⟨c9_, c10_⟩, rfl, rfl⟩)
    · refine At.enter rfl ?_
      refine r_ift (by decide) ?_
      refine At.enter rfl ?_
      refine r_aload_n rfl ?_
      refine r_bipush (-2) rfl ?_
      refine r_callV1s (True) (.int (-2)) (((en_pre a 231 hp_M).set 231 (.inr (11, [.int 0, .int (-2), .ref 232, .ref 233, .ref 234, .ref 235, .int 0, .ref 236, .int 0, .int 0, .int 0, .int 0, .long 0, .int (-1), .int 0, .int 0, .ref 237, .int 0, .ref 238, .ref 239, .int 0, .ref 240, .ref 241, .int 0, .int 0, .ref 242, .ref 243, .int 0, .ref 244, .ref 245, .int 0, .long 0, .long 0, .ref 246, .ref 247, .ref 248, .int 0, .ref 249, .ref 250, .ref 251, .ref 252, .ref 253, .ref 254, .ref 255, .ref 256, .int 0, .int 0, .int 0, .long 0, .ref 257, .ref 258, .int 0]))).set 232 (.inl (0, .inl ([0, 0, 1, 0, 0, 0, 0]))), n) 49 rfl [.ref 231, .int (-2)] [] (Nat.le_of_ble_eq_true rfl) rfl ?_ (fun _ => ?_)
      · refine Ev.mk rfl rfl ⟨Nat.le_of_ble_eq_true rfl, Or.inr (en_rcI (en_gs_eq (hm_231 _)) rfl)⟩ ?_
        show At _ none _ _ (0, [(0, .ref 231), (1, .int (-2))], [], ((en_pre a 231 hp_M).set 231 (.inr (11, [.int 0, .int 0, .ref 232, .ref 233, .ref 234, .ref 235, .int 0, .ref 236, .int 0, .int 0, .int 0, .int 0, .long 0, .int (-1), .int 0, .int 0, .ref 237, .int 0, .ref 238, .ref 239, .int 0, .ref 240, .ref 241, .int 0, .int 0, .ref 242, .ref 243, .int 0, .ref 244, .ref 245, .int 0, .long 0, .long 0, .ref 246, .ref 247, .ref 248, .int 0, .ref 249, .ref 250, .ref 251, .ref 252, .ref 253, .ref 254, .ref 255, .ref 256, .int 0, .int 0, .int 0, .long 0, .ref 257, .ref 258, .int 0])), n)) _
        refine At.enter rfl ?_
        refine r_aload_n rfl ?_
        refine r_iload_n rfl ?_
        refine r_iff 5 rfl (by decide) ?_
        refine At.enter rfl ?_
        refine r_iload_n rfl ?_
        refine r_goto ?_
        refine At.enter rfl ?_
        refine r_putf (en_gs_eq (hm_231 _)) (Nat.le_of_ble_eq_true rfl) rfl [.int 0, .int (-2), .ref 232, .ref 233, .ref 234, .ref 235, .int 0, .ref 236, .int 0, .int 0, .int 0, .int 0, .long 0, .int (-1), .int 0, .int 0, .ref 237, .int 0, .ref 238, .ref 239, .int 0, .ref 240, .ref 241, .int 0, .int 0, .ref 242, .ref 243, .int 0, .ref 244, .ref 245, .int 0, .long 0, .long 0, .ref 246, .ref 247, .ref 248, .int 0, .ref 249, .ref 250, .ref 251, .ref 252, .ref 253, .ref 254, .ref 255, .ref 256, .int 0, .int 0, .int 0, .long 0, .ref 257, .ref 258, .int 0] rfl ?_
        refine Ar.hp en_sd0 ?_
        refine r_iload_n rfl ?_
        refine r_iff 17 rfl (by decide) ?_
        refine At.enter rfl ?_
        refine r_aload_n rfl ?_
        refine r_get (v := .ref 232) (en_gs_eq (hm_231 _)) rfl ?_
        refine r_iload_n rfl ?_
        refine r_ineg 2 rfl ?_
        refine r_dup2 ⟨rfl, rfl⟩ ?_
        refine r_iald (v := 0) (en_gs_ne (by decide) (hm_232 _)) (by decide) rfl ?_
        refine r_iconst 1 rfl ?_
        refine r_iadd 1 rfl ?_
        refine r_iast (en_gs_ne (by decide) (hm_232 _)) (by decide) (Nat.le_of_ble_eq_true rfl) ([0, 0, 1, 0, 0, 0, 0]) (by decide +kernel) ?_
        refine Ar.fall 28 rfl ?_
        refine At.enter rfl ?_
        refine r_iload_n rfl ?_
        refine r_ireti ?_
        exact ⟨trivial, rfl, rfl⟩
      refine At.enter rfl ?_
      refine r_ireti ?_
      exact ⟨congrArg (fun z => some (Value.int z)) (by unfold sp_put; (repeat' split) <;> first | rfl | omega), (en_lset (en_lset (en_prel a))), rfl⟩
    · refine At.enter rfl ?_
      refine r_ift (by decide) ?_
      refine At.enter rfl ?_
      refine r_aload_n rfl ?_
      refine r_bipush (-2) rfl ?_
      refine r_callV1s (True) (.int (-2)) (((en_pre a 231 hp_M).set 231 (.inr (11, [.int 0, .int (-2), .ref 232, .ref 233, .ref 234, .ref 235, .int 0, .ref 236, .int 0, .int 0, .int 0, .int 0, .long 0, .int (-1), .int 0, .int 0, .ref 237, .int 0, .ref 238, .ref 239, .int 0, .ref 240, .ref 241, .int 0, .int 0, .ref 242, .ref 243, .int 0, .ref 244, .ref 245, .int 0, .long 0, .long 0, .ref 246, .ref 247, .ref 248, .int 0, .ref 249, .ref 250, .ref 251, .ref 252, .ref 253, .ref 254, .ref 255, .ref 256, .int 0, .int 0, .int 0, .long 0, .ref 257, .ref 258, .int 0]))).set 232 (.inl (0, .inl ([0, 0, 1, 0, 0, 0, 0]))), n) 49 rfl [.ref 231, .int (-2)] [] (Nat.le_of_ble_eq_true rfl) rfl ?_ (fun _ => ?_)
      · refine Ev.mk rfl rfl ⟨Nat.le_of_ble_eq_true rfl, Or.inr (en_rcI (en_gs_eq (hm_231 _)) rfl)⟩ ?_
        show At _ none _ _ (0, [(0, .ref 231), (1, .int (-2))], [], ((en_pre a 231 hp_M).set 231 (.inr (11, [.int 0, .int 0, .ref 232, .ref 233, .ref 234, .ref 235, .int 0, .ref 236, .int 0, .int 0, .int 0, .int 0, .long 0, .int (-1), .int 0, .int 0, .ref 237, .int 0, .ref 238, .ref 239, .int 0, .ref 240, .ref 241, .int 0, .int 0, .ref 242, .ref 243, .int 0, .ref 244, .ref 245, .int 0, .long 0, .long 0, .ref 246, .ref 247, .ref 248, .int 0, .ref 249, .ref 250, .ref 251, .ref 252, .ref 253, .ref 254, .ref 255, .ref 256, .int 0, .int 0, .int 0, .long 0, .ref 257, .ref 258, .int 0])), n)) _
        refine At.enter rfl ?_
        refine r_aload_n rfl ?_
        refine r_iload_n rfl ?_
        refine r_iff 5 rfl (by decide) ?_
        refine At.enter rfl ?_
        refine r_iload_n rfl ?_
        refine r_goto ?_
        refine At.enter rfl ?_
        refine r_putf (en_gs_eq (hm_231 _)) (Nat.le_of_ble_eq_true rfl) rfl [.int 0, .int (-2), .ref 232, .ref 233, .ref 234, .ref 235, .int 0, .ref 236, .int 0, .int 0, .int 0, .int 0, .long 0, .int (-1), .int 0, .int 0, .ref 237, .int 0, .ref 238, .ref 239, .int 0, .ref 240, .ref 241, .int 0, .int 0, .ref 242, .ref 243, .int 0, .ref 244, .ref 245, .int 0, .long 0, .long 0, .ref 246, .ref 247, .ref 248, .int 0, .ref 249, .ref 250, .ref 251, .ref 252, .ref 253, .ref 254, .ref 255, .ref 256, .int 0, .int 0, .int 0, .long 0, .ref 257, .ref 258, .int 0] rfl ?_
        refine Ar.hp en_sd0 ?_
        refine r_iload_n rfl ?_
        refine r_iff 17 rfl (by decide) ?_
        refine At.enter rfl ?_
        refine r_aload_n rfl ?_
        refine r_get (v := .ref 232) (en_gs_eq (hm_231 _)) rfl ?_
        refine r_iload_n rfl ?_
        refine r_ineg 2 rfl ?_
        refine r_dup2 ⟨rfl, rfl⟩ ?_
        refine r_iald (v := 0) (en_gs_ne (by decide) (hm_232 _)) (by decide) rfl ?_
        refine r_iconst 1 rfl ?_
        refine r_iadd 1 rfl ?_
        refine r_iast (en_gs_ne (by decide) (hm_232 _)) (by decide) (Nat.le_of_ble_eq_true rfl) ([0, 0, 1, 0, 0, 0, 0]) (by decide +kernel) ?_
        refine Ar.fall 28 rfl ?_
        refine At.enter rfl ?_
        refine r_iload_n rfl ?_
        refine r_ireti ?_
        exact ⟨trivial, rfl, rfl⟩
      refine At.enter rfl ?_
      refine r_ireti ?_
      exact ⟨congrArg (fun z => some (Value.int z)) (by unfold sp_put; (repeat' split) <;> first | rfl | omega), (en_lset (en_lset (en_prel a))), rfl⟩
  · refine At.enter rfl ?_
    refine r_iff 13 rfl (by decide) ?_
    refine At.enter rfl ?_
    refine r_aload_n rfl ?_
    refine r_iconst (-1) rfl ?_
    refine r_callV1s (True) (.int (-1)) (((en_pre a 231 hp_M).set 231 (.inr (11, [.int 0, .int (-1), .ref 232, .ref 233, .ref 234, .ref 235, .int 0, .ref 236, .int 0, .int 0, .int 0, .int 0, .long 0, .int (-1), .int 0, .int 0, .ref 237, .int 0, .ref 238, .ref 239, .int 0, .ref 240, .ref 241, .int 0, .int 0, .ref 242, .ref 243, .int 0, .ref 244, .ref 245, .int 0, .long 0, .long 0, .ref 246, .ref 247, .ref 248, .int 0, .ref 249, .ref 250, .ref 251, .ref 252, .ref 253, .ref 254, .ref 255, .ref 256, .int 0, .int 0, .int 0, .long 0, .ref 257, .ref 258, .int 0]))).set 232 (.inl (0, .inl ([0, 1, 0, 0, 0, 0, 0]))), n) 18 rfl [.ref 231, .int (-1)] [] (Nat.le_of_ble_eq_true rfl) rfl ?_ (fun _ => ?_)
    · refine Ev.mk rfl rfl ⟨Nat.le_of_ble_eq_true rfl, Or.inr (en_rcI (en_gs_eq (hm_231 _)) rfl)⟩ ?_
      show At _ none _ _ (0, [(0, .ref 231), (1, .int (-1))], [], ((en_pre a 231 hp_M).set 231 (.inr (11, [.int 0, .int 0, .ref 232, .ref 233, .ref 234, .ref 235, .int 0, .ref 236, .int 0, .int 0, .int 0, .int 0, .long 0, .int (-1), .int 0, .int 0, .ref 237, .int 0, .ref 238, .ref 239, .int 0, .ref 240, .ref 241, .int 0, .int 0, .ref 242, .ref 243, .int 0, .ref 244, .ref 245, .int 0, .long 0, .long 0, .ref 246, .ref 247, .ref 248, .int 0, .ref 249, .ref 250, .ref 251, .ref 252, .ref 253, .ref 254, .ref 255, .ref 256, .int 0, .int 0, .int 0, .long 0, .ref 257, .ref 258, .int 0])), n)) _
      refine At.enter rfl ?_
      refine r_aload_n rfl ?_
      refine r_iload_n rfl ?_
      refine r_iff 5 rfl (by decide) ?_
      refine At.enter rfl ?_
      refine r_iload_n rfl ?_
      refine r_goto ?_
      refine At.enter rfl ?_
      refine r_putf (en_gs_eq (hm_231 _)) (Nat.le_of_ble_eq_true rfl) rfl [.int 0, .int (-1), .ref 232, .ref 233, .ref 234, .ref 235, .int 0, .ref 236, .int 0, .int 0, .int 0, .int 0, .long 0, .int (-1), .int 0, .int 0, .ref 237, .int 0, .ref 238, .ref 239, .int 0, .ref 240, .ref 241, .int 0, .int 0, .ref 242, .ref 243, .int 0, .ref 244, .ref 245, .int 0, .long 0, .long 0, .ref 246, .ref 247, .ref 248, .int 0, .ref 249, .ref 250, .ref 251, .ref 252, .ref 253, .ref 254, .ref 255, .ref 256, .int 0, .int 0, .int 0, .long 0, .ref 257, .ref 258, .int 0] rfl ?_
      refine Ar.hp en_sd0 ?_
      refine r_iload_n rfl ?_
      refine r_iff 17 rfl (by decide) ?_
      refine At.enter rfl ?_
      refine r_aload_n rfl ?_
      refine r_get (v := .ref 232) (en_gs_eq (hm_231 _)) rfl ?_
      refine r_iload_n rfl ?_
      refine r_ineg 1 rfl ?_
      refine r_dup2 ⟨rfl, rfl⟩ ?_
      refine r_iald (v := 0) (en_gs_ne (by decide) (hm_232 _)) (by decide) rfl ?_
      refine r_iconst 1 rfl ?_
      refine r_iadd 1 rfl ?_
      refine r_iast (en_gs_ne (by decide) (hm_232 _)) (by decide) (Nat.le_of_ble_eq_true rfl) ([0, 1, 0, 0, 0, 0, 0]) (by decide +kernel) ?_
      refine Ar.fall 28 rfl ?_
      refine At.enter rfl ?_
      refine r_iload_n rfl ?_
      refine r_ireti ?_
      exact ⟨trivial, rfl, rfl⟩
    refine At.enter rfl ?_
    refine r_ireti ?_
    exact ⟨congrArg (fun z => some (Value.int z)) (by unfold sp_put; (repeat' split) <;> first | rfl | omega), (en_lset (en_lset (en_prel a))), rfl⟩
  · refine At.enter rfl ?_
    refine r_iff 13 rfl (by decide) ?_
    refine At.enter rfl ?_
    refine r_aload_n rfl ?_
    refine r_iconst (-1) rfl ?_
    refine r_callV1s (True) (.int (-1)) (((en_pre a 231 hp_M).set 231 (.inr (11, [.int 0, .int (-1), .ref 232, .ref 233, .ref 234, .ref 235, .int 0, .ref 236, .int 0, .int 0, .int 0, .int 0, .long 0, .int (-1), .int 0, .int 0, .ref 237, .int 0, .ref 238, .ref 239, .int 0, .ref 240, .ref 241, .int 0, .int 0, .ref 242, .ref 243, .int 0, .ref 244, .ref 245, .int 0, .long 0, .long 0, .ref 246, .ref 247, .ref 248, .int 0, .ref 249, .ref 250, .ref 251, .ref 252, .ref 253, .ref 254, .ref 255, .ref 256, .int 0, .int 0, .int 0, .long 0, .ref 257, .ref 258, .int 0]))).set 232 (.inl (0, .inl ([0, 1, 0, 0, 0, 0, 0]))), n) 18 rfl [.ref 231, .int (-1)] [] (Nat.le_of_ble_eq_true rfl) rfl ?_ (fun _ => ?_)
    · refine Ev.mk rfl rfl ⟨Nat.le_of_ble_eq_true rfl, Or.inr (en_rcI (en_gs_eq (hm_231 _)) rfl)⟩ ?_
      show At _ none _ _ (0, [(0, .ref 231), (1, .int (-1))], [], ((en_pre a 231 hp_M).set 231 (.inr (11, [.int 0, .int 0, .ref 232, .ref 233, .ref 234, .ref 235, .int 0, .ref 236, .int 0, .int 0, .int 0, .int 0, .long 0, .int (-1), .int 0, .int 0, .ref 237, .int 0, .ref 238, .ref 239, .int 0, .ref 240, .ref 241, .int 0, .int 0, .ref 242, .ref 243, .int 0, .ref 244, .ref 245, .int 0, .long 0, .long 0, .ref 246, .ref 247, .ref 248, .int 0, .ref 249, .ref 250, .ref 251, .ref 252, .ref 253, .ref 254, .ref 255, .ref 256, .int 0, .int 0, .int 0, .long 0, .ref 257, .ref 258, .int 0])), n)) _
      refine At.enter rfl ?_
      refine r_aload_n rfl ?_
      refine r_iload_n rfl ?_
      refine r_iff 5 rfl (by decide) ?_
      refine At.enter rfl ?_
      refine r_iload_n rfl ?_
      refine r_goto ?_
      refine At.enter rfl ?_
      refine r_putf (en_gs_eq (hm_231 _)) (Nat.le_of_ble_eq_true rfl) rfl [.int 0, .int (-1), .ref 232, .ref 233, .ref 234, .ref 235, .int 0, .ref 236, .int 0, .int 0, .int 0, .int 0, .long 0, .int (-1), .int 0, .int 0, .ref 237, .int 0, .ref 238, .ref 239, .int 0, .ref 240, .ref 241, .int 0, .int 0, .ref 242, .ref 243, .int 0, .ref 244, .ref 245, .int 0, .long 0, .long 0, .ref 246, .ref 247, .ref 248, .int 0, .ref 249, .ref 250, .ref 251, .ref 252, .ref 253, .ref 254, .ref 255, .ref 256, .int 0, .int 0, .int 0, .long 0, .ref 257, .ref 258, .int 0] rfl ?_
      refine Ar.hp en_sd0 ?_
      refine r_iload_n rfl ?_
      refine r_iff 17 rfl (by decide) ?_
      refine At.enter rfl ?_
      refine r_aload_n rfl ?_
      refine r_get (v := .ref 232) (en_gs_eq (hm_231 _)) rfl ?_
      refine r_iload_n rfl ?_
      refine r_ineg 1 rfl ?_
      refine r_dup2 ⟨rfl, rfl⟩ ?_
      refine r_iald (v := 0) (en_gs_ne (by decide) (hm_232 _)) (by decide) rfl ?_
      refine r_iconst 1 rfl ?_
      refine r_iadd 1 rfl ?_
      refine r_iast (en_gs_ne (by decide) (hm_232 _)) (by decide) (Nat.le_of_ble_eq_true rfl) ([0, 1, 0, 0, 0, 0, 0]) (by decide +kernel) ?_
      refine Ar.fall 28 rfl ?_
      refine At.enter rfl ?_
      refine r_iload_n rfl ?_
      refine r_ireti ?_
      exact ⟨trivial, rfl, rfl⟩
    refine At.enter rfl ?_
    refine r_ireti ?_
    exact ⟨congrArg (fun z => some (Value.int z)) (by unfold sp_put; (repeat' split) <;> first | rfl | omega), (en_lset (en_lset (en_prel a))), rfl⟩
  · refine At.enter rfl ?_
    refine r_ift (by decide) ?_
    refine At.enter rfl ?_
    refine r_aload_n rfl ?_
    refine r_iload_n rfl ?_
    refine r_callV2s (((a1).toInt < (0))) (((a1).toInt ≥ (0)) ∧ ((a1).toInt > (-1))) (.int 0) (.int 0) ((en_pre a 231 hp_M).set 231 (.inr (11, [.int 0, .int 0, .ref 232, .ref 233, .ref 234, .ref 235, .int 0, .ref 236, .int 0, .int 0, .int 0, .int 0, .long 0, .int (-1), .int 0, .int 0, .ref 237, .int 0, .ref 238, .ref 239, .int 0, .ref 240, .ref 241, .int 0, .int 0, .ref 242, .ref 243, .int 0, .ref 244, .ref 245, .int 0, .long 0, .long 0, .ref 246, .ref 247, .ref 248, .int 0, .ref 249, .ref 250, .ref 251, .ref 252, .ref 253, .ref 254, .ref 255, .ref 256, .int 0, .int 0, .int 0, .long 0, .ref 257, .ref 258, .int 0])), n) ((en_pre a 231 hp_M).set 231 (.inr (11, [.int 0, .int 0, .ref 232, .ref 233, .ref 234, .ref 235, .int 0, .ref 236, .int 0, .int 0, .int 0, .int 0, .long 0, .int (-1), .int 0, .int 0, .ref 237, .int 0, .ref 238, .ref 239, .int 0, .ref 240, .ref 241, .int 0, .int 0, .ref 242, .ref 243, .int 0, .ref 244, .ref 245, .int 0, .long 0, .long 0, .ref 246, .ref 247, .ref 248, .int 0, .ref 249, .ref 250, .ref 251, .ref 252, .ref 253, .ref 254, .ref 255, .ref 256, .int 0, .int 0, .int 0, .long 0, .ref 257, .ref 258, .int 0])), n) 24 rfl [.ref 231, .int a1] [] (Nat.le_of_ble_eq_true rfl) rfl ?_ (fun c11_ => ?_) (fun ⟨c11_, c12_⟩ => ?_)
    · refine Ev.mk rfl rfl ⟨Nat.le_of_ble_eq_true rfl, Or.inr (en_rcI (en_gs_eq (hm_231 _)) rfl)⟩ ?_
      show At _ none _ _ (0, [(0, .ref 231), (1, .int a1)], [], ((en_pre a 231 hp_M).set 231 (.inr (11, [.int 0, .int 0, .ref 232, .ref 233, .ref 234, .ref 235, .int 0, .ref 236, .int 0, .int 0, .int 0, .int 0, .long 0, .int (-1), .int 0, .int 0, .ref 237, .int 0, .ref 238, .ref 239, .int 0, .ref 240, .ref 241, .int 0, .int 0, .ref 242, .ref 243, .int 0, .ref 244, .ref 245, .int 0, .long 0, .long 0, .ref 246, .ref 247, .ref 248, .int 0, .ref 249, .ref 250, .ref 251, .ref 252, .ref 253, .ref 254, .ref 255, .ref 256, .int 0, .int 0, .int 0, .long 0, .ref 257, .ref 258, .int 0])), n)) _
      refine At.enter rfl ?_
      refine r_iload_n rfl ?_
      refine r_i2l ((a1).toInt64) rfl ?_
      refine r_lconst 0 rfl ?_
      refine r_aload_n rfl ?_
      refine r_get (v := .ref 233) (en_gs_eq (hm_231 _)) rfl ?_
      refine r_iconst 0 rfl ?_
      refine r_iald (v := 0) (en_gs_ne (by decide) (hm_233 _)) (by decide) rfl ?_
      refine r_i2l (0) rfl ?_
      refine r_lconst 1 rfl ?_
      refine r_lsub (-1) rfl ?_
      refine r_callS2s (((a1).toInt < (0))) (((a1).toInt ≥ (0)) ∧ ((a1).toInt > (-1))) (.int 0) (.int 0) ((en_pre a 231 hp_M).set 231 (.inr (11, [.int 0, .int 0, .ref 232, .ref 233, .ref 234, .ref 235, .int 0, .ref 236, .int 0, .int 0, .int 0, .int 0, .long 0, .int (-1), .int 0, .int 0, .ref 237, .int 0, .ref 238, .ref 239, .int 0, .ref 240, .ref 241, .int 0, .int 0, .ref 242, .ref 243, .int 0, .ref 244, .ref 245, .int 0, .long 0, .long 0, .ref 246, .ref 247, .ref 248, .int 0, .ref 249, .ref 250, .ref 251, .ref 252, .ref 253, .ref 254, .ref 255, .ref 256, .int 0, .int 0, .int 0, .long 0, .ref 257, .ref 258, .int 0])), n) ((en_pre a 231 hp_M).set 231 (.inr (11, [.int 0, .int 0, .ref 232, .ref 233, .ref 234, .ref 235, .int 0, .ref 236, .int 0, .int 0, .int 0, .int 0, .long 0, .int (-1), .int 0, .int 0, .ref 237, .int 0, .ref 238, .ref 239, .int 0, .ref 240, .ref 241, .int 0, .int 0, .ref 242, .ref 243, .int 0, .ref 244, .ref 245, .int 0, .long 0, .long 0, .ref 246, .ref 247, .ref 248, .int 0, .ref 249, .ref 250, .ref 251, .ref 252, .ref 253, .ref 254, .ref 255, .ref 256, .int 0, .int 0, .int 0, .long 0, .ref 257, .ref 258, .int 0])), n) 15 rfl [.long (a1).toInt64, .long 0, .long (-1)] [] (Nat.le_of_ble_eq_true rfl) rfl ?_ (fun c11_ => ?_) (fun ⟨c11_, c12_⟩ => ?_)
      · refine Ev.mk rfl rfl ⟨Nat.le_of_ble_eq_true rfl, Or.inl rfl⟩ ?_
        show At _ none _ _ (0, [(0, .long (a1).toInt64), (2, .long 0), (4, .long (-1))], [], ((en_pre a 231 hp_M).set 231 (.inr (11, [.int 0, .int 0, .ref 232, .ref 233, .ref 234, .ref 235, .int 0, .ref 236, .int 0, .int 0, .int 0, .int 0, .long 0, .int (-1), .int 0, .int 0, .ref 237, .int 0, .ref 238, .ref 239, .int 0, .ref 240, .ref 241, .int 0, .int 0, .ref 242, .ref 243, .int 0, .ref 244, .ref 245, .int 0, .long 0, .long 0, .ref 246, .ref 247, .ref 248, .int 0, .ref 249, .ref 250, .ref 251, .ref 252, .ref 253, .ref 254, .ref 255, .ref 256, .int 0, .int 0, .int 0, .long 0, .ref 257, .ref 258, .int 0])), n)) _
        refine At.enter rfl ?_
        refine r_lload_n rfl ?_
        refine r_lload_n rfl ?_
        refine r_lcmp (lg_cmp (a1).toInt64 0) rfl ?_
        refine r_ifs 6 rfl (fun c11 => ?_) (fun c11 => ?_)
        · have c11_ : (a1).toInt < (0) := (by have z := en_j_lt_t c11; (try simp only [Int32.toInt_toInt64] at z); exact z)
          refine At.enter rfl ?_
          refine r_iconst 0 rfl ?_
          refine Ar.fall 18 rfl ?_
          refine At.enter rfl ?_
          refine r_iretz (by decide) ?_
          exact Or.inl ⟨c11_, rfl, rfl⟩
        · have c11_ : (a1).toInt ≥ (0) := (by have z := en_j_lt_f c11; (try simp only [Int32.toInt_toInt64] at z); exact z)
          refine At.enter rfl ?_
          refine r_lload_n rfl ?_
          refine r_lload rfl ?_
          refine r_lcmp (lg_cmp (a1).toInt64 (-1)) rfl ?_
          refine r_ifs 13 rfl (fun c12 => ?_) (fun c12 => ?_)
          · have c12_ : (a1).toInt > (-1) := (by have z := en_j_gt_t c12; (try simp only [Int32.toInt_toInt64] at z); exact z)
            refine At.enter rfl ?_
            refine r_iconst 0 rfl ?_
            refine Ar.fall 18 rfl ?_
            refine At.enter rfl ?_
            refine r_iretz (by decide) ?_
            exact Or.inr (⟨⟨c11_, c12_⟩, rfl, rfl⟩)
          · have c12_ : (a1).toInt ≤ (-1) := (by have z := en_j_gt_f c12; (try simp only [Int32.toInt_toInt64] at z); exact z)
            exfalso; omega
      · refine At.enter rfl ?_
        refine r_iretz (by decide) ?_
        exact Or.inl ⟨c11_, rfl, rfl⟩
      · refine At.enter rfl ?_
        refine r_iretz (by decide) ?_
        exact Or.inr (⟨⟨c11_, c12_⟩, rfl, rfl⟩)
    · refine At.enter rfl ?_
      refine r_ift (by decide) ?_
      refine At.enter rfl ?_
      refine r_aload_n rfl ?_
      refine r_bipush (-2) rfl ?_
      refine r_callV1s (True) (.int (-2)) (((en_pre a 231 hp_M).set 231 (.inr (11, [.int 0, .int (-2), .ref 232, .ref 233, .ref 234, .ref 235, .int 0, .ref 236, .int 0, .int 0, .int 0, .int 0, .long 0, .int (-1), .int 0, .int 0, .ref 237, .int 0, .ref 238, .ref 239, .int 0, .ref 240, .ref 241, .int 0, .int 0, .ref 242, .ref 243, .int 0, .ref 244, .ref 245, .int 0, .long 0, .long 0, .ref 246, .ref 247, .ref 248, .int 0, .ref 249, .ref 250, .ref 251, .ref 252, .ref 253, .ref 254, .ref 255, .ref 256, .int 0, .int 0, .int 0, .long 0, .ref 257, .ref 258, .int 0]))).set 232 (.inl (0, .inl ([0, 0, 1, 0, 0, 0, 0]))), n) 49 rfl [.ref 231, .int (-2)] [] (Nat.le_of_ble_eq_true rfl) rfl ?_ (fun _ => ?_)
      · refine Ev.mk rfl rfl ⟨Nat.le_of_ble_eq_true rfl, Or.inr (en_rcI (en_gs_eq (hm_231 _)) rfl)⟩ ?_
        show At _ none _ _ (0, [(0, .ref 231), (1, .int (-2))], [], ((en_pre a 231 hp_M).set 231 (.inr (11, [.int 0, .int 0, .ref 232, .ref 233, .ref 234, .ref 235, .int 0, .ref 236, .int 0, .int 0, .int 0, .int 0, .long 0, .int (-1), .int 0, .int 0, .ref 237, .int 0, .ref 238, .ref 239, .int 0, .ref 240, .ref 241, .int 0, .int 0, .ref 242, .ref 243, .int 0, .ref 244, .ref 245, .int 0, .long 0, .long 0, .ref 246, .ref 247, .ref 248, .int 0, .ref 249, .ref 250, .ref 251, .ref 252, .ref 253, .ref 254, .ref 255, .ref 256, .int 0, .int 0, .int 0, .long 0, .ref 257, .ref 258, .int 0])), n)) _
        refine At.enter rfl ?_
        refine r_aload_n rfl ?_
        refine r_iload_n rfl ?_
        refine r_iff 5 rfl (by decide) ?_
        refine At.enter rfl ?_
        refine r_iload_n rfl ?_
        refine r_goto ?_
        refine At.enter rfl ?_
        refine r_putf (en_gs_eq (hm_231 _)) (Nat.le_of_ble_eq_true rfl) rfl [.int 0, .int (-2), .ref 232, .ref 233, .ref 234, .ref 235, .int 0, .ref 236, .int 0, .int 0, .int 0, .int 0, .long 0, .int (-1), .int 0, .int 0, .ref 237, .int 0, .ref 238, .ref 239, .int 0, .ref 240, .ref 241, .int 0, .int 0, .ref 242, .ref 243, .int 0, .ref 244, .ref 245, .int 0, .long 0, .long 0, .ref 246, .ref 247, .ref 248, .int 0, .ref 249, .ref 250, .ref 251, .ref 252, .ref 253, .ref 254, .ref 255, .ref 256, .int 0, .int 0, .int 0, .long 0, .ref 257, .ref 258, .int 0] rfl ?_
        refine Ar.hp en_sd0 ?_
        refine r_iload_n rfl ?_
        refine r_iff 17 rfl (by decide) ?_
        refine At.enter rfl ?_
        refine r_aload_n rfl ?_
        refine r_get (v := .ref 232) (en_gs_eq (hm_231 _)) rfl ?_
        refine r_iload_n rfl ?_
        refine r_ineg 2 rfl ?_
        refine r_dup2 ⟨rfl, rfl⟩ ?_
        refine r_iald (v := 0) (en_gs_ne (by decide) (hm_232 _)) (by decide) rfl ?_
        refine r_iconst 1 rfl ?_
        refine r_iadd 1 rfl ?_
        refine r_iast (en_gs_ne (by decide) (hm_232 _)) (by decide) (Nat.le_of_ble_eq_true rfl) ([0, 0, 1, 0, 0, 0, 0]) (by decide +kernel) ?_
        refine Ar.fall 28 rfl ?_
        refine At.enter rfl ?_
        refine r_iload_n rfl ?_
        refine r_ireti ?_
        exact ⟨trivial, rfl, rfl⟩
      refine At.enter rfl ?_
      refine r_ireti ?_
      exact ⟨congrArg (fun z => some (Value.int z)) (by unfold sp_put; (repeat' split) <;> first | rfl | omega), (en_lset (en_lset (en_prel a))), rfl⟩
    · refine At.enter rfl ?_
      refine r_ift (by decide) ?_
      refine At.enter rfl ?_
      refine r_aload_n rfl ?_
      refine r_bipush (-2) rfl ?_
      refine r_callV1s (True) (.int (-2)) (((en_pre a 231 hp_M).set 231 (.inr (11, [.int 0, .int (-2), .ref 232, .ref 233, .ref 234, .ref 235, .int 0, .ref 236, .int 0, .int 0, .int 0, .int 0, .long 0, .int (-1), .int 0, .int 0, .ref 237, .int 0, .ref 238, .ref 239, .int 0, .ref 240, .ref 241, .int 0, .int 0, .ref 242, .ref 243, .int 0, .ref 244, .ref 245, .int 0, .long 0, .long 0, .ref 246, .ref 247, .ref 248, .int 0, .ref 249, .ref 250, .ref 251, .ref 252, .ref 253, .ref 254, .ref 255, .ref 256, .int 0, .int 0, .int 0, .long 0, .ref 257, .ref 258, .int 0]))).set 232 (.inl (0, .inl ([0, 0, 1, 0, 0, 0, 0]))), n) 49 rfl [.ref 231, .int (-2)] [] (Nat.le_of_ble_eq_true rfl) rfl ?_ (fun _ => ?_)
      · refine Ev.mk rfl rfl ⟨Nat.le_of_ble_eq_true rfl, Or.inr (en_rcI (en_gs_eq (hm_231 _)) rfl)⟩ ?_
        show At _ none _ _ (0, [(0, .ref 231), (1, .int (-2))], [], ((en_pre a 231 hp_M).set 231 (.inr (11, [.int 0, .int 0, .ref 232, .ref 233, .ref 234, .ref 235, .int 0, .ref 236, .int 0, .int 0, .int 0, .int 0, .long 0, .int (-1), .int 0, .int 0, .ref 237, .int 0, .ref 238, .ref 239, .int 0, .ref 240, .ref 241, .int 0, .int 0, .ref 242, .ref 243, .int 0, .ref 244, .ref 245, .int 0, .long 0, .long 0, .ref 246, .ref 247, .ref 248, .int 0, .ref 249, .ref 250, .ref 251, .ref 252, .ref 253, .ref 254, .ref 255, .ref 256, .int 0, .int 0, .int 0, .long 0, .ref 257, .ref 258, .int 0])), n)) _
        refine At.enter rfl ?_
        refine r_aload_n rfl ?_
        refine r_iload_n rfl ?_
        refine r_iff 5 rfl (by decide) ?_
        refine At.enter rfl ?_
        refine r_iload_n rfl ?_
        refine r_goto ?_
        refine At.enter rfl ?_
        refine r_putf (en_gs_eq (hm_231 _)) (Nat.le_of_ble_eq_true rfl) rfl [.int 0, .int (-2), .ref 232, .ref 233, .ref 234, .ref 235, .int 0, .ref 236, .int 0, .int 0, .int 0, .int 0, .long 0, .int (-1), .int 0, .int 0, .ref 237, .int 0, .ref 238, .ref 239, .int 0, .ref 240, .ref 241, .int 0, .int 0, .ref 242, .ref 243, .int 0, .ref 244, .ref 245, .int 0, .long 0, .long 0, .ref 246, .ref 247, .ref 248, .int 0, .ref 249, .ref 250, .ref 251, .ref 252, .ref 253, .ref 254, .ref 255, .ref 256, .int 0, .int 0, .int 0, .long 0, .ref 257, .ref 258, .int 0] rfl ?_
        refine Ar.hp en_sd0 ?_
        refine r_iload_n rfl ?_
        refine r_iff 17 rfl (by decide) ?_
        refine At.enter rfl ?_
        refine r_aload_n rfl ?_
        refine r_get (v := .ref 232) (en_gs_eq (hm_231 _)) rfl ?_
        refine r_iload_n rfl ?_
        refine r_ineg 2 rfl ?_
        refine r_dup2 ⟨rfl, rfl⟩ ?_
        refine r_iald (v := 0) (en_gs_ne (by decide) (hm_232 _)) (by decide) rfl ?_
        refine r_iconst 1 rfl ?_
        refine r_iadd 1 rfl ?_
        refine r_iast (en_gs_ne (by decide) (hm_232 _)) (by decide) (Nat.le_of_ble_eq_true rfl) ([0, 0, 1, 0, 0, 0, 0]) (by decide +kernel) ?_
        refine Ar.fall 28 rfl ?_
        refine At.enter rfl ?_
        refine r_iload_n rfl ?_
        refine r_ireti ?_
        exact ⟨trivial, rfl, rfl⟩
      refine At.enter rfl ?_
      refine r_ireti ?_
      exact ⟨congrArg (fun z => some (Value.int z)) (by unfold sp_put; (repeat' split) <;> first | rfl | omega), (en_lset (en_lset (en_prel a))), rfl⟩
  · refine At.enter rfl ?_
    refine r_iff 13 rfl (by decide) ?_
    refine At.enter rfl ?_
    refine r_aload_n rfl ?_
    refine r_iconst (-1) rfl ?_
    refine r_callV1s (True) (.int (-1)) (((en_pre a 231 hp_M).set 231 (.inr (11, [.int 0, .int (-1), .ref 232, .ref 233, .ref 234, .ref 235, .int 0, .ref 236, .int 0, .int 0, .int 0, .int 0, .long 0, .int (-1), .int 0, .int 0, .ref 237, .int 0, .ref 238, .ref 239, .int 0, .ref 240, .ref 241, .int 0, .int 0, .ref 242, .ref 243, .int 0, .ref 244, .ref 245, .int 0, .long 0, .long 0, .ref 246, .ref 247, .ref 248, .int 0, .ref 249, .ref 250, .ref 251, .ref 252, .ref 253, .ref 254, .ref 255, .ref 256, .int 0, .int 0, .int 0, .long 0, .ref 257, .ref 258, .int 0]))).set 232 (.inl (0, .inl ([0, 1, 0, 0, 0, 0, 0]))), n) 18 rfl [.ref 231, .int (-1)] [] (Nat.le_of_ble_eq_true rfl) rfl ?_ (fun _ => ?_)
    · refine Ev.mk rfl rfl ⟨Nat.le_of_ble_eq_true rfl, Or.inr (en_rcI (en_gs_eq (hm_231 _)) rfl)⟩ ?_
      show At _ none _ _ (0, [(0, .ref 231), (1, .int (-1))], [], ((en_pre a 231 hp_M).set 231 (.inr (11, [.int 0, .int 0, .ref 232, .ref 233, .ref 234, .ref 235, .int 0, .ref 236, .int 0, .int 0, .int 0, .int 0, .long 0, .int (-1), .int 0, .int 0, .ref 237, .int 0, .ref 238, .ref 239, .int 0, .ref 240, .ref 241, .int 0, .int 0, .ref 242, .ref 243, .int 0, .ref 244, .ref 245, .int 0, .long 0, .long 0, .ref 246, .ref 247, .ref 248, .int 0, .ref 249, .ref 250, .ref 251, .ref 252, .ref 253, .ref 254, .ref 255, .ref 256, .int 0, .int 0, .int 0, .long 0, .ref 257, .ref 258, .int 0])), n)) _
      refine At.enter rfl ?_
      refine r_aload_n rfl ?_
      refine r_iload_n rfl ?_
      refine r_iff 5 rfl (by decide) ?_
      refine At.enter rfl ?_
      refine r_iload_n rfl ?_
      refine r_goto ?_
      refine At.enter rfl ?_
      refine r_putf (en_gs_eq (hm_231 _)) (Nat.le_of_ble_eq_true rfl) rfl [.int 0, .int (-1), .ref 232, .ref 233, .ref 234, .ref 235, .int 0, .ref 236, .int 0, .int 0, .int 0, .int 0, .long 0, .int (-1), .int 0, .int 0, .ref 237, .int 0, .ref 238, .ref 239, .int 0, .ref 240, .ref 241, .int 0, .int 0, .ref 242, .ref 243, .int 0, .ref 244, .ref 245, .int 0, .long 0, .long 0, .ref 246, .ref 247, .ref 248, .int 0, .ref 249, .ref 250, .ref 251, .ref 252, .ref 253, .ref 254, .ref 255, .ref 256, .int 0, .int 0, .int 0, .long 0, .ref 257, .ref 258, .int 0] rfl ?_
      refine Ar.hp en_sd0 ?_
      refine r_iload_n rfl ?_
      refine r_iff 17 rfl (by decide) ?_
      refine At.enter rfl ?_
      refine r_aload_n rfl ?_
      refine r_get (v := .ref 232) (en_gs_eq (hm_231 _)) rfl ?_
      refine r_iload_n rfl ?_
      refine r_ineg 1 rfl ?_
      refine r_dup2 ⟨rfl, rfl⟩ ?_
      refine r_iald (v := 0) (en_gs_ne (by decide) (hm_232 _)) (by decide) rfl ?_
      refine r_iconst 1 rfl ?_
      refine r_iadd 1 rfl ?_
      refine r_iast (en_gs_ne (by decide) (hm_232 _)) (by decide) (Nat.le_of_ble_eq_true rfl) ([0, 1, 0, 0, 0, 0, 0]) (by decide +kernel) ?_
      refine Ar.fall 28 rfl ?_
      refine At.enter rfl ?_
      refine r_iload_n rfl ?_
      refine r_ireti ?_
      exact ⟨trivial, rfl, rfl⟩
    refine At.enter rfl ?_
    refine r_ireti ?_
    exact ⟨congrArg (fun z => some (Value.int z)) (by unfold sp_put; (repeat' split) <;> first | rfl | omega), (en_lset (en_lset (en_prel a))), rfl⟩
  · refine At.enter rfl ?_
    refine r_iff 13 rfl (by decide) ?_
    refine At.enter rfl ?_
    refine r_aload_n rfl ?_
    refine r_iconst (-1) rfl ?_
    refine r_callV1s (True) (.int (-1)) (((en_pre a 231 hp_M).set 231 (.inr (11, [.int 0, .int (-1), .ref 232, .ref 233, .ref 234, .ref 235, .int 0, .ref 236, .int 0, .int 0, .int 0, .int 0, .long 0, .int (-1), .int 0, .int 0, .ref 237, .int 0, .ref 238, .ref 239, .int 0, .ref 240, .ref 241, .int 0, .int 0, .ref 242, .ref 243, .int 0, .ref 244, .ref 245, .int 0, .long 0, .long 0, .ref 246, .ref 247, .ref 248, .int 0, .ref 249, .ref 250, .ref 251, .ref 252, .ref 253, .ref 254, .ref 255, .ref 256, .int 0, .int 0, .int 0, .long 0, .ref 257, .ref 258, .int 0]))).set 232 (.inl (0, .inl ([0, 1, 0, 0, 0, 0, 0]))), n) 18 rfl [.ref 231, .int (-1)] [] (Nat.le_of_ble_eq_true rfl) rfl ?_ (fun _ => ?_)
    · refine Ev.mk rfl rfl ⟨Nat.le_of_ble_eq_true rfl, Or.inr (en_rcI (en_gs_eq (hm_231 _)) rfl)⟩ ?_
      show At _ none _ _ (0, [(0, .ref 231), (1, .int (-1))], [], ((en_pre a 231 hp_M).set 231 (.inr (11, [.int 0, .int 0, .ref 232, .ref 233, .ref 234, .ref 235, .int 0, .ref 236, .int 0, .int 0, .int 0, .int 0, .long 0, .int (-1), .int 0, .int 0, .ref 237, .int 0, .ref 238, .ref 239, .int 0, .ref 240, .ref 241, .int 0, .int 0, .ref 242, .ref 243, .int 0, .ref 244, .ref 245, .int 0, .long 0, .long 0, .ref 246, .ref 247, .ref 248, .int 0, .ref 249, .ref 250, .ref 251, .ref 252, .ref 253, .ref 254, .ref 255, .ref 256, .int 0, .int 0, .int 0, .long 0, .ref 257, .ref 258, .int 0])), n)) _
      refine At.enter rfl ?_
      refine r_aload_n rfl ?_
      refine r_iload_n rfl ?_
      refine r_iff 5 rfl (by decide) ?_
      refine At.enter rfl ?_
      refine r_iload_n rfl ?_
      refine r_goto ?_
      refine At.enter rfl ?_
      refine r_putf (en_gs_eq (hm_231 _)) (Nat.le_of_ble_eq_true rfl) rfl [.int 0, .int (-1), .ref 232, .ref 233, .ref 234, .ref 235, .int 0, .ref 236, .int 0, .int 0, .int 0, .int 0, .long 0, .int (-1), .int 0, .int 0, .ref 237, .int 0, .ref 238, .ref 239, .int 0, .ref 240, .ref 241, .int 0, .int 0, .ref 242, .ref 243, .int 0, .ref 244, .ref 245, .int 0, .long 0, .long 0, .ref 246, .ref 247, .ref 248, .int 0, .ref 249, .ref 250, .ref 251, .ref 252, .ref 253, .ref 254, .ref 255, .ref 256, .int 0, .int 0, .int 0, .long 0, .ref 257, .ref 258, .int 0] rfl ?_
      refine Ar.hp en_sd0 ?_
      refine r_iload_n rfl ?_
      refine r_iff 17 rfl (by decide) ?_
      refine At.enter rfl ?_
      refine r_aload_n rfl ?_
      refine r_get (v := .ref 232) (en_gs_eq (hm_231 _)) rfl ?_
      refine r_iload_n rfl ?_
      refine r_ineg 1 rfl ?_
      refine r_dup2 ⟨rfl, rfl⟩ ?_
      refine r_iald (v := 0) (en_gs_ne (by decide) (hm_232 _)) (by decide) rfl ?_
      refine r_iconst 1 rfl ?_
      refine r_iadd 1 rfl ?_
      refine r_iast (en_gs_ne (by decide) (hm_232 _)) (by decide) (Nat.le_of_ble_eq_true rfl) ([0, 1, 0, 0, 0, 0, 0]) (by decide +kernel) ?_
      refine Ar.fall 28 rfl ?_
      refine At.enter rfl ?_
      refine r_iload_n rfl ?_
      refine r_ireti ?_
      exact ⟨trivial, rfl, rfl⟩
    refine At.enter rfl ?_
    refine r_ireti ?_
    exact ⟨congrArg (fun z => some (Value.int z)) (by unfold sp_put; (repeat' split) <;> first | rfl | omega), (en_lset (en_lset (en_prel a))), rfl⟩
  · refine At.enter rfl ?_
    refine r_ift (by decide) ?_
    refine At.enter rfl ?_
    refine r_aload_n rfl ?_
    refine r_iload_n rfl ?_
    refine r_callV2s (((a1).toInt < (0))) (((a1).toInt ≥ (0)) ∧ ((a1).toInt > (-1))) (.int 0) (.int 0) ((en_pre a 231 hp_M).set 231 (.inr (11, [.int 0, .int 0, .ref 232, .ref 233, .ref 234, .ref 235, .int 0, .ref 236, .int 0, .int 0, .int 0, .int 0, .long 0, .int (-1), .int 0, .int 0, .ref 237, .int 0, .ref 238, .ref 239, .int 0, .ref 240, .ref 241, .int 0, .int 0, .ref 242, .ref 243, .int 0, .ref 244, .ref 245, .int 0, .long 0, .long 0, .ref 246, .ref 247, .ref 248, .int 0, .ref 249, .ref 250, .ref 251, .ref 252, .ref 253, .ref 254, .ref 255, .ref 256, .int 0, .int 0, .int 0, .long 0, .ref 257, .ref 258, .int 0])), n) ((en_pre a 231 hp_M).set 231 (.inr (11, [.int 0, .int 0, .ref 232, .ref 233, .ref 234, .ref 235, .int 0, .ref 236, .int 0, .int 0, .int 0, .int 0, .long 0, .int (-1), .int 0, .int 0, .ref 237, .int 0, .ref 238, .ref 239, .int 0, .ref 240, .ref 241, .int 0, .int 0, .ref 242, .ref 243, .int 0, .ref 244, .ref 245, .int 0, .long 0, .long 0, .ref 246, .ref 247, .ref 248, .int 0, .ref 249, .ref 250, .ref 251, .ref 252, .ref 253, .ref 254, .ref 255, .ref 256, .int 0, .int 0, .int 0, .long 0, .ref 257, .ref 258, .int 0])), n) 24 rfl [.ref 231, .int a1] [] (Nat.le_of_ble_eq_true rfl) rfl ?_ (fun c13_ => ?_) (fun ⟨c13_, c14_⟩ => ?_)
    · refine Ev.mk rfl rfl ⟨Nat.le_of_ble_eq_true rfl, Or.inr (en_rcI (en_gs_eq (hm_231 _)) rfl)⟩ ?_
      show At _ none _ _ (0, [(0, .ref 231), (1, .int a1)], [], ((en_pre a 231 hp_M).set 231 (.inr (11, [.int 0, .int 0, .ref 232, .ref 233, .ref 234, .ref 235, .int 0, .ref 236, .int 0, .int 0, .int 0, .int 0, .long 0, .int (-1), .int 0, .int 0, .ref 237, .int 0, .ref 238, .ref 239, .int 0, .ref 240, .ref 241, .int 0, .int 0, .ref 242, .ref 243, .int 0, .ref 244, .ref 245, .int 0, .long 0, .long 0, .ref 246, .ref 247, .ref 248, .int 0, .ref 249, .ref 250, .ref 251, .ref 252, .ref 253, .ref 254, .ref 255, .ref 256, .int 0, .int 0, .int 0, .long 0, .ref 257, .ref 258, .int 0])), n)) _
      refine At.enter rfl ?_
      refine r_iload_n rfl ?_
      refine r_i2l ((a1).toInt64) rfl ?_
      refine r_lconst 0 rfl ?_
      refine r_aload_n rfl ?_
      refine r_get (v := .ref 233) (en_gs_eq (hm_231 _)) rfl ?_
      refine r_iconst 0 rfl ?_
      refine r_iald (v := 0) (en_gs_ne (by decide) (hm_233 _)) (by decide) rfl ?_
      refine r_i2l (0) rfl ?_
      refine r_lconst 1 rfl ?_
      refine r_lsub (-1) rfl ?_
      refine r_callS2s (((a1).toInt < (0))) (((a1).toInt ≥ (0)) ∧ ((a1).toInt > (-1))) (.int 0) (.int 0) ((en_pre a 231 hp_M).set 231 (.inr (11, [.int 0, .int 0, .ref 232, .ref 233, .ref 234, .ref 235, .int 0, .ref 236, .int 0, .int 0, .int 0, .int 0, .long 0, .int (-1), .int 0, .int 0, .ref 237, .int 0, .ref 238, .ref 239, .int 0, .ref 240, .ref 241, .int 0, .int 0, .ref 242, .ref 243, .int 0, .ref 244, .ref 245, .int 0, .long 0, .long 0, .ref 246, .ref 247, .ref 248, .int 0, .ref 249, .ref 250, .ref 251, .ref 252, .ref 253, .ref 254, .ref 255, .ref 256, .int 0, .int 0, .int 0, .long 0, .ref 257, .ref 258, .int 0])), n) ((en_pre a 231 hp_M).set 231 (.inr (11, [.int 0, .int 0, .ref 232, .ref 233, .ref 234, .ref 235, .int 0, .ref 236, .int 0, .int 0, .int 0, .int 0, .long 0, .int (-1), .int 0, .int 0, .ref 237, .int 0, .ref 238, .ref 239, .int 0, .ref 240, .ref 241, .int 0, .int 0, .ref 242, .ref 243, .int 0, .ref 244, .ref 245, .int 0, .long 0, .long 0, .ref 246, .ref 247, .ref 248, .int 0, .ref 249, .ref 250, .ref 251, .ref 252, .ref 253, .ref 254, .ref 255, .ref 256, .int 0, .int 0, .int 0, .long 0, .ref 257, .ref 258, .int 0])), n) 15 rfl [.long (a1).toInt64, .long 0, .long (-1)] [] (Nat.le_of_ble_eq_true rfl) rfl ?_ (fun c13_ => ?_) (fun ⟨c13_, c14_⟩ => ?_)
      · refine Ev.mk rfl rfl ⟨Nat.le_of_ble_eq_true rfl, Or.inl rfl⟩ ?_
        show At _ none _ _ (0, [(0, .long (a1).toInt64), (2, .long 0), (4, .long (-1))], [], ((en_pre a 231 hp_M).set 231 (.inr (11, [.int 0, .int 0, .ref 232, .ref 233, .ref 234, .ref 235, .int 0, .ref 236, .int 0, .int 0, .int 0, .int 0, .long 0, .int (-1), .int 0, .int 0, .ref 237, .int 0, .ref 238, .ref 239, .int 0, .ref 240, .ref 241, .int 0, .int 0, .ref 242, .ref 243, .int 0, .ref 244, .ref 245, .int 0, .long 0, .long 0, .ref 246, .ref 247, .ref 248, .int 0, .ref 249, .ref 250, .ref 251, .ref 252, .ref 253, .ref 254, .ref 255, .ref 256, .int 0, .int 0, .int 0, .long 0, .ref 257, .ref 258, .int 0])), n)) _
        refine At.enter rfl ?_
        refine r_lload_n rfl ?_
        refine r_lload_n rfl ?_
        refine r_lcmp (lg_cmp (a1).toInt64 0) rfl ?_
        refine r_ifs 6 rfl (fun c13 => ?_) (fun c13 => ?_)
        · have c13_ : (a1).toInt < (0) := (by have z := en_j_lt_t c13; (try simp only [Int32.toInt_toInt64] at z); exact z)
          refine At.enter rfl ?_
          refine r_iconst 0 rfl ?_
          refine Ar.fall 18 rfl ?_
          refine At.enter rfl ?_
          refine r_iretz (by decide) ?_
          exact Or.inl ⟨c13_, rfl, rfl⟩
        · have c13_ : (a1).toInt ≥ (0) := (by have z := en_j_lt_f c13; (try simp only [Int32.toInt_toInt64] at z); exact z)
          refine At.enter rfl ?_
          refine r_lload_n rfl ?_
          refine r_lload rfl ?_
          refine r_lcmp (lg_cmp (a1).toInt64 (-1)) rfl ?_
          refine r_ifs 13 rfl (fun c14 => ?_) (fun c14 => ?_)
          · have c14_ : (a1).toInt > (-1) := (by have z := en_j_gt_t c14; (try simp only [Int32.toInt_toInt64] at z); exact z)
            refine At.enter rfl ?_
            refine r_iconst 0 rfl ?_
            refine Ar.fall 18 rfl ?_
            refine At.enter rfl ?_
            refine r_iretz (by decide) ?_
            exact Or.inr (⟨⟨c13_, c14_⟩, rfl, rfl⟩)
          · have c14_ : (a1).toInt ≤ (-1) := (by have z := en_j_gt_f c14; (try simp only [Int32.toInt_toInt64] at z); exact z)
            exfalso; omega
      · refine At.enter rfl ?_
        refine r_iretz (by decide) ?_
        exact Or.inl ⟨c13_, rfl, rfl⟩
      · refine At.enter rfl ?_
        refine r_iretz (by decide) ?_
        exact Or.inr (⟨⟨c13_, c14_⟩, rfl, rfl⟩)
    · refine At.enter rfl ?_
      refine r_ift (by decide) ?_
      refine At.enter rfl ?_
      refine r_aload_n rfl ?_
      refine r_bipush (-2) rfl ?_
      refine r_callV1s (True) (.int (-2)) (((en_pre a 231 hp_M).set 231 (.inr (11, [.int 0, .int (-2), .ref 232, .ref 233, .ref 234, .ref 235, .int 0, .ref 236, .int 0, .int 0, .int 0, .int 0, .long 0, .int (-1), .int 0, .int 0, .ref 237, .int 0, .ref 238, .ref 239, .int 0, .ref 240, .ref 241, .int 0, .int 0, .ref 242, .ref 243, .int 0, .ref 244, .ref 245, .int 0, .long 0, .long 0, .ref 246, .ref 247, .ref 248, .int 0, .ref 249, .ref 250, .ref 251, .ref 252, .ref 253, .ref 254, .ref 255, .ref 256, .int 0, .int 0, .int 0, .long 0, .ref 257, .ref 258, .int 0]))).set 232 (.inl (0, .inl ([0, 0, 1, 0, 0, 0, 0]))), n) 49 rfl [.ref 231, .int (-2)] [] (Nat.le_of_ble_eq_true rfl) rfl ?_ (fun _ => ?_)
      · refine Ev.mk rfl rfl ⟨Nat.le_of_ble_eq_true rfl, Or.inr (en_rcI (en_gs_eq (hm_231 _)) rfl)⟩ ?_
        show At _ none _ _ (0, [(0, .ref 231), (1, .int (-2))], [], ((en_pre a 231 hp_M).set 231 (.inr (11, [.int 0, .int 0, .ref 232, .ref 233, .ref 234, .ref 235, .int 0, .ref 236, .int 0, .int 0, .int 0, .int 0, .long 0, .int (-1), .int 0, .int 0, .ref 237, .int 0, .ref 238, .ref 239, .int 0, .ref 240, .ref 241, .int 0, .int 0, .ref 242, .ref 243, .int 0, .ref 244, .ref 245, .int 0, .long 0, .long 0, .ref 246, .ref 247, .ref 248, .int 0, .ref 249, .ref 250, .ref 251, .ref 252, .ref 253, .ref 254, .ref 255, .ref 256, .int 0, .int 0, .int 0, .long 0, .ref 257, .ref 258, .int 0])), n)) _
        refine At.enter rfl ?_
        refine r_aload_n rfl ?_
        refine r_iload_n rfl ?_
        refine r_iff 5 rfl (by decide) ?_
        refine At.enter rfl ?_
        refine r_iload_n rfl ?_
        refine r_goto ?_
        refine At.enter rfl ?_
        refine r_putf (en_gs_eq (hm_231 _)) (Nat.le_of_ble_eq_true rfl) rfl [.int 0, .int (-2), .ref 232, .ref 233, .ref 234, .ref 235, .int 0, .ref 236, .int 0, .int 0, .int 0, .int 0, .long 0, .int (-1), .int 0, .int 0, .ref 237, .int 0, .ref 238, .ref 239, .int 0, .ref 240, .ref 241, .int 0, .int 0, .ref 242, .ref 243, .int 0, .ref 244, .ref 245, .int 0, .long 0, .long 0, .ref 246, .ref 247, .ref 248, .int 0, .ref 249, .ref 250, .ref 251, .ref 252, .ref 253, .ref 254, .ref 255, .ref 256, .int 0, .int 0, .int 0, .long 0, .ref 257, .ref 258, .int 0] rfl ?_
        refine Ar.hp en_sd0 ?_
        refine r_iload_n rfl ?_
        refine r_iff 17 rfl (by decide) ?_
        refine At.enter rfl ?_
        refine r_aload_n rfl ?_
        refine r_get (v := .ref 232) (en_gs_eq (hm_231 _)) rfl ?_
        refine r_iload_n rfl ?_
        refine r_ineg 2 rfl ?_
        refine r_dup2 ⟨rfl, rfl⟩ ?_
        refine r_iald (v := 0) (en_gs_ne (by decide) (hm_232 _)) (by decide) rfl ?_
        refine r_iconst 1 rfl ?_
        refine r_iadd 1 rfl ?_
        refine r_iast (en_gs_ne (by decide) (hm_232 _)) (by decide) (Nat.le_of_ble_eq_true rfl) ([0, 0, 1, 0, 0, 0, 0]) (by decide +kernel) ?_
        refine Ar.fall 28 rfl ?_
        refine At.enter rfl ?_
        refine r_iload_n rfl ?_
        refine r_ireti ?_
        exact ⟨trivial, rfl, rfl⟩
      refine At.enter rfl ?_
      refine r_ireti ?_
      exact ⟨congrArg (fun z => some (Value.int z)) (by unfold sp_put; (repeat' split) <;> first | rfl | omega), (en_lset (en_lset (en_prel a))), rfl⟩
    · refine At.enter rfl ?_
      refine r_ift (by decide) ?_
      refine At.enter rfl ?_
      refine r_aload_n rfl ?_
      refine r_bipush (-2) rfl ?_
      refine r_callV1s (True) (.int (-2)) (((en_pre a 231 hp_M).set 231 (.inr (11, [.int 0, .int (-2), .ref 232, .ref 233, .ref 234, .ref 235, .int 0, .ref 236, .int 0, .int 0, .int 0, .int 0, .long 0, .int (-1), .int 0, .int 0, .ref 237, .int 0, .ref 238, .ref 239, .int 0, .ref 240, .ref 241, .int 0, .int 0, .ref 242, .ref 243, .int 0, .ref 244, .ref 245, .int 0, .long 0, .long 0, .ref 246, .ref 247, .ref 248, .int 0, .ref 249, .ref 250, .ref 251, .ref 252, .ref 253, .ref 254, .ref 255, .ref 256, .int 0, .int 0, .int 0, .long 0, .ref 257, .ref 258, .int 0]))).set 232 (.inl (0, .inl ([0, 0, 1, 0, 0, 0, 0]))), n) 49 rfl [.ref 231, .int (-2)] [] (Nat.le_of_ble_eq_true rfl) rfl ?_ (fun _ => ?_)
      · refine Ev.mk rfl rfl ⟨Nat.le_of_ble_eq_true rfl, Or.inr (en_rcI (en_gs_eq (hm_231 _)) rfl)⟩ ?_
        show At _ none _ _ (0, [(0, .ref 231), (1, .int (-2))], [], ((en_pre a 231 hp_M).set 231 (.inr (11, [.int 0, .int 0, .ref 232, .ref 233, .ref 234, .ref 235, .int 0, .ref 236, .int 0, .int 0, .int 0, .int 0, .long 0, .int (-1), .int 0, .int 0, .ref 237, .int 0, .ref 238, .ref 239, .int 0, .ref 240, .ref 241, .int 0, .int 0, .ref 242, .ref 243, .int 0, .ref 244, .ref 245, .int 0, .long 0, .long 0, .ref 246, .ref 247, .ref 248, .int 0, .ref 249, .ref 250, .ref 251, .ref 252, .ref 253, .ref 254, .ref 255, .ref 256, .int 0, .int 0, .int 0, .long 0, .ref 257, .ref 258, .int 0])), n)) _
        refine At.enter rfl ?_
        refine r_aload_n rfl ?_
        refine r_iload_n rfl ?_
        refine r_iff 5 rfl (by decide) ?_
        refine At.enter rfl ?_
        refine r_iload_n rfl ?_
        refine r_goto ?_
        refine At.enter rfl ?_
        refine r_putf (en_gs_eq (hm_231 _)) (Nat.le_of_ble_eq_true rfl) rfl [.int 0, .int (-2), .ref 232, .ref 233, .ref 234, .ref 235, .int 0, .ref 236, .int 0, .int 0, .int 0, .int 0, .long 0, .int (-1), .int 0, .int 0, .ref 237, .int 0, .ref 238, .ref 239, .int 0, .ref 240, .ref 241, .int 0, .int 0, .ref 242, .ref 243, .int 0, .ref 244, .ref 245, .int 0, .long 0, .long 0, .ref 246, .ref 247, .ref 248, .int 0, .ref 249, .ref 250, .ref 251, .ref 252, .ref 253, .ref 254, .ref 255, .ref 256, .int 0, .int 0, .int 0, .long 0, .ref 257, .ref 258, .int 0] rfl ?_
        refine Ar.hp en_sd0 ?_
        refine r_iload_n rfl ?_
        refine r_iff 17 rfl (by decide) ?_
        refine At.enter rfl ?_
        refine r_aload_n rfl ?_
        refine r_get (v := .ref 232) (en_gs_eq (hm_231 _)) rfl ?_
        refine r_iload_n rfl ?_
        refine r_ineg 2 rfl ?_
        refine r_dup2 ⟨rfl, rfl⟩ ?_
        refine r_iald (v := 0) (en_gs_ne (by decide) (hm_232 _)) (by decide) rfl ?_
        refine r_iconst 1 rfl ?_
        refine r_iadd 1 rfl ?_
        refine r_iast (en_gs_ne (by decide) (hm_232 _)) (by decide) (Nat.le_of_ble_eq_true rfl) ([0, 0, 1, 0, 0, 0, 0]) (by decide +kernel) ?_
        refine Ar.fall 28 rfl ?_
        refine At.enter rfl ?_
        refine r_iload_n rfl ?_
        refine r_ireti ?_
        exact ⟨trivial, rfl, rfl⟩
      refine At.enter rfl ?_
      refine r_ireti ?_
      exact ⟨congrArg (fun z => some (Value.int z)) (by unfold sp_put; (repeat' split) <;> first | rfl | omega), (en_lset (en_lset (en_prel a))), rfl⟩
  · refine At.enter rfl ?_
    refine r_iff 13 rfl (by decide) ?_
    refine At.enter rfl ?_
    refine r_aload_n rfl ?_
    refine r_iconst (-1) rfl ?_
    refine r_callV1s (True) (.int (-1)) (((en_pre a 231 hp_M).set 231 (.inr (11, [.int 0, .int (-1), .ref 232, .ref 233, .ref 234, .ref 235, .int 0, .ref 236, .int 0, .int 0, .int 0, .int 0, .long 0, .int (-1), .int 0, .int 0, .ref 237, .int 0, .ref 238, .ref 239, .int 0, .ref 240, .ref 241, .int 0, .int 0, .ref 242, .ref 243, .int 0, .ref 244, .ref 245, .int 0, .long 0, .long 0, .ref 246, .ref 247, .ref 248, .int 0, .ref 249, .ref 250, .ref 251, .ref 252, .ref 253, .ref 254, .ref 255, .ref 256, .int 0, .int 0, .int 0, .long 0, .ref 257, .ref 258, .int 0]))).set 232 (.inl (0, .inl ([0, 1, 0, 0, 0, 0, 0]))), n) 18 rfl [.ref 231, .int (-1)] [] (Nat.le_of_ble_eq_true rfl) rfl ?_ (fun _ => ?_)
    · refine Ev.mk rfl rfl ⟨Nat.le_of_ble_eq_true rfl, Or.inr (en_rcI (en_gs_eq (hm_231 _)) rfl)⟩ ?_
      show At _ none _ _ (0, [(0, .ref 231), (1, .int (-1))], [], ((en_pre a 231 hp_M).set 231 (.inr (11, [.int 0, .int 0, .ref 232, .ref 233, .ref 234, .ref 235, .int 0, .ref 236, .int 0, .int 0, .int 0, .int 0, .long 0, .int (-1), .int 0, .int 0, .ref 237, .int 0, .ref 238, .ref 239, .int 0, .ref 240, .ref 241, .int 0, .int 0, .ref 242, .ref 243, .int 0, .ref 244, .ref 245, .int 0, .long 0, .long 0, .ref 246, .ref 247, .ref 248, .int 0, .ref 249, .ref 250, .ref 251, .ref 252, .ref 253, .ref 254, .ref 255, .ref 256, .int 0, .int 0, .int 0, .long 0, .ref 257, .ref 258, .int 0])), n)) _
      refine At.enter rfl ?_
      refine r_aload_n rfl ?_
      refine r_iload_n rfl ?_
      refine r_iff 5 rfl (by decide) ?_
      refine At.enter rfl ?_
      refine r_iload_n rfl ?_
      refine r_goto ?_
      refine At.enter rfl ?_
      refine r_putf (en_gs_eq (hm_231 _)) (Nat.le_of_ble_eq_true rfl) rfl [.int 0, .int (-1), .ref 232, .ref 233, .ref 234, .ref 235, .int 0, .ref 236, .int 0, .int 0, .int 0, .int 0, .long 0, .int (-1), .int 0, .int 0, .ref 237, .int 0, .ref 238, .ref 239, .int 0, .ref 240, .ref 241, .int 0, .int 0, .ref 242, .ref 243, .int 0, .ref 244, .ref 245, .int 0, .long 0, .long 0, .ref 246, .ref 247, .ref 248, .int 0, .ref 249, .ref 250, .ref 251, .ref 252, .ref 253, .ref 254, .ref 255, .ref 256, .int 0, .int 0, .int 0, .long 0, .ref 257, .ref 258, .int 0] rfl ?_
      refine Ar.hp en_sd0 ?_
      refine r_iload_n rfl ?_
      refine r_iff 17 rfl (by decide) ?_
      refine At.enter rfl ?_
      refine r_aload_n rfl ?_
      refine r_get (v := .ref 232) (en_gs_eq (hm_231 _)) rfl ?_
      refine r_iload_n rfl ?_
      refine r_ineg 1 rfl ?_
      refine r_dup2 ⟨rfl, rfl⟩ ?_
      refine r_iald (v := 0) (en_gs_ne (by decide) (hm_232 _)) (by decide) rfl ?_
      refine r_iconst 1 rfl ?_
      refine r_iadd 1 rfl ?_
      refine r_iast (en_gs_ne (by decide) (hm_232 _)) (by decide) (Nat.le_of_ble_eq_true rfl) ([0, 1, 0, 0, 0, 0, 0]) (by decide +kernel) ?_
      refine Ar.fall 28 rfl ?_
      refine At.enter rfl ?_
      refine r_iload_n rfl ?_
      refine r_ireti ?_
      exact ⟨trivial, rfl, rfl⟩
    refine At.enter rfl ?_
    refine r_ireti ?_
    exact ⟨congrArg (fun z => some (Value.int z)) (by unfold sp_put; (repeat' split) <;> first | rfl | omega), (en_lset (en_lset (en_prel a))), rfl⟩
