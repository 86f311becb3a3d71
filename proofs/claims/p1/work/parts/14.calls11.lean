def sp_sign (a1 a2 : Int32) : Int32 := if 0 ≤ a2.toInt ∧ a2.toInt ≤ 99 then -2 else -1
set_option maxRecDepth 100000 in
set_option maxHeartbeats 4000000 in
theorem zx_X10_sign (n : Nat) (a1 : Int32) (a2 : Int32) : Ev 14 134 [.ref 0, .int a1, .int a2] (hp_X ++ hp_M, n) (fun r h' => r = some (.int (sp_sign a1 a2)) ∧ IsX h'.1 ∧ h'.2 = n) := by
  refine Ev.mk rfl rfl ⟨Nat.le_of_ble_eq_true rfl, Or.inr (en_rcI hx_0 rfl)⟩ ?_
  show At _ none _ _ (0, [(0, .ref 0), (1, .int a1), (2, .int a2)], [], (hp_X ++ hp_M, n)) _
  refine At.enter rfl ?_
  refine r_iload_n rfl ?_
  refine r_iconst 0 rfl ?_
  refine r_bipush 99 rfl ?_
  refine r_callS3s (((a2).toInt < (0))) (((a2).toInt ≥ (0)) ∧ ((a2).toInt > (99))) (((a2).toInt ≥ (0)) ∧ ((a2).toInt ≤ (99))) (.int 0) (.int 0) (.int 1) (hp_X ++ hp_M, n) (hp_X ++ hp_M, n) (hp_X ++ hp_M, n) 7 rfl [.int a2, .int 0, .int 99] [] (Nat.le_of_ble_eq_true rfl) rfl ?_ (fun c1_ => ?_) (fun ⟨c1_, c2_⟩ => ?_) (fun ⟨c1_, c2_⟩ => ?_)
  · refine Ev.mk rfl rfl ⟨Nat.le_of_ble_eq_true rfl, Or.inl rfl⟩ ?_
    show At _ none _ _ (0, [(0, .int a2), (1, .int 0), (2, .int 99)], [], (hp_X ++ hp_M, n)) _
    refine At.enter rfl ?_
    refine r_iload_n rfl ?_
    refine r_iload_n rfl ?_
    refine r_ics 5 rfl (fun c1 => ?_) (fun c1 => ?_)
    · have c1_ : (a2).toInt < (0) := (by have z := en_i_lt_t c1; (try simp only [Int32.toInt_toInt64] at z); exact z)
      refine At.enter rfl ?_
      refine r_iconst 0 rfl ?_
      refine Ar.fall 15 rfl ?_
      refine At.enter rfl ?_
      refine r_iretz (by decide) ?_
      exact Or.inl ⟨c1_, rfl, rfl⟩
    · have c1_ : (a2).toInt ≥ (0) := (by have z := en_i_lt_f c1; (try simp only [Int32.toInt_toInt64] at z); exact z)
      refine At.enter rfl ?_
      refine r_iload_n rfl ?_
      refine r_iload_n rfl ?_
      refine r_ics 10 rfl (fun c2 => ?_) (fun c2 => ?_)
      · have c2_ : (a2).toInt > (99) := (by have z := en_i_gt_t c2; (try simp only [Int32.toInt_toInt64] at z); exact z)
        refine At.enter rfl ?_
        refine r_iconst 0 rfl ?_
        refine Ar.fall 15 rfl ?_
        refine At.enter rfl ?_
        refine r_iretz (by decide) ?_
        exact Or.inr (Or.inl ⟨⟨c1_, c2_⟩, rfl, rfl⟩)
      · have c2_ : (a2).toInt ≤ (99) := (by have z := en_i_gt_f c2; (try simp only [Int32.toInt_toInt64] at z); exact z)
        refine At.enter rfl ?_
        refine r_iconst 1 rfl ?_
        refine r_goto ?_
        refine At.enter rfl ?_
        refine r_iretz (by decide) ?_
        exact Or.inr (Or.inr (⟨⟨c1_, c2_⟩, rfl, rfl⟩))
  · refine At.enter rfl ?_
    refine r_iff 10 rfl (by decide) ?_
    refine At.enter rfl ?_
    refine r_aload_n rfl ?_
    refine r_iconst (-1) rfl ?_
    refine r_callV1s (True) (.int (-1)) (((hp_X ++ hp_M).set 0 (.inr (10, [.ref 1, .ref 58, .ref 173, .ref 174, .ref 176, .ref 184, .ref 188, .ref 204, .ref 220, .ref 222, .ref 223, .ref 228, .ref 229, .ref 230, .int 0, .int 0, .int 0, .int (-1)]))).set 230 (.inl (0, .inl ([0, 1, 0, 0, 0, 0, 0]))), n) 15 rfl [.ref 0, .int (-1)] [] (Nat.le_of_ble_eq_true rfl) rfl ?_ (fun _ => ?_)
    · refine Ev.mk rfl rfl ⟨Nat.le_of_ble_eq_true rfl, Or.inr (en_rcI hx_0 rfl)⟩ ?_
      show At _ none _ _ (0, [(0, .ref 0), (1, .int (-1))], [], (hp_X ++ hp_M, n)) _
      refine At.enter rfl ?_
      refine r_aload_n rfl ?_
      refine r_iload_n rfl ?_
      refine r_putf hx_0 (Nat.le_of_ble_eq_true rfl) rfl [.ref 1, .ref 58, .ref 173, .ref 174, .ref 176, .ref 184, .ref 188, .ref 204, .ref 220, .ref 222, .ref 223, .ref 228, .ref 229, .ref 230, .int 0, .int 0, .int 0, .int (-1)] rfl ?_
      refine r_iload_n rfl ?_
      refine r_ineg 1 rfl ?_
      refine r_iconst 0 rfl ?_
      refine r_bipush 6 rfl ?_
      refine r_callS1s (True) (.int 1) ((hp_X ++ hp_M).set 0 (.inr (10, [.ref 1, .ref 58, .ref 173, .ref 174, .ref 176, .ref 184, .ref 188, .ref 204, .ref 220, .ref 222, .ref 223, .ref 228, .ref 229, .ref 230, .int 0, .int 0, .int 0, .int (-1)])), n) 13 rfl [.int 1, .int 0, .int 6] [] (Nat.le_of_ble_eq_true rfl) rfl ?_ (fun _ => ?_)
      · refine Ev.mk rfl rfl ⟨Nat.le_of_ble_eq_true rfl, Or.inl rfl⟩ ?_
        show At _ none _ _ (0, [(0, .int 1), (1, .int 0), (2, .int 6)], [], ((hp_X ++ hp_M).set 0 (.inr (10, [.ref 1, .ref 58, .ref 173, .ref 174, .ref 176, .ref 184, .ref 188, .ref 204, .ref 220, .ref 222, .ref 223, .ref 228, .ref 229, .ref 230, .int 0, .int 0, .int 0, .int (-1)])), n)) _
        refine At.enter rfl ?_
        refine r_iload_n rfl ?_
        refine r_iload_n rfl ?_
        refine r_icf 5 rfl (by decide) ?_
        refine At.enter rfl ?_
        refine r_iload_n rfl ?_
        refine r_iload_n rfl ?_
        refine r_icf 10 rfl (by decide) ?_
        refine At.enter rfl ?_
        refine r_iconst 1 rfl ?_
        refine r_goto ?_
        refine At.enter rfl ?_
        refine r_iretz (by decide) ?_
        exact ⟨trivial, rfl, rfl⟩
      refine At.enter rfl ?_
      refine r_iff 16 rfl (by decide) ?_
      refine At.enter rfl ?_
      refine r_aload_n rfl ?_
      refine r_get (v := .ref 230) (en_gs_eq hx_0) rfl ?_
      refine r_iload_n rfl ?_
      refine r_ineg 1 rfl ?_
      refine r_dup2 ⟨rfl, rfl⟩ ?_
      refine r_iald (v := 0) (en_gs_ne (by decide) hx_230) (by decide) rfl ?_
      refine r_iconst 1 rfl ?_
      refine r_iadd 1 rfl ?_
      refine r_iast (en_gs_ne (by decide) hx_230) (by decide) (Nat.le_of_ble_eq_true rfl) ([0, 1, 0, 0, 0, 0, 0]) (by decide +kernel) ?_
      refine Ar.fall 27 rfl ?_
      refine At.enter rfl ?_
      refine r_iload_n rfl ?_
      refine r_ireti ?_
      exact ⟨trivial, rfl, rfl⟩
    refine At.enter rfl ?_
    refine r_ireti ?_
    exact ⟨congrArg (fun z => some (Value.int z)) (by unfold sp_sign; (repeat' split) <;> first | rfl | omega), (IsX.set (IsX.set IsX.base (by decide)) (by decide)), rfl⟩
  · refine At.enter rfl ?_
    refine r_iff 10 rfl (by decide) ?_
    refine At.enter rfl ?_
    refine r_aload_n rfl ?_
    refine r_iconst (-1) rfl ?_
    refine r_callV1s (True) (.int (-1)) (((hp_X ++ hp_M).set 0 (.inr (10, [.ref 1, .ref 58, .ref 173, .ref 174, .ref 176, .ref 184, .ref 188, .ref 204, .ref 220, .ref 222, .ref 223, .ref 228, .ref 229, .ref 230, .int 0, .int 0, .int 0, .int (-1)]))).set 230 (.inl (0, .inl ([0, 1, 0, 0, 0, 0, 0]))), n) 15 rfl [.ref 0, .int (-1)] [] (Nat.le_of_ble_eq_true rfl) rfl ?_ (fun _ => ?_)
    · refine Ev.mk rfl rfl ⟨Nat.le_of_ble_eq_true rfl, Or.inr (en_rcI hx_0 rfl)⟩ ?_
      show At _ none _ _ (0, [(0, .ref 0), (1, .int (-1))], [], (hp_X ++ hp_M, n)) _
      refine At.enter rfl ?_
      refine r_aload_n rfl ?_
      refine r_iload_n rfl ?_
      refine r_putf hx_0 (Nat.le_of_ble_eq_true rfl) rfl [.ref 1, .ref 58, .ref 173, .ref 174, .ref 176, .ref 184, .ref 188, .ref 204, .ref 220, .ref 222, .ref 223, .ref 228, .ref 229, .ref 230, .int 0, .int 0, .int 0, .int (-1)] rfl ?_
      refine r_iload_n rfl ?_
      refine r_ineg 1 rfl ?_
      refine r_iconst 0 rfl ?_
      refine r_bipush 6 rfl ?_
      refine r_callS1s (True) (.int 1) ((hp_X ++ hp_M).set 0 (.inr (10, [.ref 1, .ref 58, .ref 173, .ref 174, .ref 176, .ref 184, .ref 188, .ref 204, .ref 220, .ref 222, .ref 223, .ref 228, .ref 229, .ref 230, .int 0, .int 0, .int 0, .int (-1)])), n) 13 rfl [.int 1, .int 0, .int 6] [] (Nat.le_of_ble_eq_true rfl) rfl ?_ (fun _ => ?_)
      · refine Ev.mk rfl rfl ⟨Nat.le_of_ble_eq_true rfl, Or.inl rfl⟩ ?_
        show At _ none _ _ (0, [(0, .int 1), (1, .int 0), (2, .int 6)], [], ((hp_X ++ hp_M).set 0 (.inr (10, [.ref 1, .ref 58, .ref 173, .ref 174, .ref 176, .ref 184, .ref 188, .ref 204, .ref 220, .ref 222, .ref 223, .ref 228, .ref 229, .ref 230, .int 0, .int 0, .int 0, .int (-1)])), n)) _
        refine At.enter rfl ?_
        refine r_iload_n rfl ?_
        refine r_iload_n rfl ?_
        refine r_icf 5 rfl (by decide) ?_
        refine At.enter rfl ?_
        refine r_iload_n rfl ?_
        refine r_iload_n rfl ?_
        refine r_icf 10 rfl (by decide) ?_
        refine At.enter rfl ?_
        refine r_iconst 1 rfl ?_
        refine r_goto ?_
        refine At.enter rfl ?_
        refine r_iretz (by decide) ?_
        exact ⟨trivial, rfl, rfl⟩
      refine At.enter rfl ?_
      refine r_iff 16 rfl (by decide) ?_
      refine At.enter rfl ?_
      refine r_aload_n rfl ?_
      refine r_get (v := .ref 230) (en_gs_eq hx_0) rfl ?_
      refine r_iload_n rfl ?_
      refine r_ineg 1 rfl ?_
      refine r_dup2 ⟨rfl, rfl⟩ ?_
      refine r_iald (v := 0) (en_gs_ne (by decide) hx_230) (by decide) rfl ?_
      refine r_iconst 1 rfl ?_
      refine r_iadd 1 rfl ?_
      refine r_iast (en_gs_ne (by decide) hx_230) (by decide) (Nat.le_of_ble_eq_true rfl) ([0, 1, 0, 0, 0, 0, 0]) (by decide +kernel) ?_
      refine Ar.fall 27 rfl ?_
      refine At.enter rfl ?_
      refine r_iload_n rfl ?_
      refine r_ireti ?_
      exact ⟨trivial, rfl, rfl⟩
    refine At.enter rfl ?_
    refine r_ireti ?_
    exact ⟨congrArg (fun z => some (Value.int z)) (by unfold sp_sign; (repeat' split) <;> first | rfl | omega), (IsX.set (IsX.set IsX.base (by decide)) (by decide)), rfl⟩
  · refine At.enter rfl ?_
    refine r_ift (by decide) ?_
    refine At.enter rfl ?_
    refine r_aload_n rfl ?_
    refine r_get (v := .ref 1) hx_0 rfl ?_
    refine r_iload_n rfl ?_
    refine r_callV2s (((a1).toInt < (0))) (((a1).toInt ≥ (0)) ∧ ((a1).toInt ≥ (0))) (.int 0) (.int 0) (hp_X ++ hp_M, n) (hp_X ++ hp_M, n) 24 rfl [.ref 1, .int a1] [] (Nat.le_of_ble_eq_true rfl) rfl ?_ (fun c3_ => ?_) (fun ⟨c3_, c4_⟩ => ?_)
    · refine Ev.mk rfl rfl ⟨Nat.le_of_ble_eq_true rfl, Or.inr (en_rcI hx_1 rfl)⟩ ?_
      show At _ none _ _ (0, [(0, .ref 1), (1, .int a1)], [], (hp_X ++ hp_M, n)) _
      refine At.enter rfl ?_
      refine r_iload_n rfl ?_
      refine r_ifs 4 rfl (fun c3 => ?_) (fun c3 => ?_)
      · have c3_ : (a1).toInt < (0) := (by have z := en_k_lt_t c3; (try simp only [Int32.toInt_toInt64] at z); exact z)
        refine At.enter rfl ?_
        refine r_iconst 0 rfl ?_
        refine Ar.fall 17 rfl ?_
        refine At.enter rfl ?_
        refine r_iretz (by decide) ?_
        exact Or.inl ⟨c3_, rfl, rfl⟩
      · have c3_ : (a1).toInt ≥ (0) := (by have z := en_k_lt_f c3; (try simp only [Int32.toInt_toInt64] at z); exact z)
        refine At.enter rfl ?_
        refine r_iload_n rfl ?_
        refine r_aload_n rfl ?_
        refine r_get (v := .int 0) hx_1 rfl ?_
        refine r_ics 12 rfl (fun c4 => ?_) (fun c4 => ?_)
        · have c4_ : (a1).toInt ≥ (0) := (by have z := en_i_ge_t c4; (try simp only [Int32.toInt_toInt64] at z); exact z)
          refine At.enter rfl ?_
          refine r_iconst 0 rfl ?_
          refine Ar.fall 17 rfl ?_
          refine At.enter rfl ?_
          refine r_iretz (by decide) ?_
          exact Or.inr (⟨⟨c3_, c4_⟩, rfl, rfl⟩)
        · have c4_ : (a1).toInt < (0) := (by have z := en_i_ge_f c4; (try simp only [Int32.toInt_toInt64] at z); exact z)
          exfalso; omega
    · refine At.enter rfl ?_
      refine r_iff 27 rfl (by decide) ?_
      refine At.enter rfl ?_
      refine r_aload_n rfl ?_
      refine r_bipush (-2) rfl ?_
      refine r_callV1s (True) (.int (-2)) (((hp_X ++ hp_M).set 0 (.inr (10, [.ref 1, .ref 58, .ref 173, .ref 174, .ref 176, .ref 184, .ref 188, .ref 204, .ref 220, .ref 222, .ref 223, .ref 228, .ref 229, .ref 230, .int 0, .int 0, .int 0, .int (-2)]))).set 230 (.inl (0, .inl ([0, 0, 1, 0, 0, 0, 0]))), n) 33 rfl [.ref 0, .int (-2)] [] (Nat.le_of_ble_eq_true rfl) rfl ?_ (fun _ => ?_)
      · refine Ev.mk rfl rfl ⟨Nat.le_of_ble_eq_true rfl, Or.inr (en_rcI hx_0 rfl)⟩ ?_
        show At _ none _ _ (0, [(0, .ref 0), (1, .int (-2))], [], (hp_X ++ hp_M, n)) _
        refine At.enter rfl ?_
        refine r_aload_n rfl ?_
        refine r_iload_n rfl ?_
        refine r_putf hx_0 (Nat.le_of_ble_eq_true rfl) rfl [.ref 1, .ref 58, .ref 173, .ref 174, .ref 176, .ref 184, .ref 188, .ref 204, .ref 220, .ref 222, .ref 223, .ref 228, .ref 229, .ref 230, .int 0, .int 0, .int 0, .int (-2)] rfl ?_
        refine r_iload_n rfl ?_
        refine r_ineg 2 rfl ?_
        refine r_iconst 0 rfl ?_
        refine r_bipush 6 rfl ?_
        refine r_callS1s (True) (.int 1) ((hp_X ++ hp_M).set 0 (.inr (10, [.ref 1, .ref 58, .ref 173, .ref 174, .ref 176, .ref 184, .ref 188, .ref 204, .ref 220, .ref 222, .ref 223, .ref 228, .ref 229, .ref 230, .int 0, .int 0, .int 0, .int (-2)])), n) 13 rfl [.int 2, .int 0, .int 6] [] (Nat.le_of_ble_eq_true rfl) rfl ?_ (fun _ => ?_)
        · refine Ev.mk rfl rfl ⟨Nat.le_of_ble_eq_true rfl, Or.inl rfl⟩ ?_
          show At _ none _ _ (0, [(0, .int 2), (1, .int 0), (2, .int 6)], [], ((hp_X ++ hp_M).set 0 (.inr (10, [.ref 1, .ref 58, .ref 173, .ref 174, .ref 176, .ref 184, .ref 188, .ref 204, .ref 220, .ref 222, .ref 223, .ref 228, .ref 229, .ref 230, .int 0, .int 0, .int 0, .int (-2)])), n)) _
          refine At.enter rfl ?_
          refine r_iload_n rfl ?_
          refine r_iload_n rfl ?_
          refine r_icf 5 rfl (by decide) ?_
          refine At.enter rfl ?_
          refine r_iload_n rfl ?_
          refine r_iload_n rfl ?_
          refine r_icf 10 rfl (by decide) ?_
          refine At.enter rfl ?_
          refine r_iconst 1 rfl ?_
          refine r_goto ?_
          refine At.enter rfl ?_
          refine r_iretz (by decide) ?_
          exact ⟨trivial, rfl, rfl⟩
        refine At.enter rfl ?_
        refine r_iff 16 rfl (by decide) ?_
        refine At.enter rfl ?_
        refine r_aload_n rfl ?_
        refine r_get (v := .ref 230) (en_gs_eq hx_0) rfl ?_
        refine r_iload_n rfl ?_
        refine r_ineg 2 rfl ?_
        refine r_dup2 ⟨rfl, rfl⟩ ?_
        refine r_iald (v := 0) (en_gs_ne (by decide) hx_230) (by decide) rfl ?_
        refine r_iconst 1 rfl ?_
        refine r_iadd 1 rfl ?_
        refine r_iast (en_gs_ne (by decide) hx_230) (by decide) (Nat.le_of_ble_eq_true rfl) ([0, 0, 1, 0, 0, 0, 0]) (by decide +kernel) ?_
        refine Ar.fall 27 rfl ?_
        refine At.enter rfl ?_
        refine r_iload_n rfl ?_
        refine r_ireti ?_
        exact ⟨trivial, rfl, rfl⟩
      refine At.enter rfl ?_
      refine r_ireti ?_
      exact ⟨congrArg (fun z => some (Value.int z)) (by unfold sp_sign; (repeat' split) <;> first | rfl | omega), (IsX.set (IsX.set IsX.base (by decide)) (by decide)), rfl⟩
    · refine At.enter rfl ?_
      refine r_iff 27 rfl (by decide) ?_
      refine At.enter rfl ?_
      refine r_aload_n rfl ?_
      refine r_bipush (-2) rfl ?_
      refine r_callV1s (True) (.int (-2)) (((hp_X ++ hp_M).set 0 (.inr (10, [.ref 1, .ref 58, .ref 173, .ref 174, .ref 176, .ref 184, .ref 188, .ref 204, .ref 220, .ref 222, .ref 223, .ref 228, .ref 229, .ref 230, .int 0, .int 0, .int 0, .int (-2)]))).set 230 (.inl (0, .inl ([0, 0, 1, 0, 0, 0, 0]))), n) 33 rfl [.ref 0, .int (-2)] [] (Nat.le_of_ble_eq_true rfl) rfl ?_ (fun _ => ?_)
      · refine Ev.mk rfl rfl ⟨Nat.le_of_ble_eq_true rfl, Or.inr (en_rcI hx_0 rfl)⟩ ?_
        show At _ none _ _ (0, [(0, .ref 0), (1, .int (-2))], [], (hp_X ++ hp_M, n)) _
        refine At.enter rfl ?_
        refine r_aload_n rfl ?_
        refine r_iload_n rfl ?_
        refine r_putf hx_0 (Nat.le_of_ble_eq_true rfl) rfl [.ref 1, .ref 58, .ref 173, .ref 174, .ref 176, .ref 184, .ref 188, .ref 204, .ref 220, .ref 222, .ref 223, .ref 228, .ref 229, .ref 230, .int 0, .int 0, .int 0, .int (-2)] rfl ?_
        refine r_iload_n rfl ?_
        refine r_ineg 2 rfl ?_
        refine r_iconst 0 rfl ?_
        refine r_bipush 6 rfl ?_
        refine r_callS1s (True) (.int 1) ((hp_X ++ hp_M).set 0 (.inr (10, [.ref 1, .ref 58, .ref 173, .ref 174, .ref 176, .ref 184, .ref 188, .ref 204, .ref 220, .ref 222, .ref 223, .ref 228, .ref 229, .ref 230, .int 0, .int 0, .int 0, .int (-2)])), n) 13 rfl [.int 2, .int 0, .int 6] [] (Nat.le_of_ble_eq_true rfl) rfl ?_ (fun _ => ?_)
        · refine Ev.mk rfl rfl ⟨Nat.le_of_ble_eq_true rfl, Or.inl rfl⟩ ?_
          show At _ none _ _ (0, [(0, .int 2), (1, .int 0), (2, .int 6)], [], ((hp_X ++ hp_M).set 0 (.inr (10, [.ref 1, .ref 58, .ref 173, .ref 174, .ref 176, .ref 184, .ref 188, .ref 204, .ref 220, .ref 222, .ref 223, .ref 228, .ref 229, .ref 230, .int 0, .int 0, .int 0, .int (-2)])), n)) _
          refine At.enter rfl ?_
          refine r_iload_n rfl ?_
          refine r_iload_n rfl ?_
          refine r_icf 5 rfl (by decide) ?_
          refine At.enter rfl ?_
          refine r_iload_n rfl ?_
          refine r_iload_n rfl ?_
          refine r_icf 10 rfl (by decide) ?_
          refine At.enter rfl ?_
          refine r_iconst 1 rfl ?_
          refine r_goto ?_
          refine At.enter rfl ?_
          refine r_iretz (by decide) ?_
          exact ⟨trivial, rfl, rfl⟩
        refine At.enter rfl ?_
        refine r_iff 16 rfl (by decide) ?_
        refine At.enter rfl ?_
        refine r_aload_n rfl ?_
        refine r_get (v := .ref 230) (en_gs_eq hx_0) rfl ?_
        refine r_iload_n rfl ?_
        refine r_ineg 2 rfl ?_
        refine r_dup2 ⟨rfl, rfl⟩ ?_
        refine r_iald (v := 0) (en_gs_ne (by decide) hx_230) (by decide) rfl ?_
        refine r_iconst 1 rfl ?_
        refine r_iadd 1 rfl ?_
        refine r_iast (en_gs_ne (by decide) hx_230) (by decide) (Nat.le_of_ble_eq_true rfl) ([0, 0, 1, 0, 0, 0, 0]) (by decide +kernel) ?_
        refine Ar.fall 27 rfl ?_
        refine At.enter rfl ?_
        refine r_iload_n rfl ?_
        refine r_ireti ?_
        exact ⟨trivial, rfl, rfl⟩
      refine At.enter rfl ?_
      refine r_ireti ?_
      exact ⟨congrArg (fun z => some (Value.int z)) (by unfold sp_sign; (repeat' split) <;> first | rfl | omega), (IsX.set (IsX.set IsX.base (by decide)) (by decide)), rfl⟩
set_option maxRecDepth 100000 in
set_option maxHeartbeats 4000000 in
theorem zm_X11_sign (a : Nat → en_E) (n : Nat) (a1 : Int32) (a2 : Int32) : Ev 14 254 [.ref 231, .int a1, .int a2] (en_pre a 231 hp_M, n) (fun r h' => r = some (.int (sp_sign a1 a2)) ∧ h'.1.length = 259 ∧ h'.2 = n) := by
  refine Ev.mk rfl rfl ⟨Nat.le_of_ble_eq_true rfl, Or.inr (en_rcI (hm_231 _) rfl)⟩ ?_
  show At _ none _ _ (0, [(0, .ref 231), (1, .int a1), (2, .int a2)], [], (en_pre a 231 hp_M, n)) _
  refine At.enter rfl ?_
  refine r_aload_n rfl ?_
  refine r_iconst 0 rfl ?_
  refine r_putf (hm_231 _) (Nat.le_of_ble_eq_true rfl) rfl [.int 0, .int 0, .ref 232, .ref 233, .ref 234, .ref 235, .int 0, .ref 236, .int 0, .int 0, .int 0, .int 0, .long 0, .int (-1), .int 0, .int 0, .ref 237, .int 0, .ref 238, .ref 239, .int 0, .ref 240, .ref 241, .int 0, .int 0, .ref 242, .ref 243, .int 0, .ref 244, .ref 245, .int 0, .long 0, .long 0, .ref 246, .ref 247, .ref 248, .int 0, .ref 249, .ref 250, .ref 251, .ref 252, .ref 253, .ref 254, .ref 255, .ref 256, .int 0, .int 0, .int 0, .long 0, .ref 257, .ref 258, .int 0] rfl ?_
  refine r_iload_n rfl ?_
  refine r_i2l ((a2).toInt64) rfl ?_
  refine r_lconst 0 rfl ?_
  refine r_ldc2 99 rfl ?_
  refine r_callS3s (((a2).toInt < (0))) (((a2).toInt ≥ (0)) ∧ ((a2).toInt > (99))) (((a2).toInt ≥ (0)) ∧ ((a2).toInt ≤ (99))) (.int 0) (.int 0) (.int 1) ((en_pre a 231 hp_M).set 231 (.inr (11, [.int 0, .int 0, .ref 232, .ref 233, .ref 234, .ref 235, .int 0, .ref 236, .int 0, .int 0, .int 0, .int 0, .long 0, .int (-1), .int 0, .int 0, .ref 237, .int 0, .ref 238, .ref 239, .int 0, .ref 240, .ref 241, .int 0, .int 0, .ref 242, .ref 243, .int 0, .ref 244, .ref 245, .int 0, .long 0, .long 0, .ref 246, .ref 247, .ref 248, .int 0, .ref 249, .ref 250, .ref 251, .ref 252, .ref 253, .ref 254, .ref 255, .ref 256, .int 0, .int 0, .int 0, .long 0, .ref 257, .ref 258, .int 0])), n) ((en_pre a 231 hp_M).set 231 (.inr (11, [.int 0, .int 0, .ref 232, .ref 233, .ref 234, .ref 235, .int 0, .ref 236, .int 0, .int 0, .int 0, .int 0, .long 0, .int (-1), .int 0, .int 0, .ref 237, .int 0, .ref 238, .ref 239, .int 0, .ref 240, .ref 241, .int 0, .int 0, .ref 242, .ref 243, .int 0, .ref 244, .ref 245, .int 0, .long 0, .long 0, .ref 246, .ref 247, .ref 248, .int 0, .ref 249, .ref 250, .ref 251, .ref 252, .ref 253, .ref 254, .ref 255, .ref 256, .int 0, .int 0, .int 0, .long 0, .ref 257, .ref 258, .int 0])), n) ((en_pre a 231 hp_M).set 231 (.inr (11, [.int 0, .int 0, .ref 232, .ref 233, .ref 234, .ref 235, .int 0, .ref 236, .int 0, .int 0, .int 0, .int 0, .long 0, .int (-1), .int 0, .int 0, .ref 237, .int 0, .ref 238, .ref 239, .int 0, .ref 240, .ref 241, .int 0, .int 0, .ref 242, .ref 243, .int 0, .ref 244, .ref 245, .int 0, .long 0, .long 0, .ref 246, .ref 247, .ref 248, .int 0, .ref 249, .ref 250, .ref 251, .ref 252, .ref 253, .ref 254, .ref 255, .ref 256, .int 0, .int 0, .int 0, .long 0, .ref 257, .ref 258, .int 0])), n) 14 rfl [.long (a2).toInt64, .long 0, .long 99] [] (Nat.le_of_ble_eq_true rfl) rfl ?_ (fun c1_ => ?_) (fun ⟨c1_, c2_⟩ => ?_) (fun ⟨c1_, c2_⟩ => ?_)
  · refine Ev.mk rfl rfl ⟨Nat.le_of_ble_eq_true rfl, Or.inl rfl⟩ ?_
    show At _ none _ _ (0, [(0, .long (a2).toInt64), (2, .long 0), (4, .long 99)], [], ((en_pre a 231 hp_M).set 231 (.inr (11, [.int 0, .int 0, .ref 232, .ref 233, .ref 234, .ref 235, .int 0, .ref 236, .int 0, .int 0, .int 0, .int 0, .long 0, .int (-1), .int 0, .int 0, .ref 237, .int 0, .ref 238, .ref 239, .int 0, .ref 240, .ref 241, .int 0, .int 0, .ref 242, .ref 243, .int 0, .ref 244, .ref 245, .int 0, .long 0, .long 0, .ref 246, .ref 247, .ref 248, .int 0, .ref 249, .ref 250, .ref 251, .ref 252, .ref 253, .ref 254, .ref 255, .ref 256, .int 0, .int 0, .int 0, .long 0, .ref 257, .ref 258, .int 0])), n)) _
    refine At.enter rfl ?_
    refine r_lload_n rfl ?_
    refine r_lload_n rfl ?_
    refine r_lcmp (lg_cmp (a2).toInt64 0) rfl ?_
    refine r_ifs 6 rfl (fun c1 => ?_) (fun c1 => ?_)
    · have c1_ : (a2).toInt < (0) := (by have z := en_j_lt_t c1; (try simp only [Int32.toInt_toInt64] at z); exact z)
      refine At.enter rfl ?_
      refine r_iconst 0 rfl ?_
      refine Ar.fall 18 rfl ?_
      refine At.enter rfl ?_
      refine r_iretz (by decide) ?_
      exact Or.inl ⟨c1_, rfl, rfl⟩
    · have c1_ : (a2).toInt ≥ (0) := (by have z := en_j_lt_f c1; (try simp only [Int32.toInt_toInt64] at z); exact z)
      refine At.enter rfl ?_
      refine r_lload_n rfl ?_
      refine r_lload rfl ?_
      refine r_lcmp (lg_cmp (a2).toInt64 99) rfl ?_
      refine r_ifs 13 rfl (fun c2 => ?_) (fun c2 => ?_)
      · have c2_ : (a2).toInt > (99) := (by have z := en_j_gt_t c2; (try simp only [Int32.toInt_toInt64] at z); exact z)
        refine At.enter rfl ?_
        refine r_iconst 0 rfl ?_
        refine Ar.fall 18 rfl ?_
        refine At.enter rfl ?_
        refine r_iretz (by decide) ?_
        exact Or.inr (Or.inl ⟨⟨c1_, c2_⟩, rfl, rfl⟩)
      · have c2_ : (a2).toInt ≤ (99) := (by have z := en_j_gt_f c2; (try simp only [Int32.toInt_toInt64] at z); exact z)
        refine At.enter rfl ?_
        refine r_iconst 1 rfl ?_
        refine r_goto ?_
        refine At.enter rfl ?_
        refine r_iretz (by decide) ?_
        exact Or.inr (Or.inr (⟨⟨c1_, c2_⟩, rfl, rfl⟩))
  · refine At.enter rfl ?_
    refine r_iff 17 rfl (by decide) ?_
    refine At.enter rfl ?_
    refine r_aload_n rfl ?_
    refine r_iconst (-1) rfl ?_
    refine r_callV1s (True) (.int (-1)) (((en_pre a 231 hp_M).set 231 (.inr (11, [.int 0, .int (-1), .ref 232, .ref 233, .ref 234, .ref 235, .int 0, .ref 236, .int 0, .int 0, .int 0, .int 0, .long 0, .int (-1), .int 0, .int 0, .ref 237, .int 0, .ref 238, .ref 239, .int 0, .ref 240, .ref 241, .int 0, .int 0, .ref 242, .ref 243, .int 0, .ref 244, .ref 245, .int 0, .long 0, .long 0, .ref 246, .ref 247, .ref 248, .int 0, .ref 249, .ref 250, .ref 251, .ref 252, .ref 253, .ref 254, .ref 255, .ref 256, .int 0, .int 0, .int 0, .long 0, .ref 257, .ref 258, .int 0]))).set 232 (.inl (0, .inl ([0, 1, 0, 0, 0, 0, 0]))), n) 22 rfl [.ref 231, .int (-1)] [] (Nat.le_of_ble_eq_true rfl) rfl ?_ (fun _ => ?_)
    · refine Ev.mk rfl rfl ⟨Nat.le_of_ble_eq_true rfl, Or.inr (en_rcI (en_gs_eq (hm_231 _)) rfl)⟩ ?_
      show At _ none _ _ (0, [(0, .ref 231), (1, .int (-1))], [], ((en_pre a 231 hp_M).set 231 (.inr (11, [.int 0, .int 0, .ref 232, .ref 233, .ref 234, .ref 235, .int 0, .ref 236, .int 0, .int 0, .int 0, .int 0, .long 0, .int (-1), .int 0, .int 0, .ref 237, .int 0, .ref 238, .ref 239, .int 0, .ref 240, .ref 241, .int 0, .int 0, .ref 242, .ref 243, .int 0, .ref 244, .ref 245, .int 0, .long 0, .long 0, .ref 246, .ref 247, .ref 248, .int 0, .ref 249, .ref 250, .ref 251, .ref 252, .ref 253, .ref 254, .ref 255, .ref 256, .int 0, .int 0, .int 0, .long 0, .ref 257, .ref 258, .int 0])), n)) _
      refine At.enter rfl ?_
      refine r_aload_n rfl ?_
      refine r_iload_n rfl ?_
      refine r_iff 5 rfl (by decide) ?_
      refine At.enter rfl ?_
      refine r_iload_n rfl ?_
      refine r_goto ?_
      refine At.enter rfl ?_
      refine r_putf (en_gs_eq (hm_231 _)) (Nat.le_of_ble_eq_true rfl) rfl [.int 0, .int (-1), .ref 232, .ref 233, .ref 234, .ref 235, .int 0, .ref 236, .int 0, .int 0, .int 0, .int 0, .long 0, .int (-1), .int 0, .int 0, .ref 237, .int 0, .ref 238, .ref 239, .int 0, .ref 240, .ref 241, .int 0, .int 0, .ref 242, .ref 243, .int 0, .ref 244, .ref 245, .int 0, .long 0, .long 0, .ref 246, .ref 247, .ref 248, .int 0, .ref 249, .ref 250, .ref 251, .ref 252, .ref 253, .ref 254, .ref 255, .ref 256, .int 0, .int 0, .int 0, .long 0, .ref 257, .ref 258, .int 0] rfl ?_
      refine Ar.hp en_sd0 ?_
      refine r_iload_n rfl ?_
      refine r_iff 17 rfl (by decide) ?_
      refine At.enter rfl ?_
      refine r_aload_n rfl ?_
      refine r_get (v := .ref 232) (en_gs_eq (hm_231 _)) rfl ?_
      refine r_iload_n rfl ?_
      refine r_ineg 1 rfl ?_
      refine r_dup2 ⟨rfl, rfl⟩ ?_
      refine r_iald (v := 0) (en_gs_ne (by decide) (hm_232 _)) (by decide) rfl ?_
      refine r_iconst 1 rfl ?_
      refine r_iadd 1 rfl ?_
      refine r_iast (en_gs_ne (by decide) (hm_232 _)) (by decide) (Nat.le_of_ble_eq_true rfl) ([0, 1, 0, 0, 0, 0, 0]) (by decide +kernel) ?_
      refine Ar.fall 28 rfl ?_
      refine At.enter rfl ?_
      refine r_iload_n rfl ?_
      refine r_ireti ?_
      exact ⟨trivial, rfl, rfl⟩
    refine At.enter rfl ?_
    refine r_ireti ?_
    exact ⟨congrArg (fun z => some (Value.int z)) (by unfold sp_sign; (repeat' split) <;> first | rfl | omega), (en_lset (en_lset (en_prel a))), rfl⟩
  · refine At.enter rfl ?_
    refine r_iff 17 rfl (by decide) ?_
    refine At.enter rfl ?_
    refine r_aload_n rfl ?_
    refine r_iconst (-1) rfl ?_
    refine r_callV1s (True) (.int (-1)) (((en_pre a 231 hp_M).set 231 (.inr (11, [.int 0, .int (-1), .ref 232, .ref 233, .ref 234, .ref 235, .int 0, .ref 236, .int 0, .int 0, .int 0, .int 0, .long 0, .int (-1), .int 0, .int 0, .ref 237, .int 0, .ref 238, .ref 239, .int 0, .ref 240, .ref 241, .int 0, .int 0, .ref 242, .ref 243, .int 0, .ref 244, .ref 245, .int 0, .long 0, .long 0, .ref 246, .ref 247, .ref 248, .int 0, .ref 249, .ref 250, .ref 251, .ref 252, .ref 253, .ref 254, .ref 255, .ref 256, .int 0, .int 0, .int 0, .long 0, .ref 257, .ref 258, .int 0]))).set 232 (.inl (0, .inl ([0, 1, 0, 0, 0, 0, 0]))), n) 22 rfl [.ref 231, .int (-1)] [] (Nat.le_of_ble_eq_true rfl) rfl ?_ (fun _ => ?_)
    · refine Ev.mk rfl rfl ⟨Nat.le_of_ble_eq_true rfl, Or.inr (en_rcI (en_gs_eq (hm_231 _)) rfl)⟩ ?_
      show At _ none _ _ (0, [(0, .ref 231), (1, .int (-1))], [], ((en_pre a 231 hp_M).set 231 (.inr (11, [.int 0, .int 0, .ref 232, .ref 233, .ref 234, .ref 235, .int 0, .ref 236, .int 0, .int 0, .int 0, .int 0, .long 0, .int (-1), .int 0, .int 0, .ref 237, .int 0, .ref 238, .ref 239, .int 0, .ref 240, .ref 241, .int 0, .int 0, .ref 242, .ref 243, .int 0, .ref 244, .ref 245, .int 0, .long 0, .long 0, .ref 246, .ref 247, .ref 248, .int 0, .ref 249, .ref 250, .ref 251, .ref 252, .ref 253, .ref 254, .ref 255, .ref 256, .int 0, .int 0, .int 0, .long 0, .ref 257, .ref 258, .int 0])), n)) _
      refine At.enter rfl ?_
      refine r_aload_n rfl ?_
      refine r_iload_n rfl ?_
      refine r_iff 5 rfl (by decide) ?_
      refine At.enter rfl ?_
      refine r_iload_n rfl ?_
      refine r_goto ?_
      refine At.enter rfl ?_
      refine r_putf (en_gs_eq (hm_231 _)) (Nat.le_of_ble_eq_true rfl) rfl [.int 0, .int (-1), .ref 232, .ref 233, .ref 234, .ref 235, .int 0, .ref 236, .int 0, .int 0, .int 0, .int 0, .long 0, .int (-1), .int 0, .int 0, .ref 237, .int 0, .ref 238, .ref 239, .int 0, .ref 240, .ref 241, .int 0, .int 0, .ref 242, .ref 243, .int 0, .ref 244, .ref 245, .int 0, .long 0, .long 0, .ref 246, .ref 247, .ref 248, .int 0, .ref 249, .ref 250, .ref 251, .ref 252, .ref 253, .ref 254, .ref 255, .ref 256, .int 0, .int 0, .int 0, .long 0, .ref 257, .ref 258, .int 0] rfl ?_
      refine Ar.hp en_sd0 ?_
      refine r_iload_n rfl ?_
      refine r_iff 17 rfl (by decide) ?_
      refine At.enter rfl ?_
      refine r_aload_n rfl ?_
      refine r_get (v := .ref 232) (en_gs_eq (hm_231 _)) rfl ?_
      refine r_iload_n rfl ?_
      refine r_ineg 1 rfl ?_
      refine r_dup2 ⟨rfl, rfl⟩ ?_
      refine r_iald (v := 0) (en_gs_ne (by decide) (hm_232 _)) (by decide) rfl ?_
      refine r_iconst 1 rfl ?_
      refine r_iadd 1 rfl ?_
      refine r_iast (en_gs_ne (by decide) (hm_232 _)) (by decide) (Nat.le_of_ble_eq_true rfl) ([0, 1, 0, 0, 0, 0, 0]) (by decide +kernel) ?_
      refine Ar.fall 28 rfl ?_
      refine At.enter rfl ?_
      refine r_iload_n rfl ?_
      refine r_ireti ?_
      exact ⟨trivial, rfl, rfl⟩
    refine At.enter rfl ?_
    refine r_ireti ?_
    exact ⟨congrArg (fun z => some (Value.int z)) (by unfold sp_sign; (repeat' split) <;> first | rfl | omega), (en_lset (en_lset (en_prel a))), rfl⟩
  · refine At.enter rfl ?_
    refine r_ift (by decide) ?_
    refine At.enter rfl ?_
    refine r_aload_n rfl ?_
    refine r_iload_n rfl ?_
    refine r_callV2s (((a1).toInt < (0))) (((a1).toInt ≥ (0)) ∧ ((a1).toInt > (-1))) (.int 0) (.int 0) ((en_pre a 231 hp_M).set 231 (.inr (11, [.int 0, .int 0, .ref 232, .ref 233, .ref 234, .ref 235, .int 0, .ref 236, .int 0, .int 0, .int 0, .int 0, .long 0, .int (-1), .int 0, .int 0, .ref 237, .int 0, .ref 238, .ref 239, .int 0, .ref 240, .ref 241, .int 0, .int 0, .ref 242, .ref 243, .int 0, .ref 244, .ref 245, .int 0, .long 0, .long 0, .ref 246, .ref 247, .ref 248, .int 0, .ref 249, .ref 250, .ref 251, .ref 252, .ref 253, .ref 254, .ref 255, .ref 256, .int 0, .int 0, .int 0, .long 0, .ref 257, .ref 258, .int 0])), n) ((en_pre a 231 hp_M).set 231 (.inr (11, [.int 0, .int 0, .ref 232, .ref 233, .ref 234, .ref 235, .int 0, .ref 236, .int 0, .int 0, .int 0, .int 0, .long 0, .int (-1), .int 0, .int 0, .ref 237, .int 0, .ref 238, .ref 239, .int 0, .ref 240, .ref 241, .int 0, .int 0, .ref 242, .ref 243, .int 0, .ref 244, .ref 245, .int 0, .long 0, .long 0, .ref 246, .ref 247, .ref 248, .int 0, .ref 249, .ref 250, .ref 251, .ref 252, .ref 253, .ref 254, .ref 255, .ref 256, .int 0, .int 0, .int 0, .long 0, .ref 257, .ref 258, .int 0])), n) 28 rfl [.ref 231, .int a1] [] (Nat.le_of_ble_eq_true rfl) rfl ?_ (fun c3_ => ?_) (fun ⟨c3_, c4_⟩ => ?_)
    · refine Ev.mk rfl rfl ⟨Nat.le_of_ble_eq_true rfl, Or.inr (en_rcI (en_gs_eq (hm_231 _)) rfl)⟩ ?_
      show At _ none _ _ (0, [(0, .ref 231), (1, .int a1)], [], ((en_pre a 231 hp_M).set 231 (.inr (11, [.int 0, .int 0, .ref 232, .ref 233, .ref 234, .ref 235, .int 0, .ref 236, .int 0, .int 0, .int 0, .int 0, .long 0, .int (-1), .int 0, .int 0, .ref 237, .int 0, .ref 238, .ref 239, .int 0, .ref 240, .ref 241, .int 0, .int 0, .ref 242, .ref 243, .int 0, .ref 244, .ref 245, .int 0, .long 0, .long 0, .ref 246, .ref 247, .ref 248, .int 0, .ref 249, .ref 250, .ref 251, .ref 252, .ref 253, .ref 254, .ref 255, .ref 256, .int 0, .int 0, .int 0, .long 0, .ref 257, .ref 258, .int 0])), n)) _
      refine At.enter rfl ?_
      refine r_iload_n rfl ?_
      refine r_i2l ((a1).toInt64) rfl ?_
      refine r_lconst 0 rfl ?_
      refine r_aload_n rfl ?_
      refine r_get (v := .ref 233) (en_gs_eq (hm_231 _)) rfl ?_
      refine r_iconst 0 rfl ?_
      refine r_iald (v := 0) (en_gs_ne (by decide) (hm_233 _)) (by decide) rfl ?_
      refine r_i2l (0) rfl ?_
      refine r_lconst 1 rfl ?_
      refine r_lsub (-1) rfl ?_
      refine r_callS2s (((a1).toInt < (0))) (((a1).toInt ≥ (0)) ∧ ((a1).toInt > (-1))) (.int 0) (.int 0) ((en_pre a 231 hp_M).set 231 (.inr (11, [.int 0, .int 0, .ref 232, .ref 233, .ref 234, .ref 235, .int 0, .ref 236, .int 0, .int 0, .int 0, .int 0, .long 0, .int (-1), .int 0, .int 0, .ref 237, .int 0, .ref 238, .ref 239, .int 0, .ref 240, .ref 241, .int 0, .int 0, .ref 242, .ref 243, .int 0, .ref 244, .ref 245, .int 0, .long 0, .long 0, .ref 246, .ref 247, .ref 248, .int 0, .ref 249, .ref 250, .ref 251, .ref 252, .ref 253, .ref 254, .ref 255, .ref 256, .int 0, .int 0, .int 0, .long 0, .ref 257, .ref 258, .int 0])), n) ((en_pre a 231 hp_M).set 231 (.inr (11, [.int 0, .int 0, .ref 232, .ref 233, .ref 234, .ref 235, .int 0, .ref 236, .int 0, .int 0, .int 0, .int 0, .long 0, .int (-1), .int 0, .int 0, .ref 237, .int 0, .ref 238, .ref 239, .int 0, .ref 240, .ref 241, .int 0, .int 0, .ref 242, .ref 243, .int 0, .ref 244, .ref 245, .int 0, .long 0, .long 0, .ref 246, .ref 247, .ref 248, .int 0, .ref 249, .ref 250, .ref 251, .ref 252, .ref 253, .ref 254, .ref 255, .ref 256, .int 0, .int 0, .int 0, .long 0, .ref 257, .ref 258, .int 0])), n) 15 rfl [.long (a1).toInt64, .long 0, .long (-1)] [] (Nat.le_of_ble_eq_true rfl) rfl ?_ (fun c3_ => ?_) (fun ⟨c3_, c4_⟩ => ?_)
      · refine Ev.mk rfl rfl ⟨Nat.le_of_ble_eq_true rfl, Or.inl rfl⟩ ?_
        show At _ none _ _ (0, [(0, .long (a1).toInt64), (2, .long 0), (4, .long (-1))], [], ((en_pre a 231 hp_M).set 231 (.inr (11, [.int 0, .int 0, .ref 232, .ref 233, .ref 234, .ref 235, .int 0, .ref 236, .int 0, .int 0, .int 0, .int 0, .long 0, .int (-1), .int 0, .int 0, .ref 237, .int 0, .ref 238, .ref 239, .int 0, .ref 240, .ref 241, .int 0, .int 0, .ref 242, .ref 243, .int 0, .ref 244, .ref 245, .int 0, .long 0, .long 0, .ref 246, .ref 247, .ref 248, .int 0, .ref 249, .ref 250, .ref 251, .ref 252, .ref 253, .ref 254, .ref 255, .ref 256, .int 0, .int 0, .int 0, .long 0, .ref 257, .ref 258, .int 0])), n)) _
        refine At.enter rfl ?_
        refine r_lload_n rfl ?_
        refine r_lload_n rfl ?_
        refine r_lcmp (lg_cmp (a1).toInt64 0) rfl ?_
        refine r_ifs 6 rfl (fun c3 => ?_) (fun c3 => ?_)
        · have c3_ : (a1).toInt < (0) := (by have z := en_j_lt_t c3; (try simp only [Int32.toInt_toInt64] at z); exact z)
          refine At.enter rfl ?_
          refine r_iconst 0 rfl ?_
          refine Ar.fall 18 rfl ?_
          refine At.enter rfl ?_
          refine r_iretz (by decide) ?_
          exact Or.inl ⟨c3_, rfl, rfl⟩
        · have c3_ : (a1).toInt ≥ (0) := (by have z := en_j_lt_f c3; (try simp only [Int32.toInt_toInt64] at z); exact z)
          refine At.enter rfl ?_
          refine r_lload_n rfl ?_
          refine r_lload rfl ?_
          refine r_lcmp (lg_cmp (a1).toInt64 (-1)) rfl ?_
          refine r_ifs 13 rfl (fun c4 => ?_) (fun c4 => ?_)
          · have c4_ : (a1).toInt > (-1) := (by have z := en_j_gt_t c4; (try simp only [Int32.toInt_toInt64] at z); exact z)
            refine At.enter rfl ?_
            refine r_iconst 0 rfl ?_
            refine Ar.fall 18 rfl ?_
            refine At.enter rfl ?_
            refine r_iretz (by decide) ?_
            exact Or.inr (⟨⟨c3_, c4_⟩, rfl, rfl⟩)
          · have c4_ : (a1).toInt ≤ (-1) := (by have z := en_j_gt_f c4; (try simp only [Int32.toInt_toInt64] at z); exact z)
            exfalso; omega
      · refine At.enter rfl ?_
        refine r_iretz (by decide) ?_
        exact Or.inl ⟨c3_, rfl, rfl⟩
      · refine At.enter rfl ?_
        refine r_iretz (by decide) ?_
        exact Or.inr (⟨⟨c3_, c4_⟩, rfl, rfl⟩)
    · refine At.enter rfl ?_
      refine r_iff 31 rfl (by decide) ?_
      refine At.enter rfl ?_
      refine r_aload_n rfl ?_
      refine r_bipush (-2) rfl ?_
      refine r_callV1s (True) (.int (-2)) (((en_pre a 231 hp_M).set 231 (.inr (11, [.int 0, .int (-2), .ref 232, .ref 233, .ref 234, .ref 235, .int 0, .ref 236, .int 0, .int 0, .int 0, .int 0, .long 0, .int (-1), .int 0, .int 0, .ref 237, .int 0, .ref 238, .ref 239, .int 0, .ref 240, .ref 241, .int 0, .int 0, .ref 242, .ref 243, .int 0, .ref 244, .ref 245, .int 0, .long 0, .long 0, .ref 246, .ref 247, .ref 248, .int 0, .ref 249, .ref 250, .ref 251, .ref 252, .ref 253, .ref 254, .ref 255, .ref 256, .int 0, .int 0, .int 0, .long 0, .ref 257, .ref 258, .int 0]))).set 232 (.inl (0, .inl ([0, 0, 1, 0, 0, 0, 0]))), n) 37 rfl [.ref 231, .int (-2)] [] (Nat.le_of_ble_eq_true rfl) rfl ?_ (fun _ => ?_)
      · refine Ev.mk rfl rfl ⟨Nat.le_of_ble_eq_true rfl, Or.inr (en_rcI (en_gs_eq (hm_231 _)) rfl)⟩ ?_
        show At _ none _ _ (0, [(0, .ref 231), (1, .int (-2))], [], ((en_pre a 231 hp_M).set 231 (.inr (11, [.int 0, .int 0, .ref 232, .ref 233, .ref 234, .ref 235, .int 0, .ref 236, .int 0, .int 0, .int 0, .int 0, .long 0, .int (-1), .int 0, .int 0, .ref 237, .int 0, .ref 238, .ref 239, .int 0, .ref 240, .ref 241, .int 0, .int 0, .ref 242, .ref 243, .int 0, .ref 244, .ref 245, .int 0, .long 0, .long 0, .ref 246, .ref 247, .ref 248, .int 0, .ref 249, .ref 250, .ref 251, .ref 252, .ref 253, .ref 254, .ref 255, .ref 256, .int 0, .int 0, .int 0, .long 0, .ref 257, .ref 258, .int 0])), n)) _
        refine At.enter rfl ?_
        refine r_aload_n rfl ?_
        refine r_iload_n rfl ?_
        refine r_iff 5 rfl (by decide) ?_
        refine At.enter rfl ?_
        refine r_iload_n rfl ?_
        refine r_goto ?_
        refine At.enter rfl ?_
        refine r_putf (en_gs_eq (hm_231 _)) (Nat.le_of_ble_eq_true rfl) rfl [.int 0, .int (-2), .ref 232, .ref 233, .ref 234, .ref 235, .int 0, .ref 236, .int 0, .int 0, .int 0, .int 0, .long 0, .int (-1), .int 0, .int 0, .ref 237, .int 0, .ref 238, .ref 239, .int 0, .ref 240, .ref 241, .int 0, .int 0, .ref 242, .ref 243, .int 0, .ref 244, .ref 245, .int 0, .long 0, .long 0, .ref 246, .ref 247, .ref 248, .int 0, .ref 249, .ref 250, .ref 251, .ref 252, .ref 253, .ref 254, .ref 255, .ref 256, .int 0, .int 0, .int 0, .long 0, .ref 257, .ref 258, .int 0] rfl ?_
        refine Ar.hp en_sd0 ?_
        refine r_iload_n rfl ?_
        refine r_iff 17 rfl (by decide) ?_
        refine At.enter rfl ?_
        refine r_aload_n rfl ?_
        refine r_get (v := .ref 232) (en_gs_eq (hm_231 _)) rfl ?_
        refine r_iload_n rfl ?_
        refine r_ineg 2 rfl ?_
        refine r_dup2 ⟨rfl, rfl⟩ ?_
        refine r_iald (v := 0) (en_gs_ne (by decide) (hm_232 _)) (by decide) rfl ?_
        refine r_iconst 1 rfl ?_
        refine r_iadd 1 rfl ?_
        refine r_iast (en_gs_ne (by decide) (hm_232 _)) (by decide) (Nat.le_of_ble_eq_true rfl) ([0, 0, 1, 0, 0, 0, 0]) (by decide +kernel) ?_
        refine Ar.fall 28 rfl ?_
        refine At.enter rfl ?_
        refine r_iload_n rfl ?_
        refine r_ireti ?_
        exact ⟨trivial, rfl, rfl⟩
      refine At.enter rfl ?_
      refine r_ireti ?_
      exact ⟨congrArg (fun z => some (Value.int z)) (by unfold sp_sign; (repeat' split) <;> first | rfl | omega), (en_lset (en_lset (en_prel a))), rfl⟩
    · refine At.enter rfl ?_
      refine r_iff 31 rfl (by decide) ?_
      refine At.enter rfl ?_
      refine r_aload_n rfl ?_
      refine r_bipush (-2) rfl ?_
      refine r_callV1s (True) (.int (-2)) (((en_pre a 231 hp_M).set 231 (.inr (11, [.int 0, .int (-2), .ref 232, .ref 233, .ref 234, .ref 235, .int 0, .ref 236, .int 0, .int 0, .int 0, .int 0, .long 0, .int (-1), .int 0, .int 0, .ref 237, .int 0, .ref 238, .ref 239, .int 0, .ref 240, .ref 241, .int 0, .int 0, .ref 242, .ref 243, .int 0, .ref 244, .ref 245, .int 0, .long 0, .long 0, .ref 246, .ref 247, .ref 248, .int 0, .ref 249, .ref 250, .ref 251, .ref 252, .ref 253, .ref 254, .ref 255, .ref 256, .int 0, .int 0, .int 0, .long 0, .ref 257, .ref 258, .int 0]))).set 232 (.inl (0, .inl ([0, 0, 1, 0, 0, 0, 0]))), n) 37 rfl [.ref 231, .int (-2)] [] (Nat.le_of_ble_eq_true rfl) rfl ?_ (fun _ => ?_)
      · refine Ev.mk rfl rfl ⟨Nat.le_of_ble_eq_true rfl, Or.inr (en_rcI (en_gs_eq (hm_231 _)) rfl)⟩ ?_
        show At _ none _ _ (0, [(0, .ref 231), (1, .int (-2))], [], ((en_pre a 231 hp_M).set 231 (.inr (11, [.int 0, .int 0, .ref 232, .ref 233, .ref 234, .ref 235, .int 0, .ref 236, .int 0, .int 0, .int 0, .int 0, .long 0, .int (-1), .int 0, .int 0, .ref 237, .int 0, .ref 238, .ref 239, .int 0, .ref 240, .ref 241, .int 0, .int 0, .ref 242, .ref 243, .int 0, .ref 244, .ref 245, .int 0, .long 0, .long 0, .ref 246, .ref 247, .ref 248, .int 0, .ref 249, .ref 250, .ref 251, .ref 252, .ref 253, .ref 254, .ref 255, .ref 256, .int 0, .int 0, .int 0, .long 0, .ref 257, .ref 258, .int 0])), n)) _
        refine At.enter rfl ?_
        refine r_aload_n rfl ?_
        refine r_iload_n rfl ?_
        refine r_iff 5 rfl (by decide) ?_
        refine At.enter rfl ?_
        refine r_iload_n rfl ?_
        refine r_goto ?_
        refine At.enter rfl ?_
        refine r_putf (en_gs_eq (hm_231 _)) (Nat.le_of_ble_eq_true rfl) rfl [.int 0, .int (-2), .ref 232, .ref 233, .ref 234, .ref 235, .int 0, .ref 236, .int 0, .int 0, .int 0, .int 0, .long 0, .int (-1), .int 0, .int 0, .ref 237, .int 0, .ref 238, .ref 239, .int 0, .ref 240, .ref 241, .int 0, .int 0, .ref 242, .ref 243, .int 0, .ref 244, .ref 245, .int 0, .long 0, .long 0, .ref 246, .ref 247, .ref 248, .int 0, .ref 249, .ref 250, .ref 251, .ref 252, .ref 253, .ref 254, .ref 255, .ref 256, .int 0, .int 0, .int 0, .long 0, .ref 257, .ref 258, .int 0] rfl ?_
        refine Ar.hp en_sd0 ?_
        refine r_iload_n rfl ?_
        refine r_iff 17 rfl (by decide) ?_
        refine At.enter rfl ?_
        refine r_aload_n rfl ?_
        refine r_get (v := .ref 232) (en_gs_eq (hm_231 _)) rfl ?_
        refine r_iload_n rfl ?_
        refine r_ineg 2 rfl ?_
        refine r_dup2 ⟨rfl, rfl⟩ ?_
        refine r_iald (v := 0) (en_gs_ne (by decide) (hm_232 _)) (by decide) rfl ?_
        refine r_iconst 1 rfl ?_
        refine r_iadd 1 rfl ?_
        refine r_iast (en_gs_ne (by decide) (hm_232 _)) (by decide) (Nat.le_of_ble_eq_true rfl) ([0, 0, 1, 0, 0, 0, 0]) (by decide +kernel) ?_
        refine Ar.fall 28 rfl ?_
        refine At.enter rfl ?_
        refine r_iload_n rfl ?_
        refine r_ireti ?_
        exact ⟨trivial, rfl, rfl⟩
      refine At.enter rfl ?_
      refine r_ireti ?_
      exact ⟨congrArg (fun z => some (Value.int z)) (by unfold sp_sign; (repeat' split) <;> first | rfl | omega), (en_lset (en_lset (en_prel a))), rfl⟩
set_option maxRecDepth 100000 in
set_option maxHeartbeats 4000000 in
theorem zx_X10_clear (n : Nat) : Ev 14 135 [.ref 0] (hp_X ++ hp_M, n) (fun r h' => r = some (.int (0)) ∧ IsX h'.1 ∧ h'.2 = n) := by
  refine Ev.mk rfl rfl ⟨Nat.le_of_ble_eq_true rfl, Or.inr (en_rcI hx_0 rfl)⟩ ?_
  show At _ none _ _ (0, [(0, .ref 0)], [], (hp_X ++ hp_M, n)) _
  refine At.enter rfl ?_
  refine r_aload_n rfl ?_
  refine r_get (v := .ref 1) hx_0 rfl ?_
  refine r_get (v := .int 0) hx_1 rfl ?_
  refine r_istore_n ([(1, .int 0), (0, .ref 0)]) rfl ?_
  refine r_aload_n rfl ?_
  refine r_get (v := .ref 1) hx_0 rfl ?_
  refine r_iconst 0 rfl ?_
  refine r_putf hx_1 (Nat.le_of_ble_eq_true rfl) rfl [.int 0, .ref 2, .ref 3, .ref 4, .int 0, .ref 5, .int 0, .ref 6, .ref 7, .int (-1), .int 60, .int 2, .int 0, .ref 14, .ref 15] rfl ?_
  refine r_iload_n rfl ?_
  refine r_ireti ?_
  exact ⟨congrArg (fun z => some (Value.int z)) rfl, (IsX.set IsX.base (by decide)), rfl⟩
set_option maxRecDepth 100000 in
set_option maxHeartbeats 4000000 in
theorem zm_X11_clear (a : Nat → en_E) (n : Nat) : Ev 14 255 [.ref 231] (en_pre a 231 hp_M, n) (fun r h' => r = some (.int (0)) ∧ h'.1.length = 259 ∧ h'.2 = n) := by
  refine Ev.mk rfl rfl ⟨Nat.le_of_ble_eq_true rfl, Or.inr (en_rcI (hm_231 _) rfl)⟩ ?_
  show At _ none _ _ (0, [(0, .ref 231)], [], (en_pre a 231 hp_M, n)) _
  refine At.enter rfl ?_
  refine r_aload_n rfl ?_
  refine r_iconst 0 rfl ?_
  refine r_putf (hm_231 _) (Nat.le_of_ble_eq_true rfl) rfl [.int 0, .int 0, .ref 232, .ref 233, .ref 234, .ref 235, .int 0, .ref 236, .int 0, .int 0, .int 0, .int 0, .long 0, .int (-1), .int 0, .int 0, .ref 237, .int 0, .ref 238, .ref 239, .int 0, .ref 240, .ref 241, .int 0, .int 0, .ref 242, .ref 243, .int 0, .ref 244, .ref 245, .int 0, .long 0, .long 0, .ref 246, .ref 247, .ref 248, .int 0, .ref 249, .ref 250, .ref 251, .ref 252, .ref 253, .ref 254, .ref 255, .ref 256, .int 0, .int 0, .int 0, .long 0, .ref 257, .ref 258, .int 0] rfl ?_
  refine r_aload_n rfl ?_
  refine r_get (v := .ref 233) (en_gs_eq (hm_231 _)) rfl ?_
  refine r_iconst 4 rfl ?_
  refine r_iald (v := 0) (en_gs_ne (by decide) (hm_233 _)) (by decide) rfl ?_
  refine r_istore_n ([(1, .int 0), (0, .ref 231)]) rfl ?_
  refine r_aload_n rfl ?_
  refine r_get (v := .ref 233) (en_gs_eq (hm_231 _)) rfl ?_
  refine r_iconst 4 rfl ?_
  refine r_iconst 0 rfl ?_
  refine r_iast (en_gs_ne (by decide) (hm_233 _)) (by decide) (Nat.le_of_ble_eq_true rfl) ([0, 0, 0, (-1), 0, 60, 2] ++ List.replicate 5503 0) (by decide +kernel) ?_
  refine r_iload_n rfl ?_
  refine r_ireti ?_
  exact ⟨congrArg (fun z => some (Value.int z)) rfl, (en_lset (en_lset (en_prel a))), rfl⟩
set_option maxRecDepth 100000 in
set_option maxHeartbeats 4000000 in
theorem zx_X10_thieves (n : Nat) : Ev 14 136 [.ref 0] (hp_X ++ hp_M, n) (fun r h' => r = some (.int (0)) ∧ IsX h'.1 ∧ h'.2 = n) := by
  refine Ev.mk rfl rfl ⟨Nat.le_of_ble_eq_true rfl, Or.inr (en_rcI hx_0 rfl)⟩ ?_
  show At _ none _ _ (0, [(0, .ref 0)], [], (hp_X ++ hp_M, n)) _
  refine At.enter rfl ?_
  refine r_aload_n rfl ?_
  refine r_get (v := .ref 184) hx_0 rfl ?_
  refine r_callV1s (True) (.int 0) (hp_X ++ hp_M, n) 7 rfl [.ref 184] [] (Nat.le_of_ble_eq_true rfl) rfl ?_ (fun _ => ?_)
  · refine Ev.mk rfl rfl ⟨Nat.le_of_ble_eq_true rfl, Or.inr (en_rcI hx_184 rfl)⟩ ?_
    show At _ none _ _ (0, [(0, .ref 184)], [], (hp_X ++ hp_M, n)) _
    refine At.enter rfl ?_
    refine r_iconst 0 rfl ?_
    refine r_istore_n ([(1, .int 0), (0, .ref 184)]) rfl ?_
    refine r_iconst 0 rfl ?_
    refine r_istore_n ([(2, .int 0), (1, .int 0), (0, .ref 184)]) rfl ?_
    refine Ar.fall 4 rfl ?_
    refine At.enter rfl ?_
    refine r_iload_n rfl ?_
    refine r_aload_n rfl ?_
    refine r_get (v := .ref 1) hx_184 rfl ?_
    refine r_get (v := .int 0) hx_1 rfl ?_
    refine r_ict (by decide) ?_
    refine At.enter rfl ?_
    refine r_iload_n rfl ?_
    refine r_ireti ?_
    exact ⟨trivial, rfl, rfl⟩
  refine At.enter rfl ?_
  refine r_ireti ?_
  exact ⟨congrArg (fun z => some (Value.int z)) rfl, IsX.base, rfl⟩
set_option maxRecDepth 100000 in
set_option maxHeartbeats 4000000 in
theorem zm_X11_thieves (a : Nat → en_E) (n : Nat) : Ev 14 257 [.ref 231] (en_pre a 231 hp_M, n) (fun r h' => r = some (.int (0)) ∧ h'.1.length = 259 ∧ h'.2 = n) := by
  refine Ev.mk rfl rfl ⟨Nat.le_of_ble_eq_true rfl, Or.inr (en_rcI (hm_231 _) rfl)⟩ ?_
  show At _ none _ _ (0, [(0, .ref 231)], [], (en_pre a 231 hp_M, n)) _
  refine At.enter rfl ?_
  refine r_aload_n rfl ?_
  refine r_iconst 0 rfl ?_
  refine r_putf (hm_231 _) (Nat.le_of_ble_eq_true rfl) rfl [.int 0, .int 0, .ref 232, .ref 233, .ref 234, .ref 235, .int 0, .ref 236, .int 0, .int 0, .int 0, .int 0, .long 0, .int (-1), .int 0, .int 0, .ref 237, .int 0, .ref 238, .ref 239, .int 0, .ref 240, .ref 241, .int 0, .int 0, .ref 242, .ref 243, .int 0, .ref 244, .ref 245, .int 0, .long 0, .long 0, .ref 246, .ref 247, .ref 248, .int 0, .ref 249, .ref 250, .ref 251, .ref 252, .ref 253, .ref 254, .ref 255, .ref 256, .int 0, .int 0, .int 0, .long 0, .ref 257, .ref 258, .int 0] rfl ?_
  refine r_iconst 0 rfl ?_
  refine r_istore_n ([(1, .int 0), (0, .ref 231)]) rfl ?_
  refine r_iconst 0 rfl ?_
  refine r_istore_n ([(2, .int 0), (1, .int 0), (0, .ref 231)]) rfl ?_
  refine Ar.fall 9 rfl ?_
  refine At.enter rfl ?_
  refine r_iload_n rfl ?_
  refine r_aload_n rfl ?_
  refine r_get (v := .ref 233) (en_gs_eq (hm_231 _)) rfl ?_
  refine r_iconst 0 rfl ?_
  refine r_iald (v := 0) (en_gs_ne (by decide) (hm_233 _)) (by decide) rfl ?_
  refine r_ict (by decide) ?_
  refine At.enter rfl ?_
  refine r_iload_n rfl ?_
  refine r_ireti ?_
  exact ⟨congrArg (fun z => some (Value.int z)) rfl, (en_lset (en_prel a)), rfl⟩
