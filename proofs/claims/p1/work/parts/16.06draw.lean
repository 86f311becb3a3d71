def sp_draw (a1 : Int32) : Int32 := if 0 ≤ a1.toInt ∧ a1.toInt ≤ 1000000 then 0 else -1
set_option maxRecDepth 100000 in
set_option maxHeartbeats 4000000 in
theorem zm_X11_draw (a : Nat → en_E) (n : Nat) (a1 : Int32) : Ev 14 261 [.ref 231, .int a1] (en_pre a 231 hp_M, n) (fun r h' => r = some (.int (sp_draw a1)) ∧ h'.1.length = 259 ∧ h'.2 = n) := by
  refine Ev.mk rfl rfl ⟨Nat.le_of_ble_eq_true rfl, Or.inr (en_rcI (hm_231 _) rfl)⟩ ?_
  show At _ none _ _ (0, [(0, .ref 231), (1, .int a1)], [], (en_pre a 231 hp_M, n)) _
  refine At.enter rfl ?_
  refine r_aload_n rfl ?_
  refine r_iconst 0 rfl ?_
  refine r_putf (hm_231 _) (Nat.le_of_ble_eq_true rfl) rfl [.int 0, .int 0, .ref 232, .ref 233, .ref 234, .ref 235, .int 0, .ref 236, .int 0, .int 0, .int 0, .int 0, .long 0, .int (-1), .int 0, .int 0, .ref 237, .int 0, .ref 238, .ref 239, .int 0, .ref 240, .ref 241, .int 0, .int 0, .ref 242, .ref 243, .int 0, .ref 244, .ref 245, .int 0, .long 0, .long 0, .ref 246, .ref 247, .ref 248, .int 0, .ref 249, .ref 250, .ref 251, .ref 252, .ref 253, .ref 254, .ref 255, .ref 256, .int 0, .int 0, .int 0, .long 0, .ref 257, .ref 258, .int 0] rfl ?_
  refine r_iload_n rfl ?_
  refine r_i2l ((a1).toInt64) rfl ?_
  refine r_lconst 0 rfl ?_
  refine r_ldc2 1000000 rfl ?_
  refine r_callS3s (((a1).toInt < (0))) (((a1).toInt ≥ (0)) ∧ ((a1).toInt > (1000000))) (((a1).toInt ≥ (0)) ∧ ((a1).toInt ≤ (1000000))) (.int 0) (.int 0) (.int 1) ((en_pre a 231 hp_M).set 231 (.inr (11, [.int 0, .int 0, .ref 232, .ref 233, .ref 234, .ref 235, .int 0, .ref 236, .int 0, .int 0, .int 0, .int 0, .long 0, .int (-1), .int 0, .int 0, .ref 237, .int 0, .ref 238, .ref 239, .int 0, .ref 240, .ref 241, .int 0, .int 0, .ref 242, .ref 243, .int 0, .ref 244, .ref 245, .int 0, .long 0, .long 0, .ref 246, .ref 247, .ref 248, .int 0, .ref 249, .ref 250, .ref 251, .ref 252, .ref 253, .ref 254, .ref 255, .ref 256, .int 0, .int 0, .int 0, .long 0, .ref 257, .ref 258, .int 0])), n) ((en_pre a 231 hp_M).set 231 (.inr (11, [.int 0, .int 0, .ref 232, .ref 233, .ref 234, .ref 235, .int 0, .ref 236, .int 0, .int 0, .int 0, .int 0, .long 0, .int (-1), .int 0, .int 0, .ref 237, .int 0, .ref 238, .ref 239, .int 0, .ref 240, .ref 241, .int 0, .int 0, .ref 242, .ref 243, .int 0, .ref 244, .ref 245, .int 0, .long 0, .long 0, .ref 246, .ref 247, .ref 248, .int 0, .ref 249, .ref 250, .ref 251, .ref 252, .ref 253, .ref 254, .ref 255, .ref 256, .int 0, .int 0, .int 0, .long 0, .ref 257, .ref 258, .int 0])), n) ((en_pre a 231 hp_M).set 231 (.inr (11, [.int 0, .int 0, .ref 232, .ref 233, .ref 234, .ref 235, .int 0, .ref 236, .int 0, .int 0, .int 0, .int 0, .long 0, .int (-1), .int 0, .int 0, .ref 237, .int 0, .ref 238, .ref 239, .int 0, .ref 240, .ref 241, .int 0, .int 0, .ref 242, .ref 243, .int 0, .ref 244, .ref 245, .int 0, .long 0, .long 0, .ref 246, .ref 247, .ref 248, .int 0, .ref 249, .ref 250, .ref 251, .ref 252, .ref 253, .ref 254, .ref 255, .ref 256, .int 0, .int 0, .int 0, .long 0, .ref 257, .ref 258, .int 0])), n) 14 rfl [.long (a1).toInt64, .long 0, .long 1000000] [] (Nat.le_of_ble_eq_true rfl) rfl ?_ (fun c1_ => ?_) (fun ⟨c1_, c2_⟩ => ?_) (fun ⟨c1_, c2_⟩ => ?_)
  · refine Ev.mk rfl rfl ⟨Nat.le_of_ble_eq_true rfl, Or.inl rfl⟩ ?_
    show At _ none _ _ (0, [(0, .long (a1).toInt64), (2, .long 0), (4, .long 1000000)], [], ((en_pre a 231 hp_M).set 231 (.inr (11, [.int 0, .int 0, .ref 232, .ref 233, .ref 234, .ref 235, .int 0, .ref 236, .int 0, .int 0, .int 0, .int 0, .long 0, .int (-1), .int 0, .int 0, .ref 237, .int 0, .ref 238, .ref 239, .int 0, .ref 240, .ref 241, .int 0, .int 0, .ref 242, .ref 243, .int 0, .ref 244, .ref 245, .int 0, .long 0, .long 0, .ref 246, .ref 247, .ref 248, .int 0, .ref 249, .ref 250, .ref 251, .ref 252, .ref 253, .ref 254, .ref 255, .ref 256, .int 0, .int 0, .int 0, .long 0, .ref 257, .ref 258, .int 0])), n)) _
    refine At.enter rfl ?_
    refine r_lload_n rfl ?_
    refine r_lload_n rfl ?_
    refine r_lcmp (lg_cmp (a1).toInt64 0) rfl ?_
    refine r_ifs 6 rfl (fun c1 => ?_) (fun c1 => ?_)
    · have c1_ : (a1).toInt < (0) := (by have z := en_j_lt_t c1; (try simp only [Int32.toInt_toInt64] at z); exact z)
      refine At.enter rfl ?_
      refine r_iconst 0 rfl ?_
      refine Ar.fall 18 rfl ?_
      refine At.enter rfl ?_
      refine r_iretz (by decide) ?_
      exact Or.inl ⟨c1_, rfl, rfl⟩
    · have c1_ : (a1).toInt ≥ (0) := (by have z := en_j_lt_f c1; (try simp only [Int32.toInt_toInt64] at z); exact z)
      refine At.enter rfl ?_
      refine r_lload_n rfl ?_
      refine r_lload rfl ?_
      refine r_lcmp (lg_cmp (a1).toInt64 1000000) rfl ?_
      refine r_ifs 13 rfl (fun c2 => ?_) (fun c2 => ?_)
      · have c2_ : (a1).toInt > (1000000) := (by have z := en_j_gt_t c2; (try simp only [Int32.toInt_toInt64] at z); exact z)
        refine At.enter rfl ?_
        refine r_iconst 0 rfl ?_
        refine Ar.fall 18 rfl ?_
        refine At.enter rfl ?_
        refine r_iretz (by decide) ?_
        exact Or.inr (Or.inl ⟨⟨c1_, c2_⟩, rfl, rfl⟩)
      · have c2_ : (a1).toInt ≤ (1000000) := (by have z := en_j_gt_f c2; (try simp only [Int32.toInt_toInt64] at z); exact z)
        refine At.enter rfl ?_
        refine r_iconst 1 rfl ?_
        refine r_goto ?_
        refine At.enter rfl ?_
        refine r_iretz (by decide) ?_
        exact Or.inr (Or.inr (⟨⟨c1_, c2_⟩, rfl, rfl⟩))
  · refine At.enter rfl ?_
    refine r_iff 17 rfl (by decide) ?_
    refine At.enter rfl ?_
    refine r_aload_n rfl ?_
    refine r_iconst (-1) rfl ?_
    refine r_callV1s (True) (.int (-1)) (((en_pre a 231 hp_M).set 231 (.inr (11, [.int 0, .int (-1), .ref 232, .ref 233, .ref 234, .ref 235, .int 0, .ref 236, .int 0, .int 0, .int 0, .int 0, .long 0, .int (-1), .int 0, .int 0, .ref 237, .int 0, .ref 238, .ref 239, .int 0, .ref 240, .ref 241, .int 0, .int 0, .ref 242, .ref 243, .int 0, .ref 244, .ref 245, .int 0, .long 0, .long 0, .ref 246, .ref 247, .ref 248, .int 0, .ref 249, .ref 250, .ref 251, .ref 252, .ref 253, .ref 254, .ref 255, .ref 256, .int 0, .int 0, .int 0, .long 0, .ref 257, .ref 258, .int 0]))).set 232 (.inl (0, .inl ([0, 1, 0, 0, 0, 0, 0]))), n) 22 rfl [.ref 231, .int (-1)] [] (Nat.le_of_ble_eq_true rfl) rfl ?_ (fun _ => ?_)
    · refine Ev.mk rfl rfl ⟨Nat.le_of_ble_eq_true rfl, Or.inr (en_rcI (en_gs_eq (hm_231 _)) rfl)⟩ ?_
      show At _ none _ _ (0, [(0, .ref 231), (1, .int (-1))], [], ((en_pre a 231 hp_M).set 231 (.inr (11, [.int 0, .int 0, .ref 232, .ref 233, .ref 234, .ref 235, .int 0, .ref 236, .int 0, .int 0, .int 0, .int 0, .long 0, .int (-1), .int 0, .int 0, .ref 237, .int 0, .ref 238, .ref 239, .int 0, .ref 240, .ref 241, .int 0, .int 0, .ref 242, .ref 243, .int 0, .ref 244, .ref 245, .int 0, .long 0, .long 0, .ref 246, .ref 247, .ref 248, .int 0, .ref 249, .ref 250, .ref 251, .ref 252, .ref 253, .ref 254, .ref 255, .ref 256, .int 0, .int 0, .int 0, .long 0, .ref 257, .ref 258, .int 0])), n)) _
      refine At.enter rfl ?_
      refine r_aload_n rfl ?_
      refine r_iload_n rfl ?_
      refine r_iff 5 rfl (by decide) ?_
      refine At.enter rfl ?_
      refine r_iload_n rfl ?_
      refine r_goto ?_
      refine At.enter rfl ?_
      refine r_putf (en_gs_eq (hm_231 _)) (Nat.le_of_ble_eq_true rfl) rfl [.int 0, .int (-1), .ref 232, .ref 233, .ref 234, .ref 235, .int 0, .ref 236, .int 0, .int 0, .int 0, .int 0, .long 0, .int (-1), .int 0, .int 0, .ref 237, .int 0, .ref 238, .ref 239, .int 0, .ref 240, .ref 241, .int 0, .int 0, .ref 242, .ref 243, .int 0, .ref 244, .ref 245, .int 0, .long 0, .long 0, .ref 246, .ref 247, .ref 248, .int 0, .ref 249, .ref 250, .ref 251, .ref 252, .ref 253, .ref 254, .ref 255, .ref 256, .int 0, .int 0, .int 0, .long 0, .ref 257, .ref 258, .int 0] rfl ?_
      refine Ar.hp en_sd0 ?_
      refine r_iload_n rfl ?_
      refine r_iff 17 rfl (by decide) ?_
      refine At.enter rfl ?_
      refine r_aload_n rfl ?_
      refine r_get (v := .ref 232) (en_gs_eq (hm_231 _)) rfl ?_
      refine r_iload_n rfl ?_
      refine r_ineg 1 rfl ?_
      refine r_dup2 ⟨rfl, rfl⟩ ?_
      refine r_iald (v := 0) (en_gs_ne (by decide) (hm_232 _)) (by decide) rfl ?_
      refine r_iconst 1 rfl ?_
      refine r_iadd 1 rfl ?_
      refine r_iast (en_gs_ne (by decide) (hm_232 _)) (by decide) (Nat.le_of_ble_eq_true rfl) ([0, 1, 0, 0, 0, 0, 0]) (by decide +kernel) ?_
      refine Ar.fall 28 rfl ?_
      refine At.enter rfl ?_
      refine r_iload_n rfl ?_
      refine r_ireti ?_
      exact ⟨trivial, rfl, rfl⟩
    refine At.enter rfl ?_
    refine r_ireti ?_
    exact ⟨congrArg (fun z => some (Value.int z)) (by unfold sp_draw; (repeat' split) <;> first | rfl | omega), (en_lset (en_lset (en_prel a))), rfl⟩
  · refine At.enter rfl ?_
    refine r_iff 17 rfl (by decide) ?_
    refine At.enter rfl ?_
    refine r_aload_n rfl ?_
    refine r_iconst (-1) rfl ?_
    refine r_callV1s (True) (.int (-1)) (((en_pre a 231 hp_M).set 231 (.inr (11, [.int 0, .int (-1), .ref 232, .ref 233, .ref 234, .ref 235, .int 0, .ref 236, .int 0, .int 0, .int 0, .int 0, .long 0, .int (-1), .int 0, .int 0, .ref 237, .int 0, .ref 238, .ref 239, .int 0, .ref 240, .ref 241, .int 0, .int 0, .ref 242, .ref 243, .int 0, .ref 244, .ref 245, .int 0, .long 0, .long 0, .ref 246, .ref 247, .ref 248, .int 0, .ref 249, .ref 250, .ref 251, .ref 252, .ref 253, .ref 254, .ref 255, .ref 256, .int 0, .int 0, .int 0, .long 0, .ref 257, .ref 258, .int 0]))).set 232 (.inl (0, .inl ([0, 1, 0, 0, 0, 0, 0]))), n) 22 rfl [.ref 231, .int (-1)] [] (Nat.le_of_ble_eq_true rfl) rfl ?_ (fun _ => ?_)
    · refine Ev.mk rfl rfl ⟨Nat.le_of_ble_eq_true rfl, Or.inr (en_rcI (en_gs_eq (hm_231 _)) rfl)⟩ ?_
      show At _ none _ _ (0, [(0, .ref 231), (1, .int (-1))], [], ((en_pre a 231 hp_M).set 231 (.inr (11, [.int 0, .int 0, .ref 232, .ref 233, .ref 234, .ref 235, .int 0, .ref 236, .int 0, .int 0, .int 0, .int 0, .long 0, .int (-1), .int 0, .int 0, .ref 237, .int 0, .ref 238, .ref 239, .int 0, .ref 240, .ref 241, .int 0, .int 0, .ref 242, .ref 243, .int 0, .ref 244, .ref 245, .int 0, .long 0, .long 0, .ref 246, .ref 247, .ref 248, .int 0, .ref 249, .ref 250, .ref 251, .ref 252, .ref 253, .ref 254, .ref 255, .ref 256, .int 0, .int 0, .int 0, .long 0, .ref 257, .ref 258, .int 0])), n)) _
      refine At.enter rfl ?_
      refine r_aload_n rfl ?_
      refine r_iload_n rfl ?_
      refine r_iff 5 rfl (by decide) ?_
      refine At.enter rfl ?_
      refine r_iload_n rfl ?_
      refine r_goto ?_
      refine At.enter rfl ?_
      refine r_putf (en_gs_eq (hm_231 _)) (Nat.le_of_ble_eq_true rfl) rfl [.int 0, .int (-1), .ref 232, .ref 233, .ref 234, .ref 235, .int 0, .ref 236, .int 0, .int 0, .int 0, .int 0, .long 0, .int (-1), .int 0, .int 0, .ref 237, .int 0, .ref 238, .ref 239, .int 0, .ref 240, .ref 241, .int 0, .int 0, .ref 242, .ref 243, .int 0, .ref 244, .ref 245, .int 0, .long 0, .long 0, .ref 246, .ref 247, .ref 248, .int 0, .ref 249, .ref 250, .ref 251, .ref 252, .ref 253, .ref 254, .ref 255, .ref 256, .int 0, .int 0, .int 0, .long 0, .ref 257, .ref 258, .int 0] rfl ?_
      refine Ar.hp en_sd0 ?_
      refine r_iload_n rfl ?_
      refine r_iff 17 rfl (by decide) ?_
      refine At.enter rfl ?_
      refine r_aload_n rfl ?_
      refine r_get (v := .ref 232) (en_gs_eq (hm_231 _)) rfl ?_
      refine r_iload_n rfl ?_
      refine r_ineg 1 rfl ?_
      refine r_dup2 ⟨rfl, rfl⟩ ?_
      refine r_iald (v := 0) (en_gs_ne (by decide) (hm_232 _)) (by decide) rfl ?_
      refine r_iconst 1 rfl ?_
      refine r_iadd 1 rfl ?_
      refine r_iast (en_gs_ne (by decide) (hm_232 _)) (by decide) (Nat.le_of_ble_eq_true rfl) ([0, 1, 0, 0, 0, 0, 0]) (by decide +kernel) ?_
      refine Ar.fall 28 rfl ?_
      refine At.enter rfl ?_
      refine r_iload_n rfl ?_
      refine r_ireti ?_
      exact ⟨trivial, rfl, rfl⟩
    refine At.enter rfl ?_
    refine r_ireti ?_
    exact ⟨congrArg (fun z => some (Value.int z)) (by unfold sp_draw; (repeat' split) <;> first | rfl | omega), (en_lset (en_lset (en_prel a))), rfl⟩
  · refine At.enter rfl ?_
    refine r_ift (by decide) ?_
    refine At.enter rfl ?_
    refine r_aload_n rfl ?_
    refine r_iload_n rfl ?_
    refine r_i2l ((a1).toInt64) rfl ?_
    refine r_putf (en_gs_eq (hm_231 _)) (Nat.le_of_ble_eq_true rfl) rfl [.int 0, .int 0, .ref 232, .ref 233, .ref 234, .ref 235, .int 0, .ref 236, .int 0, .int 0, .int 0, .int 0, .long 0, .int (-1), .int 0, .int 0, .ref 237, .int 0, .ref 238, .ref 239, .int 0, .ref 240, .ref 241, .int 0, .int 0, .ref 242, .ref 243, .int 0, .ref 244, .ref 245, .int 0, .long 0, .long 0, .ref 246, .ref 247, .ref 248, .int 0, .ref 249, .ref 250, .ref 251, .ref 252, .ref 253, .ref 254, .ref 255, .ref 256, .int 0, .int 0, .int 0, .long (a1).toInt64, .ref 257, .ref 258, .int 0] rfl ?_
    refine Ar.hp en_sd0 ?_
    refine r_aload_n rfl ?_
    refine r_callV1v (True)  (((((en_pre a 231 hp_M).set 231 (.inr (11, [.int 0, .int 0, .ref 232, .ref 233, .ref 234, .ref 235, .int 0, .ref 236, .int 0, .int 0, .int 0, .int 0, .long 0, .int (-1), .int 0, .int 0, .ref 237, .int 0, .ref 238, .ref 239, .int 0, .ref 240, .ref 241, .int 0, .int 0, .ref 242, .ref 243, .int 0, .ref 244, .ref 245, .int 0, .long 0, .long 0, .ref 246, .ref 247, .ref 248, .int 0, .ref 249, .ref 250, .ref 251, .ref 252, .ref 253, .ref 254, .ref 255, .ref 256, .int 0, .int 0, .int 0, .long (a1).toInt64, .ref 257, .ref 258, .int 0]))).set 246 (.inl (0, .inl (List.replicate 12 0)))).set 247 (.inl (0, .inl (List.replicate 12 0)))).set 248 (.inl (0, .inl (List.replicate 8 0))), n) 33 rfl [.ref 231] [] (Nat.le_of_ble_eq_true rfl) rfl ?_ (fun _ => ?_)
    · refine Ev.mk rfl rfl ⟨Nat.le_of_ble_eq_true rfl, Or.inr (en_rcI (en_gs_eq (hm_231 _)) rfl)⟩ ?_
      show At _ none _ _ (0, [(0, .ref 231)], [], ((en_pre a 231 hp_M).set 231 (.inr (11, [.int 0, .int 0, .ref 232, .ref 233, .ref 234, .ref 235, .int 0, .ref 236, .int 0, .int 0, .int 0, .int 0, .long 0, .int (-1), .int 0, .int 0, .ref 237, .int 0, .ref 238, .ref 239, .int 0, .ref 240, .ref 241, .int 0, .int 0, .ref 242, .ref 243, .int 0, .ref 244, .ref 245, .int 0, .long 0, .long 0, .ref 246, .ref 247, .ref 248, .int 0, .ref 249, .ref 250, .ref 251, .ref 252, .ref 253, .ref 254, .ref 255, .ref 256, .int 0, .int 0, .int 0, .long (a1).toInt64, .ref 257, .ref 258, .int 0])), n)) _
      refine At.enter rfl ?_
      refine r_iconst 0 rfl ?_
      refine r_istore_n ([(1, .int 0), (0, .ref 231)]) rfl ?_
      refine Ar.fall 2 rfl ?_
      refine At.enter rfl ?_
      refine r_iload_n rfl ?_
      refine r_bipush 12 rfl ?_
      refine r_icf 8 rfl (by decide) ?_
      refine At.enter rfl ?_
      refine r_aload_n rfl ?_
      refine r_get (v := .ref 246) (en_gs_eq (hm_231 _)) rfl ?_
      refine r_iload_n rfl ?_
      refine r_aload_n rfl ?_
      refine r_iload_n rfl ?_
      refine r_iconst 1 rfl ?_
      refine r_callV1s (True) (.int 0) ((en_pre a 231 hp_M).set 231 (.inr (11, [.int 0, .int 0, .ref 232, .ref 233, .ref 234, .ref 235, .int 0, .ref 236, .int 0, .int 0, .int 0, .int 0, .long 0, .int (-1), .int 0, .int 0, .ref 237, .int 0, .ref 238, .ref 239, .int 0, .ref 240, .ref 241, .int 0, .int 0, .ref 242, .ref 243, .int 0, .ref 244, .ref 245, .int 0, .long 0, .long 0, .ref 246, .ref 247, .ref 248, .int 0, .ref 249, .ref 250, .ref 251, .ref 252, .ref 253, .ref 254, .ref 255, .ref 256, .int 0, .int 0, .int 0, .long (a1).toInt64, .ref 257, .ref 258, .int 0])), n) 19 rfl [.ref 231, .int 0, .int 1] [.int 0, .ref 246] (Nat.le_of_ble_eq_true rfl) rfl ?_ (fun _ => ?_)
      · refine Ev.mk rfl rfl ⟨Nat.le_of_ble_eq_true rfl, Or.inr (en_rcI (en_gs_eq (hm_231 _)) rfl)⟩ ?_
        show At _ none _ _ (0, [(0, .ref 231), (1, .int 0), (2, .int 1)], [], ((en_pre a 231 hp_M).set 231 (.inr (11, [.int 0, .int 0, .ref 232, .ref 233, .ref 234, .ref 235, .int 0, .ref 236, .int 0, .int 0, .int 0, .int 0, .long 0, .int (-1), .int 0, .int 0, .ref 237, .int 0, .ref 238, .ref 239, .int 0, .ref 240, .ref 241, .int 0, .int 0, .ref 242, .ref 243, .int 0, .ref 244, .ref 245, .int 0, .long 0, .long 0, .ref 246, .ref 247, .ref 248, .int 0, .ref 249, .ref 250, .ref 251, .ref 252, .ref 253, .ref 254, .ref 255, .ref 256, .int 0, .int 0, .int 0, .long (a1).toInt64, .ref 257, .ref 258, .int 0])), n)) _
        refine At.enter rfl ?_
        refine r_aload_n rfl ?_
        refine r_get (v := .ref 233) (en_gs_eq (hm_231 _)) rfl ?_
        refine r_bipush 10 rfl ?_
        refine r_iconst 3 rfl ?_
        refine r_iload_n rfl ?_
        refine r_imul 0 (by decide) ?_
        refine r_iadd 10 rfl ?_
        refine r_iload_n rfl ?_
        refine r_iadd 11 rfl ?_
        refine r_iald (v := 0) (en_gs_ne (by decide) (hm_233 _)) (by decide) rfl ?_
        refine r_ireti ?_
        exact ⟨trivial, rfl, rfl⟩
      refine At.enter rfl ?_
      refine r_iast (en_gs_ne (by decide) (hm_246 _)) (by decide) (Nat.le_of_ble_eq_true rfl) (List.replicate 12 0) (by decide +kernel) ?_
      refine r_aload_n rfl ?_
      refine r_get (v := .ref 247) (en_gs_ne (by decide) (en_gs_eq (hm_231 _))) rfl ?_
      refine r_iload_n rfl ?_
      refine r_aload_n rfl ?_
      refine r_iload_n rfl ?_
      refine r_iconst 2 rfl ?_
      refine r_callV1s (True) (.int 0) (((en_pre a 231 hp_M).set 231 (.inr (11, [.int 0, .int 0, .ref 232, .ref 233, .ref 234, .ref 235, .int 0, .ref 236, .int 0, .int 0, .int 0, .int 0, .long 0, .int (-1), .int 0, .int 0, .ref 237, .int 0, .ref 238, .ref 239, .int 0, .ref 240, .ref 241, .int 0, .int 0, .ref 242, .ref 243, .int 0, .ref 244, .ref 245, .int 0, .long 0, .long 0, .ref 246, .ref 247, .ref 248, .int 0, .ref 249, .ref 250, .ref 251, .ref 252, .ref 253, .ref 254, .ref 255, .ref 256, .int 0, .int 0, .int 0, .long (a1).toInt64, .ref 257, .ref 258, .int 0]))).set 246 (.inl (0, .inl (List.replicate 12 0))), n) 31 rfl [.ref 231, .int 0, .int 2] [.int 0, .ref 247] (Nat.le_of_ble_eq_true rfl) rfl ?_ (fun _ => ?_)
      · refine Ev.mk rfl rfl ⟨Nat.le_of_ble_eq_true rfl, Or.inr (en_rcI (en_gs_ne (by decide) (en_gs_eq (hm_231 _))) rfl)⟩ ?_
        show At _ none _ _ (0, [(0, .ref 231), (1, .int 0), (2, .int 2)], [], (((en_pre a 231 hp_M).set 231 (.inr (11, [.int 0, .int 0, .ref 232, .ref 233, .ref 234, .ref 235, .int 0, .ref 236, .int 0, .int 0, .int 0, .int 0, .long 0, .int (-1), .int 0, .int 0, .ref 237, .int 0, .ref 238, .ref 239, .int 0, .ref 240, .ref 241, .int 0, .int 0, .ref 242, .ref 243, .int 0, .ref 244, .ref 245, .int 0, .long 0, .long 0, .ref 246, .ref 247, .ref 248, .int 0, .ref 249, .ref 250, .ref 251, .ref 252, .ref 253, .ref 254, .ref 255, .ref 256, .int 0, .int 0, .int 0, .long (a1).toInt64, .ref 257, .ref 258, .int 0]))).set 246 (.inl (0, .inl (List.replicate 12 0))), n)) _
        refine At.enter rfl ?_
        refine r_aload_n rfl ?_
        refine r_get (v := .ref 233) (en_gs_ne (by decide) (en_gs_eq (hm_231 _))) rfl ?_
        refine r_bipush 10 rfl ?_
        refine r_iconst 3 rfl ?_
        refine r_iload_n rfl ?_
        refine r_imul 0 (by decide) ?_
        refine r_iadd 10 rfl ?_
        refine r_iload_n rfl ?_
        refine r_iadd 12 rfl ?_
        refine r_iald (v := 0) (en_gs_ne (by decide) (en_gs_ne (by decide) (hm_233 _))) (by decide) (en_gr2 7 rfl (by decide +kernel) (by decide +kernel)) ?_
        refine r_ireti ?_
        exact ⟨trivial, rfl, rfl⟩
      refine At.enter rfl ?_
      refine r_iast (en_gs_ne (by decide) (en_gs_ne (by decide) (hm_247 _))) (by decide) (Nat.le_of_ble_eq_true rfl) (List.replicate 12 0) (by decide +kernel) ?_
      refine r_iinc rfl 1 rfl ([(1, .int 1), (0, .ref 231)]) rfl ?_
      refine r_goto ?_
      refine At.enter rfl ?_
      refine r_iload_n rfl ?_
      refine r_bipush 12 rfl ?_
      refine r_icf 8 rfl (by decide) ?_
      refine At.enter rfl ?_
      refine r_aload_n rfl ?_
      refine r_get (v := .ref 246) (en_gs_ne (by decide) (en_gs_ne (by decide) (en_gs_eq (hm_231 _)))) rfl ?_
      refine r_iload_n rfl ?_
      refine r_aload_n rfl ?_
      refine r_iload_n rfl ?_
      refine r_iconst 1 rfl ?_
      refine r_callV1s (True) (.int 0) ((((en_pre a 231 hp_M).set 231 (.inr (11, [.int 0, .int 0, .ref 232, .ref 233, .ref 234, .ref 235, .int 0, .ref 236, .int 0, .int 0, .int 0, .int 0, .long 0, .int (-1), .int 0, .int 0, .ref 237, .int 0, .ref 238, .ref 239, .int 0, .ref 240, .ref 241, .int 0, .int 0, .ref 242, .ref 243, .int 0, .ref 244, .ref 245, .int 0, .long 0, .long 0, .ref 246, .ref 247, .ref 248, .int 0, .ref 249, .ref 250, .ref 251, .ref 252, .ref 253, .ref 254, .ref 255, .ref 256, .int 0, .int 0, .int 0, .long (a1).toInt64, .ref 257, .ref 258, .int 0]))).set 246 (.inl (0, .inl (List.replicate 12 0)))).set 247 (.inl (0, .inl (List.replicate 12 0))), n) 19 rfl [.ref 231, .int 1, .int 1] [.int 1, .ref 246] (Nat.le_of_ble_eq_true rfl) rfl ?_ (fun _ => ?_)
      · refine Ev.mk rfl rfl ⟨Nat.le_of_ble_eq_true rfl, Or.inr (en_rcI (en_gs_ne (by decide) (en_gs_ne (by decide) (en_gs_eq (hm_231 _)))) rfl)⟩ ?_
        show At _ none _ _ (0, [(0, .ref 231), (1, .int 1), (2, .int 1)], [], ((((en_pre a 231 hp_M).set 231 (.inr (11, [.int 0, .int 0, .ref 232, .ref 233, .ref 234, .ref 235, .int 0, .ref 236, .int 0, .int 0, .int 0, .int 0, .long 0, .int (-1), .int 0, .int 0, .ref 237, .int 0, .ref 238, .ref 239, .int 0, .ref 240, .ref 241, .int 0, .int 0, .ref 242, .ref 243, .int 0, .ref 244, .ref 245, .int 0, .long 0, .long 0, .ref 246, .ref 247, .ref 248, .int 0, .ref 249, .ref 250, .ref 251, .ref 252, .ref 253, .ref 254, .ref 255, .ref 256, .int 0, .int 0, .int 0, .long (a1).toInt64, .ref 257, .ref 258, .int 0]))).set 246 (.inl (0, .inl (List.replicate 12 0)))).set 247 (.inl (0, .inl (List.replicate 12 0))), n)) _
        refine At.enter rfl ?_
        refine r_aload_n rfl ?_
        refine r_get (v := .ref 233) (en_gs_ne (by decide) (en_gs_ne (by decide) (en_gs_eq (hm_231 _)))) rfl ?_
        refine r_bipush 10 rfl ?_
        refine r_iconst 3 rfl ?_
        refine r_iload_n rfl ?_
        refine r_imul 3 (by decide) ?_
        refine r_iadd 13 rfl ?_
        refine r_iload_n rfl ?_
        refine r_iadd 14 rfl ?_
        refine r_iald (v := 0) (en_gs_ne (by decide) (en_gs_ne (by decide) (en_gs_ne (by decide) (hm_233 _)))) (by decide) (en_gr2 7 rfl (by decide +kernel) (by decide +kernel)) ?_
        refine r_ireti ?_
        exact ⟨trivial, rfl, rfl⟩
      refine At.enter rfl ?_
      refine r_iast (en_gs_ne (by decide) (en_gs_eq (en_gs_ne (by decide) (hm_246 _)))) (by decide) (Nat.le_of_ble_eq_true rfl) (List.replicate 12 0) (by decide +kernel) ?_
      refine Ar.hp (en_sdS (by decide) en_sd0) ?_
      refine r_aload_n rfl ?_
      refine r_get (v := .ref 247) (en_gs_ne (by decide) (en_gs_ne (by decide) (en_gs_eq (hm_231 _)))) rfl ?_
      refine r_iload_n rfl ?_
      refine r_aload_n rfl ?_
      refine r_iload_n rfl ?_
      refine r_iconst 2 rfl ?_
      refine r_callV1s (True) (.int 0) ((((en_pre a 231 hp_M).set 231 (.inr (11, [.int 0, .int 0, .ref 232, .ref 233, .ref 234, .ref 235, .int 0, .ref 236, .int 0, .int 0, .int 0, .int 0, .long 0, .int (-1), .int 0, .int 0, .ref 237, .int 0, .ref 238, .ref 239, .int 0, .ref 240, .ref 241, .int 0, .int 0, .ref 242, .ref 243, .int 0, .ref 244, .ref 245, .int 0, .long 0, .long 0, .ref 246, .ref 247, .ref 248, .int 0, .ref 249, .ref 250, .ref 251, .ref 252, .ref 253, .ref 254, .ref 255, .ref 256, .int 0, .int 0, .int 0, .long (a1).toInt64, .ref 257, .ref 258, .int 0]))).set 246 (.inl (0, .inl (List.replicate 12 0)))).set 247 (.inl (0, .inl (List.replicate 12 0))), n) 31 rfl [.ref 231, .int 1, .int 2] [.int 1, .ref 247] (Nat.le_of_ble_eq_true rfl) rfl ?_ (fun _ => ?_)
      · refine Ev.mk rfl rfl ⟨Nat.le_of_ble_eq_true rfl, Or.inr (en_rcI (en_gs_ne (by decide) (en_gs_ne (by decide) (en_gs_eq (hm_231 _)))) rfl)⟩ ?_
        show At _ none _ _ (0, [(0, .ref 231), (1, .int 1), (2, .int 2)], [], ((((en_pre a 231 hp_M).set 231 (.inr (11, [.int 0, .int 0, .ref 232, .ref 233, .ref 234, .ref 235, .int 0, .ref 236, .int 0, .int 0, .int 0, .int 0, .long 0, .int (-1), .int 0, .int 0, .ref 237, .int 0, .ref 238, .ref 239, .int 0, .ref 240, .ref 241, .int 0, .int 0, .ref 242, .ref 243, .int 0, .ref 244, .ref 245, .int 0, .long 0, .long 0, .ref 246, .ref 247, .ref 248, .int 0, .ref 249, .ref 250, .ref 251, .ref 252, .ref 253, .ref 254, .ref 255, .ref 256, .int 0, .int 0, .int 0, .long (a1).toInt64, .ref 257, .ref 258, .int 0]))).set 246 (.inl (0, .inl (List.replicate 12 0)))).set 247 (.inl (0, .inl (List.replicate 12 0))), n)) _
        refine At.enter rfl ?_
        refine r_aload_n rfl ?_
        refine r_get (v := .ref 233) (en_gs_ne (by decide) (en_gs_ne (by decide) (en_gs_eq (hm_231 _)))) rfl ?_
        refine r_bipush 10 rfl ?_
        refine r_iconst 3 rfl ?_
        refine r_iload_n rfl ?_
        refine r_imul 3 (by decide) ?_
        refine r_iadd 13 rfl ?_
        refine r_iload_n rfl ?_
        refine r_iadd 15 rfl ?_
        refine r_iald (v := 0) (en_gs_ne (by decide) (en_gs_ne (by decide) (en_gs_ne (by decide) (hm_233 _)))) (by decide) (en_gr2 7 rfl (by decide +kernel) (by decide +kernel)) ?_
        refine r_ireti ?_
        exact ⟨trivial, rfl, rfl⟩
      refine At.enter rfl ?_
      refine r_iast (en_gs_eq (en_gs_ne (by decide) (en_gs_ne (by decide) (hm_247 _)))) (by decide) (Nat.le_of_ble_eq_true rfl) (List.replicate 12 0) (by decide +kernel) ?_
      refine Ar.hp en_sd0 ?_
      refine r_iinc rfl 2 rfl ([(1, .int 2), (0, .ref 231)]) rfl ?_
      refine r_goto ?_
      refine At.enter rfl ?_
      refine r_iload_n rfl ?_
      refine r_bipush 12 rfl ?_
      refine r_icf 8 rfl (by decide) ?_
      refine At.enter rfl ?_
      refine r_aload_n rfl ?_
      refine r_get (v := .ref 246) (en_gs_ne (by decide) (en_gs_ne (by decide) (en_gs_eq (hm_231 _)))) rfl ?_
      refine r_iload_n rfl ?_
      refine r_aload_n rfl ?_
      refine r_iload_n rfl ?_
      refine r_iconst 1 rfl ?_
      refine r_callV1s (True) (.int 0) ((((en_pre a 231 hp_M).set 231 (.inr (11, [.int 0, .int 0, .ref 232, .ref 233, .ref 234, .ref 235, .int 0, .ref 236, .int 0, .int 0, .int 0, .int 0, .long 0, .int (-1), .int 0, .int 0, .ref 237, .int 0, .ref 238, .ref 239, .int 0, .ref 240, .ref 241, .int 0, .int 0, .ref 242, .ref 243, .int 0, .ref 244, .ref 245, .int 0, .long 0, .long 0, .ref 246, .ref 247, .ref 248, .int 0, .ref 249, .ref 250, .ref 251, .ref 252, .ref 253, .ref 254, .ref 255, .ref 256, .int 0, .int 0, .int 0, .long (a1).toInt64, .ref 257, .ref 258, .int 0]))).set 246 (.inl (0, .inl (List.replicate 12 0)))).set 247 (.inl (0, .inl (List.replicate 12 0))), n) 19 rfl [.ref 231, .int 2, .int 1] [.int 2, .ref 246] (Nat.le_of_ble_eq_true rfl) rfl ?_ (fun _ => ?_)
      · refine Ev.mk rfl rfl ⟨Nat.le_of_ble_eq_true rfl, Or.inr (en_rcI (en_gs_ne (by decide) (en_gs_ne (by decide) (en_gs_eq (hm_231 _)))) rfl)⟩ ?_
        show At _ none _ _ (0, [(0, .ref 231), (1, .int 2), (2, .int 1)], [], ((((en_pre a 231 hp_M).set 231 (.inr (11, [.int 0, .int 0, .ref 232, .ref 233, .ref 234, .ref 235, .int 0, .ref 236, .int 0, .int 0, .int 0, .int 0, .long 0, .int (-1), .int 0, .int 0, .ref 237, .int 0, .ref 238, .ref 239, .int 0, .ref 240, .ref 241, .int 0, .int 0, .ref 242, .ref 243, .int 0, .ref 244, .ref 245, .int 0, .long 0, .long 0, .ref 246, .ref 247, .ref 248, .int 0, .ref 249, .ref 250, .ref 251, .ref 252, .ref 253, .ref 254, .ref 255, .ref 256, .int 0, .int 0, .int 0, .long (a1).toInt64, .ref 257, .ref 258, .int 0]))).set 246 (.inl (0, .inl (List.replicate 12 0)))).set 247 (.inl (0, .inl (List.replicate 12 0))), n)) _
        refine At.enter rfl ?_
        refine r_aload_n rfl ?_
        refine r_get (v := .ref 233) (en_gs_ne (by decide) (en_gs_ne (by decide) (en_gs_eq (hm_231 _)))) rfl ?_
        refine r_bipush 10 rfl ?_
        refine r_iconst 3 rfl ?_
        refine r_iload_n rfl ?_
        refine r_imul 6 (by decide) ?_
        refine r_iadd 16 rfl ?_
        refine r_iload_n rfl ?_
        refine r_iadd 17 rfl ?_
        refine r_iald (v := 0) (en_gs_ne (by decide) (en_gs_ne (by decide) (en_gs_ne (by decide) (hm_233 _)))) (by decide) (en_gr2 7 rfl (by decide +kernel) (by decide +kernel)) ?_
        refine r_ireti ?_
        exact ⟨trivial, rfl, rfl⟩
      refine At.enter rfl ?_
      refine r_iast (en_gs_ne (by decide) (en_gs_eq (en_gs_ne (by decide) (hm_246 _)))) (by decide) (Nat.le_of_ble_eq_true rfl) (List.replicate 12 0) (by decide +kernel) ?_
      refine Ar.hp (en_sdS (by decide) en_sd0) ?_
      refine r_aload_n rfl ?_
      refine r_get (v := .ref 247) (en_gs_ne (by decide) (en_gs_ne (by decide) (en_gs_eq (hm_231 _)))) rfl ?_
      refine r_iload_n rfl ?_
      refine r_aload_n rfl ?_
      refine r_iload_n rfl ?_
      refine r_iconst 2 rfl ?_
      refine r_callV1s (True) (.int 0) ((((en_pre a 231 hp_M).set 231 (.inr (11, [.int 0, .int 0, .ref 232, .ref 233, .ref 234, .ref 235, .int 0, .ref 236, .int 0, .int 0, .int 0, .int 0, .long 0, .int (-1), .int 0, .int 0, .ref 237, .int 0, .ref 238, .ref 239, .int 0, .ref 240, .ref 241, .int 0, .int 0, .ref 242, .ref 243, .int 0, .ref 244, .ref 245, .int 0, .long 0, .long 0, .ref 246, .ref 247, .ref 248, .int 0, .ref 249, .ref 250, .ref 251, .ref 252, .ref 253, .ref 254, .ref 255, .ref 256, .int 0, .int 0, .int 0, .long (a1).toInt64, .ref 257, .ref 258, .int 0]))).set 246 (.inl (0, .inl (List.replicate 12 0)))).set 247 (.inl (0, .inl (List.replicate 12 0))), n) 31 rfl [.ref 231, .int 2, .int 2] [.int 2, .ref 247] (Nat.le_of_ble_eq_true rfl) rfl ?_ (fun _ => ?_)
      · refine Ev.mk rfl rfl ⟨Nat.le_of_ble_eq_true rfl, Or.inr (en_rcI (en_gs_ne (by decide) (en_gs_ne (by decide) (en_gs_eq (hm_231 _)))) rfl)⟩ ?_
        show At _ none _ _ (0, [(0, .ref 231), (1, .int 2), (2, .int 2)], [], ((((en_pre a 231 hp_M).set 231 (.inr (11, [.int 0, .int 0, .ref 232, .ref 233, .ref 234, .ref 235, .int 0, .ref 236, .int 0, .int 0, .int 0, .int 0, .long 0, .int (-1), .int 0, .int 0, .ref 237, .int 0, .ref 238, .ref 239, .int 0, .ref 240, .ref 241, .int 0, .int 0, .ref 242, .ref 243, .int 0, .ref 244, .ref 245, .int 0, .long 0, .long 0, .ref 246, .ref 247, .ref 248, .int 0, .ref 249, .ref 250, .ref 251, .ref 252, .ref 253, .ref 254, .ref 255, .ref 256, .int 0, .int 0, .int 0, .long (a1).toInt64, .ref 257, .ref 258, .int 0]))).set 246 (.inl (0, .inl (List.replicate 12 0)))).set 247 (.inl (0, .inl (List.replicate 12 0))), n)) _
        refine At.enter rfl ?_
        refine r_aload_n rfl ?_
        refine r_get (v := .ref 233) (en_gs_ne (by decide) (en_gs_ne (by decide) (en_gs_eq (hm_231 _)))) rfl ?_
        refine r_bipush 10 rfl ?_
        refine r_iconst 3 rfl ?_
        refine r_iload_n rfl ?_
        refine r_imul 6 (by decide) ?_
        refine r_iadd 16 rfl ?_
        refine r_iload_n rfl ?_
        refine r_iadd 18 rfl ?_
        refine r_iald (v := 0) (en_gs_ne (by decide) (en_gs_ne (by decide) (en_gs_ne (by decide) (hm_233 _)))) (by decide) (en_gr2 7 rfl (by decide +kernel) (by decide +kernel)) ?_
        refine r_ireti ?_
        exact ⟨trivial, rfl, rfl⟩
      refine At.enter rfl ?_
      refine r_iast (en_gs_eq (en_gs_ne (by decide) (en_gs_ne (by decide) (hm_247 _)))) (by decide) (Nat.le_of_ble_eq_true rfl) (List.replicate 12 0) (by decide +kernel) ?_
      refine Ar.hp en_sd0 ?_
      refine r_iinc rfl 3 rfl ([(1, .int 3), (0, .ref 231)]) rfl ?_
      refine r_goto ?_
      refine At.enter rfl ?_
      refine r_iload_n rfl ?_
      refine r_bipush 12 rfl ?_
      refine r_icf 8 rfl (by decide) ?_
      refine At.enter rfl ?_
      refine r_aload_n rfl ?_
      refine r_get (v := .ref 246) (en_gs_ne (by decide) (en_gs_ne (by decide) (en_gs_eq (hm_231 _)))) rfl ?_
      refine r_iload_n rfl ?_
      refine r_aload_n rfl ?_
      refine r_iload_n rfl ?_
      refine r_iconst 1 rfl ?_
      refine r_callV1s (True) (.int 0) ((((en_pre a 231 hp_M).set 231 (.inr (11, [.int 0, .int 0, .ref 232, .ref 233, .ref 234, .ref 235, .int 0, .ref 236, .int 0, .int 0, .int 0, .int 0, .long 0, .int (-1), .int 0, .int 0, .ref 237, .int 0, .ref 238, .ref 239, .int 0, .ref 240, .ref 241, .int 0, .int 0, .ref 242, .ref 243, .int 0, .ref 244, .ref 245, .int 0, .long 0, .long 0, .ref 246, .ref 247, .ref 248, .int 0, .ref 249, .ref 250, .ref 251, .ref 252, .ref 253, .ref 254, .ref 255, .ref 256, .int 0, .int 0, .int 0, .long (a1).toInt64, .ref 257, .ref 258, .int 0]))).set 246 (.inl (0, .inl (List.replicate 12 0)))).set 247 (.inl (0, .inl (List.replicate 12 0))), n) 19 rfl [.ref 231, .int 3, .int 1] [.int 3, .ref 246] (Nat.le_of_ble_eq_true rfl) rfl ?_ (fun _ => ?_)
      · refine Ev.mk rfl rfl ⟨Nat.le_of_ble_eq_true rfl, Or.inr (en_rcI (en_gs_ne (by decide) (en_gs_ne (by decide) (en_gs_eq (hm_231 _)))) rfl)⟩ ?_
        show At _ none _ _ (0, [(0, .ref 231), (1, .int 3), (2, .int 1)], [], ((((en_pre a 231 hp_M).set 231 (.inr (11, [.int 0, .int 0, .ref 232, .ref 233, .ref 234, .ref 235, .int 0, .ref 236, .int 0, .int 0, .int 0, .int 0, .long 0, .int (-1), .int 0, .int 0, .ref 237, .int 0, .ref 238, .ref 239, .int 0, .ref 240, .ref 241, .int 0, .int 0, .ref 242, .ref 243, .int 0, .ref 244, .ref 245, .int 0, .long 0, .long 0, .ref 246, .ref 247, .ref 248, .int 0, .ref 249, .ref 250, .ref 251, .ref 252, .ref 253, .ref 254, .ref 255, .ref 256, .int 0, .int 0, .int 0, .long (a1).toInt64, .ref 257, .ref 258, .int 0]))).set 246 (.inl (0, .inl (List.replicate 12 0)))).set 247 (.inl (0, .inl (List.replicate 12 0))), n)) _
        refine At.enter rfl ?_
        refine r_aload_n rfl ?_
        refine r_get (v := .ref 233) (en_gs_ne (by decide) (en_gs_ne (by decide) (en_gs_eq (hm_231 _)))) rfl ?_
        refine r_bipush 10 rfl ?_
        refine r_iconst 3 rfl ?_
        refine r_iload_n rfl ?_
        refine r_imul 9 (by decide) ?_
        refine r_iadd 19 rfl ?_
        refine r_iload_n rfl ?_
        refine r_iadd 20 rfl ?_
        refine r_iald (v := 0) (en_gs_ne (by decide) (en_gs_ne (by decide) (en_gs_ne (by decide) (hm_233 _)))) (by decide) (en_gr2 7 rfl (by decide +kernel) (by decide +kernel)) ?_
        refine r_ireti ?_
        exact ⟨trivial, rfl, rfl⟩
      refine At.enter rfl ?_
      refine r_iast (en_gs_ne (by decide) (en_gs_eq (en_gs_ne (by decide) (hm_246 _)))) (by decide) (Nat.le_of_ble_eq_true rfl) (List.replicate 12 0) (by decide +kernel) ?_
      refine Ar.hp (en_sdS (by decide) en_sd0) ?_
      refine r_aload_n rfl ?_
      refine r_get (v := .ref 247) (en_gs_ne (by decide) (en_gs_ne (by decide) (en_gs_eq (hm_231 _)))) rfl ?_
      refine r_iload_n rfl ?_
      refine r_aload_n rfl ?_
      refine r_iload_n rfl ?_
      refine r_iconst 2 rfl ?_
      refine r_callV1s (True) (.int 0) ((((en_pre a 231 hp_M).set 231 (.inr (11, [.int 0, .int 0, .ref 232, .ref 233, .ref 234, .ref 235, .int 0, .ref 236, .int 0, .int 0, .int 0, .int 0, .long 0, .int (-1), .int 0, .int 0, .ref 237, .int 0, .ref 238, .ref 239, .int 0, .ref 240, .ref 241, .int 0, .int 0, .ref 242, .ref 243, .int 0, .ref 244, .ref 245, .int 0, .long 0, .long 0, .ref 246, .ref 247, .ref 248, .int 0, .ref 249, .ref 250, .ref 251, .ref 252, .ref 253, .ref 254, .ref 255, .ref 256, .int 0, .int 0, .int 0, .long (a1).toInt64, .ref 257, .ref 258, .int 0]))).set 246 (.inl (0, .inl (List.replicate 12 0)))).set 247 (.inl (0, .inl (List.replicate 12 0))), n) 31 rfl [.ref 231, .int 3, .int 2] [.int 3, .ref 247] (Nat.le_of_ble_eq_true rfl) rfl ?_ (fun _ => ?_)
      · refine Ev.mk rfl rfl ⟨Nat.le_of_ble_eq_true rfl, Or.inr (en_rcI (en_gs_ne (by decide) (en_gs_ne (by decide) (en_gs_eq (hm_231 _)))) rfl)⟩ ?_
        show At _ none _ _ (0, [(0, .ref 231), (1, .int 3), (2, .int 2)], [], ((((en_pre a 231 hp_M).set 231 (.inr (11, [.int 0, .int 0, .ref 232, .ref 233, .ref 234, .ref 235, .int 0, .ref 236, .int 0, .int 0, .int 0, .int 0, .long 0, .int (-1), .int 0, .int 0, .ref 237, .int 0, .ref 238, .ref 239, .int 0, .ref 240, .ref 241, .int 0, .int 0, .ref 242, .ref 243, .int 0, .ref 244, .ref 245, .int 0, .long 0, .long 0, .ref 246, .ref 247, .ref 248, .int 0, .ref 249, .ref 250, .ref 251, .ref 252, .ref 253, .ref 254, .ref 255, .ref 256, .int 0, .int 0, .int 0, .long (a1).toInt64, .ref 257, .ref 258, .int 0]))).set 246 (.inl (0, .inl (List.replicate 12 0)))).set 247 (.inl (0, .inl (List.replicate 12 0))), n)) _
        refine At.enter rfl ?_
        refine r_aload_n rfl ?_
        refine r_get (v := .ref 233) (en_gs_ne (by decide) (en_gs_ne (by decide) (en_gs_eq (hm_231 _)))) rfl ?_
        refine r_bipush 10 rfl ?_
        refine r_iconst 3 rfl ?_
        refine r_iload_n rfl ?_
        refine r_imul 9 (by decide) ?_
        refine r_iadd 19 rfl ?_
        refine r_iload_n rfl ?_
        refine r_iadd 21 rfl ?_
        refine r_iald (v := 0) (en_gs_ne (by decide) (en_gs_ne (by decide) (en_gs_ne (by decide) (hm_233 _)))) (by decide) (en_gr2 7 rfl (by decide +kernel) (by decide +kernel)) ?_
        refine r_ireti ?_
        exact ⟨trivial, rfl, rfl⟩
      refine At.enter rfl ?_
      refine r_iast (en_gs_eq (en_gs_ne (by decide) (en_gs_ne (by decide) (hm_247 _)))) (by decide) (Nat.le_of_ble_eq_true rfl) (List.replicate 12 0) (by decide +kernel) ?_
      refine Ar.hp en_sd0 ?_
      refine r_iinc rfl 4 rfl ([(1, .int 4), (0, .ref 231)]) rfl ?_
      refine r_goto ?_
      refine At.enter rfl ?_
      refine r_iload_n rfl ?_
      refine r_bipush 12 rfl ?_
      refine r_icf 8 rfl (by decide) ?_
      refine At.enter rfl ?_
      refine r_aload_n rfl ?_
      refine r_get (v := .ref 246) (en_gs_ne (by decide) (en_gs_ne (by decide) (en_gs_eq (hm_231 _)))) rfl ?_
      refine r_iload_n rfl ?_
      refine r_aload_n rfl ?_
      refine r_iload_n rfl ?_
      refine r_iconst 1 rfl ?_
      refine r_callV1s (True) (.int 0) ((((en_pre a 231 hp_M).set 231 (.inr (11, [.int 0, .int 0, .ref 232, .ref 233, .ref 234, .ref 235, .int 0, .ref 236, .int 0, .int 0, .int 0, .int 0, .long 0, .int (-1), .int 0, .int 0, .ref 237, .int 0, .ref 238, .ref 239, .int 0, .ref 240, .ref 241, .int 0, .int 0, .ref 242, .ref 243, .int 0, .ref 244, .ref 245, .int 0, .long 0, .long 0, .ref 246, .ref 247, .ref 248, .int 0, .ref 249, .ref 250, .ref 251, .ref 252, .ref 253, .ref 254, .ref 255, .ref 256, .int 0, .int 0, .int 0, .long (a1).toInt64, .ref 257, .ref 258, .int 0]))).set 246 (.inl (0, .inl (List.replicate 12 0)))).set 247 (.inl (0, .inl (List.replicate 12 0))), n) 19 rfl [.ref 231, .int 4, .int 1] [.int 4, .ref 246] (Nat.le_of_ble_eq_true rfl) rfl ?_ (fun _ => ?_)
      · refine Ev.mk rfl rfl ⟨Nat.le_of_ble_eq_true rfl, Or.inr (en_rcI (en_gs_ne (by decide) (en_gs_ne (by decide) (en_gs_eq (hm_231 _)))) rfl)⟩ ?_
        show At _ none _ _ (0, [(0, .ref 231), (1, .int 4), (2, .int 1)], [], ((((en_pre a 231 hp_M).set 231 (.inr (11, [.int 0, .int 0, .ref 232, .ref 233, .ref 234, .ref 235, .int 0, .ref 236, .int 0, .int 0, .int 0, .int 0, .long 0, .int (-1), .int 0, .int 0, .ref 237, .int 0, .ref 238, .ref 239, .int 0, .ref 240, .ref 241, .int 0, .int 0, .ref 242, .ref 243, .int 0, .ref 244, .ref 245, .int 0, .long 0, .long 0, .ref 246, .ref 247, .ref 248, .int 0, .ref 249, .ref 250, .ref 251, .ref 252, .ref 253, .ref 254, .ref 255, .ref 256, .int 0, .int 0, .int 0, .long (a1).toInt64, .ref 257, .ref 258, .int 0]))).set 246 (.inl (0, .inl (List.replicate 12 0)))).set 247 (.inl (0, .inl (List.replicate 12 0))), n)) _
        refine At.enter rfl ?_
        refine r_aload_n rfl ?_
        refine r_get (v := .ref 233) (en_gs_ne (by decide) (en_gs_ne (by decide) (en_gs_eq (hm_231 _)))) rfl ?_
        refine r_bipush 10 rfl ?_
        refine r_iconst 3 rfl ?_
        refine r_iload_n rfl ?_
        refine r_imul 12 (by decide) ?_
        refine r_iadd 22 rfl ?_
        refine r_iload_n rfl ?_
        refine r_iadd 23 rfl ?_
        refine r_iald (v := 0) (en_gs_ne (by decide) (en_gs_ne (by decide) (en_gs_ne (by decide) (hm_233 _)))) (by decide) (en_gr2 7 rfl (by decide +kernel) (by decide +kernel)) ?_
        refine r_ireti ?_
        exact ⟨trivial, rfl, rfl⟩
      refine At.enter rfl ?_
      refine r_iast (en_gs_ne (by decide) (en_gs_eq (en_gs_ne (by decide) (hm_246 _)))) (by decide) (Nat.le_of_ble_eq_true rfl) (List.replicate 12 0) (by decide +kernel) ?_
      refine Ar.hp (en_sdS (by decide) en_sd0) ?_
      refine r_aload_n rfl ?_
      refine r_get (v := .ref 247) (en_gs_ne (by decide) (en_gs_ne (by decide) (en_gs_eq (hm_231 _)))) rfl ?_
      refine r_iload_n rfl ?_
      refine r_aload_n rfl ?_
      refine r_iload_n rfl ?_
      refine r_iconst 2 rfl ?_
      refine r_callV1s (True) (.int 0) ((((en_pre a 231 hp_M).set 231 (.inr (11, [.int 0, .int 0, .ref 232, .ref 233, .ref 234, .ref 235, .int 0, .ref 236, .int 0, .int 0, .int 0, .int 0, .long 0, .int (-1), .int 0, .int 0, .ref 237, .int 0, .ref 238, .ref 239, .int 0, .ref 240, .ref 241, .int 0, .int 0, .ref 242, .ref 243, .int 0, .ref 244, .ref 245, .int 0, .long 0, .long 0, .ref 246, .ref 247, .ref 248, .int 0, .ref 249, .ref 250, .ref 251, .ref 252, .ref 253, .ref 254, .ref 255, .ref 256, .int 0, .int 0, .int 0, .long (a1).toInt64, .ref 257, .ref 258, .int 0]))).set 246 (.inl (0, .inl (List.replicate 12 0)))).set 247 (.inl (0, .inl (List.replicate 12 0))), n) 31 rfl [.ref 231, .int 4, .int 2] [.int 4, .ref 247] (Nat.le_of_ble_eq_true rfl) rfl ?_ (fun _ => ?_)
      · refine Ev.mk rfl rfl ⟨Nat.le_of_ble_eq_true rfl, Or.inr (en_rcI (en_gs_ne (by decide) (en_gs_ne (by decide) (en_gs_eq (hm_231 _)))) rfl)⟩ ?_
        show At _ none _ _ (0, [(0, .ref 231), (1, .int 4), (2, .int 2)], [], ((((en_pre a 231 hp_M).set 231 (.inr (11, [.int 0, .int 0, .ref 232, .ref 233, .ref 234, .ref 235, .int 0, .ref 236, .int 0, .int 0, .int 0, .int 0, .long 0, .int (-1), .int 0, .int 0, .ref 237, .int 0, .ref 238, .ref 239, .int 0, .ref 240, .ref 241, .int 0, .int 0, .ref 242, .ref 243, .int 0, .ref 244, .ref 245, .int 0, .long 0, .long 0, .ref 246, .ref 247, .ref 248, .int 0, .ref 249, .ref 250, .ref 251, .ref 252, .ref 253, .ref 254, .ref 255, .ref 256, .int 0, .int 0, .int 0, .long (a1).toInt64, .ref 257, .ref 258, .int 0]))).set 246 (.inl (0, .inl (List.replicate 12 0)))).set 247 (.inl (0, .inl (List.replicate 12 0))), n)) _
        refine At.enter rfl ?_
        refine r_aload_n rfl ?_
        refine r_get (v := .ref 233) (en_gs_ne (by decide) (en_gs_ne (by decide) (en_gs_eq (hm_231 _)))) rfl ?_
        refine r_bipush 10 rfl ?_
        refine r_iconst 3 rfl ?_
        refine r_iload_n rfl ?_
        refine r_imul 12 (by decide) ?_
        refine r_iadd 22 rfl ?_
        refine r_iload_n rfl ?_
        refine r_iadd 24 rfl ?_
        refine r_iald (v := 0) (en_gs_ne (by decide) (en_gs_ne (by decide) (en_gs_ne (by decide) (hm_233 _)))) (by decide) (en_gr2 7 rfl (by decide +kernel) (by decide +kernel)) ?_
        refine r_ireti ?_
        exact ⟨trivial, rfl, rfl⟩
      refine At.enter rfl ?_
      refine r_iast (en_gs_eq (en_gs_ne (by decide) (en_gs_ne (by decide) (hm_247 _)))) (by decide) (Nat.le_of_ble_eq_true rfl) (List.replicate 12 0) (by decide +kernel) ?_
      refine Ar.hp en_sd0 ?_
      refine r_iinc rfl 5 rfl ([(1, .int 5), (0, .ref 231)]) rfl ?_
      refine r_goto ?_
      refine At.enter rfl ?_
      refine r_iload_n rfl ?_
      refine r_bipush 12 rfl ?_
      refine r_icf 8 rfl (by decide) ?_
      refine At.enter rfl ?_
      refine r_aload_n rfl ?_
      refine r_get (v := .ref 246) (en_gs_ne (by decide) (en_gs_ne (by decide) (en_gs_eq (hm_231 _)))) rfl ?_
      refine r_iload_n rfl ?_
      refine r_aload_n rfl ?_
      refine r_iload_n rfl ?_
      refine r_iconst 1 rfl ?_
      refine r_callV1s (True) (.int 0) ((((en_pre a 231 hp_M).set 231 (.inr (11, [.int 0, .int 0, .ref 232, .ref 233, .ref 234, .ref 235, .int 0, .ref 236, .int 0, .int 0, .int 0, .int 0, .long 0, .int (-1), .int 0, .int 0, .ref 237, .int 0, .ref 238, .ref 239, .int 0, .ref 240, .ref 241, .int 0, .int 0, .ref 242, .ref 243, .int 0, .ref 244, .ref 245, .int 0, .long 0, .long 0, .ref 246, .ref 247, .ref 248, .int 0, .ref 249, .ref 250, .ref 251, .ref 252, .ref 253, .ref 254, .ref 255, .ref 256, .int 0, .int 0, .int 0, .long (a1).toInt64, .ref 257, .ref 258, .int 0]))).set 246 (.inl (0, .inl (List.replicate 12 0)))).set 247 (.inl (0, .inl (List.replicate 12 0))), n) 19 rfl [.ref 231, .int 5, .int 1] [.int 5, .ref 246] (Nat.le_of_ble_eq_true rfl) rfl ?_ (fun _ => ?_)
      · refine Ev.mk rfl rfl ⟨Nat.le_of_ble_eq_true rfl, Or.inr (en_rcI (en_gs_ne (by decide) (en_gs_ne (by decide) (en_gs_eq (hm_231 _)))) rfl)⟩ ?_
        show At _ none _ _ (0, [(0, .ref 231), (1, .int 5), (2, .int 1)], [], ((((en_pre a 231 hp_M).set 231 (.inr (11, [.int 0, .int 0, .ref 232, .ref 233, .ref 234, .ref 235, .int 0, .ref 236, .int 0, .int 0, .int 0, .int 0, .long 0, .int (-1), .int 0, .int 0, .ref 237, .int 0, .ref 238, .ref 239, .int 0, .ref 240, .ref 241, .int 0, .int 0, .ref 242, .ref 243, .int 0, .ref 244, .ref 245, .int 0, .long 0, .long 0, .ref 246, .ref 247, .ref 248, .int 0, .ref 249, .ref 250, .ref 251, .ref 252, .ref 253, .ref 254, .ref 255, .ref 256, .int 0, .int 0, .int 0, .long (a1).toInt64, .ref 257, .ref 258, .int 0]))).set 246 (.inl (0, .inl (List.replicate 12 0)))).set 247 (.inl (0, .inl (List.replicate 12 0))), n)) _
        refine At.enter rfl ?_
        refine r_aload_n rfl ?_
        refine r_get (v := .ref 233) (en_gs_ne (by decide) (en_gs_ne (by decide) (en_gs_eq (hm_231 _)))) rfl ?_
        refine r_bipush 10 rfl ?_
        refine r_iconst 3 rfl ?_
        refine r_iload_n rfl ?_
        refine r_imul 15 (by decide) ?_
        refine r_iadd 25 rfl ?_
        refine r_iload_n rfl ?_
        refine r_iadd 26 rfl ?_
        refine r_iald (v := 0) (en_gs_ne (by decide) (en_gs_ne (by decide) (en_gs_ne (by decide) (hm_233 _)))) (by decide) (en_gr2 7 rfl (by decide +kernel) (by decide +kernel)) ?_
        refine r_ireti ?_
        exact ⟨trivial, rfl, rfl⟩
      refine At.enter rfl ?_
      refine r_iast (en_gs_ne (by decide) (en_gs_eq (en_gs_ne (by decide) (hm_246 _)))) (by decide) (Nat.le_of_ble_eq_true rfl) (List.replicate 12 0) (by decide +kernel) ?_
      refine Ar.hp (en_sdS (by decide) en_sd0) ?_
      refine r_aload_n rfl ?_
      refine r_get (v := .ref 247) (en_gs_ne (by decide) (en_gs_ne (by decide) (en_gs_eq (hm_231 _)))) rfl ?_
      refine r_iload_n rfl ?_
      refine r_aload_n rfl ?_
      refine r_iload_n rfl ?_
      refine r_iconst 2 rfl ?_
      refine r_callV1s (True) (.int 0) ((((en_pre a 231 hp_M).set 231 (.inr (11, [.int 0, .int 0, .ref 232, .ref 233, .ref 234, .ref 235, .int 0, .ref 236, .int 0, .int 0, .int 0, .int 0, .long 0, .int (-1), .int 0, .int 0, .ref 237, .int 0, .ref 238, .ref 239, .int 0, .ref 240, .ref 241, .int 0, .int 0, .ref 242, .ref 243, .int 0, .ref 244, .ref 245, .int 0, .long 0, .long 0, .ref 246, .ref 247, .ref 248, .int 0, .ref 249, .ref 250, .ref 251, .ref 252, .ref 253, .ref 254, .ref 255, .ref 256, .int 0, .int 0, .int 0, .long (a1).toInt64, .ref 257, .ref 258, .int 0]))).set 246 (.inl (0, .inl (List.replicate 12 0)))).set 247 (.inl (0, .inl (List.replicate 12 0))), n) 31 rfl [.ref 231, .int 5, .int 2] [.int 5, .ref 247] (Nat.le_of_ble_eq_true rfl) rfl ?_ (fun _ => ?_)
      · refine Ev.mk rfl rfl ⟨Nat.le_of_ble_eq_true rfl, Or.inr (en_rcI (en_gs_ne (by decide) (en_gs_ne (by decide) (en_gs_eq (hm_231 _)))) rfl)⟩ ?_
        show At _ none _ _ (0, [(0, .ref 231), (1, .int 5), (2, .int 2)], [], ((((en_pre a 231 hp_M).set 231 (.inr (11, [.int 0, .int 0, .ref 232, .ref 233, .ref 234, .ref 235, .int 0, .ref 236, .int 0, .int 0, .int 0, .int 0, .long 0, .int (-1), .int 0, .int 0, .ref 237, .int 0, .ref 238, .ref 239, .int 0, .ref 240, .ref 241, .int 0, .int 0, .ref 242, .ref 243, .int 0, .ref 244, .ref 245, .int 0, .long 0, .long 0, .ref 246, .ref 247, .ref 248, .int 0, .ref 249, .ref 250, .ref 251, .ref 252, .ref 253, .ref 254, .ref 255, .ref 256, .int 0, .int 0, .int 0, .long (a1).toInt64, .ref 257, .ref 258, .int 0]))).set 246 (.inl (0, .inl (List.replicate 12 0)))).set 247 (.inl (0, .inl (List.replicate 12 0))), n)) _
        refine At.enter rfl ?_
        refine r_aload_n rfl ?_
        refine r_get (v := .ref 233) (en_gs_ne (by decide) (en_gs_ne (by decide) (en_gs_eq (hm_231 _)))) rfl ?_
        refine r_bipush 10 rfl ?_
        refine r_iconst 3 rfl ?_
        refine r_iload_n rfl ?_
        refine r_imul 15 (by decide) ?_
        refine r_iadd 25 rfl ?_
        refine r_iload_n rfl ?_
        refine r_iadd 27 rfl ?_
        refine r_iald (v := 0) (en_gs_ne (by decide) (en_gs_ne (by decide) (en_gs_ne (by decide) (hm_233 _)))) (by decide) (en_gr2 7 rfl (by decide +kernel) (by decide +kernel)) ?_
        refine r_ireti ?_
        exact ⟨trivial, rfl, rfl⟩
      refine At.enter rfl ?_
      refine r_iast (en_gs_eq (en_gs_ne (by decide) (en_gs_ne (by decide) (hm_247 _)))) (by decide) (Nat.le_of_ble_eq_true rfl) (List.replicate 12 0) (by decide +kernel) ?_
      refine Ar.hp en_sd0 ?_
      refine r_iinc rfl 6 rfl ([(1, .int 6), (0, .ref 231)]) rfl ?_
      refine r_goto ?_
      refine At.enter rfl ?_
      refine r_iload_n rfl ?_
      refine r_bipush 12 rfl ?_
      refine r_icf 8 rfl (by decide) ?_
      refine At.enter rfl ?_
      refine r_aload_n rfl ?_
      refine r_get (v := .ref 246) (en_gs_ne (by decide) (en_gs_ne (by decide) (en_gs_eq (hm_231 _)))) rfl ?_
      refine r_iload_n rfl ?_
      refine r_aload_n rfl ?_
      refine r_iload_n rfl ?_
      refine r_iconst 1 rfl ?_
      refine r_callV1s (True) (.int 0) ((((en_pre a 231 hp_M).set 231 (.inr (11, [.int 0, .int 0, .ref 232, .ref 233, .ref 234, .ref 235, .int 0, .ref 236, .int 0, .int 0, .int 0, .int 0, .long 0, .int (-1), .int 0, .int 0, .ref 237, .int 0, .ref 238, .ref 239, .int 0, .ref 240, .ref 241, .int 0, .int 0, .ref 242, .ref 243, .int 0, .ref 244, .ref 245, .int 0, .long 0, .long 0, .ref 246, .ref 247, .ref 248, .int 0, .ref 249, .ref 250, .ref 251, .ref 252, .ref 253, .ref 254, .ref 255, .ref 256, .int 0, .int 0, .int 0, .long (a1).toInt64, .ref 257, .ref 258, .int 0]))).set 246 (.inl (0, .inl (List.replicate 12 0)))).set 247 (.inl (0, .inl (List.replicate 12 0))), n) 19 rfl [.ref 231, .int 6, .int 1] [.int 6, .ref 246] (Nat.le_of_ble_eq_true rfl) rfl ?_ (fun _ => ?_)
      · refine Ev.mk rfl rfl ⟨Nat.le_of_ble_eq_true rfl, Or.inr (en_rcI (en_gs_ne (by decide) (en_gs_ne (by decide) (en_gs_eq (hm_231 _)))) rfl)⟩ ?_
        show At _ none _ _ (0, [(0, .ref 231), (1, .int 6), (2, .int 1)], [], ((((en_pre a 231 hp_M).set 231 (.inr (11, [.int 0, .int 0, .ref 232, .ref 233, .ref 234, .ref 235, .int 0, .ref 236, .int 0, .int 0, .int 0, .int 0, .long 0, .int (-1), .int 0, .int 0, .ref 237, .int 0, .ref 238, .ref 239, .int 0, .ref 240, .ref 241, .int 0, .int 0, .ref 242, .ref 243, .int 0, .ref 244, .ref 245, .int 0, .long 0, .long 0, .ref 246, .ref 247, .ref 248, .int 0, .ref 249, .ref 250, .ref 251, .ref 252, .ref 253, .ref 254, .ref 255, .ref 256, .int 0, .int 0, .int 0, .long (a1).toInt64, .ref 257, .ref 258, .int 0]))).set 246 (.inl (0, .inl (List.replicate 12 0)))).set 247 (.inl (0, .inl (List.replicate 12 0))), n)) _
        refine At.enter rfl ?_
        refine r_aload_n rfl ?_
        refine r_get (v := .ref 233) (en_gs_ne (by decide) (en_gs_ne (by decide) (en_gs_eq (hm_231 _)))) rfl ?_
        refine r_bipush 10 rfl ?_
        refine r_iconst 3 rfl ?_
        refine r_iload_n rfl ?_
        refine r_imul 18 (by decide) ?_
        refine r_iadd 28 rfl ?_
        refine r_iload_n rfl ?_
        refine r_iadd 29 rfl ?_
        refine r_iald (v := 0) (en_gs_ne (by decide) (en_gs_ne (by decide) (en_gs_ne (by decide) (hm_233 _)))) (by decide) (en_gr2 7 rfl (by decide +kernel) (by decide +kernel)) ?_
        refine r_ireti ?_
        exact ⟨trivial, rfl, rfl⟩
      refine At.enter rfl ?_
      refine r_iast (en_gs_ne (by decide) (en_gs_eq (en_gs_ne (by decide) (hm_246 _)))) (by decide) (Nat.le_of_ble_eq_true rfl) (List.replicate 12 0) (by decide +kernel) ?_
      refine Ar.hp (en_sdS (by decide) en_sd0) ?_
      refine r_aload_n rfl ?_
      refine r_get (v := .ref 247) (en_gs_ne (by decide) (en_gs_ne (by decide) (en_gs_eq (hm_231 _)))) rfl ?_
      refine r_iload_n rfl ?_
      refine r_aload_n rfl ?_
      refine r_iload_n rfl ?_
      refine r_iconst 2 rfl ?_
      refine r_callV1s (True) (.int 0) ((((en_pre a 231 hp_M).set 231 (.inr (11, [.int 0, .int 0, .ref 232, .ref 233, .ref 234, .ref 235, .int 0, .ref 236, .int 0, .int 0, .int 0, .int 0, .long 0, .int (-1), .int 0, .int 0, .ref 237, .int 0, .ref 238, .ref 239, .int 0, .ref 240, .ref 241, .int 0, .int 0, .ref 242, .ref 243, .int 0, .ref 244, .ref 245, .int 0, .long 0, .long 0, .ref 246, .ref 247, .ref 248, .int 0, .ref 249, .ref 250, .ref 251, .ref 252, .ref 253, .ref 254, .ref 255, .ref 256, .int 0, .int 0, .int 0, .long (a1).toInt64, .ref 257, .ref 258, .int 0]))).set 246 (.inl (0, .inl (List.replicate 12 0)))).set 247 (.inl (0, .inl (List.replicate 12 0))), n) 31 rfl [.ref 231, .int 6, .int 2] [.int 6, .ref 247] (Nat.le_of_ble_eq_true rfl) rfl ?_ (fun _ => ?_)
      · refine Ev.mk rfl rfl ⟨Nat.le_of_ble_eq_true rfl, Or.inr (en_rcI (en_gs_ne (by decide) (en_gs_ne (by decide) (en_gs_eq (hm_231 _)))) rfl)⟩ ?_
        show At _ none _ _ (0, [(0, .ref 231), (1, .int 6), (2, .int 2)], [], ((((en_pre a 231 hp_M).set 231 (.inr (11, [.int 0, .int 0, .ref 232, .ref 233, .ref 234, .ref 235, .int 0, .ref 236, .int 0, .int 0, .int 0, .int 0, .long 0, .int (-1), .int 0, .int 0, .ref 237, .int 0, .ref 238, .ref 239, .int 0, .ref 240, .ref 241, .int 0, .int 0, .ref 242, .ref 243, .int 0, .ref 244, .ref 245, .int 0, .long 0, .long 0, .ref 246, .ref 247, .ref 248, .int 0, .ref 249, .ref 250, .ref 251, .ref 252, .ref 253, .ref 254, .ref 255, .ref 256, .int 0, .int 0, .int 0, .long (a1).toInt64, .ref 257, .ref 258, .int 0]))).set 246 (.inl (0, .inl (List.replicate 12 0)))).set 247 (.inl (0, .inl (List.replicate 12 0))), n)) _
        refine At.enter rfl ?_
        refine r_aload_n rfl ?_
        refine r_get (v := .ref 233) (en_gs_ne (by decide) (en_gs_ne (by decide) (en_gs_eq (hm_231 _)))) rfl ?_
        refine r_bipush 10 rfl ?_
        refine r_iconst 3 rfl ?_
        refine r_iload_n rfl ?_
        refine r_imul 18 (by decide) ?_
        refine r_iadd 28 rfl ?_
        refine r_iload_n rfl ?_
        refine r_iadd 30 rfl ?_
        refine r_iald (v := 0) (en_gs_ne (by decide) (en_gs_ne (by decide) (en_gs_ne (by decide) (hm_233 _)))) (by decide) (en_gr2 7 rfl (by decide +kernel) (by decide +kernel)) ?_
        refine r_ireti ?_
        exact ⟨trivial, rfl, rfl⟩
      refine At.enter rfl ?_
      refine r_iast (en_gs_eq (en_gs_ne (by decide) (en_gs_ne (by decide) (hm_247 _)))) (by decide) (Nat.le_of_ble_eq_true rfl) (List.replicate 12 0) (by decide +kernel) ?_
      refine Ar.hp en_sd0 ?_
      refine r_iinc rfl 7 rfl ([(1, .int 7), (0, .ref 231)]) rfl ?_
      refine r_goto ?_
      refine At.enter rfl ?_
      refine r_iload_n rfl ?_
      refine r_bipush 12 rfl ?_
      refine r_icf 8 rfl (by decide) ?_
      refine At.enter rfl ?_
      refine r_aload_n rfl ?_
      refine r_get (v := .ref 246) (en_gs_ne (by decide) (en_gs_ne (by decide) (en_gs_eq (hm_231 _)))) rfl ?_
      refine r_iload_n rfl ?_
      refine r_aload_n rfl ?_
      refine r_iload_n rfl ?_
      refine r_iconst 1 rfl ?_
      refine r_callV1s (True) (.int 0) ((((en_pre a 231 hp_M).set 231 (.inr (11, [.int 0, .int 0, .ref 232, .ref 233, .ref 234, .ref 235, .int 0, .ref 236, .int 0, .int 0, .int 0, .int 0, .long 0, .int (-1), .int 0, .int 0, .ref 237, .int 0, .ref 238, .ref 239, .int 0, .ref 240, .ref 241, .int 0, .int 0, .ref 242, .ref 243, .int 0, .ref 244, .ref 245, .int 0, .long 0, .long 0, .ref 246, .ref 247, .ref 248, .int 0, .ref 249, .ref 250, .ref 251, .ref 252, .ref 253, .ref 254, .ref 255, .ref 256, .int 0, .int 0, .int 0, .long (a1).toInt64, .ref 257, .ref 258, .int 0]))).set 246 (.inl (0, .inl (List.replicate 12 0)))).set 247 (.inl (0, .inl (List.replicate 12 0))), n) 19 rfl [.ref 231, .int 7, .int 1] [.int 7, .ref 246] (Nat.le_of_ble_eq_true rfl) rfl ?_ (fun _ => ?_)
      · refine Ev.mk rfl rfl ⟨Nat.le_of_ble_eq_true rfl, Or.inr (en_rcI (en_gs_ne (by decide) (en_gs_ne (by decide) (en_gs_eq (hm_231 _)))) rfl)⟩ ?_
        show At _ none _ _ (0, [(0, .ref 231), (1, .int 7), (2, .int 1)], [], ((((en_pre a 231 hp_M).set 231 (.inr (11, [.int 0, .int 0, .ref 232, .ref 233, .ref 234, .ref 235, .int 0, .ref 236, .int 0, .int 0, .int 0, .int 0, .long 0, .int (-1), .int 0, .int 0, .ref 237, .int 0, .ref 238, .ref 239, .int 0, .ref 240, .ref 241, .int 0, .int 0, .ref 242, .ref 243, .int 0, .ref 244, .ref 245, .int 0, .long 0, .long 0, .ref 246, .ref 247, .ref 248, .int 0, .ref 249, .ref 250, .ref 251, .ref 252, .ref 253, .ref 254, .ref 255, .ref 256, .int 0, .int 0, .int 0, .long (a1).toInt64, .ref 257, .ref 258, .int 0]))).set 246 (.inl (0, .inl (List.replicate 12 0)))).set 247 (.inl (0, .inl (List.replicate 12 0))), n)) _
        refine At.enter rfl ?_
        refine r_aload_n rfl ?_
        refine r_get (v := .ref 233) (en_gs_ne (by decide) (en_gs_ne (by decide) (en_gs_eq (hm_231 _)))) rfl ?_
        refine r_bipush 10 rfl ?_
        refine r_iconst 3 rfl ?_
        refine r_iload_n rfl ?_
        refine r_imul 21 (by decide) ?_
        refine r_iadd 31 rfl ?_
        refine r_iload_n rfl ?_
        refine r_iadd 32 rfl ?_
        refine r_iald (v := 0) (en_gs_ne (by decide) (en_gs_ne (by decide) (en_gs_ne (by decide) (hm_233 _)))) (by decide) (en_gr2 7 rfl (by decide +kernel) (by decide +kernel)) ?_
        refine r_ireti ?_
        exact ⟨trivial, rfl, rfl⟩
      refine At.enter rfl ?_
      refine r_iast (en_gs_ne (by decide) (en_gs_eq (en_gs_ne (by decide) (hm_246 _)))) (by decide) (Nat.le_of_ble_eq_true rfl) (List.replicate 12 0) (by decide +kernel) ?_
      refine Ar.hp (en_sdS (by decide) en_sd0) ?_
      refine r_aload_n rfl ?_
      refine r_get (v := .ref 247) (en_gs_ne (by decide) (en_gs_ne (by decide) (en_gs_eq (hm_231 _)))) rfl ?_
      refine r_iload_n rfl ?_
      refine r_aload_n rfl ?_
      refine r_iload_n rfl ?_
      refine r_iconst 2 rfl ?_
      refine r_callV1s (True) (.int 0) ((((en_pre a 231 hp_M).set 231 (.inr (11, [.int 0, .int 0, .ref 232, .ref 233, .ref 234, .ref 235, .int 0, .ref 236, .int 0, .int 0, .int 0, .int 0, .long 0, .int (-1), .int 0, .int 0, .ref 237, .int 0, .ref 238, .ref 239, .int 0, .ref 240, .ref 241, .int 0, .int 0, .ref 242, .ref 243, .int 0, .ref 244, .ref 245, .int 0, .long 0, .long 0, .ref 246, .ref 247, .ref 248, .int 0, .ref 249, .ref 250, .ref 251, .ref 252, .ref 253, .ref 254, .ref 255, .ref 256, .int 0, .int 0, .int 0, .long (a1).toInt64, .ref 257, .ref 258, .int 0]))).set 246 (.inl (0, .inl (List.replicate 12 0)))).set 247 (.inl (0, .inl (List.replicate 12 0))), n) 31 rfl [.ref 231, .int 7, .int 2] [.int 7, .ref 247] (Nat.le_of_ble_eq_true rfl) rfl ?_ (fun _ => ?_)
      · refine Ev.mk rfl rfl ⟨Nat.le_of_ble_eq_true rfl, Or.inr (en_rcI (en_gs_ne (by decide) (en_gs_ne (by decide) (en_gs_eq (hm_231 _)))) rfl)⟩ ?_
        show At _ none _ _ (0, [(0, .ref 231), (1, .int 7), (2, .int 2)], [], ((((en_pre a 231 hp_M).set 231 (.inr (11, [.int 0, .int 0, .ref 232, .ref 233, .ref 234, .ref 235, .int 0, .ref 236, .int 0, .int 0, .int 0, .int 0, .long 0, .int (-1), .int 0, .int 0, .ref 237, .int 0, .ref 238, .ref 239, .int 0, .ref 240, .ref 241, .int 0, .int 0, .ref 242, .ref 243, .int 0, .ref 244, .ref 245, .int 0, .long 0, .long 0, .ref 246, .ref 247, .ref 248, .int 0, .ref 249, .ref 250, .ref 251, .ref 252, .ref 253, .ref 254, .ref 255, .ref 256, .int 0, .int 0, .int 0, .long (a1).toInt64, .ref 257, .ref 258, .int 0]))).set 246 (.inl (0, .inl (List.replicate 12 0)))).set 247 (.inl (0, .inl (List.replicate 12 0))), n)) _
        refine At.enter rfl ?_
        refine r_aload_n rfl ?_
        refine r_get (v := .ref 233) (en_gs_ne (by decide) (en_gs_ne (by decide) (en_gs_eq (hm_231 _)))) rfl ?_
        refine r_bipush 10 rfl ?_
        refine r_iconst 3 rfl ?_
        refine r_iload_n rfl ?_
        refine r_imul 21 (by decide) ?_
        refine r_iadd 31 rfl ?_
        refine r_iload_n rfl ?_
        refine r_iadd 33 rfl ?_
        refine r_iald (v := 0) (en_gs_ne (by decide) (en_gs_ne (by decide) (en_gs_ne (by decide) (hm_233 _)))) (by decide) (en_gr2 7 rfl (by decide +kernel) (by decide +kernel)) ?_
        refine r_ireti ?_
        exact ⟨trivial, rfl, rfl⟩
      refine At.enter rfl ?_
      refine r_iast (en_gs_eq (en_gs_ne (by decide) (en_gs_ne (by decide) (hm_247 _)))) (by decide) (Nat.le_of_ble_eq_true rfl) (List.replicate 12 0) (by decide +kernel) ?_
      refine Ar.hp en_sd0 ?_
      refine r_iinc rfl 8 rfl ([(1, .int 8), (0, .ref 231)]) rfl ?_
      refine r_goto ?_
      refine At.enter rfl ?_
      refine r_iload_n rfl ?_
      refine r_bipush 12 rfl ?_
      refine r_icf 8 rfl (by decide) ?_
      refine At.enter rfl ?_
      refine r_aload_n rfl ?_
      refine r_get (v := .ref 246) (en_gs_ne (by decide) (en_gs_ne (by decide) (en_gs_eq (hm_231 _)))) rfl ?_
      refine r_iload_n rfl ?_
      refine r_aload_n rfl ?_
      refine r_iload_n rfl ?_
      refine r_iconst 1 rfl ?_
      refine r_callV1s (True) (.int 0) ((((en_pre a 231 hp_M).set 231 (.inr (11, [.int 0, .int 0, .ref 232, .ref 233, .ref 234, .ref 235, .int 0, .ref 236, .int 0, .int 0, .int 0, .int 0, .long 0, .int (-1), .int 0, .int 0, .ref 237, .int 0, .ref 238, .ref 239, .int 0, .ref 240, .ref 241, .int 0, .int 0, .ref 242, .ref 243, .int 0, .ref 244, .ref 245, .int 0, .long 0, .long 0, .ref 246, .ref 247, .ref 248, .int 0, .ref 249, .ref 250, .ref 251, .ref 252, .ref 253, .ref 254, .ref 255, .ref 256, .int 0, .int 0, .int 0, .long (a1).toInt64, .ref 257, .ref 258, .int 0]))).set 246 (.inl (0, .inl (List.replicate 12 0)))).set 247 (.inl (0, .inl (List.replicate 12 0))), n) 19 rfl [.ref 231, .int 8, .int 1] [.int 8, .ref 246] (Nat.le_of_ble_eq_true rfl) rfl ?_ (fun _ => ?_)
      · refine Ev.mk rfl rfl ⟨Nat.le_of_ble_eq_true rfl, Or.inr (en_rcI (en_gs_ne (by decide) (en_gs_ne (by decide) (en_gs_eq (hm_231 _)))) rfl)⟩ ?_
        show At _ none _ _ (0, [(0, .ref 231), (1, .int 8), (2, .int 1)], [], ((((en_pre a 231 hp_M).set 231 (.inr (11, [.int 0, .int 0, .ref 232, .ref 233, .ref 234, .ref 235, .int 0, .ref 236, .int 0, .int 0, .int 0, .int 0, .long 0, .int (-1), .int 0, .int 0, .ref 237, .int 0, .ref 238, .ref 239, .int 0, .ref 240, .ref 241, .int 0, .int 0, .ref 242, .ref 243, .int 0, .ref 244, .ref 245, .int 0, .long 0, .long 0, .ref 246, .ref 247, .ref 248, .int 0, .ref 249, .ref 250, .ref 251, .ref 252, .ref 253, .ref 254, .ref 255, .ref 256, .int 0, .int 0, .int 0, .long (a1).toInt64, .ref 257, .ref 258, .int 0]))).set 246 (.inl (0, .inl (List.replicate 12 0)))).set 247 (.inl (0, .inl (List.replicate 12 0))), n)) _
        refine At.enter rfl ?_
        refine r_aload_n rfl ?_
        refine r_get (v := .ref 233) (en_gs_ne (by decide) (en_gs_ne (by decide) (en_gs_eq (hm_231 _)))) rfl ?_
        refine r_bipush 10 rfl ?_
        refine r_iconst 3 rfl ?_
        refine r_iload_n rfl ?_
        refine r_imul 24 (by decide) ?_
        refine r_iadd 34 rfl ?_
        refine r_iload_n rfl ?_
        refine r_iadd 35 rfl ?_
        refine r_iald (v := 0) (en_gs_ne (by decide) (en_gs_ne (by decide) (en_gs_ne (by decide) (hm_233 _)))) (by decide) (en_gr2 7 rfl (by decide +kernel) (by decide +kernel)) ?_
        refine r_ireti ?_
        exact ⟨trivial, rfl, rfl⟩
      refine At.enter rfl ?_
      refine r_iast (en_gs_ne (by decide) (en_gs_eq (en_gs_ne (by decide) (hm_246 _)))) (by decide) (Nat.le_of_ble_eq_true rfl) (List.replicate 12 0) (by decide +kernel) ?_
      refine Ar.hp (en_sdS (by decide) en_sd0) ?_
      refine r_aload_n rfl ?_
      refine r_get (v := .ref 247) (en_gs_ne (by decide) (en_gs_ne (by decide) (en_gs_eq (hm_231 _)))) rfl ?_
      refine r_iload_n rfl ?_
      refine r_aload_n rfl ?_
      refine r_iload_n rfl ?_
      refine r_iconst 2 rfl ?_
      refine r_callV1s (True) (.int 0) ((((en_pre a 231 hp_M).set 231 (.inr (11, [.int 0, .int 0, .ref 232, .ref 233, .ref 234, .ref 235, .int 0, .ref 236, .int 0, .int 0, .int 0, .int 0, .long 0, .int (-1), .int 0, .int 0, .ref 237, .int 0, .ref 238, .ref 239, .int 0, .ref 240, .ref 241, .int 0, .int 0, .ref 242, .ref 243, .int 0, .ref 244, .ref 245, .int 0, .long 0, .long 0, .ref 246, .ref 247, .ref 248, .int 0, .ref 249, .ref 250, .ref 251, .ref 252, .ref 253, .ref 254, .ref 255, .ref 256, .int 0, .int 0, .int 0, .long (a1).toInt64, .ref 257, .ref 258, .int 0]))).set 246 (.inl (0, .inl (List.replicate 12 0)))).set 247 (.inl (0, .inl (List.replicate 12 0))), n) 31 rfl [.ref 231, .int 8, .int 2] [.int 8, .ref 247] (Nat.le_of_ble_eq_true rfl) rfl ?_ (fun _ => ?_)
      · refine Ev.mk rfl rfl ⟨Nat.le_of_ble_eq_true rfl, Or.inr (en_rcI (en_gs_ne (by decide) (en_gs_ne (by decide) (en_gs_eq (hm_231 _)))) rfl)⟩ ?_
        show At _ none _ _ (0, [(0, .ref 231), (1, .int 8), (2, .int 2)], [], ((((en_pre a 231 hp_M).set 231 (.inr (11, [.int 0, .int 0, .ref 232, .ref 233, .ref 234, .ref 235, .int 0, .ref 236, .int 0, .int 0, .int 0, .int 0, .long 0, .int (-1), .int 0, .int 0, .ref 237, .int 0, .ref 238, .ref 239, .int 0, .ref 240, .ref 241, .int 0, .int 0, .ref 242, .ref 243, .int 0, .ref 244, .ref 245, .int 0, .long 0, .long 0, .ref 246, .ref 247, .ref 248, .int 0, .ref 249, .ref 250, .ref 251, .ref 252, .ref 253, .ref 254, .ref 255, .ref 256, .int 0, .int 0, .int 0, .long (a1).toInt64, .ref 257, .ref 258, .int 0]))).set 246 (.inl (0, .inl (List.replicate 12 0)))).set 247 (.inl (0, .inl (List.replicate 12 0))), n)) _
        refine At.enter rfl ?_
        refine r_aload_n rfl ?_
        refine r_get (v := .ref 233) (en_gs_ne (by decide) (en_gs_ne (by decide) (en_gs_eq (hm_231 _)))) rfl ?_
        refine r_bipush 10 rfl ?_
        refine r_iconst 3 rfl ?_
        refine r_iload_n rfl ?_
        refine r_imul 24 (by decide) ?_
        refine r_iadd 34 rfl ?_
        refine r_iload_n rfl ?_
        refine r_iadd 36 rfl ?_
        refine r_iald (v := 0) (en_gs_ne (by decide) (en_gs_ne (by decide) (en_gs_ne (by decide) (hm_233 _)))) (by decide) (en_gr2 7 rfl (by decide +kernel) (by decide +kernel)) ?_
        refine r_ireti ?_
        exact ⟨trivial, rfl, rfl⟩
      refine At.enter rfl ?_
      refine r_iast (en_gs_eq (en_gs_ne (by decide) (en_gs_ne (by decide) (hm_247 _)))) (by decide) (Nat.le_of_ble_eq_true rfl) (List.replicate 12 0) (by decide +kernel) ?_
      refine Ar.hp en_sd0 ?_
      refine r_iinc rfl 9 rfl ([(1, .int 9), (0, .ref 231)]) rfl ?_
      refine r_goto ?_
      refine At.enter rfl ?_
      refine r_iload_n rfl ?_
      refine r_bipush 12 rfl ?_
      refine r_icf 8 rfl (by decide) ?_
      refine At.enter rfl ?_
      refine r_aload_n rfl ?_
      refine r_get (v := .ref 246) (en_gs_ne (by decide) (en_gs_ne (by decide) (en_gs_eq (hm_231 _)))) rfl ?_
      refine r_iload_n rfl ?_
      refine r_aload_n rfl ?_
      refine r_iload_n rfl ?_
      refine r_iconst 1 rfl ?_
      refine r_callV1s (True) (.int 0) ((((en_pre a 231 hp_M).set 231 (.inr (11, [.int 0, .int 0, .ref 232, .ref 233, .ref 234, .ref 235, .int 0, .ref 236, .int 0, .int 0, .int 0, .int 0, .long 0, .int (-1), .int 0, .int 0, .ref 237, .int 0, .ref 238, .ref 239, .int 0, .ref 240, .ref 241, .int 0, .int 0, .ref 242, .ref 243, .int 0, .ref 244, .ref 245, .int 0, .long 0, .long 0, .ref 246, .ref 247, .ref 248, .int 0, .ref 249, .ref 250, .ref 251, .ref 252, .ref 253, .ref 254, .ref 255, .ref 256, .int 0, .int 0, .int 0, .long (a1).toInt64, .ref 257, .ref 258, .int 0]))).set 246 (.inl (0, .inl (List.replicate 12 0)))).set 247 (.inl (0, .inl (List.replicate 12 0))), n) 19 rfl [.ref 231, .int 9, .int 1] [.int 9, .ref 246] (Nat.le_of_ble_eq_true rfl) rfl ?_ (fun _ => ?_)
      · refine Ev.mk rfl rfl ⟨Nat.le_of_ble_eq_true rfl, Or.inr (en_rcI (en_gs_ne (by decide) (en_gs_ne (by decide) (en_gs_eq (hm_231 _)))) rfl)⟩ ?_
        show At _ none _ _ (0, [(0, .ref 231), (1, .int 9), (2, .int 1)], [], ((((en_pre a 231 hp_M).set 231 (.inr (11, [.int 0, .int 0, .ref 232, .ref 233, .ref 234, .ref 235, .int 0, .ref 236, .int 0, .int 0, .int 0, .int 0, .long 0, .int (-1), .int 0, .int 0, .ref 237, .int 0, .ref 238, .ref 239, .int 0, .ref 240, .ref 241, .int 0, .int 0, .ref 242, .ref 243, .int 0, .ref 244, .ref 245, .int 0, .long 0, .long 0, .ref 246, .ref 247, .ref 248, .int 0, .ref 249, .ref 250, .ref 251, .ref 252, .ref 253, .ref 254, .ref 255, .ref 256, .int 0, .int 0, .int 0, .long (a1).toInt64, .ref 257, .ref 258, .int 0]))).set 246 (.inl (0, .inl (List.replicate 12 0)))).set 247 (.inl (0, .inl (List.replicate 12 0))), n)) _
        refine At.enter rfl ?_
        refine r_aload_n rfl ?_
        refine r_get (v := .ref 233) (en_gs_ne (by decide) (en_gs_ne (by decide) (en_gs_eq (hm_231 _)))) rfl ?_
        refine r_bipush 10 rfl ?_
        refine r_iconst 3 rfl ?_
        refine r_iload_n rfl ?_
        refine r_imul 27 (by decide) ?_
        refine r_iadd 37 rfl ?_
        refine r_iload_n rfl ?_
        refine r_iadd 38 rfl ?_
        refine r_iald (v := 0) (en_gs_ne (by decide) (en_gs_ne (by decide) (en_gs_ne (by decide) (hm_233 _)))) (by decide) (en_gr2 7 rfl (by decide +kernel) (by decide +kernel)) ?_
        refine r_ireti ?_
        exact ⟨trivial, rfl, rfl⟩
      refine At.enter rfl ?_
      refine r_iast (en_gs_ne (by decide) (en_gs_eq (en_gs_ne (by decide) (hm_246 _)))) (by decide) (Nat.le_of_ble_eq_true rfl) (List.replicate 12 0) (by decide +kernel) ?_
      refine Ar.hp (en_sdS (by decide) en_sd0) ?_
      refine r_aload_n rfl ?_
      refine r_get (v := .ref 247) (en_gs_ne (by decide) (en_gs_ne (by decide) (en_gs_eq (hm_231 _)))) rfl ?_
      refine r_iload_n rfl ?_
      refine r_aload_n rfl ?_
      refine r_iload_n rfl ?_
      refine r_iconst 2 rfl ?_
      refine r_callV1s (True) (.int 0) ((((en_pre a 231 hp_M).set 231 (.inr (11, [.int 0, .int 0, .ref 232, .ref 233, .ref 234, .ref 235, .int 0, .ref 236, .int 0, .int 0, .int 0, .int 0, .long 0, .int (-1), .int 0, .int 0, .ref 237, .int 0, .ref 238, .ref 239, .int 0, .ref 240, .ref 241, .int 0, .int 0, .ref 242, .ref 243, .int 0, .ref 244, .ref 245, .int 0, .long 0, .long 0, .ref 246, .ref 247, .ref 248, .int 0, .ref 249, .ref 250, .ref 251, .ref 252, .ref 253, .ref 254, .ref 255, .ref 256, .int 0, .int 0, .int 0, .long (a1).toInt64, .ref 257, .ref 258, .int 0]))).set 246 (.inl (0, .inl (List.replicate 12 0)))).set 247 (.inl (0, .inl (List.replicate 12 0))), n) 31 rfl [.ref 231, .int 9, .int 2] [.int 9, .ref 247] (Nat.le_of_ble_eq_true rfl) rfl ?_ (fun _ => ?_)
      · refine Ev.mk rfl rfl ⟨Nat.le_of_ble_eq_true rfl, Or.inr (en_rcI (en_gs_ne (by decide) (en_gs_ne (by decide) (en_gs_eq (hm_231 _)))) rfl)⟩ ?_
        show At _ none _ _ (0, [(0, .ref 231), (1, .int 9), (2, .int 2)], [], ((((en_pre a 231 hp_M).set 231 (.inr (11, [.int 0, .int 0, .ref 232, .ref 233, .ref 234, .ref 235, .int 0, .ref 236, .int 0, .int 0, .int 0, .int 0, .long 0, .int (-1), .int 0, .int 0, .ref 237, .int 0, .ref 238, .ref 239, .int 0, .ref 240, .ref 241, .int 0, .int 0, .ref 242, .ref 243, .int 0, .ref 244, .ref 245, .int 0, .long 0, .long 0, .ref 246, .ref 247, .ref 248, .int 0, .ref 249, .ref 250, .ref 251, .ref 252, .ref 253, .ref 254, .ref 255, .ref 256, .int 0, .int 0, .int 0, .long (a1).toInt64, .ref 257, .ref 258, .int 0]))).set 246 (.inl (0, .inl (List.replicate 12 0)))).set 247 (.inl (0, .inl (List.replicate 12 0))), n)) _
        refine At.enter rfl ?_
        refine r_aload_n rfl ?_
        refine r_get (v := .ref 233) (en_gs_ne (by decide) (en_gs_ne (by decide) (en_gs_eq (hm_231 _)))) rfl ?_
        refine r_bipush 10 rfl ?_
        refine r_iconst 3 rfl ?_
        refine r_iload_n rfl ?_
        refine r_imul 27 (by decide) ?_
        refine r_iadd 37 rfl ?_
        refine r_iload_n rfl ?_
        refine r_iadd 39 rfl ?_
        refine r_iald (v := 0) (en_gs_ne (by decide) (en_gs_ne (by decide) (en_gs_ne (by decide) (hm_233 _)))) (by decide) (en_gr2 7 rfl (by decide +kernel) (by decide +kernel)) ?_
        refine r_ireti ?_
        exact ⟨trivial, rfl, rfl⟩
      refine At.enter rfl ?_
      refine r_iast (en_gs_eq (en_gs_ne (by decide) (en_gs_ne (by decide) (hm_247 _)))) (by decide) (Nat.le_of_ble_eq_true rfl) (List.replicate 12 0) (by decide +kernel) ?_
      refine Ar.hp en_sd0 ?_
      refine r_iinc rfl 10 rfl ([(1, .int 10), (0, .ref 231)]) rfl ?_
      refine r_goto ?_
      refine At.enter rfl ?_
      refine r_iload_n rfl ?_
      refine r_bipush 12 rfl ?_
      refine r_icf 8 rfl (by decide) ?_
      refine At.enter rfl ?_
      refine r_aload_n rfl ?_
      refine r_get (v := .ref 246) (en_gs_ne (by decide) (en_gs_ne (by decide) (en_gs_eq (hm_231 _)))) rfl ?_
      refine r_iload_n rfl ?_
      refine r_aload_n rfl ?_
      refine r_iload_n rfl ?_
      refine r_iconst 1 rfl ?_
      refine r_callV1s (True) (.int 0) ((((en_pre a 231 hp_M).set 231 (.inr (11, [.int 0, .int 0, .ref 232, .ref 233, .ref 234, .ref 235, .int 0, .ref 236, .int 0, .int 0, .int 0, .int 0, .long 0, .int (-1), .int 0, .int 0, .ref 237, .int 0, .ref 238, .ref 239, .int 0, .ref 240, .ref 241, .int 0, .int 0, .ref 242, .ref 243, .int 0, .ref 244, .ref 245, .int 0, .long 0, .long 0, .ref 246, .ref 247, .ref 248, .int 0, .ref 249, .ref 250, .ref 251, .ref 252, .ref 253, .ref 254, .ref 255, .ref 256, .int 0, .int 0, .int 0, .long (a1).toInt64, .ref 257, .ref 258, .int 0]))).set 246 (.inl (0, .inl (List.replicate 12 0)))).set 247 (.inl (0, .inl (List.replicate 12 0))), n) 19 rfl [.ref 231, .int 10, .int 1] [.int 10, .ref 246] (Nat.le_of_ble_eq_true rfl) rfl ?_ (fun _ => ?_)
      · refine Ev.mk rfl rfl ⟨Nat.le_of_ble_eq_true rfl, Or.inr (en_rcI (en_gs_ne (by decide) (en_gs_ne (by decide) (en_gs_eq (hm_231 _)))) rfl)⟩ ?_
        show At _ none _ _ (0, [(0, .ref 231), (1, .int 10), (2, .int 1)], [], ((((en_pre a 231 hp_M).set 231 (.inr (11, [.int 0, .int 0, .ref 232, .ref 233, .ref 234, .ref 235, .int 0, .ref 236, .int 0, .int 0, .int 0, .int 0, .long 0, .int (-1), .int 0, .int 0, .ref 237, .int 0, .ref 238, .ref 239, .int 0, .ref 240, .ref 241, .int 0, .int 0, .ref 242, .ref 243, .int 0, .ref 244, .ref 245, .int 0, .long 0, .long 0, .ref 246, .ref 247, .ref 248, .int 0, .ref 249, .ref 250, .ref 251, .ref 252, .ref 253, .ref 254, .ref 255, .ref 256, .int 0, .int 0, .int 0, .long (a1).toInt64, .ref 257, .ref 258, .int 0]))).set 246 (.inl (0, .inl (List.replicate 12 0)))).set 247 (.inl (0, .inl (List.replicate 12 0))), n)) _
        refine At.enter rfl ?_
        refine r_aload_n rfl ?_
        refine r_get (v := .ref 233) (en_gs_ne (by decide) (en_gs_ne (by decide) (en_gs_eq (hm_231 _)))) rfl ?_
        refine r_bipush 10 rfl ?_
        refine r_iconst 3 rfl ?_
        refine r_iload_n rfl ?_
        refine r_imul 30 (by decide) ?_
        refine r_iadd 40 rfl ?_
        refine r_iload_n rfl ?_
        refine r_iadd 41 rfl ?_
        refine r_iald (v := 0) (en_gs_ne (by decide) (en_gs_ne (by decide) (en_gs_ne (by decide) (hm_233 _)))) (by decide) (en_gr2 7 rfl (by decide +kernel) (by decide +kernel)) ?_
        refine r_ireti ?_
        exact ⟨trivial, rfl, rfl⟩
      refine At.enter rfl ?_
      refine r_iast (en_gs_ne (by decide) (en_gs_eq (en_gs_ne (by decide) (hm_246 _)))) (by decide) (Nat.le_of_ble_eq_true rfl) (List.replicate 12 0) (by decide +kernel) ?_
      refine Ar.hp (en_sdS (by decide) en_sd0) ?_
      refine r_aload_n rfl ?_
      refine r_get (v := .ref 247) (en_gs_ne (by decide) (en_gs_ne (by decide) (en_gs_eq (hm_231 _)))) rfl ?_
      refine r_iload_n rfl ?_
      refine r_aload_n rfl ?_
      refine r_iload_n rfl ?_
      refine r_iconst 2 rfl ?_
      refine r_callV1s (True) (.int 0) ((((en_pre a 231 hp_M).set 231 (.inr (11, [.int 0, .int 0, .ref 232, .ref 233, .ref 234, .ref 235, .int 0, .ref 236, .int 0, .int 0, .int 0, .int 0, .long 0, .int (-1), .int 0, .int 0, .ref 237, .int 0, .ref 238, .ref 239, .int 0, .ref 240, .ref 241, .int 0, .int 0, .ref 242, .ref 243, .int 0, .ref 244, .ref 245, .int 0, .long 0, .long 0, .ref 246, .ref 247, .ref 248, .int 0, .ref 249, .ref 250, .ref 251, .ref 252, .ref 253, .ref 254, .ref 255, .ref 256, .int 0, .int 0, .int 0, .long (a1).toInt64, .ref 257, .ref 258, .int 0]))).set 246 (.inl (0, .inl (List.replicate 12 0)))).set 247 (.inl (0, .inl (List.replicate 12 0))), n) 31 rfl [.ref 231, .int 10, .int 2] [.int 10, .ref 247] (Nat.le_of_ble_eq_true rfl) rfl ?_ (fun _ => ?_)
      · refine Ev.mk rfl rfl ⟨Nat.le_of_ble_eq_true rfl, Or.inr (en_rcI (en_gs_ne (by decide) (en_gs_ne (by decide) (en_gs_eq (hm_231 _)))) rfl)⟩ ?_
        show At _ none _ _ (0, [(0, .ref 231), (1, .int 10), (2, .int 2)], [], ((((en_pre a 231 hp_M).set 231 (.inr (11, [.int 0, .int 0, .ref 232, .ref 233, .ref 234, .ref 235, .int 0, .ref 236, .int 0, .int 0, .int 0, .int 0, .long 0, .int (-1), .int 0, .int 0, .ref 237, .int 0, .ref 238, .ref 239, .int 0, .ref 240, .ref 241, .int 0, .int 0, .ref 242, .ref 243, .int 0, .ref 244, .ref 245, .int 0, .long 0, .long 0, .ref 246, .ref 247, .ref 248, .int 0, .ref 249, .ref 250, .ref 251, .ref 252, .ref 253, .ref 254, .ref 255, .ref 256, .int 0, .int 0, .int 0, .long (a1).toInt64, .ref 257, .ref 258, .int 0]))).set 246 (.inl (0, .inl (List.replicate 12 0)))).set 247 (.inl (0, .inl (List.replicate 12 0))), n)) _
        refine At.enter rfl ?_
        refine r_aload_n rfl ?_
        refine r_get (v := .ref 233) (en_gs_ne (by decide) (en_gs_ne (by decide) (en_gs_eq (hm_231 _)))) rfl ?_
        refine r_bipush 10 rfl ?_
        refine r_iconst 3 rfl ?_
        refine r_iload_n rfl ?_
        refine r_imul 30 (by decide) ?_
        refine r_iadd 40 rfl ?_
        refine r_iload_n rfl ?_
        refine r_iadd 42 rfl ?_
        refine r_iald (v := 0) (en_gs_ne (by decide) (en_gs_ne (by decide) (en_gs_ne (by decide) (hm_233 _)))) (by decide) (en_gr2 7 rfl (by decide +kernel) (by decide +kernel)) ?_
        refine r_ireti ?_
        exact ⟨trivial, rfl, rfl⟩
      refine At.enter rfl ?_
      refine r_iast (en_gs_eq (en_gs_ne (by decide) (en_gs_ne (by decide) (hm_247 _)))) (by decide) (Nat.le_of_ble_eq_true rfl) (List.replicate 12 0) (by decide +kernel) ?_
      refine Ar.hp en_sd0 ?_
      refine r_iinc rfl 11 rfl ([(1, .int 11), (0, .ref 231)]) rfl ?_
      refine r_goto ?_
      refine At.enter rfl ?_
      refine r_iload_n rfl ?_
      refine r_bipush 12 rfl ?_
      refine r_icf 8 rfl (by decide) ?_
      refine At.enter rfl ?_
      refine r_aload_n rfl ?_
      refine r_get (v := .ref 246) (en_gs_ne (by decide) (en_gs_ne (by decide) (en_gs_eq (hm_231 _)))) rfl ?_
      refine r_iload_n rfl ?_
      refine r_aload_n rfl ?_
      refine r_iload_n rfl ?_
      refine r_iconst 1 rfl ?_
      refine r_callV1s (True) (.int 0) ((((en_pre a 231 hp_M).set 231 (.inr (11, [.int 0, .int 0, .ref 232, .ref 233, .ref 234, .ref 235, .int 0, .ref 236, .int 0, .int 0, .int 0, .int 0, .long 0, .int (-1), .int 0, .int 0, .ref 237, .int 0, .ref 238, .ref 239, .int 0, .ref 240, .ref 241, .int 0, .int 0, .ref 242, .ref 243, .int 0, .ref 244, .ref 245, .int 0, .long 0, .long 0, .ref 246, .ref 247, .ref 248, .int 0, .ref 249, .ref 250, .ref 251, .ref 252, .ref 253, .ref 254, .ref 255, .ref 256, .int 0, .int 0, .int 0, .long (a1).toInt64, .ref 257, .ref 258, .int 0]))).set 246 (.inl (0, .inl (List.replicate 12 0)))).set 247 (.inl (0, .inl (List.replicate 12 0))), n) 19 rfl [.ref 231, .int 11, .int 1] [.int 11, .ref 246] (Nat.le_of_ble_eq_true rfl) rfl ?_ (fun _ => ?_)
      · refine Ev.mk rfl rfl ⟨Nat.le_of_ble_eq_true rfl, Or.inr (en_rcI (en_gs_ne (by decide) (en_gs_ne (by decide) (en_gs_eq (hm_231 _)))) rfl)⟩ ?_
        show At _ none _ _ (0, [(0, .ref 231), (1, .int 11), (2, .int 1)], [], ((((en_pre a 231 hp_M).set 231 (.inr (11, [.int 0, .int 0, .ref 232, .ref 233, .ref 234, .ref 235, .int 0, .ref 236, .int 0, .int 0, .int 0, .int 0, .long 0, .int (-1), .int 0, .int 0, .ref 237, .int 0, .ref 238, .ref 239, .int 0, .ref 240, .ref 241, .int 0, .int 0, .ref 242, .ref 243, .int 0, .ref 244, .ref 245, .int 0, .long 0, .long 0, .ref 246, .ref 247, .ref 248, .int 0, .ref 249, .ref 250, .ref 251, .ref 252, .ref 253, .ref 254, .ref 255, .ref 256, .int 0, .int 0, .int 0, .long (a1).toInt64, .ref 257, .ref 258, .int 0]))).set 246 (.inl (0, .inl (List.replicate 12 0)))).set 247 (.inl (0, .inl (List.replicate 12 0))), n)) _
        refine At.enter rfl ?_
        refine r_aload_n rfl ?_
        refine r_get (v := .ref 233) (en_gs_ne (by decide) (en_gs_ne (by decide) (en_gs_eq (hm_231 _)))) rfl ?_
        refine r_bipush 10 rfl ?_
        refine r_iconst 3 rfl ?_
        refine r_iload_n rfl ?_
        refine r_imul 33 (by decide) ?_
        refine r_iadd 43 rfl ?_
        refine r_iload_n rfl ?_
        refine r_iadd 44 rfl ?_
        refine r_iald (v := 0) (en_gs_ne (by decide) (en_gs_ne (by decide) (en_gs_ne (by decide) (hm_233 _)))) (by decide) (en_gr2 7 rfl (by decide +kernel) (by decide +kernel)) ?_
        refine r_ireti ?_
        exact ⟨trivial, rfl, rfl⟩
      refine At.enter rfl ?_
      refine r_iast (en_gs_ne (by decide) (en_gs_eq (en_gs_ne (by decide) (hm_246 _)))) (by decide) (Nat.le_of_ble_eq_true rfl) (List.replicate 12 0) (by decide +kernel) ?_
      refine Ar.hp (en_sdS (by decide) en_sd0) ?_
      refine r_aload_n rfl ?_
      refine r_get (v := .ref 247) (en_gs_ne (by decide) (en_gs_ne (by decide) (en_gs_eq (hm_231 _)))) rfl ?_
      refine r_iload_n rfl ?_
      refine r_aload_n rfl ?_
      refine r_iload_n rfl ?_
      refine r_iconst 2 rfl ?_
      refine r_callV1s (True) (.int 0) ((((en_pre a 231 hp_M).set 231 (.inr (11, [.int 0, .int 0, .ref 232, .ref 233, .ref 234, .ref 235, .int 0, .ref 236, .int 0, .int 0, .int 0, .int 0, .long 0, .int (-1), .int 0, .int 0, .ref 237, .int 0, .ref 238, .ref 239, .int 0, .ref 240, .ref 241, .int 0, .int 0, .ref 242, .ref 243, .int 0, .ref 244, .ref 245, .int 0, .long 0, .long 0, .ref 246, .ref 247, .ref 248, .int 0, .ref 249, .ref 250, .ref 251, .ref 252, .ref 253, .ref 254, .ref 255, .ref 256, .int 0, .int 0, .int 0, .long (a1).toInt64, .ref 257, .ref 258, .int 0]))).set 246 (.inl (0, .inl (List.replicate 12 0)))).set 247 (.inl (0, .inl (List.replicate 12 0))), n) 31 rfl [.ref 231, .int 11, .int 2] [.int 11, .ref 247] (Nat.le_of_ble_eq_true rfl) rfl ?_ (fun _ => ?_)
      · refine Ev.mk rfl rfl ⟨Nat.le_of_ble_eq_true rfl, Or.inr (en_rcI (en_gs_ne (by decide) (en_gs_ne (by decide) (en_gs_eq (hm_231 _)))) rfl)⟩ ?_
        show At _ none _ _ (0, [(0, .ref 231), (1, .int 11), (2, .int 2)], [], ((((en_pre a 231 hp_M).set 231 (.inr (11, [.int 0, .int 0, .ref 232, .ref 233, .ref 234, .ref 235, .int 0, .ref 236, .int 0, .int 0, .int 0, .int 0, .long 0, .int (-1), .int 0, .int 0, .ref 237, .int 0, .ref 238, .ref 239, .int 0, .ref 240, .ref 241, .int 0, .int 0, .ref 242, .ref 243, .int 0, .ref 244, .ref 245, .int 0, .long 0, .long 0, .ref 246, .ref 247, .ref 248, .int 0, .ref 249, .ref 250, .ref 251, .ref 252, .ref 253, .ref 254, .ref 255, .ref 256, .int 0, .int 0, .int 0, .long (a1).toInt64, .ref 257, .ref 258, .int 0]))).set 246 (.inl (0, .inl (List.replicate 12 0)))).set 247 (.inl (0, .inl (List.replicate 12 0))), n)) _
        refine At.enter rfl ?_
        refine r_aload_n rfl ?_
        refine r_get (v := .ref 233) (en_gs_ne (by decide) (en_gs_ne (by decide) (en_gs_eq (hm_231 _)))) rfl ?_
        refine r_bipush 10 rfl ?_
        refine r_iconst 3 rfl ?_
        refine r_iload_n rfl ?_
        refine r_imul 33 (by decide) ?_
        refine r_iadd 43 rfl ?_
        refine r_iload_n rfl ?_
        refine r_iadd 45 rfl ?_
        refine r_iald (v := 0) (en_gs_ne (by decide) (en_gs_ne (by decide) (en_gs_ne (by decide) (hm_233 _)))) (by decide) (en_gr2 7 rfl (by decide +kernel) (by decide +kernel)) ?_
        refine r_ireti ?_
        exact ⟨trivial, rfl, rfl⟩
      refine At.enter rfl ?_
      refine r_iast (en_gs_eq (en_gs_ne (by decide) (en_gs_ne (by decide) (hm_247 _)))) (by decide) (Nat.le_of_ble_eq_true rfl) (List.replicate 12 0) (by decide +kernel) ?_
      refine Ar.hp en_sd0 ?_
      refine r_iinc rfl 12 rfl ([(1, .int 12), (0, .ref 231)]) rfl ?_
      refine r_goto ?_
      refine At.enter rfl ?_
      refine r_iload_n rfl ?_
      refine r_bipush 12 rfl ?_
      refine r_ict (by decide) ?_
      refine At.enter rfl ?_
      refine r_iconst 0 rfl ?_
      refine r_istore_n ([(1, .int 0), (0, .ref 231)]) rfl ?_
      refine Ar.fall 40 rfl ?_
      refine At.enter rfl ?_
      refine r_iload_n rfl ?_
      refine r_bipush 8 rfl ?_
      refine r_icf 46 rfl (by decide) ?_
      refine At.enter rfl ?_
      refine r_aload_n rfl ?_
      refine r_get (v := .ref 248) (en_gs_ne (by decide) (en_gs_ne (by decide) (en_gs_eq (hm_231 _)))) rfl ?_
      refine r_iload_n rfl ?_
      refine r_aload_n rfl ?_
      refine r_iload_n rfl ?_
      refine r_iconst 3 rfl ?_
      refine r_callV1s (True) (.int 0) ((((en_pre a 231 hp_M).set 231 (.inr (11, [.int 0, .int 0, .ref 232, .ref 233, .ref 234, .ref 235, .int 0, .ref 236, .int 0, .int 0, .int 0, .int 0, .long 0, .int (-1), .int 0, .int 0, .ref 237, .int 0, .ref 238, .ref 239, .int 0, .ref 240, .ref 241, .int 0, .int 0, .ref 242, .ref 243, .int 0, .ref 244, .ref 245, .int 0, .long 0, .long 0, .ref 246, .ref 247, .ref 248, .int 0, .ref 249, .ref 250, .ref 251, .ref 252, .ref 253, .ref 254, .ref 255, .ref 256, .int 0, .int 0, .int 0, .long (a1).toInt64, .ref 257, .ref 258, .int 0]))).set 246 (.inl (0, .inl (List.replicate 12 0)))).set 247 (.inl (0, .inl (List.replicate 12 0))), n) 57 rfl [.ref 231, .int 0, .int 3] [.int 0, .ref 248] (Nat.le_of_ble_eq_true rfl) rfl ?_ (fun _ => ?_)
      · refine Ev.mk rfl rfl ⟨Nat.le_of_ble_eq_true rfl, Or.inr (en_rcI (en_gs_ne (by decide) (en_gs_ne (by decide) (en_gs_eq (hm_231 _)))) rfl)⟩ ?_
        show At _ none _ _ (0, [(0, .ref 231), (1, .int 0), (2, .int 3)], [], ((((en_pre a 231 hp_M).set 231 (.inr (11, [.int 0, .int 0, .ref 232, .ref 233, .ref 234, .ref 235, .int 0, .ref 236, .int 0, .int 0, .int 0, .int 0, .long 0, .int (-1), .int 0, .int 0, .ref 237, .int 0, .ref 238, .ref 239, .int 0, .ref 240, .ref 241, .int 0, .int 0, .ref 242, .ref 243, .int 0, .ref 244, .ref 245, .int 0, .long 0, .long 0, .ref 246, .ref 247, .ref 248, .int 0, .ref 249, .ref 250, .ref 251, .ref 252, .ref 253, .ref 254, .ref 255, .ref 256, .int 0, .int 0, .int 0, .long (a1).toInt64, .ref 257, .ref 258, .int 0]))).set 246 (.inl (0, .inl (List.replicate 12 0)))).set 247 (.inl (0, .inl (List.replicate 12 0))), n)) _
        refine At.enter rfl ?_
        refine r_aload_n rfl ?_
        refine r_get (v := .ref 233) (en_gs_ne (by decide) (en_gs_ne (by decide) (en_gs_eq (hm_231 _)))) rfl ?_
        refine r_bipush 46 rfl ?_
        refine r_bipush 6 rfl ?_
        refine r_iload_n rfl ?_
        refine r_imul 0 (by decide) ?_
        refine r_iadd 46 rfl ?_
        refine r_iload_n rfl ?_
        refine r_iadd 49 rfl ?_
        refine r_iald (v := 0) (en_gs_ne (by decide) (en_gs_ne (by decide) (en_gs_ne (by decide) (hm_233 _)))) (by decide) (en_gr2 7 rfl (by decide +kernel) (by decide +kernel)) ?_
        refine r_ireti ?_
        exact ⟨trivial, rfl, rfl⟩
      refine At.enter rfl ?_
      refine r_iast (en_gs_ne (by decide) (en_gs_ne (by decide) (en_gs_ne (by decide) (hm_248 _)))) (by decide) (Nat.le_of_ble_eq_true rfl) (List.replicate 8 0) (by decide +kernel) ?_
      refine r_iinc rfl 1 rfl ([(1, .int 1), (0, .ref 231)]) rfl ?_
      refine r_goto ?_
      refine At.enter rfl ?_
      refine r_iload_n rfl ?_
      refine r_bipush 8 rfl ?_
      refine r_icf 46 rfl (by decide) ?_
      refine At.enter rfl ?_
      refine r_aload_n rfl ?_
      refine r_get (v := .ref 248) (en_gs_ne (by decide) (en_gs_ne (by decide) (en_gs_ne (by decide) (en_gs_eq (hm_231 _))))) rfl ?_
      refine r_iload_n rfl ?_
      refine r_aload_n rfl ?_
      refine r_iload_n rfl ?_
      refine r_iconst 3 rfl ?_
      refine r_callV1s (True) (.int 0) (((((en_pre a 231 hp_M).set 231 (.inr (11, [.int 0, .int 0, .ref 232, .ref 233, .ref 234, .ref 235, .int 0, .ref 236, .int 0, .int 0, .int 0, .int 0, .long 0, .int (-1), .int 0, .int 0, .ref 237, .int 0, .ref 238, .ref 239, .int 0, .ref 240, .ref 241, .int 0, .int 0, .ref 242, .ref 243, .int 0, .ref 244, .ref 245, .int 0, .long 0, .long 0, .ref 246, .ref 247, .ref 248, .int 0, .ref 249, .ref 250, .ref 251, .ref 252, .ref 253, .ref 254, .ref 255, .ref 256, .int 0, .int 0, .int 0, .long (a1).toInt64, .ref 257, .ref 258, .int 0]))).set 246 (.inl (0, .inl (List.replicate 12 0)))).set 247 (.inl (0, .inl (List.replicate 12 0)))).set 248 (.inl (0, .inl (List.replicate 8 0))), n) 57 rfl [.ref 231, .int 1, .int 3] [.int 1, .ref 248] (Nat.le_of_ble_eq_true rfl) rfl ?_ (fun _ => ?_)
      · refine Ev.mk rfl rfl ⟨Nat.le_of_ble_eq_true rfl, Or.inr (en_rcI (en_gs_ne (by decide) (en_gs_ne (by decide) (en_gs_ne (by decide) (en_gs_eq (hm_231 _))))) rfl)⟩ ?_
        show At _ none _ _ (0, [(0, .ref 231), (1, .int 1), (2, .int 3)], [], (((((en_pre a 231 hp_M).set 231 (.inr (11, [.int 0, .int 0, .ref 232, .ref 233, .ref 234, .ref 235, .int 0, .ref 236, .int 0, .int 0, .int 0, .int 0, .long 0, .int (-1), .int 0, .int 0, .ref 237, .int 0, .ref 238, .ref 239, .int 0, .ref 240, .ref 241, .int 0, .int 0, .ref 242, .ref 243, .int 0, .ref 244, .ref 245, .int 0, .long 0, .long 0, .ref 246, .ref 247, .ref 248, .int 0, .ref 249, .ref 250, .ref 251, .ref 252, .ref 253, .ref 254, .ref 255, .ref 256, .int 0, .int 0, .int 0, .long (a1).toInt64, .ref 257, .ref 258, .int 0]))).set 246 (.inl (0, .inl (List.replicate 12 0)))).set 247 (.inl (0, .inl (List.replicate 12 0)))).set 248 (.inl (0, .inl (List.replicate 8 0))), n)) _
        refine At.enter rfl ?_
        refine r_aload_n rfl ?_
        refine r_get (v := .ref 233) (en_gs_ne (by decide) (en_gs_ne (by decide) (en_gs_ne (by decide) (en_gs_eq (hm_231 _))))) rfl ?_
        refine r_bipush 46 rfl ?_
        refine r_bipush 6 rfl ?_
        refine r_iload_n rfl ?_
        refine r_imul 6 (by decide) ?_
        refine r_iadd 52 rfl ?_
        refine r_iload_n rfl ?_
        refine r_iadd 55 rfl ?_
        refine r_iald (v := 0) (en_gs_ne (by decide) (en_gs_ne (by decide) (en_gs_ne (by decide) (en_gs_ne (by decide) (hm_233 _))))) (by decide) (en_gr2 7 rfl (by decide +kernel) (by decide +kernel)) ?_
        refine r_ireti ?_
        exact ⟨trivial, rfl, rfl⟩
      refine At.enter rfl ?_
      refine r_iast (en_gs_eq (en_gs_ne (by decide) (en_gs_ne (by decide) (en_gs_ne (by decide) (hm_248 _))))) (by decide) (Nat.le_of_ble_eq_true rfl) (List.replicate 8 0) (by decide +kernel) ?_
      refine Ar.hp en_sd0 ?_
      refine r_iinc rfl 2 rfl ([(1, .int 2), (0, .ref 231)]) rfl ?_
      refine r_goto ?_
      refine At.enter rfl ?_
      refine r_iload_n rfl ?_
      refine r_bipush 8 rfl ?_
      refine r_icf 46 rfl (by decide) ?_
      refine At.enter rfl ?_
      refine r_aload_n rfl ?_
      refine r_get (v := .ref 248) (en_gs_ne (by decide) (en_gs_ne (by decide) (en_gs_ne (by decide) (en_gs_eq (hm_231 _))))) rfl ?_
      refine r_iload_n rfl ?_
      refine r_aload_n rfl ?_
      refine r_iload_n rfl ?_
      refine r_iconst 3 rfl ?_
      refine r_callV1s (True) (.int 0) (((((en_pre a 231 hp_M).set 231 (.inr (11, [.int 0, .int 0, .ref 232, .ref 233, .ref 234, .ref 235, .int 0, .ref 236, .int 0, .int 0, .int 0, .int 0, .long 0, .int (-1), .int 0, .int 0, .ref 237, .int 0, .ref 238, .ref 239, .int 0, .ref 240, .ref 241, .int 0, .int 0, .ref 242, .ref 243, .int 0, .ref 244, .ref 245, .int 0, .long 0, .long 0, .ref 246, .ref 247, .ref 248, .int 0, .ref 249, .ref 250, .ref 251, .ref 252, .ref 253, .ref 254, .ref 255, .ref 256, .int 0, .int 0, .int 0, .long (a1).toInt64, .ref 257, .ref 258, .int 0]))).set 246 (.inl (0, .inl (List.replicate 12 0)))).set 247 (.inl (0, .inl (List.replicate 12 0)))).set 248 (.inl (0, .inl (List.replicate 8 0))), n) 57 rfl [.ref 231, .int 2, .int 3] [.int 2, .ref 248] (Nat.le_of_ble_eq_true rfl) rfl ?_ (fun _ => ?_)
      · refine Ev.mk rfl rfl ⟨Nat.le_of_ble_eq_true rfl, Or.inr (en_rcI (en_gs_ne (by decide) (en_gs_ne (by decide) (en_gs_ne (by decide) (en_gs_eq (hm_231 _))))) rfl)⟩ ?_
        show At _ none _ _ (0, [(0, .ref 231), (1, .int 2), (2, .int 3)], [], (((((en_pre a 231 hp_M).set 231 (.inr (11, [.int 0, .int 0, .ref 232, .ref 233, .ref 234, .ref 235, .int 0, .ref 236, .int 0, .int 0, .int 0, .int 0, .long 0, .int (-1), .int 0, .int 0, .ref 237, .int 0, .ref 238, .ref 239, .int 0, .ref 240, .ref 241, .int 0, .int 0, .ref 242, .ref 243, .int 0, .ref 244, .ref 245, .int 0, .long 0, .long 0, .ref 246, .ref 247, .ref 248, .int 0, .ref 249, .ref 250, .ref 251, .ref 252, .ref 253, .ref 254, .ref 255, .ref 256, .int 0, .int 0, .int 0, .long (a1).toInt64, .ref 257, .ref 258, .int 0]))).set 246 (.inl (0, .inl (List.replicate 12 0)))).set 247 (.inl (0, .inl (List.replicate 12 0)))).set 248 (.inl (0, .inl (List.replicate 8 0))), n)) _
        refine At.enter rfl ?_
        refine r_aload_n rfl ?_
        refine r_get (v := .ref 233) (en_gs_ne (by decide) (en_gs_ne (by decide) (en_gs_ne (by decide) (en_gs_eq (hm_231 _))))) rfl ?_
        refine r_bipush 46 rfl ?_
        refine r_bipush 6 rfl ?_
        refine r_iload_n rfl ?_
        refine r_imul 12 (by decide) ?_
        refine r_iadd 58 rfl ?_
        refine r_iload_n rfl ?_
        refine r_iadd 61 rfl ?_
        refine r_iald (v := 0) (en_gs_ne (by decide) (en_gs_ne (by decide) (en_gs_ne (by decide) (en_gs_ne (by decide) (hm_233 _))))) (by decide) (en_gr2 7 rfl (by decide +kernel) (by decide +kernel)) ?_
        refine r_ireti ?_
        exact ⟨trivial, rfl, rfl⟩
      refine At.enter rfl ?_
      refine r_iast (en_gs_eq (en_gs_ne (by decide) (en_gs_ne (by decide) (en_gs_ne (by decide) (hm_248 _))))) (by decide) (Nat.le_of_ble_eq_true rfl) (List.replicate 8 0) (by decide +kernel) ?_
      refine Ar.hp en_sd0 ?_
      refine r_iinc rfl 3 rfl ([(1, .int 3), (0, .ref 231)]) rfl ?_
      refine r_goto ?_
      refine At.enter rfl ?_
      refine r_iload_n rfl ?_
      refine r_bipush 8 rfl ?_
      refine r_icf 46 rfl (by decide) ?_
      refine At.enter rfl ?_
      refine r_aload_n rfl ?_
      refine r_get (v := .ref 248) (en_gs_ne (by decide) (en_gs_ne (by decide) (en_gs_ne (by decide) (en_gs_eq (hm_231 _))))) rfl ?_
      refine r_iload_n rfl ?_
      refine r_aload_n rfl ?_
      refine r_iload_n rfl ?_
      refine r_iconst 3 rfl ?_
      refine r_callV1s (True) (.int 0) (((((en_pre a 231 hp_M).set 231 (.inr (11, [.int 0, .int 0, .ref 232, .ref 233, .ref 234, .ref 235, .int 0, .ref 236, .int 0, .int 0, .int 0, .int 0, .long 0, .int (-1), .int 0, .int 0, .ref 237, .int 0, .ref 238, .ref 239, .int 0, .ref 240, .ref 241, .int 0, .int 0, .ref 242, .ref 243, .int 0, .ref 244, .ref 245, .int 0, .long 0, .long 0, .ref 246, .ref 247, .ref 248, .int 0, .ref 249, .ref 250, .ref 251, .ref 252, .ref 253, .ref 254, .ref 255, .ref 256, .int 0, .int 0, .int 0, .long (a1).toInt64, .ref 257, .ref 258, .int 0]))).set 246 (.inl (0, .inl (List.replicate 12 0)))).set 247 (.inl (0, .inl (List.replicate 12 0)))).set 248 (.inl (0, .inl (List.replicate 8 0))), n) 57 rfl [.ref 231, .int 3, .int 3] [.int 3, .ref 248] (Nat.le_of_ble_eq_true rfl) rfl ?_ (fun _ => ?_)
      · refine Ev.mk rfl rfl ⟨Nat.le_of_ble_eq_true rfl, Or.inr (en_rcI (en_gs_ne (by decide) (en_gs_ne (by decide) (en_gs_ne (by decide) (en_gs_eq (hm_231 _))))) rfl)⟩ ?_
        show At _ none _ _ (0, [(0, .ref 231), (1, .int 3), (2, .int 3)], [], (((((en_pre a 231 hp_M).set 231 (.inr (11, [.int 0, .int 0, .ref 232, .ref 233, .ref 234, .ref 235, .int 0, .ref 236, .int 0, .int 0, .int 0, .int 0, .long 0, .int (-1), .int 0, .int 0, .ref 237, .int 0, .ref 238, .ref 239, .int 0, .ref 240, .ref 241, .int 0, .int 0, .ref 242, .ref 243, .int 0, .ref 244, .ref 245, .int 0, .long 0, .long 0, .ref 246, .ref 247, .ref 248, .int 0, .ref 249, .ref 250, .ref 251, .ref 252, .ref 253, .ref 254, .ref 255, .ref 256, .int 0, .int 0, .int 0, .long (a1).toInt64, .ref 257, .ref 258, .int 0]))).set 246 (.inl (0, .inl (List.replicate 12 0)))).set 247 (.inl (0, .inl (List.replicate 12 0)))).set 248 (.inl (0, .inl (List.replicate 8 0))), n)) _
        refine At.enter rfl ?_
        refine r_aload_n rfl ?_
        refine r_get (v := .ref 233) (en_gs_ne (by decide) (en_gs_ne (by decide) (en_gs_ne (by decide) (en_gs_eq (hm_231 _))))) rfl ?_
        refine r_bipush 46 rfl ?_
        refine r_bipush 6 rfl ?_
        refine r_iload_n rfl ?_
        refine r_imul 18 (by decide) ?_
        refine r_iadd 64 rfl ?_
        refine r_iload_n rfl ?_
        refine r_iadd 67 rfl ?_
        refine r_iald (v := 0) (en_gs_ne (by decide) (en_gs_ne (by decide) (en_gs_ne (by decide) (en_gs_ne (by decide) (hm_233 _))))) (by decide) (en_gr2 7 rfl (by decide +kernel) (by decide +kernel)) ?_
        refine r_ireti ?_
        exact ⟨trivial, rfl, rfl⟩
      refine At.enter rfl ?_
      refine r_iast (en_gs_eq (en_gs_ne (by decide) (en_gs_ne (by decide) (en_gs_ne (by decide) (hm_248 _))))) (by decide) (Nat.le_of_ble_eq_true rfl) (List.replicate 8 0) (by decide +kernel) ?_
      refine Ar.hp en_sd0 ?_
      refine r_iinc rfl 4 rfl ([(1, .int 4), (0, .ref 231)]) rfl ?_
      refine r_goto ?_
      refine At.enter rfl ?_
      refine r_iload_n rfl ?_
      refine r_bipush 8 rfl ?_
      refine r_icf 46 rfl (by decide) ?_
      refine At.enter rfl ?_
      refine r_aload_n rfl ?_
      refine r_get (v := .ref 248) (en_gs_ne (by decide) (en_gs_ne (by decide) (en_gs_ne (by decide) (en_gs_eq (hm_231 _))))) rfl ?_
      refine r_iload_n rfl ?_
      refine r_aload_n rfl ?_
      refine r_iload_n rfl ?_
      refine r_iconst 3 rfl ?_
      refine r_callV1s (True) (.int 0) (((((en_pre a 231 hp_M).set 231 (.inr (11, [.int 0, .int 0, .ref 232, .ref 233, .ref 234, .ref 235, .int 0, .ref 236, .int 0, .int 0, .int 0, .int 0, .long 0, .int (-1), .int 0, .int 0, .ref 237, .int 0, .ref 238, .ref 239, .int 0, .ref 240, .ref 241, .int 0, .int 0, .ref 242, .ref 243, .int 0, .ref 244, .ref 245, .int 0, .long 0, .long 0, .ref 246, .ref 247, .ref 248, .int 0, .ref 249, .ref 250, .ref 251, .ref 252, .ref 253, .ref 254, .ref 255, .ref 256, .int 0, .int 0, .int 0, .long (a1).toInt64, .ref 257, .ref 258, .int 0]))).set 246 (.inl (0, .inl (List.replicate 12 0)))).set 247 (.inl (0, .inl (List.replicate 12 0)))).set 248 (.inl (0, .inl (List.replicate 8 0))), n) 57 rfl [.ref 231, .int 4, .int 3] [.int 4, .ref 248] (Nat.le_of_ble_eq_true rfl) rfl ?_ (fun _ => ?_)
      · refine Ev.mk rfl rfl ⟨Nat.le_of_ble_eq_true rfl, Or.inr (en_rcI (en_gs_ne (by decide) (en_gs_ne (by decide) (en_gs_ne (by decide) (en_gs_eq (hm_231 _))))) rfl)⟩ ?_
        show At _ none _ _ (0, [(0, .ref 231), (1, .int 4), (2, .int 3)], [], (((((en_pre a 231 hp_M).set 231 (.inr (11, [.int 0, .int 0, .ref 232, .ref 233, .ref 234, .ref 235, .int 0, .ref 236, .int 0, .int 0, .int 0, .int 0, .long 0, .int (-1), .int 0, .int 0, .ref 237, .int 0, .ref 238, .ref 239, .int 0, .ref 240, .ref 241, .int 0, .int 0, .ref 242, .ref 243, .int 0, .ref 244, .ref 245, .int 0, .long 0, .long 0, .ref 246, .ref 247, .ref 248, .int 0, .ref 249, .ref 250, .ref 251, .ref 252, .ref 253, .ref 254, .ref 255, .ref 256, .int 0, .int 0, .int 0, .long (a1).toInt64, .ref 257, .ref 258, .int 0]))).set 246 (.inl (0, .inl (List.replicate 12 0)))).set 247 (.inl (0, .inl (List.replicate 12 0)))).set 248 (.inl (0, .inl (List.replicate 8 0))), n)) _
        refine At.enter rfl ?_
        refine r_aload_n rfl ?_
        refine r_get (v := .ref 233) (en_gs_ne (by decide) (en_gs_ne (by decide) (en_gs_ne (by decide) (en_gs_eq (hm_231 _))))) rfl ?_
        refine r_bipush 46 rfl ?_
        refine r_bipush 6 rfl ?_
        refine r_iload_n rfl ?_
        refine r_imul 24 (by decide) ?_
        refine r_iadd 70 rfl ?_
        refine r_iload_n rfl ?_
        refine r_iadd 73 rfl ?_
        refine r_iald (v := 0) (en_gs_ne (by decide) (en_gs_ne (by decide) (en_gs_ne (by decide) (en_gs_ne (by decide) (hm_233 _))))) (by decide) (en_gr2 7 rfl (by decide +kernel) (by decide +kernel)) ?_
        refine r_ireti ?_
        exact ⟨trivial, rfl, rfl⟩
      refine At.enter rfl ?_
      refine r_iast (en_gs_eq (en_gs_ne (by decide) (en_gs_ne (by decide) (en_gs_ne (by decide) (hm_248 _))))) (by decide) (Nat.le_of_ble_eq_true rfl) (List.replicate 8 0) (by decide +kernel) ?_
      refine Ar.hp en_sd0 ?_
      refine r_iinc rfl 5 rfl ([(1, .int 5), (0, .ref 231)]) rfl ?_
      refine r_goto ?_
      refine At.enter rfl ?_
      refine r_iload_n rfl ?_
      refine r_bipush 8 rfl ?_
      refine r_icf 46 rfl (by decide) ?_
      refine At.enter rfl ?_
      refine r_aload_n rfl ?_
      refine r_get (v := .ref 248) (en_gs_ne (by decide) (en_gs_ne (by decide) (en_gs_ne (by decide) (en_gs_eq (hm_231 _))))) rfl ?_
      refine r_iload_n rfl ?_
      refine r_aload_n rfl ?_
      refine r_iload_n rfl ?_
      refine r_iconst 3 rfl ?_
      refine r_callV1s (True) (.int 0) (((((en_pre a 231 hp_M).set 231 (.inr (11, [.int 0, .int 0, .ref 232, .ref 233, .ref 234, .ref 235, .int 0, .ref 236, .int 0, .int 0, .int 0, .int 0, .long 0, .int (-1), .int 0, .int 0, .ref 237, .int 0, .ref 238, .ref 239, .int 0, .ref 240, .ref 241, .int 0, .int 0, .ref 242, .ref 243, .int 0, .ref 244, .ref 245, .int 0, .long 0, .long 0, .ref 246, .ref 247, .ref 248, .int 0, .ref 249, .ref 250, .ref 251, .ref 252, .ref 253, .ref 254, .ref 255, .ref 256, .int 0, .int 0, .int 0, .long (a1).toInt64, .ref 257, .ref 258, .int 0]))).set 246 (.inl (0, .inl (List.replicate 12 0)))).set 247 (.inl (0, .inl (List.replicate 12 0)))).set 248 (.inl (0, .inl (List.replicate 8 0))), n) 57 rfl [.ref 231, .int 5, .int 3] [.int 5, .ref 248] (Nat.le_of_ble_eq_true rfl) rfl ?_ (fun _ => ?_)
      · refine Ev.mk rfl rfl ⟨Nat.le_of_ble_eq_true rfl, Or.inr (en_rcI (en_gs_ne (by decide) (en_gs_ne (by decide) (en_gs_ne (by decide) (en_gs_eq (hm_231 _))))) rfl)⟩ ?_
        show At _ none _ _ (0, [(0, .ref 231), (1, .int 5), (2, .int 3)], [], (((((en_pre a 231 hp_M).set 231 (.inr (11, [.int 0, .int 0, .ref 232, .ref 233, .ref 234, .ref 235, .int 0, .ref 236, .int 0, .int 0, .int 0, .int 0, .long 0, .int (-1), .int 0, .int 0, .ref 237, .int 0, .ref 238, .ref 239, .int 0, .ref 240, .ref 241, .int 0, .int 0, .ref 242, .ref 243, .int 0, .ref 244, .ref 245, .int 0, .long 0, .long 0, .ref 246, .ref 247, .ref 248, .int 0, .ref 249, .ref 250, .ref 251, .ref 252, .ref 253, .ref 254, .ref 255, .ref 256, .int 0, .int 0, .int 0, .long (a1).toInt64, .ref 257, .ref 258, .int 0]))).set 246 (.inl (0, .inl (List.replicate 12 0)))).set 247 (.inl (0, .inl (List.replicate 12 0)))).set 248 (.inl (0, .inl (List.replicate 8 0))), n)) _
        refine At.enter rfl ?_
        refine r_aload_n rfl ?_
        refine r_get (v := .ref 233) (en_gs_ne (by decide) (en_gs_ne (by decide) (en_gs_ne (by decide) (en_gs_eq (hm_231 _))))) rfl ?_
        refine r_bipush 46 rfl ?_
        refine r_bipush 6 rfl ?_
        refine r_iload_n rfl ?_
        refine r_imul 30 (by decide) ?_
        refine r_iadd 76 rfl ?_
        refine r_iload_n rfl ?_
        refine r_iadd 79 rfl ?_
        refine r_iald (v := 0) (en_gs_ne (by decide) (en_gs_ne (by decide) (en_gs_ne (by decide) (en_gs_ne (by decide) (hm_233 _))))) (by decide) (en_gr2 7 rfl (by decide +kernel) (by decide +kernel)) ?_
        refine r_ireti ?_
        exact ⟨trivial, rfl, rfl⟩
      refine At.enter rfl ?_
      refine r_iast (en_gs_eq (en_gs_ne (by decide) (en_gs_ne (by decide) (en_gs_ne (by decide) (hm_248 _))))) (by decide) (Nat.le_of_ble_eq_true rfl) (List.replicate 8 0) (by decide +kernel) ?_
      refine Ar.hp en_sd0 ?_
      refine r_iinc rfl 6 rfl ([(1, .int 6), (0, .ref 231)]) rfl ?_
      refine r_goto ?_
      refine At.enter rfl ?_
      refine r_iload_n rfl ?_
      refine r_bipush 8 rfl ?_
      refine r_icf 46 rfl (by decide) ?_
      refine At.enter rfl ?_
      refine r_aload_n rfl ?_
      refine r_get (v := .ref 248) (en_gs_ne (by decide) (en_gs_ne (by decide) (en_gs_ne (by decide) (en_gs_eq (hm_231 _))))) rfl ?_
      refine r_iload_n rfl ?_
      refine r_aload_n rfl ?_
      refine r_iload_n rfl ?_
      refine r_iconst 3 rfl ?_
      refine r_callV1s (True) (.int 0) (((((en_pre a 231 hp_M).set 231 (.inr (11, [.int 0, .int 0, .ref 232, .ref 233, .ref 234, .ref 235, .int 0, .ref 236, .int 0, .int 0, .int 0, .int 0, .long 0, .int (-1), .int 0, .int 0, .ref 237, .int 0, .ref 238, .ref 239, .int 0, .ref 240, .ref 241, .int 0, .int 0, .ref 242, .ref 243, .int 0, .ref 244, .ref 245, .int 0, .long 0, .long 0, .ref 246, .ref 247, .ref 248, .int 0, .ref 249, .ref 250, .ref 251, .ref 252, .ref 253, .ref 254, .ref 255, .ref 256, .int 0, .int 0, .int 0, .long (a1).toInt64, .ref 257, .ref 258, .int 0]))).set 246 (.inl (0, .inl (List.replicate 12 0)))).set 247 (.inl (0, .inl (List.replicate 12 0)))).set 248 (.inl (0, .inl (List.replicate 8 0))), n) 57 rfl [.ref 231, .int 6, .int 3] [.int 6, .ref 248] (Nat.le_of_ble_eq_true rfl) rfl ?_ (fun _ => ?_)
      · refine Ev.mk rfl rfl ⟨Nat.le_of_ble_eq_true rfl, Or.inr (en_rcI (en_gs_ne (by decide) (en_gs_ne (by decide) (en_gs_ne (by decide) (en_gs_eq (hm_231 _))))) rfl)⟩ ?_
        show At _ none _ _ (0, [(0, .ref 231), (1, .int 6), (2, .int 3)], [], (((((en_pre a 231 hp_M).set 231 (.inr (11, [.int 0, .int 0, .ref 232, .ref 233, .ref 234, .ref 235, .int 0, .ref 236, .int 0, .int 0, .int 0, .int 0, .long 0, .int (-1), .int 0, .int 0, .ref 237, .int 0, .ref 238, .ref 239, .int 0, .ref 240, .ref 241, .int 0, .int 0, .ref 242, .ref 243, .int 0, .ref 244, .ref 245, .int 0, .long 0, .long 0, .ref 246, .ref 247, .ref 248, .int 0, .ref 249, .ref 250, .ref 251, .ref 252, .ref 253, .ref 254, .ref 255, .ref 256, .int 0, .int 0, .int 0, .long (a1).toInt64, .ref 257, .ref 258, .int 0]))).set 246 (.inl (0, .inl (List.replicate 12 0)))).set 247 (.inl (0, .inl (List.replicate 12 0)))).set 248 (.inl (0, .inl (List.replicate 8 0))), n)) _
        refine At.enter rfl ?_
        refine r_aload_n rfl ?_
        refine r_get (v := .ref 233) (en_gs_ne (by decide) (en_gs_ne (by decide) (en_gs_ne (by decide) (en_gs_eq (hm_231 _))))) rfl ?_
        refine r_bipush 46 rfl ?_
        refine r_bipush 6 rfl ?_
        refine r_iload_n rfl ?_
        refine r_imul 36 (by decide) ?_
        refine r_iadd 82 rfl ?_
        refine r_iload_n rfl ?_
        refine r_iadd 85 rfl ?_
        refine r_iald (v := 0) (en_gs_ne (by decide) (en_gs_ne (by decide) (en_gs_ne (by decide) (en_gs_ne (by decide) (hm_233 _))))) (by decide) (en_gr2 7 rfl (by decide +kernel) (by decide +kernel)) ?_
        refine r_ireti ?_
        exact ⟨trivial, rfl, rfl⟩
      refine At.enter rfl ?_
      refine r_iast (en_gs_eq (en_gs_ne (by decide) (en_gs_ne (by decide) (en_gs_ne (by decide) (hm_248 _))))) (by decide) (Nat.le_of_ble_eq_true rfl) (List.replicate 8 0) (by decide +kernel) ?_
      refine Ar.hp en_sd0 ?_
      refine r_iinc rfl 7 rfl ([(1, .int 7), (0, .ref 231)]) rfl ?_
      refine r_goto ?_
      refine At.enter rfl ?_
      refine r_iload_n rfl ?_
      refine r_bipush 8 rfl ?_
      refine r_icf 46 rfl (by decide) ?_
      refine At.enter rfl ?_
      refine r_aload_n rfl ?_
      refine r_get (v := .ref 248) (en_gs_ne (by decide) (en_gs_ne (by decide) (en_gs_ne (by decide) (en_gs_eq (hm_231 _))))) rfl ?_
      refine r_iload_n rfl ?_
      refine r_aload_n rfl ?_
      refine r_iload_n rfl ?_
      refine r_iconst 3 rfl ?_
      refine r_callV1s (True) (.int 0) (((((en_pre a 231 hp_M).set 231 (.inr (11, [.int 0, .int 0, .ref 232, .ref 233, .ref 234, .ref 235, .int 0, .ref 236, .int 0, .int 0, .int 0, .int 0, .long 0, .int (-1), .int 0, .int 0, .ref 237, .int 0, .ref 238, .ref 239, .int 0, .ref 240, .ref 241, .int 0, .int 0, .ref 242, .ref 243, .int 0, .ref 244, .ref 245, .int 0, .long 0, .long 0, .ref 246, .ref 247, .ref 248, .int 0, .ref 249, .ref 250, .ref 251, .ref 252, .ref 253, .ref 254, .ref 255, .ref 256, .int 0, .int 0, .int 0, .long (a1).toInt64, .ref 257, .ref 258, .int 0]))).set 246 (.inl (0, .inl (List.replicate 12 0)))).set 247 (.inl (0, .inl (List.replicate 12 0)))).set 248 (.inl (0, .inl (List.replicate 8 0))), n) 57 rfl [.ref 231, .int 7, .int 3] [.int 7, .ref 248] (Nat.le_of_ble_eq_true rfl) rfl ?_ (fun _ => ?_)
      · refine Ev.mk rfl rfl ⟨Nat.le_of_ble_eq_true rfl, Or.inr (en_rcI (en_gs_ne (by decide) (en_gs_ne (by decide) (en_gs_ne (by decide) (en_gs_eq (hm_231 _))))) rfl)⟩ ?_
        show At _ none _ _ (0, [(0, .ref 231), (1, .int 7), (2, .int 3)], [], (((((en_pre a 231 hp_M).set 231 (.inr (11, [.int 0, .int 0, .ref 232, .ref 233, .ref 234, .ref 235, .int 0, .ref 236, .int 0, .int 0, .int 0, .int 0, .long 0, .int (-1), .int 0, .int 0, .ref 237, .int 0, .ref 238, .ref 239, .int 0, .ref 240, .ref 241, .int 0, .int 0, .ref 242, .ref 243, .int 0, .ref 244, .ref 245, .int 0, .long 0, .long 0, .ref 246, .ref 247, .ref 248, .int 0, .ref 249, .ref 250, .ref 251, .ref 252, .ref 253, .ref 254, .ref 255, .ref 256, .int 0, .int 0, .int 0, .long (a1).toInt64, .ref 257, .ref 258, .int 0]))).set 246 (.inl (0, .inl (List.replicate 12 0)))).set 247 (.inl (0, .inl (List.replicate 12 0)))).set 248 (.inl (0, .inl (List.replicate 8 0))), n)) _
        refine At.enter rfl ?_
        refine r_aload_n rfl ?_
        refine r_get (v := .ref 233) (en_gs_ne (by decide) (en_gs_ne (by decide) (en_gs_ne (by decide) (en_gs_eq (hm_231 _))))) rfl ?_
        refine r_bipush 46 rfl ?_
        refine r_bipush 6 rfl ?_
        refine r_iload_n rfl ?_
        refine r_imul 42 (by decide) ?_
        refine r_iadd 88 rfl ?_
        refine r_iload_n rfl ?_
        refine r_iadd 91 rfl ?_
        refine r_iald (v := 0) (en_gs_ne (by decide) (en_gs_ne (by decide) (en_gs_ne (by decide) (en_gs_ne (by decide) (hm_233 _))))) (by decide) (en_gr2 7 rfl (by decide +kernel) (by decide +kernel)) ?_
        refine r_ireti ?_
        exact ⟨trivial, rfl, rfl⟩
      refine At.enter rfl ?_
      refine r_iast (en_gs_eq (en_gs_ne (by decide) (en_gs_ne (by decide) (en_gs_ne (by decide) (hm_248 _))))) (by decide) (Nat.le_of_ble_eq_true rfl) (List.replicate 8 0) (by decide +kernel) ?_
      refine Ar.hp en_sd0 ?_
      refine r_iinc rfl 8 rfl ([(1, .int 8), (0, .ref 231)]) rfl ?_
      refine r_goto ?_
      refine At.enter rfl ?_
      refine r_iload_n rfl ?_
      refine r_bipush 8 rfl ?_
      refine r_ict (by decide) ?_
      refine At.enter rfl ?_
      refine r_aload_n rfl ?_
      refine r_iconst 0 rfl ?_
      refine r_putf (en_gs_ne (by decide) (en_gs_ne (by decide) (en_gs_ne (by decide) (en_gs_eq (hm_231 _))))) (Nat.le_of_ble_eq_true rfl) rfl [.int 0, .int 0, .ref 232, .ref 233, .ref 234, .ref 235, .int 0, .ref 236, .int 0, .int 0, .int 0, .int 0, .long 0, .int (-1), .int 0, .int 0, .ref 237, .int 0, .ref 238, .ref 239, .int 0, .ref 240, .ref 241, .int 0, .int 0, .ref 242, .ref 243, .int 0, .ref 244, .ref 245, .int 0, .long 0, .long 0, .ref 246, .ref 247, .ref 248, .int 0, .ref 249, .ref 250, .ref 251, .ref 252, .ref 253, .ref 254, .ref 255, .ref 256, .int 0, .int 0, .int 0, .long (a1).toInt64, .ref 257, .ref 258, .int 0] rfl ?_
      refine Ar.hp (en_sdS (by decide) (en_sdS (by decide) (en_sdS (by decide) en_sd0))) ?_
      refine r_vret ?_
      exact ⟨trivial, rfl, rfl⟩
    refine At.enter rfl ?_
    refine r_iconst 0 rfl ?_
    refine r_istore_n ([(2, .int 0), (0, .ref 231), (1, .int a1)]) rfl ?_
    refine Ar.fall 35 rfl ?_
    refine At.enter rfl ?_
    refine r_iload_n rfl ?_
    refine r_aload_n rfl ?_
    refine r_get (v := .ref 233) (en_gs_ne (by decide) (en_gs_ne (by decide) (en_gs_ne (by decide) (en_gs_eq (hm_231 _))))) rfl ?_
    refine r_iconst 1 rfl ?_
    refine r_iald (v := 0) (en_gs_ne (by decide) (en_gs_ne (by decide) (en_gs_ne (by decide) (en_gs_ne (by decide) (hm_233 _))))) (by decide) rfl ?_
    refine r_ict (by decide) ?_
    refine At.enter rfl ?_
    refine r_iconst 0 rfl ?_
    refine r_istore_n ([(2, .int 0), (0, .ref 231), (1, .int a1)]) rfl ?_
    refine Ar.fall 65 rfl ?_
    refine At.enter rfl ?_
    refine r_iload_n rfl ?_
    refine r_aload_n rfl ?_
    refine r_get (v := .ref 233) (en_gs_ne (by decide) (en_gs_ne (by decide) (en_gs_ne (by decide) (en_gs_eq (hm_231 _))))) rfl ?_
    refine r_iconst 0 rfl ?_
    refine r_iald (v := 0) (en_gs_ne (by decide) (en_gs_ne (by decide) (en_gs_ne (by decide) (en_gs_ne (by decide) (hm_233 _))))) (by decide) rfl ?_
    refine r_ict (by decide) ?_
    refine At.enter rfl ?_
    refine r_aload_n rfl ?_
    refine r_callV1v (True)  (((((en_pre a 231 hp_M).set 231 (.inr (11, [.int 0, .int 0, .ref 232, .ref 233, .ref 234, .ref 235, .int 0, .ref 236, .int 0, .int 0, .int 0, .int 0, .long 0, .int (-1), .int 0, .int 0, .ref 237, .int 0, .ref 238, .ref 239, .int 0, .ref 240, .ref 241, .int 0, .int 0, .ref 242, .ref 243, .int 0, .ref 244, .ref 245, .int 0, .long 0, .long 0, .ref 246, .ref 247, .ref 248, .int 0, .ref 249, .ref 250, .ref 251, .ref 252, .ref 253, .ref 254, .ref 255, .ref 256, .int 0, .int 0, .int 0, .long (a1).toInt64, .ref 257, .ref 258, .int 0]))).set 246 (.inl (0, .inl (List.replicate 12 0)))).set 247 (.inl (0, .inl (List.replicate 12 0)))).set 248 (.inl (0, .inl (List.replicate 8 0))), n) 117 rfl [.ref 231] [] (Nat.le_of_ble_eq_true rfl) rfl ?_ (fun _ => ?_)
    · exact zr_run _ ⟨(en_gs_ne (by decide) (en_gs_ne (by decide) (en_gs_ne (by decide) (en_gs_eq (hm_231 _))))), rfl, (en_gs_ne (by decide) (en_gs_ne (by decide) (en_gs_ne (by decide) (en_gs_ne (by decide) (hm_233 _))))), rfl⟩
    refine At.enter rfl ?_
    refine r_aload_n rfl ?_
    refine r_aload_n rfl ?_
    refine r_get (v := .ref 233) (en_gs_ne (by decide) (en_gs_ne (by decide) (en_gs_ne (by decide) (en_gs_eq (hm_231 _))))) rfl ?_
    refine r_iconst 1 rfl ?_
    refine r_iald (v := 0) (en_gs_ne (by decide) (en_gs_ne (by decide) (en_gs_ne (by decide) (en_gs_ne (by decide) (hm_233 _))))) (by decide) rfl ?_
    refine r_putf (en_gs_ne (by decide) (en_gs_ne (by decide) (en_gs_ne (by decide) (en_gs_eq (hm_231 _))))) (Nat.le_of_ble_eq_true rfl) rfl [.int 0, .int 0, .ref 232, .ref 233, .ref 234, .ref 235, .int 0, .ref 236, .int 0, .int 0, .int 0, .int 0, .long 0, .int (-1), .int 0, .int 0, .ref 237, .int 0, .ref 238, .ref 239, .int 0, .ref 240, .ref 241, .int 0, .int 0, .ref 242, .ref 243, .int 0, .ref 244, .ref 245, .int 0, .long 0, .long 0, .ref 246, .ref 247, .ref 248, .int 0, .ref 249, .ref 250, .ref 251, .ref 252, .ref 253, .ref 254, .ref 255, .ref 256, .int 0, .int 0, .int 0, .long (a1).toInt64, .ref 257, .ref 258, .int 0] rfl ?_
    refine Ar.hp (en_sdS (by decide) (en_sdS (by decide) (en_sdS (by decide) en_sd0))) ?_
    refine r_iconst 0 rfl ?_
    refine r_istore_n ([(2, .int 0), (0, .ref 231), (1, .int a1)]) rfl ?_
    refine Ar.fall 129 rfl ?_
    refine At.enter rfl ?_
    refine r_iload_n rfl ?_
    refine r_aload_n rfl ?_
    refine r_get (v := .int 0) (en_gs_ne (by decide) (en_gs_ne (by decide) (en_gs_ne (by decide) (en_gs_eq (hm_231 _))))) rfl ?_
    refine r_ict (by decide) ?_
    refine At.enter rfl ?_
    refine r_aload_n rfl ?_
    refine r_aload_n rfl ?_
    refine r_callV1s (True) (.int 0) (((((en_pre a 231 hp_M).set 231 (.inr (11, [.int 0, .int 0, .ref 232, .ref 233, .ref 234, .ref 235, .int 0, .ref 236, .int 0, .int 0, .int 0, .int 0, .long 0, .int (-1), .int 0, .int 0, .ref 237, .int 0, .ref 238, .ref 239, .int 0, .ref 240, .ref 241, .int 0, .int 0, .ref 242, .ref 243, .int 0, .ref 244, .ref 245, .int 0, .long 0, .long 0, .ref 246, .ref 247, .ref 248, .int 0, .ref 249, .ref 250, .ref 251, .ref 252, .ref 253, .ref 254, .ref 255, .ref 256, .int 0, .int 0, .int 0, .long (a1).toInt64, .ref 257, .ref 258, .int 0]))).set 246 (.inl (0, .inl (List.replicate 12 0)))).set 247 (.inl (0, .inl (List.replicate 12 0)))).set 248 (.inl (0, .inl (List.replicate 8 0))), n) 172 rfl [.ref 231] [.ref 231] (Nat.le_of_ble_eq_true rfl) rfl ?_ (fun _ => ?_)
    · refine Ev.mk rfl rfl ⟨Nat.le_of_ble_eq_true rfl, Or.inr (en_rcI (en_gs_ne (by decide) (en_gs_ne (by decide) (en_gs_ne (by decide) (en_gs_eq (hm_231 _))))) rfl)⟩ ?_
      show At _ none _ _ (0, [(0, .ref 231)], [], (((((en_pre a 231 hp_M).set 231 (.inr (11, [.int 0, .int 0, .ref 232, .ref 233, .ref 234, .ref 235, .int 0, .ref 236, .int 0, .int 0, .int 0, .int 0, .long 0, .int (-1), .int 0, .int 0, .ref 237, .int 0, .ref 238, .ref 239, .int 0, .ref 240, .ref 241, .int 0, .int 0, .ref 242, .ref 243, .int 0, .ref 244, .ref 245, .int 0, .long 0, .long 0, .ref 246, .ref 247, .ref 248, .int 0, .ref 249, .ref 250, .ref 251, .ref 252, .ref 253, .ref 254, .ref 255, .ref 256, .int 0, .int 0, .int 0, .long (a1).toInt64, .ref 257, .ref 258, .int 0]))).set 246 (.inl (0, .inl (List.replicate 12 0)))).set 247 (.inl (0, .inl (List.replicate 12 0)))).set 248 (.inl (0, .inl (List.replicate 8 0))), n)) _
      refine At.enter rfl ?_
      refine r_iconst 0 rfl ?_
      refine r_istore_n ([(1, .int 0), (0, .ref 231)]) rfl ?_
      refine r_iconst 0 rfl ?_
      refine r_istore_n ([(2, .int 0), (1, .int 0), (0, .ref 231)]) rfl ?_
      refine Ar.fall 4 rfl ?_
      refine At.enter rfl ?_
      refine r_iload_n rfl ?_
      refine r_aload_n rfl ?_
      refine r_get (v := .ref 233) (en_gs_ne (by decide) (en_gs_ne (by decide) (en_gs_ne (by decide) (en_gs_eq (hm_231 _))))) rfl ?_
      refine r_iconst 1 rfl ?_
      refine r_iald (v := 0) (en_gs_ne (by decide) (en_gs_ne (by decide) (en_gs_ne (by decide) (en_gs_ne (by decide) (hm_233 _))))) (by decide) rfl ?_
      refine r_ict (by decide) ?_
      refine At.enter rfl ?_
      refine r_iload_n rfl ?_
      refine r_ireti ?_
      exact ⟨trivial, rfl, rfl⟩
    refine At.enter rfl ?_
    refine r_callV1s (True) (.int 0) (((((en_pre a 231 hp_M).set 231 (.inr (11, [.int 0, .int 0, .ref 232, .ref 233, .ref 234, .ref 235, .int 0, .ref 236, .int 0, .int 0, .int 0, .int 0, .long 0, .int (-1), .int 0, .int 0, .ref 237, .int 0, .ref 238, .ref 239, .int 0, .ref 240, .ref 241, .int 0, .int 0, .ref 242, .ref 243, .int 0, .ref 244, .ref 245, .int 0, .long 0, .long 0, .ref 246, .ref 247, .ref 248, .int 0, .ref 249, .ref 250, .ref 251, .ref 252, .ref 253, .ref 254, .ref 255, .ref 256, .int 0, .int 0, .int 0, .long (a1).toInt64, .ref 257, .ref 258, .int 0]))).set 246 (.inl (0, .inl (List.replicate 12 0)))).set 247 (.inl (0, .inl (List.replicate 12 0)))).set 248 (.inl (0, .inl (List.replicate 8 0))), n) 175 rfl [.ref 231, .int 0] [] (Nat.le_of_ble_eq_true rfl) rfl ?_ (fun _ => ?_)
    · refine Ev.mk rfl rfl ⟨Nat.le_of_ble_eq_true rfl, Or.inr (en_rcI (en_gs_ne (by decide) (en_gs_ne (by decide) (en_gs_ne (by decide) (en_gs_eq (hm_231 _))))) rfl)⟩ ?_
      show At _ none _ _ (0, [(0, .ref 231), (1, .int 0)], [], (((((en_pre a 231 hp_M).set 231 (.inr (11, [.int 0, .int 0, .ref 232, .ref 233, .ref 234, .ref 235, .int 0, .ref 236, .int 0, .int 0, .int 0, .int 0, .long 0, .int (-1), .int 0, .int 0, .ref 237, .int 0, .ref 238, .ref 239, .int 0, .ref 240, .ref 241, .int 0, .int 0, .ref 242, .ref 243, .int 0, .ref 244, .ref 245, .int 0, .long 0, .long 0, .ref 246, .ref 247, .ref 248, .int 0, .ref 249, .ref 250, .ref 251, .ref 252, .ref 253, .ref 254, .ref 255, .ref 256, .int 0, .int 0, .int 0, .long (a1).toInt64, .ref 257, .ref 258, .int 0]))).set 246 (.inl (0, .inl (List.replicate 12 0)))).set 247 (.inl (0, .inl (List.replicate 12 0)))).set 248 (.inl (0, .inl (List.replicate 8 0))), n)) _
      refine At.enter rfl ?_
      refine r_aload_n rfl ?_
      refine r_iload_n rfl ?_
      refine r_ift (by decide) ?_
      refine At.enter rfl ?_
      refine r_iconst 0 rfl ?_
      refine Ar.fall 10 rfl ?_
      refine At.enter rfl ?_
      refine r_putf (en_gs_ne (by decide) (en_gs_ne (by decide) (en_gs_ne (by decide) (en_gs_eq (hm_231 _))))) (Nat.le_of_ble_eq_true rfl) rfl [.int 0, .int 0, .ref 232, .ref 233, .ref 234, .ref 235, .int 0, .ref 236, .int 0, .int 0, .int 0, .int 0, .long 0, .int (-1), .int 0, .int 0, .ref 237, .int 0, .ref 238, .ref 239, .int 0, .ref 240, .ref 241, .int 0, .int 0, .ref 242, .ref 243, .int 0, .ref 244, .ref 245, .int 0, .long 0, .long 0, .ref 246, .ref 247, .ref 248, .int 0, .ref 249, .ref 250, .ref 251, .ref 252, .ref 253, .ref 254, .ref 255, .ref 256, .int 0, .int 0, .int 0, .long (a1).toInt64, .ref 257, .ref 258, .int 0] rfl ?_
      refine Ar.hp (en_sdS (by decide) (en_sdS (by decide) (en_sdS (by decide) en_sd0))) ?_
      refine r_iload_n rfl ?_
      refine r_ift (by decide) ?_
      refine At.enter rfl ?_
      refine r_iload_n rfl ?_
      refine r_ireti ?_
      exact ⟨trivial, rfl, rfl⟩
    refine At.enter rfl ?_
    refine r_ireti ?_
    exact ⟨congrArg (fun z => some (Value.int z)) (by unfold sp_draw; (repeat' split) <;> first | rfl | omega), (en_lset (en_lset (en_lset (en_lset (en_prel a))))), rfl⟩
