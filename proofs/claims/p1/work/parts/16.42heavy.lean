def sp_swaps (a1 a2 : Int32) : Int32 := if a1.toInt = 0 then (if a2.toInt = 0 then 0 else if a2.toInt = 5 then 1 else -1) else -1
set_option maxRecDepth 100000 in
set_option maxHeartbeats 4000000 in
theorem zm_X11_swaps (a : Nat → en_E) (n : Nat) (a1 : Int32) (a2 : Int32) : Ev 14 239 [.ref 231, .int a1, .int a2] (en_pre a 231 hp_M, n) (fun r h' => r = some (.int (sp_swaps a1 a2)) ∧ h'.1.length = 259 ∧ h'.2 = n) := by
  by_cases pp_0 : a1.toInt = 0
  · have pe_0 : a1 = 0 := Int32.toInt_inj.mp pp_0
    subst pe_0
    refine Ev.mk rfl rfl ⟨Nat.le_of_ble_eq_true rfl, Or.inr (en_rcI (hm_231 _) rfl)⟩ ?_
    show At _ none _ _ (0, [(0, .ref 231), (1, .int 0), (2, .int a2)], [], (en_pre a 231 hp_M, n)) _
    refine At.enter rfl ?_
    refine r_aload_n rfl ?_
    refine r_iconst 0 rfl ?_
    refine r_putf (hm_231 _) (Nat.le_of_ble_eq_true rfl) rfl [.int 0, .int 0, .ref 232, .ref 233, .ref 234, .ref 235, .int 0, .ref 236, .int 0, .int 0, .int 0, .int 0, .long 0, .int (-1), .int 0, .int 0, .ref 237, .int 0, .ref 238, .ref 239, .int 0, .ref 240, .ref 241, .int 0, .int 0, .ref 242, .ref 243, .int 0, .ref 244, .ref 245, .int 0, .long 0, .long 0, .ref 246, .ref 247, .ref 248, .int 0, .ref 249, .ref 250, .ref 251, .ref 252, .ref 253, .ref 254, .ref 255, .ref 256, .int 0, .int 0, .int 0, .long 0, .ref 257, .ref 258, .int 0] rfl ?_
    refine Ar.hp (en_sg (hm_231 _)).symm ?_
    refine r_iload_n rfl ?_
    refine r_i2l (0) rfl ?_
    refine r_lconst 0 rfl ?_
    refine r_iconst 1 rfl ?_
    refine r_aload_n rfl ?_
    refine r_get (v := .ref 233) (hm_231 _) rfl ?_
    refine r_iconst 1 rfl ?_
    refine r_iald (v := 0) (hm_233 _) (by decide) rfl ?_
    refine r_ishl 1 rfl ?_
    refine r_i2l (1) rfl ?_
    refine r_lconst 1 rfl ?_
    refine r_lsub 0 rfl ?_
    refine r_callS1s (True) (.int 1) (en_pre a 231 hp_M, n) 22 rfl [.long 0, .long 0, .long 0] [] (Nat.le_of_ble_eq_true rfl) rfl ?_ (fun _ => ?_)
    · refine Ev.mk rfl rfl ⟨Nat.le_of_ble_eq_true rfl, Or.inl rfl⟩ ?_
      show At _ none _ _ (0, [(0, .long 0), (2, .long 0), (4, .long 0)], [], (en_pre a 231 hp_M, n)) _
      refine At.enter rfl ?_
      refine r_lload_n rfl ?_
      refine r_lload_n rfl ?_
      refine r_lcmp 0 rfl ?_
      refine r_iff 6 rfl (by decide) ?_
      refine At.enter rfl ?_
      refine r_lload_n rfl ?_
      refine r_lload rfl ?_
      refine r_lcmp 0 rfl ?_
      refine r_iff 13 rfl (by decide) ?_
      refine At.enter rfl ?_
      refine r_iconst 1 rfl ?_
      refine r_goto ?_
      refine At.enter rfl ?_
      refine r_iretz (by decide) ?_
      exact ⟨trivial, rfl, rfl⟩
    refine At.enter rfl ?_
    refine r_iff 25 rfl (by decide) ?_
    refine At.enter rfl ?_
    refine r_iload_n rfl ?_
    refine r_i2l ((a2).toInt64) rfl ?_
    refine r_lconst 0 rfl ?_
    refine r_ldc2 5 rfl ?_
    refine r_callS3s (((a2).toInt < (0))) (((a2).toInt ≥ (0)) ∧ ((a2).toInt > (5))) (((a2).toInt ≥ (0)) ∧ ((a2).toInt ≤ (5))) (.int 0) (.int 0) (.int 1) (en_pre a 231 hp_M, n) (en_pre a 231 hp_M, n) (en_pre a 231 hp_M, n) 34 rfl [.long (a2).toInt64, .long 0, .long 5] [] (Nat.le_of_ble_eq_true rfl) rfl ?_ (fun c1_ => ?_) (fun ⟨c1_, c2_⟩ => ?_) (fun ⟨c1_, c2_⟩ => ?_)
    · refine Ev.mk rfl rfl ⟨Nat.le_of_ble_eq_true rfl, Or.inl rfl⟩ ?_
      show At _ none _ _ (0, [(0, .long (a2).toInt64), (2, .long 0), (4, .long 5)], [], (en_pre a 231 hp_M, n)) _
      refine At.enter rfl ?_
      refine r_lload_n rfl ?_
      refine r_lload_n rfl ?_
      refine r_lcmp (lg_cmp (a2).toInt64 0) rfl ?_
      refine r_ifs 6 rfl (fun c1 => ?_) (fun c1 => ?_)
      · have c1_ : (a2).toInt < (0) := (by have z := en_j_lt_t c1; (try simp only [Int32.toInt_toInt64] at z); exact z)
        refine At.enter rfl ?_
        refine r_iconst 0 rfl ?_
        refine Ar.fall 18 rfl ?_
        refine At.enter rfl ?_
        refine r_iretz (by decide) ?_
        exact Or.inl ⟨c1_, rfl, rfl⟩
      · have c1_ : (a2).toInt ≥ (0) := (by have z := en_j_lt_f c1; (try simp only [Int32.toInt_toInt64] at z); exact z)
        refine At.enter rfl ?_
        refine r_lload_n rfl ?_
        refine r_lload rfl ?_
        refine r_lcmp (lg_cmp (a2).toInt64 5) rfl ?_
        refine r_ifs 13 rfl (fun c2 => ?_) (fun c2 => ?_)
        · have c2_ : (a2).toInt > (5) := (by have z := en_j_gt_t c2; (try simp only [Int32.toInt_toInt64] at z); exact z)
          refine At.enter rfl ?_
          refine r_iconst 0 rfl ?_
          refine Ar.fall 18 rfl ?_
          refine At.enter rfl ?_
          refine r_iretz (by decide) ?_
          exact Or.inr (Or.inl ⟨⟨c1_, c2_⟩, rfl, rfl⟩)
        · have c2_ : (a2).toInt ≤ (5) := (by have z := en_j_gt_f c2; (try simp only [Int32.toInt_toInt64] at z); exact z)
          refine At.enter rfl ?_
          refine r_iconst 1 rfl ?_
          refine r_goto ?_
          refine At.enter rfl ?_
          refine r_iretz (by decide) ?_
          exact Or.inr (Or.inr (⟨⟨c1_, c2_⟩, rfl, rfl⟩))
    · refine At.enter rfl ?_
      refine r_iff 37 rfl (by decide) ?_
      refine At.enter rfl ?_
      refine r_iconst (-1) rfl ?_
      refine r_ireti ?_
      exact ⟨congrArg (fun z => some (Value.int z)) (by have z0 : (0 : Int32).toInt = 0 := rfl; have z1 : (1 : Int32).toInt = 1 := rfl; have z2 : (-1 : Int32).toInt = -1 := rfl; have z4 : (4 : Int32).toInt = 4 := rfl; have z5 : (5 : Int32).toInt = 5 := rfl; unfold sp_swaps; (repeat' split) <;> first | rfl | omega | (refine Int32.toInt_inj.mp ?_; omega)), (en_prel a), rfl⟩
    · refine At.enter rfl ?_
      refine r_iff 37 rfl (by decide) ?_
      refine At.enter rfl ?_
      refine r_iconst (-1) rfl ?_
      refine r_ireti ?_
      exact ⟨congrArg (fun z => some (Value.int z)) (by have z0 : (0 : Int32).toInt = 0 := rfl; have z1 : (1 : Int32).toInt = 1 := rfl; have z2 : (-1 : Int32).toInt = -1 := rfl; have z4 : (4 : Int32).toInt = 4 := rfl; have z5 : (5 : Int32).toInt = 5 := rfl; unfold sp_swaps; (repeat' split) <;> first | rfl | omega | (refine Int32.toInt_inj.mp ?_; omega)), (en_prel a), rfl⟩
    · refine At.enter rfl ?_
      refine r_ift (by decide) ?_
      refine At.enter rfl ?_
      refine r_iconst 0 rfl ?_
      refine r_istore_n ([(3, .int 0), (0, .ref 231), (1, .int 0), (2, .int a2)]) rfl ?_
      refine Ar.fall 41 rfl ?_
      refine At.enter rfl ?_
      refine r_iload_n rfl ?_
      refine r_iconst 3 rfl ?_
      refine r_icf 46 rfl (by decide) ?_
      refine At.enter rfl ?_
      refine r_aload_n rfl ?_
      refine r_iload_n rfl ?_
      refine r_iload_n rfl ?_
      refine r_callV1v (True)  ((en_pre a 231 hp_M).set 231 (.inr (11, [.int 0, .int 0, .ref 232, .ref 233, .ref 234, .ref 235, .int 0, .ref 236, .int 0, .int 0, .int 0, .int 0, .long 0, .int (-1), .int 0, .int 0, .ref 237, .int 0, .ref 238, .ref 239, .int 0, .ref 240, .ref 241, .int 0, .int 0, .ref 242, .ref 243, .int 0, .ref 244, .ref 245, .int 0, .long 0, .long 0, .ref 246, .ref 247, .ref 248, .int 0, .ref 249, .ref 250, .ref 251, .ref 252, .ref 253, .ref 254, .ref 255, .ref 256, .int 1, .int 0, .int 0, .long 0, .ref 257, .ref 258, .int 0])), n) 52 rfl [.ref 231, .int 0, .int 0] [] (Nat.le_of_ble_eq_true rfl) rfl ?_ (fun _ => ?_)
      · refine Ev.mk rfl rfl ⟨Nat.le_of_ble_eq_true rfl, Or.inr (en_rcI (hm_231 _) rfl)⟩ ?_
        show At _ none _ _ (0, [(0, .ref 231), (1, .int 0), (2, .int 0)], [], (en_pre a 231 hp_M, n)) _
        refine At.enter rfl ?_
        refine r_aload_n rfl ?_
        refine r_iconst 0 rfl ?_
        refine r_putf (hm_231 _) (Nat.le_of_ble_eq_true rfl) rfl [.int 0, .int 0, .ref 232, .ref 233, .ref 234, .ref 235, .int 0, .ref 236, .int 0, .int 0, .int 0, .int 0, .long 0, .int (-1), .int 0, .int 0, .ref 237, .int 0, .ref 238, .ref 239, .int 0, .ref 240, .ref 241, .int 0, .int 0, .ref 242, .ref 243, .int 0, .ref 244, .ref 245, .int 0, .long 0, .long 0, .ref 246, .ref 247, .ref 248, .int 0, .ref 249, .ref 250, .ref 251, .ref 252, .ref 253, .ref 254, .ref 255, .ref 256, .int 0, .int 0, .int 0, .long 0, .ref 257, .ref 258, .int 0] rfl ?_
        refine Ar.hp (en_sg (hm_231 _)).symm ?_
        refine r_aload_n rfl ?_
        refine r_iconst (-1) rfl ?_
        refine r_putf (hm_231 _) (Nat.le_of_ble_eq_true rfl) rfl [.int 0, .int 0, .ref 232, .ref 233, .ref 234, .ref 235, .int 0, .ref 236, .int 0, .int 0, .int 0, .int 0, .long 0, .int (-1), .int 0, .int 0, .ref 237, .int 0, .ref 238, .ref 239, .int 0, .ref 240, .ref 241, .int 0, .int 0, .ref 242, .ref 243, .int 0, .ref 244, .ref 245, .int 0, .long 0, .long 0, .ref 246, .ref 247, .ref 248, .int 0, .ref 249, .ref 250, .ref 251, .ref 252, .ref 253, .ref 254, .ref 255, .ref 256, .int 0, .int (-1), .int 0, .long 0, .ref 257, .ref 258, .int 0] rfl ?_
        refine r_iload_n rfl ?_
        refine r_iff 14 rfl (by decide) ?_
        refine At.enter rfl ?_
        refine r_iconst 1 rfl ?_
        refine r_goto ?_
        refine At.enter rfl ?_
        refine r_istore_n ([(3, .int 1), (0, .ref 231), (1, .int 0), (2, .int 0)]) rfl ?_
        refine r_iconst 0 rfl ?_
        refine r_istore ([(4, .int 0), (3, .int 1), (0, .ref 231), (1, .int 0), (2, .int 0)]) rfl ?_
        refine Ar.fall 36 rfl ?_
        refine At.enter rfl ?_
        refine r_iload rfl ?_
        refine r_iload_n rfl ?_
        refine r_icf 42 rfl (by decide) ?_
        refine At.enter rfl ?_
        refine r_iload rfl ?_
        refine r_iload_n rfl ?_
        refine r_iconst 2 rfl ?_
        refine r_ict (by decide) ?_
        refine At.enter rfl ?_
        refine r_bipush 12 rfl ?_
        refine Ar.fall 57 rfl ?_
        refine At.enter rfl ?_
        refine r_idiv (by decide) 0 rfl ?_
        refine r_istore ([(5, .int 0), (4, .int 0), (3, .int 1), (0, .ref 231), (1, .int 0), (2, .int 0)]) rfl ?_
        refine r_iload rfl ?_
        refine r_iload_n rfl ?_
        refine r_iconst 2 rfl ?_
        refine r_ict (by decide) ?_
        refine At.enter rfl ?_
        refine r_iconst 1 rfl ?_
        refine Ar.fall 74 rfl ?_
        refine At.enter rfl ?_
        refine r_idiv (by decide) 0 rfl ?_
        refine r_bipush 12 rfl ?_
        refine r_irem (by decide) 0 rfl ?_
        refine r_istore ([(6, .int 0), (5, .int 0), (4, .int 0), (3, .int 1), (0, .ref 231), (1, .int 0), (2, .int 0)]) rfl ?_
        refine r_iload rfl ?_
        refine r_bipush 12 rfl ?_
        refine r_idiv (by decide) 0 rfl ?_
        refine r_bipush 12 rfl ?_
        refine r_irem (by decide) 0 rfl ?_
        refine r_istore ([(7, .int 0), (6, .int 0), (5, .int 0), (4, .int 0), (3, .int 1), (0, .ref 231), (1, .int 0), (2, .int 0)]) rfl ?_
        refine r_iload rfl ?_
        refine r_bipush 12 rfl ?_
        refine r_irem (by decide) 0 rfl ?_
        refine r_istore ([(8, .int 0), (7, .int 0), (6, .int 0), (5, .int 0), (4, .int 0), (3, .int 1), (0, .ref 231), (1, .int 0), (2, .int 0)]) rfl ?_
        refine r_iload_n rfl ?_
        refine r_ift (by decide) ?_
        refine At.enter rfl ?_
        refine r_iconst 1 rfl ?_
        refine r_goto ?_
        refine At.enter rfl ?_
        refine r_istore ([(9, .int 1), (8, .int 0), (7, .int 0), (6, .int 0), (5, .int 0), (4, .int 0), (3, .int 1), (0, .ref 231), (1, .int 0), (2, .int 0)]) rfl ?_
        refine r_iload rfl ?_
        refine r_iff 129 rfl (by decide) ?_
        refine At.enter rfl ?_
        refine r_iload_n rfl ?_
        refine r_iconst 2 rfl ?_
        refine r_ict (by decide) ?_
        refine At.enter rfl ?_
        refine r_iconst 1 rfl ?_
        refine r_goto ?_
        refine At.enter rfl ?_
        refine r_istore ([(9, .int 1), (8, .int 0), (7, .int 0), (6, .int 0), (5, .int 0), (4, .int 0), (3, .int 1), (0, .ref 231), (1, .int 0), (2, .int 0)]) rfl ?_
        refine r_iload rfl ?_
        refine r_iff 162 rfl (by decide) ?_
        refine At.enter rfl ?_
        refine r_aload_n rfl ?_
        refine r_callV1v (True)  ((en_pre a 231 hp_M).set 231 (.inr (11, [.int 0, .int 0, .ref 232, .ref 233, .ref 234, .ref 235, .int 0, .ref 236, .int 0, .int 0, .int 0, .int 0, .long 0, .int (-1), .int 0, .int 0, .ref 237, .int 0, .ref 238, .ref 239, .int 0, .ref 240, .ref 241, .int 0, .int 0, .ref 242, .ref 243, .int 0, .ref 244, .ref 245, .int 0, .long 0, .long 0, .ref 246, .ref 247, .ref 248, .int 0, .ref 249, .ref 250, .ref 251, .ref 252, .ref 253, .ref 254, .ref 255, .ref 256, .int 0, .int (-1), .int 0, .long 0, .ref 257, .ref 258, .int 0])), n) 166 rfl [.ref 231] [] (Nat.le_of_ble_eq_true rfl) rfl ?_ (fun _ => ?_)
        · exact zr_asIs _ ⟨(en_gs_eq (hm_231 _)), rfl, (en_gs_ne (by decide) (hm_233 _)), zr_row0⟩ ⟨rfl, rfl, rfl, (en_gs_ne (by decide) (hm_246 _)), (en_gs_ne (by decide) (hm_247 _)), (en_gs_ne (by decide) (hm_248 _))⟩ rfl
        refine At.enter rfl ?_
        refine r_iload_n rfl ?_
        refine r_ift (by decide) ?_
        refine At.enter rfl ?_
        refine r_iload_n rfl ?_
        refine r_iconst 1 rfl ?_
        refine r_ict (by decide) ?_
        refine At.enter rfl ?_
        refine r_aload_n rfl ?_
        refine r_iload_n rfl ?_
        refine r_aload_n rfl ?_
        refine r_get (v := .ref 233) (en_gs_eq (hm_231 _)) rfl ?_
        refine r_iconst 5 rfl ?_
        refine r_iald (v := 60) (en_gs_ne (by decide) (hm_233 _)) (by decide) rfl ?_
        refine r_callV1s (True) (.int 1) ((en_pre a 231 hp_M).set 231 (.inr (11, [.int 0, .int 0, .ref 232, .ref 233, .ref 234, .ref 235, .int 0, .ref 236, .int 0, .int 0, .int 0, .int 0, .long 0, .int (-1), .int 0, .int 0, .ref 237, .int 0, .ref 238, .ref 239, .int 0, .ref 240, .ref 241, .int 0, .int 0, .ref 242, .ref 243, .int 0, .ref 244, .ref 245, .int 0, .long 0, .long 0, .ref 246, .ref 247, .ref 248, .int 0, .ref 249, .ref 250, .ref 251, .ref 252, .ref 253, .ref 254, .ref 255, .ref 256, .int 0, .int (-1), .int 0, .long 0, .ref 257, .ref 258, .int 0])), n) 202 rfl [.ref 231, .int 0, .int 60] [] (Nat.le_of_ble_eq_true rfl) rfl ?_ (fun _ => ?_)
        · refine Ev.mk rfl rfl ⟨Nat.le_of_ble_eq_true rfl, Or.inr (en_rcI (en_gs_eq (hm_231 _)) rfl)⟩ ?_
          show At _ none _ _ (0, [(0, .ref 231), (1, .int 0), (2, .int 60)], [], ((en_pre a 231 hp_M).set 231 (.inr (11, [.int 0, .int 0, .ref 232, .ref 233, .ref 234, .ref 235, .int 0, .ref 236, .int 0, .int 0, .int 0, .int 0, .long 0, .int (-1), .int 0, .int 0, .ref 237, .int 0, .ref 238, .ref 239, .int 0, .ref 240, .ref 241, .int 0, .int 0, .ref 242, .ref 243, .int 0, .ref 244, .ref 245, .int 0, .long 0, .long 0, .ref 246, .ref 247, .ref 248, .int 0, .ref 249, .ref 250, .ref 251, .ref 252, .ref 253, .ref 254, .ref 255, .ref 256, .int 0, .int (-1), .int 0, .long 0, .ref 257, .ref 258, .int 0])), n)) _
          refine At.enter rfl ?_
          refine r_aload_n rfl ?_
          refine r_callV1v (True)  ((en_pre a 231 hp_M).set 231 (.inr (11, [.int 0, .int 0, .ref 232, .ref 233, .ref 234, .ref 235, .int 0, .ref 236, .int 0, .int 0, .int 0, .int 0, .long 0, .int (-1), .int 0, .int 0, .ref 237, .int 0, .ref 238, .ref 239, .int 0, .ref 240, .ref 241, .int 0, .int 0, .ref 242, .ref 243, .int 0, .ref 244, .ref 245, .int 0, .long 0, .long 0, .ref 246, .ref 247, .ref 248, .int 0, .ref 249, .ref 250, .ref 251, .ref 252, .ref 253, .ref 254, .ref 255, .ref 256, .int 0, .int (-1), .int 0, .long 0, .ref 257, .ref 258, .int 0])), n) 4 rfl [.ref 231] [] (Nat.le_of_ble_eq_true rfl) rfl ?_ (fun _ => ?_)
          · exact zr_run _ ⟨(en_gs_eq (hm_231 _)), rfl, (en_gs_ne (by decide) (hm_233 _)), rfl⟩
          refine At.enter rfl ?_
          refine r_iconst 1 rfl ?_
          refine r_istore_n ([(3, .int 1), (0, .ref 231), (1, .int 0), (2, .int 60)]) rfl ?_
          refine r_iconst 0 rfl ?_
          refine r_istore ([(4, .int 0), (3, .int 1), (0, .ref 231), (1, .int 0), (2, .int 60)]) rfl ?_
          refine Ar.fall 9 rfl ?_
          refine At.enter rfl ?_
          refine r_iload rfl ?_
          refine r_aload_n rfl ?_
          refine r_get (v := .ref 233) (en_gs_eq (hm_231 _)) rfl ?_
          refine r_iconst 1 rfl ?_
          refine r_iald (v := 0) (en_gs_ne (by decide) (hm_233 _)) (by decide) rfl ?_
          refine r_ict (by decide) ?_
          refine At.enter rfl ?_
          refine r_iload_n rfl ?_
          refine r_iretz (by decide) ?_
          exact ⟨trivial, rfl, rfl⟩
        refine At.enter rfl ?_
        refine r_iff 205 rfl (by decide) ?_
        refine At.enter rfl ?_
        refine r_aload_n rfl ?_
        refine r_aload_n rfl ?_
        refine r_get (v := .int 0) (en_gs_eq (hm_231 _)) rfl ?_
        refine r_iff 213 rfl (by decide) ?_
        refine At.enter rfl ?_
        refine r_iload rfl ?_
        refine r_goto ?_
        refine At.enter rfl ?_
        refine r_putf (en_gs_eq (hm_231 _)) (Nat.le_of_ble_eq_true rfl) rfl [.int 0, .int 0, .ref 232, .ref 233, .ref 234, .ref 235, .int 0, .ref 236, .int 0, .int 0, .int 0, .int 0, .long 0, .int (-1), .int 0, .int 0, .ref 237, .int 0, .ref 238, .ref 239, .int 0, .ref 240, .ref 241, .int 0, .int 0, .ref 242, .ref 243, .int 0, .ref 244, .ref 245, .int 0, .long 0, .long 0, .ref 246, .ref 247, .ref 248, .int 0, .ref 249, .ref 250, .ref 251, .ref 252, .ref 253, .ref 254, .ref 255, .ref 256, .int 0, .int 0, .int 0, .long 0, .ref 257, .ref 258, .int 0] rfl ?_
        refine Ar.hp en_sd0 ?_
        refine r_aload_n rfl ?_
        refine r_dup rfl ?_
        refine r_get (v := .int 0) (en_gs_eq (hm_231 _)) rfl ?_
        refine r_iconst 1 rfl ?_
        refine r_iadd 1 rfl ?_
        refine r_putf (en_gs_eq (hm_231 _)) (Nat.le_of_ble_eq_true rfl) rfl [.int 0, .int 0, .ref 232, .ref 233, .ref 234, .ref 235, .int 0, .ref 236, .int 0, .int 0, .int 0, .int 0, .long 0, .int (-1), .int 0, .int 0, .ref 237, .int 0, .ref 238, .ref 239, .int 0, .ref 240, .ref 241, .int 0, .int 0, .ref 242, .ref 243, .int 0, .ref 244, .ref 245, .int 0, .long 0, .long 0, .ref 246, .ref 247, .ref 248, .int 0, .ref 249, .ref 250, .ref 251, .ref 252, .ref 253, .ref 254, .ref 255, .ref 256, .int 1, .int 0, .int 0, .long 0, .ref 257, .ref 258, .int 0] rfl ?_
        refine Ar.hp en_sd0 ?_
        refine Ar.fall 235 rfl ?_
        refine At.enter rfl ?_
        refine r_iinc rfl 1 rfl ([(4, .int 1), (9, .int 1), (8, .int 0), (7, .int 0), (6, .int 0), (5, .int 0), (3, .int 1), (0, .ref 231), (1, .int 0), (2, .int 0)]) rfl ?_
        refine r_goto ?_
        refine At.enter rfl ?_
        refine r_iload rfl ?_
        refine r_iload_n rfl ?_
        refine r_ict (by decide) ?_
        refine At.enter rfl ?_
        refine r_vret ?_
        exact ⟨trivial, rfl, rfl⟩
      refine At.enter rfl ?_
      refine r_aload_n rfl ?_
      refine r_get (v := .int 1) (en_gs_eq (hm_231 _)) rfl ?_
      refine r_iff 59 rfl (by decide) ?_
      refine At.enter rfl ?_
      refine r_iload_n rfl ?_
      refine r_iconst 2 rfl ?_
      refine r_ict (by decide) ?_
      refine At.enter rfl ?_
      refine r_aload_n rfl ?_
      refine r_get (v := .int 0) (en_gs_eq (hm_231 _)) rfl ?_
      refine Ar.fall 79 rfl ?_
      refine At.enter rfl ?_
      refine r_istore ([(4, .int 0), (3, .int 0), (0, .ref 231), (1, .int 0), (2, .int a2)]) rfl ?_
      refine r_aload_n rfl ?_
      refine r_get (v := .int 0) (en_gs_eq (hm_231 _)) rfl ?_
      refine r_sipush 144 rfl ?_
      refine r_irem (by decide) 0 rfl ?_
      refine r_istore ([(5, .int 0), (4, .int 0), (3, .int 0), (0, .ref 231), (1, .int 0), (2, .int a2)]) rfl ?_
      refine r_iload_n rfl ?_
      by_cases c3_0 : (a2).toInt = 0
      · refine r_tsw 128 (by rw [c3_0]; rfl) ?_
        refine At.enter rfl ?_
        refine r_iload_n rfl ?_
        refine r_ireti ?_
        exact ⟨congrArg (fun z => some (Value.int z)) (by have z0 : (0 : Int32).toInt = 0 := rfl; have z1 : (1 : Int32).toInt = 1 := rfl; have z2 : (-1 : Int32).toInt = -1 := rfl; have z4 : (4 : Int32).toInt = 4 := rfl; have z5 : (5 : Int32).toInt = 5 := rfl; unfold sp_swaps; (repeat' split) <;> first | rfl | omega | (refine Int32.toInt_inj.mp ?_; omega)), (en_lset (en_prel a)), rfl⟩
      by_cases c3_1 : (a2).toInt = 1
      · refine r_tsw 130 (by rw [c3_1]; rfl) ?_
        refine At.enter rfl ?_
        refine r_iload_n rfl ?_
        refine r_iconst 1 rfl ?_
        refine r_icf 135 rfl (by decide) ?_
        refine At.enter rfl ?_
        refine r_iconst (-1) rfl ?_
        refine r_goto ?_
        refine At.enter rfl ?_
        refine r_ireti ?_
        exact ⟨congrArg (fun z => some (Value.int z)) (by have z0 : (0 : Int32).toInt = 0 := rfl; have z1 : (1 : Int32).toInt = 1 := rfl; have z2 : (-1 : Int32).toInt = -1 := rfl; have z4 : (4 : Int32).toInt = 4 := rfl; have z5 : (5 : Int32).toInt = 5 := rfl; unfold sp_swaps; (repeat' split) <;> first | rfl | omega | (refine Int32.toInt_inj.mp ?_; omega)), (en_lset (en_prel a)), rfl⟩
      by_cases c3_2 : (a2).toInt = 2
      · refine r_tsw 145 (by rw [c3_2]; rfl) ?_
        refine At.enter rfl ?_
        refine r_iload_n rfl ?_
        refine r_iconst 1 rfl ?_
        refine r_icf 150 rfl (by decide) ?_
        refine At.enter rfl ?_
        refine r_iconst (-1) rfl ?_
        refine r_goto ?_
        refine At.enter rfl ?_
        refine r_ireti ?_
        exact ⟨congrArg (fun z => some (Value.int z)) (by have z0 : (0 : Int32).toInt = 0 := rfl; have z1 : (1 : Int32).toInt = 1 := rfl; have z2 : (-1 : Int32).toInt = -1 := rfl; have z4 : (4 : Int32).toInt = 4 := rfl; have z5 : (5 : Int32).toInt = 5 := rfl; unfold sp_swaps; (repeat' split) <;> first | rfl | omega | (refine Int32.toInt_inj.mp ?_; omega)), (en_lset (en_prel a)), rfl⟩
      by_cases c3_3 : (a2).toInt = 3
      · refine r_tsw 160 (by rw [c3_3]; rfl) ?_
        refine At.enter rfl ?_
        refine r_iload_n rfl ?_
        refine r_iconst 2 rfl ?_
        refine r_icf 165 rfl (by decide) ?_
        refine At.enter rfl ?_
        refine r_iconst (-1) rfl ?_
        refine r_goto ?_
        refine At.enter rfl ?_
        refine r_ireti ?_
        exact ⟨congrArg (fun z => some (Value.int z)) (by have z0 : (0 : Int32).toInt = 0 := rfl; have z1 : (1 : Int32).toInt = 1 := rfl; have z2 : (-1 : Int32).toInt = -1 := rfl; have z4 : (4 : Int32).toInt = 4 := rfl; have z5 : (5 : Int32).toInt = 5 := rfl; unfold sp_swaps; (repeat' split) <;> first | rfl | omega | (refine Int32.toInt_inj.mp ?_; omega)), (en_lset (en_prel a)), rfl⟩
      by_cases c3_4 : (a2).toInt = 4
      · refine r_tsw 175 (by rw [c3_4]; rfl) ?_
        refine At.enter rfl ?_
        refine r_iload_n rfl ?_
        refine r_iconst 2 rfl ?_
        refine r_icf 180 rfl (by decide) ?_
        refine At.enter rfl ?_
        refine r_iconst (-1) rfl ?_
        refine r_goto ?_
        refine At.enter rfl ?_
        refine r_ireti ?_
        exact ⟨congrArg (fun z => some (Value.int z)) (by have z0 : (0 : Int32).toInt = 0 := rfl; have z1 : (1 : Int32).toInt = 1 := rfl; have z2 : (-1 : Int32).toInt = -1 := rfl; have z4 : (4 : Int32).toInt = 4 := rfl; have z5 : (5 : Int32).toInt = 5 := rfl; unfold sp_swaps; (repeat' split) <;> first | rfl | omega | (refine Int32.toInt_inj.mp ?_; omega)), (en_lset (en_prel a)), rfl⟩
      have c4 : (a2).toInt < 0 ∨ 4 < (a2).toInt := by omega
      refine r_tsw 190 (by unfold en_sw; rw [if_pos c4]; rfl) ?_
      refine At.enter rfl ?_
      refine r_aload_n rfl ?_
      refine r_get (v := .int 1) (en_gs_eq (hm_231 _)) rfl ?_
      refine r_ireti ?_
      exact ⟨congrArg (fun z => some (Value.int z)) (by have z0 : (0 : Int32).toInt = 0 := rfl; have z1 : (1 : Int32).toInt = 1 := rfl; have z2 : (-1 : Int32).toInt = -1 := rfl; have z4 : (4 : Int32).toInt = 4 := rfl; have z5 : (5 : Int32).toInt = 5 := rfl; unfold sp_swaps; (repeat' split) <;> first | rfl | omega | (refine Int32.toInt_inj.mp ?_; omega)), (en_lset (en_prel a)), rfl⟩
  have pq_ : a1.toInt < 0 ∨ a1.toInt > 0 := by omega
  rcases pq_ with pq_ | pq_
  · refine Ev.mk rfl rfl ⟨Nat.le_of_ble_eq_true rfl, Or.inr (en_rcI (hm_231 _) rfl)⟩ ?_
    show At _ none _ _ (0, [(0, .ref 231), (1, .int a1), (2, .int a2)], [], (en_pre a 231 hp_M, n)) _
    refine At.enter rfl ?_
    refine r_aload_n rfl ?_
    refine r_iconst 0 rfl ?_
    refine r_putf (hm_231 _) (Nat.le_of_ble_eq_true rfl) rfl [.int 0, .int 0, .ref 232, .ref 233, .ref 234, .ref 235, .int 0, .ref 236, .int 0, .int 0, .int 0, .int 0, .long 0, .int (-1), .int 0, .int 0, .ref 237, .int 0, .ref 238, .ref 239, .int 0, .ref 240, .ref 241, .int 0, .int 0, .ref 242, .ref 243, .int 0, .ref 244, .ref 245, .int 0, .long 0, .long 0, .ref 246, .ref 247, .ref 248, .int 0, .ref 249, .ref 250, .ref 251, .ref 252, .ref 253, .ref 254, .ref 255, .ref 256, .int 0, .int 0, .int 0, .long 0, .ref 257, .ref 258, .int 0] rfl ?_
    refine Ar.hp (en_sg (hm_231 _)).symm ?_
    refine r_iload_n rfl ?_
    refine r_i2l ((a1).toInt64) rfl ?_
    refine r_lconst 0 rfl ?_
    refine r_iconst 1 rfl ?_
    refine r_aload_n rfl ?_
    refine r_get (v := .ref 233) (hm_231 _) rfl ?_
    refine r_iconst 1 rfl ?_
    refine r_iald (v := 0) (hm_233 _) (by decide) rfl ?_
    refine r_ishl 1 rfl ?_
    refine r_i2l (1) rfl ?_
    refine r_lconst 1 rfl ?_
    refine r_lsub 0 rfl ?_
    refine r_callS1s (((a1).toInt < (0))) (.int 0) (en_pre a 231 hp_M, n) 22 rfl [.long (a1).toInt64, .long 0, .long 0] [] (Nat.le_of_ble_eq_true rfl) rfl ?_ (fun c5_ => ?_)
    · refine Ev.mk rfl rfl ⟨Nat.le_of_ble_eq_true rfl, Or.inl rfl⟩ ?_
      show At _ none _ _ (0, [(0, .long (a1).toInt64), (2, .long 0), (4, .long 0)], [], (en_pre a 231 hp_M, n)) _
      refine At.enter rfl ?_
      refine r_lload_n rfl ?_
      refine r_lload_n rfl ?_
      refine r_lcmp (lg_cmp (a1).toInt64 0) rfl ?_
      refine r_ifs 6 rfl (fun c5 => ?_) (fun c5 => ?_)
      · have c5_ : (a1).toInt < (0) := (by have z := en_j_lt_t c5; (try simp only [Int32.toInt_toInt64] at z); exact z)
        refine At.enter rfl ?_
        refine r_iconst 0 rfl ?_
        refine Ar.fall 18 rfl ?_
        refine At.enter rfl ?_
        refine r_iretz (by decide) ?_
        exact ⟨c5_, rfl, rfl⟩
      · have c5_ : (a1).toInt ≥ (0) := (by have z := en_j_lt_f c5; (try simp only [Int32.toInt_toInt64] at z); exact z)
        exfalso; omega
    refine At.enter rfl ?_
    refine r_ift (by decide) ?_
    refine At.enter rfl ?_
    refine r_iconst (-1) rfl ?_
    refine r_ireti ?_
    exact ⟨congrArg (fun z => some (Value.int z)) (by have z0 : (0 : Int32).toInt = 0 := rfl; have z1 : (1 : Int32).toInt = 1 := rfl; have z2 : (-1 : Int32).toInt = -1 := rfl; have z4 : (4 : Int32).toInt = 4 := rfl; have z5 : (5 : Int32).toInt = 5 := rfl; unfold sp_swaps; (repeat' split) <;> first | rfl | omega | (refine Int32.toInt_inj.mp ?_; omega)), (en_prel a), rfl⟩
  · refine Ev.mk rfl rfl ⟨Nat.le_of_ble_eq_true rfl, Or.inr (en_rcI (hm_231 _) rfl)⟩ ?_
    show At _ none _ _ (0, [(0, .ref 231), (1, .int a1), (2, .int a2)], [], (en_pre a 231 hp_M, n)) _
    refine At.enter rfl ?_
    refine r_aload_n rfl ?_
    refine r_iconst 0 rfl ?_
    refine r_putf (hm_231 _) (Nat.le_of_ble_eq_true rfl) rfl [.int 0, .int 0, .ref 232, .ref 233, .ref 234, .ref 235, .int 0, .ref 236, .int 0, .int 0, .int 0, .int 0, .long 0, .int (-1), .int 0, .int 0, .ref 237, .int 0, .ref 238, .ref 239, .int 0, .ref 240, .ref 241, .int 0, .int 0, .ref 242, .ref 243, .int 0, .ref 244, .ref 245, .int 0, .long 0, .long 0, .ref 246, .ref 247, .ref 248, .int 0, .ref 249, .ref 250, .ref 251, .ref 252, .ref 253, .ref 254, .ref 255, .ref 256, .int 0, .int 0, .int 0, .long 0, .ref 257, .ref 258, .int 0] rfl ?_
    refine Ar.hp (en_sg (hm_231 _)).symm ?_
    refine r_iload_n rfl ?_
    refine r_i2l ((a1).toInt64) rfl ?_
    refine r_lconst 0 rfl ?_
    refine r_iconst 1 rfl ?_
    refine r_aload_n rfl ?_
    refine r_get (v := .ref 233) (hm_231 _) rfl ?_
    refine r_iconst 1 rfl ?_
    refine r_iald (v := 0) (hm_233 _) (by decide) rfl ?_
    refine r_ishl 1 rfl ?_
    refine r_i2l (1) rfl ?_
    refine r_lconst 1 rfl ?_
    refine r_lsub 0 rfl ?_
    refine r_callS1s (((a1).toInt ≥ (0)) ∧ ((a1).toInt > (0))) (.int 0) (en_pre a 231 hp_M, n) 22 rfl [.long (a1).toInt64, .long 0, .long 0] [] (Nat.le_of_ble_eq_true rfl) rfl ?_ (fun ⟨c6_, c7_⟩ => ?_)
    · refine Ev.mk rfl rfl ⟨Nat.le_of_ble_eq_true rfl, Or.inl rfl⟩ ?_
      show At _ none _ _ (0, [(0, .long (a1).toInt64), (2, .long 0), (4, .long 0)], [], (en_pre a 231 hp_M, n)) _
      refine At.enter rfl ?_
      refine r_lload_n rfl ?_
      refine r_lload_n rfl ?_
      refine r_lcmp (lg_cmp (a1).toInt64 0) rfl ?_
      refine r_ifs 6 rfl (fun c6 => ?_) (fun c6 => ?_)
      · have c6_ : (a1).toInt < (0) := (by have z := en_j_lt_t c6; (try simp only [Int32.toInt_toInt64] at z); exact z)
        exfalso; omega
      · have c6_ : (a1).toInt ≥ (0) := (by have z := en_j_lt_f c6; (try simp only [Int32.toInt_toInt64] at z); exact z)
        refine At.enter rfl ?_
        refine r_lload_n rfl ?_
        refine r_lload rfl ?_
        refine r_lcmp (lg_cmp (a1).toInt64 0) rfl ?_
        refine r_ifs 13 rfl (fun c7 => ?_) (fun c7 => ?_)
        · have c7_ : (a1).toInt > (0) := (by have z := en_j_gt_t c7; (try simp only [Int32.toInt_toInt64] at z); exact z)
          refine At.enter rfl ?_
          refine r_iconst 0 rfl ?_
          refine Ar.fall 18 rfl ?_
          refine At.enter rfl ?_
          refine r_iretz (by decide) ?_
          exact ⟨⟨c6_, c7_⟩, rfl, rfl⟩
        · have c7_ : (a1).toInt ≤ (0) := (by have z := en_j_gt_f c7; (try simp only [Int32.toInt_toInt64] at z); exact z)
          exfalso; omega
    refine At.enter rfl ?_
    refine r_ift (by decide) ?_
    refine At.enter rfl ?_
    refine r_iconst (-1) rfl ?_
    refine r_ireti ?_
    exact ⟨congrArg (fun z => some (Value.int z)) (by have z0 : (0 : Int32).toInt = 0 := rfl; have z1 : (1 : Int32).toInt = 1 := rfl; have z2 : (-1 : Int32).toInt = -1 := rfl; have z4 : (4 : Int32).toInt = 4 := rfl; have z5 : (5 : Int32).toInt = 5 := rfl; unfold sp_swaps; (repeat' split) <;> first | rfl | omega | (refine Int32.toInt_inj.mp ?_; omega)), (en_prel a), rfl⟩
set_option maxRecDepth 100000 in
set_option maxHeartbeats 4000000 in
theorem zx_X10_swaps (a1 : Int32) (a2 : Int32) : Ev 14 124 [.ref 0, .int a1, .int a2] (hp_X ++ hp_M, 51333) (fun r h' => r = some (.int (sp_swaps a1 a2)) ∧ IsX h'.1 ∧ h'.2 = 51333) := by
  by_cases pp_0 : a1.toInt = 0
  · have pe_0 : a1 = 0 := Int32.toInt_inj.mp pp_0
    subst pe_0
    refine Ev.mk rfl rfl ⟨Nat.le_of_ble_eq_true rfl, Or.inr (en_rcI hx_0 rfl)⟩ ?_
    show At _ none _ _ (0, [(0, .ref 0), (1, .int 0), (2, .int a2)], [], (hp_X ++ hp_M, 51333)) _
    refine At.enter rfl ?_
    refine r_iload_n rfl ?_
    refine r_aload_n rfl ?_
    refine r_get (v := .ref 1) hx_0 rfl ?_
    refine r_get (v := .int 0) hx_1 rfl ?_
    refine r_callS1s (True) (.int 1) (hp_X ++ hp_M, 51333) 11 rfl [.int 0, .int 0] [] (Nat.le_of_ble_eq_true rfl) rfl ?_ (fun _ => ?_)
    · refine Ev.mk rfl rfl ⟨Nat.le_of_ble_eq_true rfl, Or.inl rfl⟩ ?_
      show At _ none _ _ (0, [(0, .int 0), (1, .int 0)], [], (hp_X ++ hp_M, 51333)) _
      refine At.enter rfl ?_
      refine r_iload_n rfl ?_
      refine r_iff 4 rfl (by decide) ?_
      refine At.enter rfl ?_
      refine r_iload_n rfl ?_
      refine r_iload_n rfl ?_
      refine r_ishr 0 rfl ?_
      refine r_iff 10 rfl (by decide) ?_
      refine At.enter rfl ?_
      refine r_iconst 1 rfl ?_
      refine r_goto ?_
      refine At.enter rfl ?_
      refine r_iretz (by decide) ?_
      exact ⟨trivial, rfl, rfl⟩
    refine At.enter rfl ?_
    refine r_iff 14 rfl (by decide) ?_
    refine At.enter rfl ?_
    refine r_aload_n rfl ?_
    refine r_get (v := .ref 220) hx_0 rfl ?_
    refine r_iload_n rfl ?_
    refine r_iload_n rfl ?_
    refine r_callV5s (((a2).toInt ≠ (0)) ∧ ((a2).toInt ≠ (5)) ∧ ((a2).toInt < (1))) (((a2).toInt ≠ (0)) ∧ ((a2).toInt ≠ (5)) ∧ ((a2).toInt ≥ (1)) ∧ ((a2).toInt > (4))) (((a2).toInt ≠ (0)) ∧ ((a2).toInt ≠ (5)) ∧ ((a2).toInt ≥ (1)) ∧ ((a2).toInt ≤ (4)) ∧ ((a2).toInt > (0))) (((a2).toInt ≠ (0)) ∧ ((a2).toInt = (5))) (((a2).toInt = (0))) (.int (-1)) (.int (-1)) (.int (-1)) (.int 1) (.int 0) (((((hp_X ++ hp_M).set 220 (.inr (7, [.ref 1, .ref 204, .int 0, .int 0, .int 1, .ref 221]))).set 211 (.inl (0, .inl (List.replicate 8 (-1))))).set 212 (.inl (0, .inl (List.replicate 8 (-1))))).set 221 (.inl (0, .inl ([(-1), (-1), (-1), (-1)]))), 51333) (((((hp_X ++ hp_M).set 220 (.inr (7, [.ref 1, .ref 204, .int 0, .int 0, .int 1, .ref 221]))).set 211 (.inl (0, .inl (List.replicate 8 (-1))))).set 212 (.inl (0, .inl (List.replicate 8 (-1))))).set 221 (.inl (0, .inl ([(-1), (-1), (-1), (-1)]))), 51333) (((((hp_X ++ hp_M).set 220 (.inr (7, [.ref 1, .ref 204, .int 0, .int 0, .int 1, .ref 221]))).set 211 (.inl (0, .inl (List.replicate 8 (-1))))).set 212 (.inl (0, .inl (List.replicate 8 (-1))))).set 221 (.inl (0, .inl ([(-1), (-1), (-1), (-1)]))), 51333) (((((hp_X ++ hp_M).set 220 (.inr (7, [.ref 1, .ref 204, .int 0, .int 0, .int 1, .ref 221]))).set 211 (.inl (0, .inl (List.replicate 8 (-1))))).set 212 (.inl (0, .inl (List.replicate 8 (-1))))).set 221 (.inl (0, .inl ([(-1), (-1), (-1), (-1)]))), 51333) (((((hp_X ++ hp_M).set 220 (.inr (7, [.ref 1, .ref 204, .int 0, .int 0, .int 1, .ref 221]))).set 211 (.inl (0, .inl (List.replicate 8 (-1))))).set 212 (.inl (0, .inl (List.replicate 8 (-1))))).set 221 (.inl (0, .inl ([(-1), (-1), (-1), (-1)]))), 51333) 23 rfl [.ref 220, .int 0, .int a2] [] (Nat.le_of_ble_eq_true rfl) rfl ?_ (fun ⟨c1_, c2_, c3_⟩ => ?_) (fun ⟨c1_, c2_, c3_, c4_⟩ => ?_) (fun ⟨c1_, c2_, c3_, c4_, c5_⟩ => ?_) (fun ⟨c1_, c2_⟩ => ?_) (fun c1_ => ?_)
    · refine Ev.mk rfl rfl ⟨Nat.le_of_ble_eq_true rfl, Or.inr (en_rcI hx_220 rfl)⟩ ?_
      show At _ none _ _ (0, [(0, .ref 220), (1, .int 0), (2, .int a2)], [], (hp_X ++ hp_M, 51333)) _
      refine At.enter rfl ?_
      refine r_aload_n rfl ?_
      refine r_get (v := .int (-1)) hx_220 rfl ?_
      refine r_iload_n rfl ?_
      refine r_icf 8 rfl (by decide) ?_
      refine At.enter rfl ?_
      refine r_aload_n rfl ?_
      refine r_iload_n rfl ?_
      refine r_putf hx_220 (Nat.le_of_ble_eq_true rfl) rfl [.ref 1, .ref 204, .int 0, .int 0, .int 0, .ref 221] rfl ?_
      refine r_aload_n rfl ?_
      refine r_iconst 0 rfl ?_
      refine r_putf (en_gs_eq hx_220) (Nat.le_of_ble_eq_true rfl) rfl [.ref 1, .ref 204, .int 0, .int 0, .int 0, .ref 221] rfl ?_
      refine Ar.hp (en_sg (en_gs_eq hx_220)).symm ?_
      refine r_aload_n rfl ?_
      refine r_get (v := .ref 204) (en_gs_eq hx_220) rfl ?_
      refine r_iconst 0 rfl ?_
      refine r_callV1v (True)  ((hp_X ++ hp_M).set 220 (.inr (7, [.ref 1, .ref 204, .int 0, .int 0, .int 0, .ref 221])), 51333) 26 rfl [.ref 204, .int 0] [] (Nat.le_of_ble_eq_true rfl) rfl ?_ (fun _ => ?_)
      · exact Ev.upn _ zc_1_X1_layOut
      refine At.enter rfl ?_
      refine r_aload_n rfl ?_
      refine r_iconst 0 rfl ?_
      refine r_putf (en_gs_eq hx_220) (Nat.le_of_ble_eq_true rfl) rfl [.ref 1, .ref 204, .int 0, .int 0, .int 0, .ref 221] rfl ?_
      refine Ar.hp (en_sg (en_gs_eq hx_220)).symm ?_
      refine r_aload_n rfl ?_
      refine r_callV1v (True)  (((((hp_X ++ hp_M).set 220 (.inr (7, [.ref 1, .ref 204, .int 0, .int 0, .int 1, .ref 221]))).set 211 (.inl (0, .inl (List.replicate 8 (-1))))).set 212 (.inl (0, .inl (List.replicate 8 (-1))))).set 221 (.inl (0, .inl ([(-1), (-1), (-1), (-1)]))), 51333) 35 rfl [.ref 220] [] (Nat.le_of_ble_eq_true rfl) rfl ?_ (fun _ => ?_)
      · exact Ev.upn _ zc_2_X7_tryNone
      refine At.enter rfl ?_
      refine r_aload_n rfl ?_
      refine r_get (v := .int 1) (en_gs_ne (by decide) (en_gs_ne (by decide) (en_gs_ne (by decide) (en_gs_eq hx_220)))) rfl ?_
      refine r_ift (by decide) ?_
      refine At.enter rfl ?_
      refine r_aload_n rfl ?_
      refine r_get (v := .int 1) (en_gs_ne (by decide) (en_gs_ne (by decide) (en_gs_ne (by decide) (en_gs_eq hx_220)))) rfl ?_
      refine r_ift (by decide) ?_
      refine At.enter rfl ?_
      refine r_aload_n rfl ?_
      refine r_get (v := .int 1) (en_gs_ne (by decide) (en_gs_ne (by decide) (en_gs_ne (by decide) (en_gs_eq hx_220)))) rfl ?_
      refine r_ift (by decide) ?_
      refine At.enter rfl ?_
      refine r_iload_n rfl ?_
      refine r_ifs 83 rfl (fun c1 => ?_) (fun c1 => ?_)
      · have c1_ : (a2).toInt ≠ (0) := (by have z := en_k_ne_t c1; (try simp only [Int32.toInt_toInt64] at z); exact z)
        refine At.enter rfl ?_
        refine r_iload_n rfl ?_
        refine r_iconst 5 rfl ?_
        refine r_ics 93 rfl (fun c2 => ?_) (fun c2 => ?_)
        · have c2_ : (a2).toInt ≠ (5) := (by have z := en_i_ne_t c2; (try simp only [Int32.toInt_toInt64] at z); exact z)
          refine At.enter rfl ?_
          refine r_iload_n rfl ?_
          refine r_iconst 1 rfl ?_
          refine r_ics 103 rfl (fun c3 => ?_) (fun c3 => ?_)
          · have c3_ : (a2).toInt < (1) := (by have z := en_i_lt_t c3; (try simp only [Int32.toInt_toInt64] at z); exact z)
            refine At.enter rfl ?_
            refine r_iconst (-1) rfl ?_
            refine Ar.fall 130 rfl ?_
            refine At.enter rfl ?_
            refine r_ireti ?_
            exact Or.inl ⟨⟨c1_, c2_, c3_⟩, rfl, rfl⟩
          · have c3_ : (a2).toInt ≥ (1) := (by have z := en_i_lt_f c3; (try simp only [Int32.toInt_toInt64] at z); exact z)
            refine At.enter rfl ?_
            refine r_iload_n rfl ?_
            refine r_iconst 4 rfl ?_
            refine r_ics 108 rfl (fun c4 => ?_) (fun c4 => ?_)
            · have c4_ : (a2).toInt > (4) := (by have z := en_i_gt_t c4; (try simp only [Int32.toInt_toInt64] at z); exact z)
              refine At.enter rfl ?_
              refine r_iconst (-1) rfl ?_
              refine Ar.fall 130 rfl ?_
              refine At.enter rfl ?_
              refine r_ireti ?_
              exact Or.inr (Or.inl ⟨⟨c1_, c2_, c3_, c4_⟩, rfl, rfl⟩)
            · have c4_ : (a2).toInt ≤ (4) := (by have z := en_i_gt_f c4; (try simp only [Int32.toInt_toInt64] at z); exact z)
              refine At.enter rfl ?_
              refine r_iload_n rfl ?_
              refine r_iconst 2 rfl ?_
              refine r_aload_n rfl ?_
              refine r_get (v := .int 0) (en_gs_ne (by decide) (en_gs_ne (by decide) (en_gs_ne (by decide) (en_gs_eq hx_220)))) rfl ?_
              refine r_imul 0 (by decide) ?_
              refine r_ics 118 rfl (fun c5 => ?_) (fun c5 => ?_)
              · have c5_ : (a2).toInt > (0) := (by have z := en_i_gt_t c5; (try simp only [Int32.toInt_toInt64] at z); exact z)
                refine At.enter rfl ?_
                refine r_iconst (-1) rfl ?_
                refine Ar.fall 130 rfl ?_
                refine At.enter rfl ?_
                refine r_ireti ?_
                exact Or.inr (Or.inr (Or.inl ⟨⟨c1_, c2_, c3_, c4_, c5_⟩, rfl, rfl⟩))
              · have c5_ : (a2).toInt ≤ (0) := (by have z := en_i_gt_f c5; (try simp only [Int32.toInt_toInt64] at z); exact z)
                exfalso; omega
        · have c2_ : (a2).toInt = (5) := (by have z := en_i_ne_f c2; (try simp only [Int32.toInt_toInt64] at z); exact z)
          refine At.enter rfl ?_
          refine r_aload_n rfl ?_
          refine r_get (v := .int 1) (en_gs_ne (by decide) (en_gs_ne (by decide) (en_gs_ne (by decide) (en_gs_eq hx_220)))) rfl ?_
          refine r_ireti ?_
          exact Or.inr (Or.inr (Or.inr (Or.inl ⟨⟨c1_, c2_⟩, rfl, rfl⟩)))
      · have c1_ : (a2).toInt = (0) := (by have z := en_k_ne_f c1; (try simp only [Int32.toInt_toInt64] at z); exact z)
        refine At.enter rfl ?_
        refine r_aload_n rfl ?_
        refine r_get (v := .int 0) (en_gs_ne (by decide) (en_gs_ne (by decide) (en_gs_ne (by decide) (en_gs_eq hx_220)))) rfl ?_
        refine r_ireti ?_
        exact Or.inr (Or.inr (Or.inr (Or.inr (⟨c1_, rfl, rfl⟩))))
    · refine At.enter rfl ?_
      refine r_goto ?_
      refine At.enter rfl ?_
      refine r_ireti ?_
      exact ⟨congrArg (fun z => some (Value.int z)) (by have z0 : (0 : Int32).toInt = 0 := rfl; have z1 : (1 : Int32).toInt = 1 := rfl; have z2 : (-1 : Int32).toInt = -1 := rfl; have z4 : (4 : Int32).toInt = 4 := rfl; have z5 : (5 : Int32).toInt = 5 := rfl; unfold sp_swaps; (repeat' split) <;> first | rfl | omega | (refine Int32.toInt_inj.mp ?_; omega)), (IsX.set (IsX.set (IsX.set (IsX.set IsX.base (by decide)) (by decide)) (by decide)) (by decide)), rfl⟩
    · refine At.enter rfl ?_
      refine r_goto ?_
      refine At.enter rfl ?_
      refine r_ireti ?_
      exact ⟨congrArg (fun z => some (Value.int z)) (by have z0 : (0 : Int32).toInt = 0 := rfl; have z1 : (1 : Int32).toInt = 1 := rfl; have z2 : (-1 : Int32).toInt = -1 := rfl; have z4 : (4 : Int32).toInt = 4 := rfl; have z5 : (5 : Int32).toInt = 5 := rfl; unfold sp_swaps; (repeat' split) <;> first | rfl | omega | (refine Int32.toInt_inj.mp ?_; omega)), (IsX.set (IsX.set (IsX.set (IsX.set IsX.base (by decide)) (by decide)) (by decide)) (by decide)), rfl⟩
    · refine At.enter rfl ?_
      refine r_goto ?_
      refine At.enter rfl ?_
      refine r_ireti ?_
      exact ⟨congrArg (fun z => some (Value.int z)) (by have z0 : (0 : Int32).toInt = 0 := rfl; have z1 : (1 : Int32).toInt = 1 := rfl; have z2 : (-1 : Int32).toInt = -1 := rfl; have z4 : (4 : Int32).toInt = 4 := rfl; have z5 : (5 : Int32).toInt = 5 := rfl; unfold sp_swaps; (repeat' split) <;> first | rfl | omega | (refine Int32.toInt_inj.mp ?_; omega)), (IsX.set (IsX.set (IsX.set (IsX.set IsX.base (by decide)) (by decide)) (by decide)) (by decide)), rfl⟩
    · refine At.enter rfl ?_
      refine r_goto ?_
      refine At.enter rfl ?_
      refine r_ireti ?_
      exact ⟨congrArg (fun z => some (Value.int z)) (by have z0 : (0 : Int32).toInt = 0 := rfl; have z1 : (1 : Int32).toInt = 1 := rfl; have z2 : (-1 : Int32).toInt = -1 := rfl; have z4 : (4 : Int32).toInt = 4 := rfl; have z5 : (5 : Int32).toInt = 5 := rfl; unfold sp_swaps; (repeat' split) <;> first | rfl | omega | (refine Int32.toInt_inj.mp ?_; omega)), (IsX.set (IsX.set (IsX.set (IsX.set IsX.base (by decide)) (by decide)) (by decide)) (by decide)), rfl⟩
    · refine At.enter rfl ?_
      refine r_goto ?_
      refine At.enter rfl ?_
      refine r_ireti ?_
      exact ⟨congrArg (fun z => some (Value.int z)) (by have z0 : (0 : Int32).toInt = 0 := rfl; have z1 : (1 : Int32).toInt = 1 := rfl; have z2 : (-1 : Int32).toInt = -1 := rfl; have z4 : (4 : Int32).toInt = 4 := rfl; have z5 : (5 : Int32).toInt = 5 := rfl; unfold sp_swaps; (repeat' split) <;> first | rfl | omega | (refine Int32.toInt_inj.mp ?_; omega)), (IsX.set (IsX.set (IsX.set (IsX.set IsX.base (by decide)) (by decide)) (by decide)) (by decide)), rfl⟩
  have pq_ : a1.toInt < 0 ∨ a1.toInt > 0 := by omega
  rcases pq_ with pq_ | pq_
  · refine Ev.mk rfl rfl ⟨Nat.le_of_ble_eq_true rfl, Or.inr (en_rcI hx_0 rfl)⟩ ?_
    show At _ none _ _ (0, [(0, .ref 0), (1, .int a1), (2, .int a2)], [], (hp_X ++ hp_M, 51333)) _
    refine At.enter rfl ?_
    refine r_iload_n rfl ?_
    refine r_aload_n rfl ?_
    refine r_get (v := .ref 1) hx_0 rfl ?_
    refine r_get (v := .int 0) hx_1 rfl ?_
    refine r_callS1s (((a1).toInt < (0))) (.int 0) (hp_X ++ hp_M, 51333) 11 rfl [.int a1, .int 0] [] (Nat.le_of_ble_eq_true rfl) rfl ?_ (fun c6_ => ?_)
    · refine Ev.mk rfl rfl ⟨Nat.le_of_ble_eq_true rfl, Or.inl rfl⟩ ?_
      show At _ none _ _ (0, [(0, .int a1), (1, .int 0)], [], (hp_X ++ hp_M, 51333)) _
      refine At.enter rfl ?_
      refine r_iload_n rfl ?_
      refine r_ifs 4 rfl (fun c6 => ?_) (fun c6 => ?_)
      · have c6_ : (a1).toInt < (0) := (by have z := en_k_lt_t c6; (try simp only [Int32.toInt_toInt64] at z); exact z)
        refine At.enter rfl ?_
        refine r_iconst 0 rfl ?_
        refine Ar.fall 15 rfl ?_
        refine At.enter rfl ?_
        refine r_iretz (by decide) ?_
        exact ⟨c6_, rfl, rfl⟩
      · have c6_ : (a1).toInt ≥ (0) := (by have z := en_k_lt_f c6; (try simp only [Int32.toInt_toInt64] at z); exact z)
        exfalso; omega
    refine At.enter rfl ?_
    refine r_ift (by decide) ?_
    refine At.enter rfl ?_
    refine r_iconst (-1) rfl ?_
    refine Ar.fall 27 rfl ?_
    refine At.enter rfl ?_
    refine r_ireti ?_
    exact ⟨congrArg (fun z => some (Value.int z)) (by have z0 : (0 : Int32).toInt = 0 := rfl; have z1 : (1 : Int32).toInt = 1 := rfl; have z2 : (-1 : Int32).toInt = -1 := rfl; have z4 : (4 : Int32).toInt = 4 := rfl; have z5 : (5 : Int32).toInt = 5 := rfl; unfold sp_swaps; (repeat' split) <;> first | rfl | omega | (refine Int32.toInt_inj.mp ?_; omega)), IsX.base, rfl⟩
  · refine Ev.mk rfl rfl ⟨Nat.le_of_ble_eq_true rfl, Or.inr (en_rcI hx_0 rfl)⟩ ?_
    show At _ none _ _ (0, [(0, .ref 0), (1, .int a1), (2, .int a2)], [], (hp_X ++ hp_M, 51333)) _
    refine At.enter rfl ?_
    refine r_iload_n rfl ?_
    refine r_aload_n rfl ?_
    refine r_get (v := .ref 1) hx_0 rfl ?_
    refine r_get (v := .int 0) hx_1 rfl ?_
    refine r_callS1s (((a1).toInt ≥ (0)) ∧ ((a1).toInt ≠ (0))) (.int 0) (hp_X ++ hp_M, 51333) 11 rfl [.int a1, .int 0] [] (Nat.le_of_ble_eq_true rfl) rfl ?_ (fun ⟨c7_, c8_⟩ => ?_)
    · refine Ev.mk rfl rfl ⟨Nat.le_of_ble_eq_true rfl, Or.inl rfl⟩ ?_
      show At _ none _ _ (0, [(0, .int a1), (1, .int 0)], [], (hp_X ++ hp_M, 51333)) _
      refine At.enter rfl ?_
      refine r_iload_n rfl ?_
      refine r_ifs 4 rfl (fun c7 => ?_) (fun c7 => ?_)
      · have c7_ : (a1).toInt < (0) := (by have z := en_k_lt_t c7; (try simp only [Int32.toInt_toInt64] at z); exact z)
        exfalso; omega
      · have c7_ : (a1).toInt ≥ (0) := (by have z := en_k_lt_f c7; (try simp only [Int32.toInt_toInt64] at z); exact z)
        refine At.enter rfl ?_
        refine r_iload_n rfl ?_
        refine r_iload_n rfl ?_
        refine r_ishr a1 (en_shr0 _) ?_
        refine r_ifs 10 rfl (fun c8 => ?_) (fun c8 => ?_)
        · have c8_ : (a1).toInt ≠ (0) := (by have z := en_k_ne_t c8; (try simp only [Int32.toInt_toInt64] at z); exact z)
          refine At.enter rfl ?_
          refine r_iconst 0 rfl ?_
          refine Ar.fall 15 rfl ?_
          refine At.enter rfl ?_
          refine r_iretz (by decide) ?_
          exact ⟨⟨c7_, c8_⟩, rfl, rfl⟩
        · have c8_ : (a1).toInt = (0) := (by have z := en_k_ne_f c8; (try simp only [Int32.toInt_toInt64] at z); exact z)
          exfalso; omega
    refine At.enter rfl ?_
    refine r_ift (by decide) ?_
    refine At.enter rfl ?_
    refine r_iconst (-1) rfl ?_
    refine Ar.fall 27 rfl ?_
    refine At.enter rfl ?_
    refine r_ireti ?_
    exact ⟨congrArg (fun z => some (Value.int z)) (by have z0 : (0 : Int32).toInt = 0 := rfl; have z1 : (1 : Int32).toInt = 1 := rfl; have z2 : (-1 : Int32).toInt = -1 := rfl; have z4 : (4 : Int32).toInt = 4 := rfl; have z5 : (5 : Int32).toInt = 5 := rfl; unfold sp_swaps; (repeat' split) <;> first | rfl | omega | (refine Int32.toInt_inj.mp ?_; omega)), IsX.base, rfl⟩
