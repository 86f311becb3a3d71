set_option maxRecDepth 100000 in
set_option maxHeartbeats 4000000 in
theorem zm_X11_choke (a : Nat → en_E) (n : Nat) : Ev 14 235 [.ref 231] (en_pre a 231 hp_M, n) (fun r h' => r = some (.int (0)) ∧ h'.1.length = 259 ∧ h'.2 = n) := by
  refine Ev.mk rfl rfl ⟨Nat.le_of_ble_eq_true rfl, Or.inr (en_rcI (hm_231 _) rfl)⟩ ?_
  show At _ none _ _ (0, [(0, .ref 231)], [], (en_pre a 231 hp_M, n)) _
  refine At.enter rfl ?_
  refine r_aload_n rfl ?_
  refine r_iconst 0 rfl ?_
  refine r_putf (hm_231 _) (Nat.le_of_ble_eq_true rfl) rfl [.int 0, .int 0, .ref 232, .ref 233, .ref 234, .ref 235, .int 0, .ref 236, .int 0, .int 0, .int 0, .int 0, .long 0, .int (-1), .int 0, .int 0, .ref 237, .int 0, .ref 238, .ref 239, .int 0, .ref 240, .ref 241, .int 0, .int 0, .ref 242, .ref 243, .int 0, .ref 244, .ref 245, .int 0, .long 0, .long 0, .ref 246, .ref 247, .ref 248, .int 0, .ref 249, .ref 250, .ref 251, .ref 252, .ref 253, .ref 254, .ref 255, .ref 256, .int 0, .int 0, .int 0, .long 0, .ref 257, .ref 258, .int 0] rfl ?_
  refine Ar.hp (en_sg (hm_231 _)).symm ?_
  refine r_aload_n rfl ?_
  refine r_callV1v (True)  (en_pre a 231 hp_M, n) 9 rfl [.ref 231] [] (Nat.le_of_ble_eq_true rfl) rfl ?_ (fun _ => ?_)
  · refine Ev.mk rfl rfl ⟨Nat.le_of_ble_eq_true rfl, Or.inr (en_rcI (hm_231 _) rfl)⟩ ?_
    show At _ none _ _ (0, [(0, .ref 231)], [], (en_pre a 231 hp_M, n)) _
    refine At.enter rfl ?_
    refine r_aload_n rfl ?_
    refine r_callV1v (True)  (en_pre a 231 hp_M, n) 4 rfl [.ref 231] [] (Nat.le_of_ble_eq_true rfl) rfl ?_ (fun _ => ?_)
    · exact zr_asIs _ ⟨(hm_231 _), rfl, (hm_233 _), zr_row0⟩ ⟨rfl, rfl, rfl, (hm_246 _), (hm_247 _), (hm_248 _)⟩ rfl
    refine At.enter rfl ?_
    refine r_aload_n rfl ?_
    refine r_callV1v (True)  (en_pre a 231 hp_M, n) 8 rfl [.ref 231] [] (Nat.le_of_ble_eq_true rfl) rfl ?_ (fun _ => ?_)
    · exact zr_run _ ⟨(hm_231 _), rfl, (hm_233 _), rfl⟩
    refine At.enter rfl ?_
    refine r_vret ?_
    exact ⟨trivial, rfl, rfl⟩
  refine At.enter rfl ?_
  refine r_iconst 0 rfl ?_
  refine r_istore_n ([(1, .int 0), (0, .ref 231)]) rfl ?_
  refine Ar.fall 11 rfl ?_
  refine At.enter rfl ?_
  refine r_iload_n rfl ?_
  refine r_aload_n rfl ?_
  refine r_get (v := .ref 233) (hm_231 _) rfl ?_
  refine r_iconst 0 rfl ?_
  refine r_iald (v := 0) (hm_233 _) (by decide) rfl ?_
  refine r_ict (by decide) ?_
  refine At.enter rfl ?_
  refine r_iconst 0 rfl ?_
  refine r_ireti ?_
  exact ⟨congrArg (fun z => some (Value.int z)) rfl, (en_prel a), rfl⟩
set_option maxRecDepth 100000 in
set_option maxHeartbeats 4000000 in
theorem zx_X10_choke : Ev 14 123 [.ref 0] (hp_X ++ hp_M, 51333) (fun r h' => r = some (.int (0)) ∧ IsX h'.1 ∧ h'.2 = 51333) := by
  refine Ev.mk rfl rfl ⟨Nat.le_of_ble_eq_true rfl, Or.inr (en_rcI hx_0 rfl)⟩ ?_
  show At _ none _ _ (0, [(0, .ref 0)], [], (hp_X ++ hp_M, 51333)) _
  refine At.enter rfl ?_
  refine r_aload_n rfl ?_
  refine r_callV1s (True) (.ref 188) (((((hp_X ++ hp_M).set 0 (.inr (10, [.ref 1, .ref 58, .ref 173, .ref 174, .ref 176, .ref 184, .ref 188, .ref 204, .ref 220, .ref 222, .ref 223, .ref 228, .ref 229, .ref 230, .int 1, .int 0, .int 0, .int 0]))).set 195 (.inl (0, .inl (List.replicate 8 (-1))))).set 196 (.inl (0, .inl (List.replicate 8 (-1))))).set 203 (.inl (0, .inl (List.replicate 800 (-1)))), 51333) 4 rfl [.ref 0] [] (Nat.le_of_ble_eq_true rfl) rfl ?_ (fun _ => ?_)
  · exact Ev.upn _ zc_0_X10_dayNow
  refine At.enter rfl ?_
  refine r_callV1s (True) (.int 0) (((((hp_X ++ hp_M).set 0 (.inr (10, [.ref 1, .ref 58, .ref 173, .ref 174, .ref 176, .ref 184, .ref 188, .ref 204, .ref 220, .ref 222, .ref 223, .ref 228, .ref 229, .ref 230, .int 1, .int 0, .int 0, .int 0]))).set 195 (.inl (0, .inl (List.replicate 8 (-1))))).set 196 (.inl (0, .inl (List.replicate 8 (-1))))).set 203 (.inl (0, .inl (List.replicate 800 (-1)))), 51333) 7 rfl [.ref 188] [] (Nat.le_of_ble_eq_true rfl) rfl ?_ (fun _ => ?_)
  · refine Ev.mk rfl rfl ⟨Nat.le_of_ble_eq_true rfl, Or.inr (en_rcI (en_gs_ne (by decide) (en_gs_ne (by decide) (en_gs_ne (by decide) (en_gs_ne (by decide) hx_188)))) rfl)⟩ ?_
    show At _ none _ _ (0, [(0, .ref 188)], [], (((((hp_X ++ hp_M).set 0 (.inr (10, [.ref 1, .ref 58, .ref 173, .ref 174, .ref 176, .ref 184, .ref 188, .ref 204, .ref 220, .ref 222, .ref 223, .ref 228, .ref 229, .ref 230, .int 1, .int 0, .int 0, .int 0]))).set 195 (.inl (0, .inl (List.replicate 8 (-1))))).set 196 (.inl (0, .inl (List.replicate 8 (-1))))).set 203 (.inl (0, .inl (List.replicate 800 (-1)))), 51333)) _
    refine At.enter rfl ?_
    refine r_iconst 0 rfl ?_
    refine r_istore_n ([(1, .int 0), (0, .ref 188)]) rfl ?_
    refine r_iconst 0 rfl ?_
    refine r_istore_n ([(2, .int 0), (1, .int 0), (0, .ref 188)]) rfl ?_
    refine Ar.fall 4 rfl ?_
    refine At.enter rfl ?_
    refine r_iload_n rfl ?_
    refine r_aload_n rfl ?_
    refine r_get (v := .ref 1) (en_gs_ne (by decide) (en_gs_ne (by decide) (en_gs_ne (by decide) (en_gs_ne (by decide) hx_188)))) rfl ?_
    refine r_get (v := .int 0) (en_gs_ne (by decide) (en_gs_ne (by decide) (en_gs_ne (by decide) (en_gs_ne (by decide) hx_1)))) rfl ?_
    refine r_ict (by decide) ?_
    refine At.enter rfl ?_
    refine r_iconst 0 rfl ?_
    refine r_istore_n ([(2, .int 0), (1, .int 0), (0, .ref 188)]) rfl ?_
    refine Ar.fall 42 rfl ?_
    refine At.enter rfl ?_
    refine r_iload_n rfl ?_
    refine r_aload_n rfl ?_
    refine r_get (v := .ref 1) (en_gs_ne (by decide) (en_gs_ne (by decide) (en_gs_ne (by decide) (en_gs_ne (by decide) hx_188)))) rfl ?_
    refine r_get (v := .int 0) (en_gs_ne (by decide) (en_gs_ne (by decide) (en_gs_ne (by decide) (en_gs_ne (by decide) hx_1)))) rfl ?_
    refine r_ict (by decide) ?_
    refine At.enter rfl ?_
    refine r_iconst 0 rfl ?_
    refine r_ireti ?_
    exact ⟨trivial, rfl, rfl⟩
  refine At.enter rfl ?_
  refine r_ireti ?_
  exact ⟨congrArg (fun z => some (Value.int z)) rfl, (IsX.set (IsX.set (IsX.set (IsX.set IsX.base (by decide)) (by decide)) (by decide)) (by decide)), rfl⟩
set_option maxRecDepth 100000 in
set_option maxHeartbeats 4000000 in
theorem zm_X11_restless (a : Nat → en_E) (n : Nat) : Ev 14 251 [.ref 231] (en_pre a 231 hp_M, n) (fun r h' => r = some (.int (-1)) ∧ h'.1.length = 259 ∧ h'.2 = n) := by
  refine Ev.mk rfl rfl ⟨Nat.le_of_ble_eq_true rfl, Or.inr (en_rcI (hm_231 _) rfl)⟩ ?_
  show At _ none _ _ (0, [(0, .ref 231)], [], (en_pre a 231 hp_M, n)) _
  refine At.enter rfl ?_
  refine r_aload_n rfl ?_
  refine r_iconst 0 rfl ?_
  refine r_putf (hm_231 _) (Nat.le_of_ble_eq_true rfl) rfl [.int 0, .int 0, .ref 232, .ref 233, .ref 234, .ref 235, .int 0, .ref 236, .int 0, .int 0, .int 0, .int 0, .long 0, .int (-1), .int 0, .int 0, .ref 237, .int 0, .ref 238, .ref 239, .int 0, .ref 240, .ref 241, .int 0, .int 0, .ref 242, .ref 243, .int 0, .ref 244, .ref 245, .int 0, .long 0, .long 0, .ref 246, .ref 247, .ref 248, .int 0, .ref 249, .ref 250, .ref 251, .ref 252, .ref 253, .ref 254, .ref 255, .ref 256, .int 0, .int 0, .int 0, .long 0, .ref 257, .ref 258, .int 0] rfl ?_
  refine Ar.hp (en_sg (hm_231 _)).symm ?_
  refine r_aload_n rfl ?_
  refine r_callV1v (True)  (en_pre a 231 hp_M, n) 9 rfl [.ref 231] [] (Nat.le_of_ble_eq_true rfl) rfl ?_ (fun _ => ?_)
  · exact zr_asIs _ ⟨(hm_231 _), rfl, (hm_233 _), zr_row0⟩ ⟨rfl, rfl, rfl, (hm_246 _), (hm_247 _), (hm_248 _)⟩ rfl
  refine At.enter rfl ?_
  refine r_iconst 0 rfl ?_
  refine r_istore_n ([(1, .int 0), (0, .ref 231)]) rfl ?_
  refine Ar.fall 11 rfl ?_
  refine At.enter rfl ?_
  refine r_iload_n rfl ?_
  refine r_aload_n rfl ?_
  refine r_get (v := .ref 233) (hm_231 _) rfl ?_
  refine r_iconst 0 rfl ?_
  refine r_iald (v := 0) (hm_233 _) (by decide) rfl ?_
  refine r_ict (by decide) ?_
  refine At.enter rfl ?_
  refine r_iconst (-1) rfl ?_
  refine r_ireti ?_
  exact ⟨congrArg (fun z => some (Value.int z)) rfl, (en_prel a), rfl⟩
set_option maxRecDepth 100000 in
set_option maxHeartbeats 4000000 in
theorem zx_X10_restless : Ev 14 131 [.ref 0] (hp_X ++ hp_M, 51333) (fun r h' => r = some (.int (-1)) ∧ IsX h'.1 ∧ h'.2 = 51333) := by
  refine Ev.mk rfl rfl ⟨Nat.le_of_ble_eq_true rfl, Or.inr (en_rcI hx_0 rfl)⟩ ?_
  show At _ none _ _ (0, [(0, .ref 0)], [], (hp_X ++ hp_M, 51333)) _
  refine At.enter rfl ?_
  refine r_aload_n rfl ?_
  refine r_get (v := .ref 223) hx_0 rfl ?_
  refine r_callV1s (True) (.int (-1)) ((hp_X ++ hp_M).set 223 (.inr (2, [.ref 1, .ref 185, .ref 224, .ref 225, .ref 226, .int 1, .int 0, .int 0, .int 0, .int 0, .int 0, .int 0, .ref 227])), 51333) 7 rfl [.ref 223] [] (Nat.le_of_ble_eq_true rfl) rfl ?_ (fun _ => ?_)
  · exact Ev.upn _ zc_9_X2_firstRestless
  refine At.enter rfl ?_
  refine r_ireti ?_
  exact ⟨congrArg (fun z => some (Value.int z)) rfl, (IsX.set IsX.base (by decide)), rfl⟩
def sp_rests (a1 : Int32) : Int32 := if a1.toInt = -1 then 1 else -1
set_option maxRecDepth 100000 in
set_option maxHeartbeats 4000000 in
theorem zm_X11_rests (a : Nat → en_E) (n : Nat) (a1 : Int32) : Ev 14 252 [.ref 231, .int a1] (en_pre a 231 hp_M, n) (fun r h' => r = some (.int (sp_rests a1)) ∧ h'.1.length = 259 ∧ h'.2 = n) := by
  by_cases pp_m1 : a1.toInt = -1
  · have pe_m1 : a1 = -1 := Int32.toInt_inj.mp pp_m1
    subst pe_m1
    refine Ev.mk rfl rfl ⟨Nat.le_of_ble_eq_true rfl, Or.inr (en_rcI (hm_231 _) rfl)⟩ ?_
    show At _ none _ _ (0, [(0, .ref 231), (1, .int (-1))], [], (en_pre a 231 hp_M, n)) _
    refine At.enter rfl ?_
    refine r_aload_n rfl ?_
    refine r_iconst 0 rfl ?_
    refine r_putf (hm_231 _) (Nat.le_of_ble_eq_true rfl) rfl [.int 0, .int 0, .ref 232, .ref 233, .ref 234, .ref 235, .int 0, .ref 236, .int 0, .int 0, .int 0, .int 0, .long 0, .int (-1), .int 0, .int 0, .ref 237, .int 0, .ref 238, .ref 239, .int 0, .ref 240, .ref 241, .int 0, .int 0, .ref 242, .ref 243, .int 0, .ref 244, .ref 245, .int 0, .long 0, .long 0, .ref 246, .ref 247, .ref 248, .int 0, .ref 249, .ref 250, .ref 251, .ref 252, .ref 253, .ref 254, .ref 255, .ref 256, .int 0, .int 0, .int 0, .long 0, .ref 257, .ref 258, .int 0] rfl ?_
    refine Ar.hp (en_sg (hm_231 _)).symm ?_
    refine r_iload_n rfl ?_
    refine r_iconst (-1) rfl ?_
    refine r_ict (by decide) ?_
    refine At.enter rfl ?_
    refine r_aload_n rfl ?_
    refine r_callV1v (True)  (en_pre a 231 hp_M, n) 24 rfl [.ref 231] [] (Nat.le_of_ble_eq_true rfl) rfl ?_ (fun _ => ?_)
    · exact zr_asIs _ ⟨(hm_231 _), rfl, (hm_233 _), zr_row0⟩ ⟨rfl, rfl, rfl, (hm_246 _), (hm_247 _), (hm_248 _)⟩ rfl
    refine At.enter rfl ?_
    refine r_iconst 0 rfl ?_
    refine r_istore_n ([(2, .int 0), (0, .ref 231), (1, .int (-1))]) rfl ?_
    refine r_iconst 1 rfl ?_
    refine r_istore_n ([(3, .int 1), (2, .int 0), (0, .ref 231), (1, .int (-1))]) rfl ?_
    refine Ar.fall 28 rfl ?_
    refine At.enter rfl ?_
    refine r_iload_n rfl ?_
    refine r_iff 32 rfl (by decide) ?_
    refine At.enter rfl ?_
    refine r_iload_n rfl ?_
    refine r_bipush 50 rfl ?_
    refine r_icf 38 rfl (by decide) ?_
    refine At.enter rfl ?_
    refine r_iconst 0 rfl ?_
    refine r_istore_n ([(3, .int 0), (2, .int 0), (0, .ref 231), (1, .int (-1))]) rfl ?_
    refine r_iinc rfl 1 rfl ([(2, .int 1), (3, .int 0), (0, .ref 231), (1, .int (-1))]) rfl ?_
    refine r_iconst 0 rfl ?_
    refine r_istore ([(4, .int 0), (2, .int 1), (3, .int 0), (0, .ref 231), (1, .int (-1))]) rfl ?_
    refine Ar.fall 46 rfl ?_
    refine At.enter rfl ?_
    refine r_iload rfl ?_
    refine r_aload_n rfl ?_
    refine r_get (v := .ref 233) (hm_231 _) rfl ?_
    refine r_iconst 0 rfl ?_
    refine r_iald (v := 0) (hm_233 _) (by decide) rfl ?_
    refine r_ict (by decide) ?_
    refine At.enter rfl ?_
    refine r_goto ?_
    refine At.enter rfl ?_
    refine r_iload_n rfl ?_
    refine r_ift (by decide) ?_
    refine At.enter rfl ?_
    refine r_iload_n rfl ?_
    refine r_iconst (-1) rfl ?_
    refine r_ict (by decide) ?_
    refine At.enter rfl ?_
    refine r_iload_n rfl ?_
    refine r_ift (by decide) ?_
    refine At.enter rfl ?_
    refine r_iload_n rfl ?_
    refine Ar.fall 126 rfl ?_
    refine At.enter rfl ?_
    refine r_ireti ?_
    exact ⟨congrArg (fun z => some (Value.int z)) (by have z0 : (0 : Int32).toInt = 0 := rfl; have z1 : (1 : Int32).toInt = 1 := rfl; have z2 : (-1 : Int32).toInt = -1 := rfl; have z4 : (4 : Int32).toInt = 4 := rfl; have z5 : (5 : Int32).toInt = 5 := rfl; unfold sp_rests; (repeat' split) <;> first | rfl | omega | (refine Int32.toInt_inj.mp ?_; omega)), (en_prel a), rfl⟩
  have pq_ : a1.toInt < -1 ∨ a1.toInt > -1 := by omega
  rcases pq_ with pq_ | pq_
  · refine Ev.mk rfl rfl ⟨Nat.le_of_ble_eq_true rfl, Or.inr (en_rcI (hm_231 _) rfl)⟩ ?_
    show At _ none _ _ (0, [(0, .ref 231), (1, .int a1)], [], (en_pre a 231 hp_M, n)) _
    refine At.enter rfl ?_
    refine r_aload_n rfl ?_
    refine r_iconst 0 rfl ?_
    refine r_putf (hm_231 _) (Nat.le_of_ble_eq_true rfl) rfl [.int 0, .int 0, .ref 232, .ref 233, .ref 234, .ref 235, .int 0, .ref 236, .int 0, .int 0, .int 0, .int 0, .long 0, .int (-1), .int 0, .int 0, .ref 237, .int 0, .ref 238, .ref 239, .int 0, .ref 240, .ref 241, .int 0, .int 0, .ref 242, .ref 243, .int 0, .ref 244, .ref 245, .int 0, .long 0, .long 0, .ref 246, .ref 247, .ref 248, .int 0, .ref 249, .ref 250, .ref 251, .ref 252, .ref 253, .ref 254, .ref 255, .ref 256, .int 0, .int 0, .int 0, .long 0, .ref 257, .ref 258, .int 0] rfl ?_
    refine Ar.hp (en_sg (hm_231 _)).symm ?_
    refine r_iload_n rfl ?_
    refine r_iconst (-1) rfl ?_
    refine r_ics 10 rfl (fun c1 => ?_) (fun c1 => ?_)
    · have c1_ : (a1).toInt = (-1) := (by have z := en_i_eq_t c1; (try simp only [Int32.toInt_toInt64] at z); exact z)
      exfalso; omega
    · have c1_ : (a1).toInt ≠ (-1) := (by have z := en_i_eq_f c1; (try simp only [Int32.toInt_toInt64] at z); exact z)
      refine At.enter rfl ?_
      refine r_aload_n rfl ?_
      refine r_iload_n rfl ?_
      refine r_callV1s (((a1).toInt < (0))) (.int 0) (en_pre a 231 hp_M, n) 15 rfl [.ref 231, .int a1] [] (Nat.le_of_ble_eq_true rfl) rfl ?_ (fun c2_ => ?_)
      · refine Ev.mk rfl rfl ⟨Nat.le_of_ble_eq_true rfl, Or.inr (en_rcI (hm_231 _) rfl)⟩ ?_
        show At _ none _ _ (0, [(0, .ref 231), (1, .int a1)], [], (en_pre a 231 hp_M, n)) _
        refine At.enter rfl ?_
        refine r_iload_n rfl ?_
        refine r_i2l ((a1).toInt64) rfl ?_
        refine r_lconst 0 rfl ?_
        refine r_aload_n rfl ?_
        refine r_get (v := .ref 233) (hm_231 _) rfl ?_
        refine r_iconst 0 rfl ?_
        refine r_iald (v := 0) (hm_233 _) (by decide) rfl ?_
        refine r_i2l (0) rfl ?_
        refine r_lconst 1 rfl ?_
        refine r_lsub (-1) rfl ?_
        refine r_callS1s (((a1).toInt < (0))) (.int 0) (en_pre a 231 hp_M, n) 15 rfl [.long (a1).toInt64, .long 0, .long (-1)] [] (Nat.le_of_ble_eq_true rfl) rfl ?_ (fun c2_ => ?_)
        · refine Ev.mk rfl rfl ⟨Nat.le_of_ble_eq_true rfl, Or.inl rfl⟩ ?_
          show At _ none _ _ (0, [(0, .long (a1).toInt64), (2, .long 0), (4, .long (-1))], [], (en_pre a 231 hp_M, n)) _
          refine At.enter rfl ?_
          refine r_lload_n rfl ?_
          refine r_lload_n rfl ?_
          refine r_lcmp (lg_cmp (a1).toInt64 0) rfl ?_
          refine r_ifs 6 rfl (fun c2 => ?_) (fun c2 => ?_)
          · have c2_ : (a1).toInt < (0) := (by have z := en_j_lt_t c2; (try simp only [Int32.toInt_toInt64] at z); exact z)
            refine At.enter rfl ?_
            refine r_iconst 0 rfl ?_
            refine Ar.fall 18 rfl ?_
            refine At.enter rfl ?_
            refine r_iretz (by decide) ?_
            exact ⟨c2_, rfl, rfl⟩
          · have c2_ : (a1).toInt ≥ (0) := (by have z := en_j_lt_f c2; (try simp only [Int32.toInt_toInt64] at z); exact z)
            exfalso; omega
        refine At.enter rfl ?_
        refine r_iretz (by decide) ?_
        exact ⟨c2_, rfl, rfl⟩
      refine At.enter rfl ?_
      refine r_iff 18 rfl (by decide) ?_
      refine At.enter rfl ?_
      refine r_iconst (-1) rfl ?_
      refine r_ireti ?_
      exact ⟨congrArg (fun z => some (Value.int z)) (by have z0 : (0 : Int32).toInt = 0 := rfl; have z1 : (1 : Int32).toInt = 1 := rfl; have z2 : (-1 : Int32).toInt = -1 := rfl; have z4 : (4 : Int32).toInt = 4 := rfl; have z5 : (5 : Int32).toInt = 5 := rfl; unfold sp_rests; (repeat' split) <;> first | rfl | omega | (refine Int32.toInt_inj.mp ?_; omega)), (en_prel a), rfl⟩
  · refine Ev.mk rfl rfl ⟨Nat.le_of_ble_eq_true rfl, Or.inr (en_rcI (hm_231 _) rfl)⟩ ?_
    show At _ none _ _ (0, [(0, .ref 231), (1, .int a1)], [], (en_pre a 231 hp_M, n)) _
    refine At.enter rfl ?_
    refine r_aload_n rfl ?_
    refine r_iconst 0 rfl ?_
    refine r_putf (hm_231 _) (Nat.le_of_ble_eq_true rfl) rfl [.int 0, .int 0, .ref 232, .ref 233, .ref 234, .ref 235, .int 0, .ref 236, .int 0, .int 0, .int 0, .int 0, .long 0, .int (-1), .int 0, .int 0, .ref 237, .int 0, .ref 238, .ref 239, .int 0, .ref 240, .ref 241, .int 0, .int 0, .ref 242, .ref 243, .int 0, .ref 244, .ref 245, .int 0, .long 0, .long 0, .ref 246, .ref 247, .ref 248, .int 0, .ref 249, .ref 250, .ref 251, .ref 252, .ref 253, .ref 254, .ref 255, .ref 256, .int 0, .int 0, .int 0, .long 0, .ref 257, .ref 258, .int 0] rfl ?_
    refine Ar.hp (en_sg (hm_231 _)).symm ?_
    refine r_iload_n rfl ?_
    refine r_iconst (-1) rfl ?_
    refine r_ics 10 rfl (fun c3 => ?_) (fun c3 => ?_)
    · have c3_ : (a1).toInt = (-1) := (by have z := en_i_eq_t c3; (try simp only [Int32.toInt_toInt64] at z); exact z)
      exfalso; omega
    · have c3_ : (a1).toInt ≠ (-1) := (by have z := en_i_eq_f c3; (try simp only [Int32.toInt_toInt64] at z); exact z)
      refine At.enter rfl ?_
      refine r_aload_n rfl ?_
      refine r_iload_n rfl ?_
      refine r_callV1s (((a1).toInt ≥ (0)) ∧ ((a1).toInt > (-1))) (.int 0) (en_pre a 231 hp_M, n) 15 rfl [.ref 231, .int a1] [] (Nat.le_of_ble_eq_true rfl) rfl ?_ (fun ⟨c4_, c5_⟩ => ?_)
      · refine Ev.mk rfl rfl ⟨Nat.le_of_ble_eq_true rfl, Or.inr (en_rcI (hm_231 _) rfl)⟩ ?_
        show At _ none _ _ (0, [(0, .ref 231), (1, .int a1)], [], (en_pre a 231 hp_M, n)) _
        refine At.enter rfl ?_
        refine r_iload_n rfl ?_
        refine r_i2l ((a1).toInt64) rfl ?_
        refine r_lconst 0 rfl ?_
        refine r_aload_n rfl ?_
        refine r_get (v := .ref 233) (hm_231 _) rfl ?_
        refine r_iconst 0 rfl ?_
        refine r_iald (v := 0) (hm_233 _) (by decide) rfl ?_
        refine r_i2l (0) rfl ?_
        refine r_lconst 1 rfl ?_
        refine r_lsub (-1) rfl ?_
        refine r_callS1s (((a1).toInt ≥ (0)) ∧ ((a1).toInt > (-1))) (.int 0) (en_pre a 231 hp_M, n) 15 rfl [.long (a1).toInt64, .long 0, .long (-1)] [] (Nat.le_of_ble_eq_true rfl) rfl ?_ (fun ⟨c4_, c5_⟩ => ?_)
        · refine Ev.mk rfl rfl ⟨Nat.le_of_ble_eq_true rfl, Or.inl rfl⟩ ?_
          show At _ none _ _ (0, [(0, .long (a1).toInt64), (2, .long 0), (4, .long (-1))], [], (en_pre a 231 hp_M, n)) _
          refine At.enter rfl ?_
          refine r_lload_n rfl ?_
          refine r_lload_n rfl ?_
          refine r_lcmp (lg_cmp (a1).toInt64 0) rfl ?_
          refine r_ifs 6 rfl (fun c4 => ?_) (fun c4 => ?_)
          · have c4_ : (a1).toInt < (0) := (by have z := en_j_lt_t c4; (try simp only [Int32.toInt_toInt64] at z); exact z)
            exfalso; omega
          · have c4_ : (a1).toInt ≥ (0) := (by have z := en_j_lt_f c4; (try simp only [Int32.toInt_toInt64] at z); exact z)
            refine At.enter rfl ?_
            refine r_lload_n rfl ?_
            refine r_lload rfl ?_
            refine r_lcmp (lg_cmp (a1).toInt64 (-1)) rfl ?_
            refine r_ifs 13 rfl (fun c5 => ?_) (fun c5 => ?_)
            · have c5_ : (a1).toInt > (-1) := (by have z := en_j_gt_t c5; (try simp only [Int32.toInt_toInt64] at z); exact z)
              refine At.enter rfl ?_
              refine r_iconst 0 rfl ?_
              refine Ar.fall 18 rfl ?_
              refine At.enter rfl ?_
              refine r_iretz (by decide) ?_
              exact ⟨⟨c4_, c5_⟩, rfl, rfl⟩
            · have c5_ : (a1).toInt ≤ (-1) := (by have z := en_j_gt_f c5; (try simp only [Int32.toInt_toInt64] at z); exact z)
              exfalso; omega
        refine At.enter rfl ?_
        refine r_iretz (by decide) ?_
        exact ⟨⟨c4_, c5_⟩, rfl, rfl⟩
      refine At.enter rfl ?_
      refine r_iff 18 rfl (by decide) ?_
      refine At.enter rfl ?_
      refine r_iconst (-1) rfl ?_
      refine r_ireti ?_
      exact ⟨congrArg (fun z => some (Value.int z)) (by have z0 : (0 : Int32).toInt = 0 := rfl; have z1 : (1 : Int32).toInt = 1 := rfl; have z2 : (-1 : Int32).toInt = -1 := rfl; have z4 : (4 : Int32).toInt = 4 := rfl; have z5 : (5 : Int32).toInt = 5 := rfl; unfold sp_rests; (repeat' split) <;> first | rfl | omega | (refine Int32.toInt_inj.mp ?_; omega)), (en_prel a), rfl⟩
set_option maxRecDepth 100000 in
set_option maxHeartbeats 4000000 in
theorem zx_X10_rests (a1 : Int32) : Ev 14 132 [.ref 0, .int a1] (hp_X ++ hp_M, 51333) (fun r h' => r = some (.int (sp_rests a1)) ∧ IsX h'.1 ∧ h'.2 = 51333) := by
  by_cases pp_m1 : a1.toInt = -1
  · have pe_m1 : a1 = -1 := Int32.toInt_inj.mp pp_m1
    subst pe_m1
    refine Ev.mk rfl rfl ⟨Nat.le_of_ble_eq_true rfl, Or.inr (en_rcI hx_0 rfl)⟩ ?_
    show At _ none _ _ (0, [(0, .ref 0), (1, .int (-1))], [], (hp_X ++ hp_M, 51333)) _
    refine At.enter rfl ?_
    refine r_iload_n rfl ?_
    refine r_iconst (-1) rfl ?_
    refine r_ict (by decide) ?_
    refine At.enter rfl ?_
    refine r_aload_n rfl ?_
    refine r_get (v := .ref 223) hx_0 rfl ?_
    refine r_callV1v (True)  ((hp_X ++ hp_M).set 223 (.inr (2, [.ref 1, .ref 185, .ref 224, .ref 225, .ref 226, .int 1, .int 0, .int 0, .int 0, .int 0, .int 1, .int 1, .ref 227])), 51333) 25 rfl [.ref 223] [] (Nat.le_of_ble_eq_true rfl) rfl ?_ (fun _ => ?_)
    · exact Ev.upn _ zc_10_X2_settle
    refine At.enter rfl ?_
    refine r_aload_n rfl ?_
    refine r_get (v := .ref 223) (en_gs_ne (by decide) hx_0) rfl ?_
    refine r_iload_n rfl ?_
    refine r_callV1s (True) (.int 1) ((hp_X ++ hp_M).set 223 (.inr (2, [.ref 1, .ref 185, .ref 224, .ref 225, .ref 226, .int 1, .int 0, .int 0, .int 0, .int 0, .int 1, .int 1, .ref 227])), 51333) 33 rfl [.ref 223, .int (-1)] [] (Nat.le_of_ble_eq_true rfl) rfl ?_ (fun _ => ?_)
    · refine Ev.mk rfl rfl ⟨Nat.le_of_ble_eq_true rfl, Or.inr (en_rcI (en_gs_eq hx_223) rfl)⟩ ?_
      show At _ none _ _ (0, [(0, .ref 223), (1, .int (-1))], [], ((hp_X ++ hp_M).set 223 (.inr (2, [.ref 1, .ref 185, .ref 224, .ref 225, .ref 226, .int 1, .int 0, .int 0, .int 0, .int 0, .int 1, .int 1, .ref 227])), 51333)) _
      refine At.enter rfl ?_
      refine r_aload_n rfl ?_
      refine r_get (v := .ref 1) (en_gs_eq hx_223) rfl ?_
      refine r_iload_n rfl ?_
      refine r_callV1s (True) (.int 0) ((hp_X ++ hp_M).set 223 (.inr (2, [.ref 1, .ref 185, .ref 224, .ref 225, .ref 226, .int 1, .int 0, .int 0, .int 0, .int 0, .int 1, .int 1, .ref 227])), 51333) 8 rfl [.ref 1, .int (-1)] [] (Nat.le_of_ble_eq_true rfl) rfl ?_ (fun _ => ?_)
      · refine Ev.mk rfl rfl ⟨Nat.le_of_ble_eq_true rfl, Or.inr (en_rcI (en_gs_ne (by decide) hx_1) rfl)⟩ ?_
        show At _ none _ _ (0, [(0, .ref 1), (1, .int (-1))], [], ((hp_X ++ hp_M).set 223 (.inr (2, [.ref 1, .ref 185, .ref 224, .ref 225, .ref 226, .int 1, .int 0, .int 0, .int 0, .int 0, .int 1, .int 1, .ref 227])), 51333)) _
        refine At.enter rfl ?_
        refine r_iload_n rfl ?_
        refine r_ift (by decide) ?_
        refine At.enter rfl ?_
        refine r_iconst 0 rfl ?_
        refine Ar.fall 17 rfl ?_
        refine At.enter rfl ?_
        refine r_iretz (by decide) ?_
        exact ⟨trivial, rfl, rfl⟩
      refine At.enter rfl ?_
      refine r_ift (by decide) ?_
      refine At.enter rfl ?_
      refine r_aload_n rfl ?_
      refine r_get (v := .int 1) (en_gs_eq hx_223) rfl ?_
      refine Ar.fall 24 rfl ?_
      refine At.enter rfl ?_
      refine r_ireti ?_
      exact ⟨trivial, rfl, rfl⟩
    refine At.enter rfl ?_
    refine r_ireti ?_
    exact ⟨congrArg (fun z => some (Value.int z)) (by have z0 : (0 : Int32).toInt = 0 := rfl; have z1 : (1 : Int32).toInt = 1 := rfl; have z2 : (-1 : Int32).toInt = -1 := rfl; have z4 : (4 : Int32).toInt = 4 := rfl; have z5 : (5 : Int32).toInt = 5 := rfl; unfold sp_rests; (repeat' split) <;> first | rfl | omega | (refine Int32.toInt_inj.mp ?_; omega)), (IsX.set IsX.base (by decide)), rfl⟩
  have pq_ : a1.toInt < -1 ∨ a1.toInt > -1 := by omega
  rcases pq_ with pq_ | pq_
  · refine Ev.mk rfl rfl ⟨Nat.le_of_ble_eq_true rfl, Or.inr (en_rcI hx_0 rfl)⟩ ?_
    show At _ none _ _ (0, [(0, .ref 0), (1, .int a1)], [], (hp_X ++ hp_M, 51333)) _
    refine At.enter rfl ?_
    refine r_iload_n rfl ?_
    refine r_iconst (-1) rfl ?_
    refine r_ics 5 rfl (fun c1 => ?_) (fun c1 => ?_)
    · have c1_ : (a1).toInt = (-1) := (by have z := en_i_eq_t c1; (try simp only [Int32.toInt_toInt64] at z); exact z)
      exfalso; omega
    · have c1_ : (a1).toInt ≠ (-1) := (by have z := en_i_eq_f c1; (try simp only [Int32.toInt_toInt64] at z); exact z)
      refine At.enter rfl ?_
      refine r_aload_n rfl ?_
      refine r_get (v := .ref 1) hx_0 rfl ?_
      refine r_iload_n rfl ?_
      refine r_callV1s (((a1).toInt < (0))) (.int 0) (hp_X ++ hp_M, 51333) 13 rfl [.ref 1, .int a1] [] (Nat.le_of_ble_eq_true rfl) rfl ?_ (fun c2_ => ?_)
      · refine Ev.mk rfl rfl ⟨Nat.le_of_ble_eq_true rfl, Or.inr (en_rcI hx_1 rfl)⟩ ?_
        show At _ none _ _ (0, [(0, .ref 1), (1, .int a1)], [], (hp_X ++ hp_M, 51333)) _
        refine At.enter rfl ?_
        refine r_iload_n rfl ?_
        refine r_ifs 4 rfl (fun c2 => ?_) (fun c2 => ?_)
        · have c2_ : (a1).toInt < (0) := (by have z := en_k_lt_t c2; (try simp only [Int32.toInt_toInt64] at z); exact z)
          refine At.enter rfl ?_
          refine r_iconst 0 rfl ?_
          refine Ar.fall 17 rfl ?_
          refine At.enter rfl ?_
          refine r_iretz (by decide) ?_
          exact ⟨c2_, rfl, rfl⟩
        · have c2_ : (a1).toInt ≥ (0) := (by have z := en_k_lt_f c2; (try simp only [Int32.toInt_toInt64] at z); exact z)
          exfalso; omega
      refine At.enter rfl ?_
      refine r_iff 16 rfl (by decide) ?_
      refine At.enter rfl ?_
      refine r_iconst (-1) rfl ?_
      refine r_ireti ?_
      exact ⟨congrArg (fun z => some (Value.int z)) (by have z0 : (0 : Int32).toInt = 0 := rfl; have z1 : (1 : Int32).toInt = 1 := rfl; have z2 : (-1 : Int32).toInt = -1 := rfl; have z4 : (4 : Int32).toInt = 4 := rfl; have z5 : (5 : Int32).toInt = 5 := rfl; unfold sp_rests; (repeat' split) <;> first | rfl | omega | (refine Int32.toInt_inj.mp ?_; omega)), IsX.base, rfl⟩
  · refine Ev.mk rfl rfl ⟨Nat.le_of_ble_eq_true rfl, Or.inr (en_rcI hx_0 rfl)⟩ ?_
    show At _ none _ _ (0, [(0, .ref 0), (1, .int a1)], [], (hp_X ++ hp_M, 51333)) _
    refine At.enter rfl ?_
    refine r_iload_n rfl ?_
    refine r_iconst (-1) rfl ?_
    refine r_ics 5 rfl (fun c3 => ?_) (fun c3 => ?_)
    · have c3_ : (a1).toInt = (-1) := (by have z := en_i_eq_t c3; (try simp only [Int32.toInt_toInt64] at z); exact z)
      exfalso; omega
    · have c3_ : (a1).toInt ≠ (-1) := (by have z := en_i_eq_f c3; (try simp only [Int32.toInt_toInt64] at z); exact z)
      refine At.enter rfl ?_
      refine r_aload_n rfl ?_
      refine r_get (v := .ref 1) hx_0 rfl ?_
      refine r_iload_n rfl ?_
      refine r_callV1s (((a1).toInt ≥ (0)) ∧ ((a1).toInt ≥ (0))) (.int 0) (hp_X ++ hp_M, 51333) 13 rfl [.ref 1, .int a1] [] (Nat.le_of_ble_eq_true rfl) rfl ?_ (fun ⟨c4_, c5_⟩ => ?_)
      · refine Ev.mk rfl rfl ⟨Nat.le_of_ble_eq_true rfl, Or.inr (en_rcI hx_1 rfl)⟩ ?_
        show At _ none _ _ (0, [(0, .ref 1), (1, .int a1)], [], (hp_X ++ hp_M, 51333)) _
        refine At.enter rfl ?_
        refine r_iload_n rfl ?_
        refine r_ifs 4 rfl (fun c4 => ?_) (fun c4 => ?_)
        · have c4_ : (a1).toInt < (0) := (by have z := en_k_lt_t c4; (try simp only [Int32.toInt_toInt64] at z); exact z)
          exfalso; omega
        · have c4_ : (a1).toInt ≥ (0) := (by have z := en_k_lt_f c4; (try simp only [Int32.toInt_toInt64] at z); exact z)
          refine At.enter rfl ?_
          refine r_iload_n rfl ?_
          refine r_aload_n rfl ?_
          refine r_get (v := .int 0) hx_1 rfl ?_
          refine r_ics 12 rfl (fun c5 => ?_) (fun c5 => ?_)
          · have c5_ : (a1).toInt ≥ (0) := (by have z := en_i_ge_t c5; (try simp only [Int32.toInt_toInt64] at z); exact z)
            refine At.enter rfl ?_
            refine r_iconst 0 rfl ?_
            refine Ar.fall 17 rfl ?_
            refine At.enter rfl ?_
            refine r_iretz (by decide) ?_
            exact ⟨⟨c4_, c5_⟩, rfl, rfl⟩
          · have c5_ : (a1).toInt < (0) := (by have z := en_i_ge_f c5; (try simp only [Int32.toInt_toInt64] at z); exact z)
            exfalso; omega
      refine At.enter rfl ?_
      refine r_iff 16 rfl (by decide) ?_
      refine At.enter rfl ?_
      refine r_iconst (-1) rfl ?_
      refine r_ireti ?_
      exact ⟨congrArg (fun z => some (Value.int z)) (by have z0 : (0 : Int32).toInt = 0 := rfl; have z1 : (1 : Int32).toInt = 1 := rfl; have z2 : (-1 : Int32).toInt = -1 := rfl; have z4 : (4 : Int32).toInt = 4 := rfl; have z5 : (5 : Int32).toInt = 5 := rfl; unfold sp_rests; (repeat' split) <;> first | rfl | omega | (refine Int32.toInt_inj.mp ?_; omega)), IsX.base, rfl⟩
def sp_draw (a1 : Int32) : Int32 := if 0 ≤ a1.toInt ∧ a1.toInt ≤ 1000000 then 0 else -1
set_option maxRecDepth 100000 in
set_option maxHeartbeats 4000000 in
theorem zm_X11_draw (a : Nat → en_E) (n : Nat) (a1 : Int32) : Ev 14 261 [.ref 231, .int a1] (en_pre a 231 hp_M, n) (fun r h' => r = some (.int (sp_draw a1)) ∧ h'.1.length = 259 ∧ h'.2 = n) := by
  refine Ev.mk rfl rfl ⟨Nat.le_of_ble_eq_true rfl, Or.inr (en_rcI (hm_231 _) rfl)⟩ ?_
  show At _ none _ _ (0, [(0, .ref 231), (1, .int a1)], [], (en_pre a 231 hp_M, n)) _
  refine At.enter rfl ?_
  refine r_aload_n rfl ?_
  refine r_iconst 0 rfl ?_
  refine r_putf (hm_231 _) (Nat.le_of_ble_eq_true rfl) rfl [.int 0, .int 0, .ref 232, .ref 233, .ref 234, .ref 235, .int 0, .ref 236, .int 0, .int 0, .int 0, .int 0, .long 0, .int (-1), .int 0, .int 0, .ref 237, .int 0, .ref 238, .ref 239, .int 0, .ref 240, .ref 241, .int 0, .int 0, .ref 242, .ref 243, .int 0, .ref 244, .ref 245, .int 0, .long 0, .long 0, .ref 246, .ref 247, .ref 248, .int 0, .ref 249, .ref 250, .ref 251, .ref 252, .ref 253, .ref 254, .ref 255, .ref 256, .int 0, .int 0, .int 0, .long 0, .ref 257, .ref 258, .int 0] rfl ?_
  refine Ar.hp (en_sg (hm_231 _)).symm ?_
  refine r_iload_n rfl ?_
  refine r_i2l ((a1).toInt64) rfl ?_
  refine r_lconst 0 rfl ?_
  refine r_ldc2 1000000 rfl ?_
  refine r_callS3s (((a1).toInt < (0))) (((a1).toInt ≥ (0)) ∧ ((a1).toInt > (1000000))) (((a1).toInt ≥ (0)) ∧ ((a1).toInt ≤ (1000000))) (.int 0) (.int 0) (.int 1) (en_pre a 231 hp_M, n) (en_pre a 231 hp_M, n) (en_pre a 231 hp_M, n) 14 rfl [.long (a1).toInt64, .long 0, .long 1000000] [] (Nat.le_of_ble_eq_true rfl) rfl ?_ (fun c1_ => ?_) (fun ⟨c1_, c2_⟩ => ?_) (fun ⟨c1_, c2_⟩ => ?_)
  · refine Ev.mk rfl rfl ⟨Nat.le_of_ble_eq_true rfl, Or.inl rfl⟩ ?_
    show At _ none _ _ (0, [(0, .long (a1).toInt64), (2, .long 0), (4, .long 1000000)], [], (en_pre a 231 hp_M, n)) _
    refine At.enter rfl ?_
    refine r_lload_n rfl ?_
    refine r_lload_n rfl ?_
    refine r_lcmp (lg_cmp (a1).toInt64 0) rfl ?_
    refine r_ifs 6 rfl (fun c1 => ?_) (fun c1 => ?_)
    · have c1_ : (a1).toInt < (0) := (by have z := en_j_lt_t c1; (try simp only [Int32.toInt_toInt64] at z); exact z)
      refine At.enter rfl ?_
      refine r_iconst 0 rfl ?_
      refine Ar.fall 18 rfl ?_
      refine At.enter rfl ?_
      refine r_iretz (by decide) ?_
      exact Or.inl ⟨c1_, rfl, rfl⟩
    · have c1_ : (a1).toInt ≥ (0) := (by have z := en_j_lt_f c1; (try simp only [Int32.toInt_toInt64] at z); exact z)
      refine At.enter rfl ?_
      refine r_lload_n rfl ?_
      refine r_lload rfl ?_
      refine r_lcmp (lg_cmp (a1).toInt64 1000000) rfl ?_
      refine r_ifs 13 rfl (fun c2 => ?_) (fun c2 => ?_)
      · have c2_ : (a1).toInt > (1000000) := (by have z := en_j_gt_t c2; (try simp only [Int32.toInt_toInt64] at z); exact z)
        refine At.enter rfl ?_
        refine r_iconst 0 rfl ?_
        refine Ar.fall 18 rfl ?_
        refine At.enter rfl ?_
        refine r_iretz (by decide) ?_
        exact Or.inr (Or.inl ⟨⟨c1_, c2_⟩, rfl, rfl⟩)
      · have c2_ : (a1).toInt ≤ (1000000) := (by have z := en_j_gt_f c2; (try simp only [Int32.toInt_toInt64] at z); exact z)
        refine At.enter rfl ?_
        refine r_iconst 1 rfl ?_
        refine r_goto ?_
        refine At.enter rfl ?_
        refine r_iretz (by decide) ?_
        exact Or.inr (Or.inr (⟨⟨c1_, c2_⟩, rfl, rfl⟩))
  · refine At.enter rfl ?_
    refine r_iff 17 rfl (by decide) ?_
    refine At.enter rfl ?_
    refine r_aload_n rfl ?_
    refine r_iconst (-1) rfl ?_
    refine r_callV1s (True) (.int (-1)) (((en_pre a 231 hp_M).set 231 (.inr (11, [.int 0, .int (-1), .ref 232, .ref 233, .ref 234, .ref 235, .int 0, .ref 236, .int 0, .int 0, .int 0, .int 0, .long 0, .int (-1), .int 0, .int 0, .ref 237, .int 0, .ref 238, .ref 239, .int 0, .ref 240, .ref 241, .int 0, .int 0, .ref 242, .ref 243, .int 0, .ref 244, .ref 245, .int 0, .long 0, .long 0, .ref 246, .ref 247, .ref 248, .int 0, .ref 249, .ref 250, .ref 251, .ref 252, .ref 253, .ref 254, .ref 255, .ref 256, .int 0, .int 0, .int 0, .long 0, .ref 257, .ref 258, .int 0]))).set 232 (.inl (0, .inl ([0, 1, 0, 0, 0, 0, 0]))), n) 22 rfl [.ref 231, .int (-1)] [] (Nat.le_of_ble_eq_true rfl) rfl ?_ (fun _ => ?_)
    · refine Ev.mk rfl rfl ⟨Nat.le_of_ble_eq_true rfl, Or.inr (en_rcI (hm_231 _) rfl)⟩ ?_
      show At _ none _ _ (0, [(0, .ref 231), (1, .int (-1))], [], (en_pre a 231 hp_M, n)) _
      refine At.enter rfl ?_
      refine r_aload_n rfl ?_
      refine r_iload_n rfl ?_
      refine r_iff 5 rfl (by decide) ?_
      refine At.enter rfl ?_
      refine r_iload_n rfl ?_
      refine r_goto ?_
      refine At.enter rfl ?_
      refine r_putf (hm_231 _) (Nat.le_of_ble_eq_true rfl) rfl [.int 0, .int (-1), .ref 232, .ref 233, .ref 234, .ref 235, .int 0, .ref 236, .int 0, .int 0, .int 0, .int 0, .long 0, .int (-1), .int 0, .int 0, .ref 237, .int 0, .ref 238, .ref 239, .int 0, .ref 240, .ref 241, .int 0, .int 0, .ref 242, .ref 243, .int 0, .ref 244, .ref 245, .int 0, .long 0, .long 0, .ref 246, .ref 247, .ref 248, .int 0, .ref 249, .ref 250, .ref 251, .ref 252, .ref 253, .ref 254, .ref 255, .ref 256, .int 0, .int 0, .int 0, .long 0, .ref 257, .ref 258, .int 0] rfl ?_
      refine r_iload_n rfl ?_
      refine r_iff 17 rfl (by decide) ?_
      refine At.enter rfl ?_
      refine r_aload_n rfl ?_
      refine r_get (v := .ref 232) (en_gs_eq (hm_231 _)) rfl ?_
      refine r_iload_n rfl ?_
      refine r_ineg 1 rfl ?_
      refine r_dup2 ⟨rfl, rfl⟩ ?_
      refine r_iald (v := 0) (en_gs_ne (by decide) (hm_232 _)) (by decide) rfl ?_
      refine r_iconst 1 rfl ?_
      refine r_iadd 1 rfl ?_
      refine r_iast (en_gs_ne (by decide) (hm_232 _)) (by decide) (Nat.le_of_ble_eq_true rfl) ([0, 1, 0, 0, 0, 0, 0]) (by decide +kernel) ?_
      refine Ar.fall 28 rfl ?_
      refine At.enter rfl ?_
      refine r_iload_n rfl ?_
      refine r_ireti ?_
      exact ⟨trivial, rfl, rfl⟩
    refine At.enter rfl ?_
    refine r_ireti ?_
    exact ⟨congrArg (fun z => some (Value.int z)) (by have z0 : (0 : Int32).toInt = 0 := rfl; have z1 : (1 : Int32).toInt = 1 := rfl; have z2 : (-1 : Int32).toInt = -1 := rfl; have z4 : (4 : Int32).toInt = 4 := rfl; have z5 : (5 : Int32).toInt = 5 := rfl; unfold sp_draw; (repeat' split) <;> first | rfl | omega | (refine Int32.toInt_inj.mp ?_; omega)), (en_lset (en_lset (en_prel a))), rfl⟩
  · refine At.enter rfl ?_
    refine r_iff 17 rfl (by decide) ?_
    refine At.enter rfl ?_
    refine r_aload_n rfl ?_
    refine r_iconst (-1) rfl ?_
    refine r_callV1s (True) (.int (-1)) (((en_pre a 231 hp_M).set 231 (.inr (11, [.int 0, .int (-1), .ref 232, .ref 233, .ref 234, .ref 235, .int 0, .ref 236, .int 0, .int 0, .int 0, .int 0, .long 0, .int (-1), .int 0, .int 0, .ref 237, .int 0, .ref 238, .ref 239, .int 0, .ref 240, .ref 241, .int 0, .int 0, .ref 242, .ref 243, .int 0, .ref 244, .ref 245, .int 0, .long 0, .long 0, .ref 246, .ref 247, .ref 248, .int 0, .ref 249, .ref 250, .ref 251, .ref 252, .ref 253, .ref 254, .ref 255, .ref 256, .int 0, .int 0, .int 0, .long 0, .ref 257, .ref 258, .int 0]))).set 232 (.inl (0, .inl ([0, 1, 0, 0, 0, 0, 0]))), n) 22 rfl [.ref 231, .int (-1)] [] (Nat.le_of_ble_eq_true rfl) rfl ?_ (fun _ => ?_)
    · refine Ev.mk rfl rfl ⟨Nat.le_of_ble_eq_true rfl, Or.inr (en_rcI (hm_231 _) rfl)⟩ ?_
      show At _ none _ _ (0, [(0, .ref 231), (1, .int (-1))], [], (en_pre a 231 hp_M, n)) _
      refine At.enter rfl ?_
      refine r_aload_n rfl ?_
      refine r_iload_n rfl ?_
      refine r_iff 5 rfl (by decide) ?_
      refine At.enter rfl ?_
      refine r_iload_n rfl ?_
      refine r_goto ?_
      refine At.enter rfl ?_
      refine r_putf (hm_231 _) (Nat.le_of_ble_eq_true rfl) rfl [.int 0, .int (-1), .ref 232, .ref 233, .ref 234, .ref 235, .int 0, .ref 236, .int 0, .int 0, .int 0, .int 0, .long 0, .int (-1), .int 0, .int 0, .ref 237, .int 0, .ref 238, .ref 239, .int 0, .ref 240, .ref 241, .int 0, .int 0, .ref 242, .ref 243, .int 0, .ref 244, .ref 245, .int 0, .long 0, .long 0, .ref 246, .ref 247, .ref 248, .int 0, .ref 249, .ref 250, .ref 251, .ref 252, .ref 253, .ref 254, .ref 255, .ref 256, .int 0, .int 0, .int 0, .long 0, .ref 257, .ref 258, .int 0] rfl ?_
      refine r_iload_n rfl ?_
      refine r_iff 17 rfl (by decide) ?_
      refine At.enter rfl ?_
      refine r_aload_n rfl ?_
      refine r_get (v := .ref 232) (en_gs_eq (hm_231 _)) rfl ?_
      refine r_iload_n rfl ?_
      refine r_ineg 1 rfl ?_
      refine r_dup2 ⟨rfl, rfl⟩ ?_
      refine r_iald (v := 0) (en_gs_ne (by decide) (hm_232 _)) (by decide) rfl ?_
      refine r_iconst 1 rfl ?_
      refine r_iadd 1 rfl ?_
      refine r_iast (en_gs_ne (by decide) (hm_232 _)) (by decide) (Nat.le_of_ble_eq_true rfl) ([0, 1, 0, 0, 0, 0, 0]) (by decide +kernel) ?_
      refine Ar.fall 28 rfl ?_
      refine At.enter rfl ?_
      refine r_iload_n rfl ?_
      refine r_ireti ?_
      exact ⟨trivial, rfl, rfl⟩
    refine At.enter rfl ?_
    refine r_ireti ?_
    exact ⟨congrArg (fun z => some (Value.int z)) (by have z0 : (0 : Int32).toInt = 0 := rfl; have z1 : (1 : Int32).toInt = 1 := rfl; have z2 : (-1 : Int32).toInt = -1 := rfl; have z4 : (4 : Int32).toInt = 4 := rfl; have z5 : (5 : Int32).toInt = 5 := rfl; unfold sp_draw; (repeat' split) <;> first | rfl | omega | (refine Int32.toInt_inj.mp ?_; omega)), (en_lset (en_lset (en_prel a))), rfl⟩
  · refine At.enter rfl ?_
    refine r_ift (by decide) ?_
    refine At.enter rfl ?_
    refine r_aload_n rfl ?_
    refine r_iload_n rfl ?_
    refine r_i2l ((a1).toInt64) rfl ?_
    refine r_putf (hm_231 _) (Nat.le_of_ble_eq_true rfl) rfl [.int 0, .int 0, .ref 232, .ref 233, .ref 234, .ref 235, .int 0, .ref 236, .int 0, .int 0, .int 0, .int 0, .long 0, .int (-1), .int 0, .int 0, .ref 237, .int 0, .ref 238, .ref 239, .int 0, .ref 240, .ref 241, .int 0, .int 0, .ref 242, .ref 243, .int 0, .ref 244, .ref 245, .int 0, .long 0, .long 0, .ref 246, .ref 247, .ref 248, .int 0, .ref 249, .ref 250, .ref 251, .ref 252, .ref 253, .ref 254, .ref 255, .ref 256, .int 0, .int 0, .int 0, .long (a1).toInt64, .ref 257, .ref 258, .int 0] rfl ?_
    refine r_aload_n rfl ?_
    refine r_callV1v (True)  ((en_pre a 231 hp_M).set 231 (.inr (11, [.int 0, .int 0, .ref 232, .ref 233, .ref 234, .ref 235, .int 0, .ref 236, .int 0, .int 0, .int 0, .int 0, .long 0, .int (-1), .int 0, .int 0, .ref 237, .int 0, .ref 238, .ref 239, .int 0, .ref 240, .ref 241, .int 0, .int 0, .ref 242, .ref 243, .int 0, .ref 244, .ref 245, .int 0, .long 0, .long 0, .ref 246, .ref 247, .ref 248, .int 0, .ref 249, .ref 250, .ref 251, .ref 252, .ref 253, .ref 254, .ref 255, .ref 256, .int 0, .int 0, .int 0, .long (a1).toInt64, .ref 257, .ref 258, .int 0])), n) 33 rfl [.ref 231] [] (Nat.le_of_ble_eq_true rfl) rfl ?_ (fun _ => ?_)
    · exact zr_asIs _ ⟨(en_gs_eq (hm_231 _)), rfl, (en_gs_ne (by decide) (hm_233 _)), zr_row0⟩ ⟨rfl, rfl, rfl, (en_gs_ne (by decide) (hm_246 _)), (en_gs_ne (by decide) (hm_247 _)), (en_gs_ne (by decide) (hm_248 _))⟩ rfl
    refine At.enter rfl ?_
    refine r_iconst 0 rfl ?_
    refine r_istore_n ([(2, .int 0), (0, .ref 231), (1, .int a1)]) rfl ?_
    refine Ar.fall 35 rfl ?_
    refine At.enter rfl ?_
    refine r_iload_n rfl ?_
    refine r_aload_n rfl ?_
    refine r_get (v := .ref 233) (en_gs_eq (hm_231 _)) rfl ?_
    refine r_iconst 1 rfl ?_
    refine r_iald (v := 0) (en_gs_ne (by decide) (hm_233 _)) (by decide) rfl ?_
    refine r_ict (by decide) ?_
    refine At.enter rfl ?_
    refine r_iconst 0 rfl ?_
    refine r_istore_n ([(2, .int 0), (0, .ref 231), (1, .int a1)]) rfl ?_
    refine Ar.fall 65 rfl ?_
    refine At.enter rfl ?_
    refine r_iload_n rfl ?_
    refine r_aload_n rfl ?_
    refine r_get (v := .ref 233) (en_gs_eq (hm_231 _)) rfl ?_
    refine r_iconst 0 rfl ?_
    refine r_iald (v := 0) (en_gs_ne (by decide) (hm_233 _)) (by decide) rfl ?_
    refine r_ict (by decide) ?_
    refine At.enter rfl ?_
    refine r_aload_n rfl ?_
    refine r_callV1v (True)  ((en_pre a 231 hp_M).set 231 (.inr (11, [.int 0, .int 0, .ref 232, .ref 233, .ref 234, .ref 235, .int 0, .ref 236, .int 0, .int 0, .int 0, .int 0, .long 0, .int (-1), .int 0, .int 0, .ref 237, .int 0, .ref 238, .ref 239, .int 0, .ref 240, .ref 241, .int 0, .int 0, .ref 242, .ref 243, .int 0, .ref 244, .ref 245, .int 0, .long 0, .long 0, .ref 246, .ref 247, .ref 248, .int 0, .ref 249, .ref 250, .ref 251, .ref 252, .ref 253, .ref 254, .ref 255, .ref 256, .int 0, .int 0, .int 0, .long (a1).toInt64, .ref 257, .ref 258, .int 0])), n) 117 rfl [.ref 231] [] (Nat.le_of_ble_eq_true rfl) rfl ?_ (fun _ => ?_)
    · exact zr_run _ ⟨(en_gs_eq (hm_231 _)), rfl, (en_gs_ne (by decide) (hm_233 _)), rfl⟩
    refine At.enter rfl ?_
    refine r_aload_n rfl ?_
    refine r_aload_n rfl ?_
    refine r_get (v := .ref 233) (en_gs_eq (hm_231 _)) rfl ?_
    refine r_iconst 1 rfl ?_
    refine r_iald (v := 0) (en_gs_ne (by decide) (hm_233 _)) (by decide) rfl ?_
    refine r_putf (en_gs_eq (hm_231 _)) (Nat.le_of_ble_eq_true rfl) rfl [.int 0, .int 0, .ref 232, .ref 233, .ref 234, .ref 235, .int 0, .ref 236, .int 0, .int 0, .int 0, .int 0, .long 0, .int (-1), .int 0, .int 0, .ref 237, .int 0, .ref 238, .ref 239, .int 0, .ref 240, .ref 241, .int 0, .int 0, .ref 242, .ref 243, .int 0, .ref 244, .ref 245, .int 0, .long 0, .long 0, .ref 246, .ref 247, .ref 248, .int 0, .ref 249, .ref 250, .ref 251, .ref 252, .ref 253, .ref 254, .ref 255, .ref 256, .int 0, .int 0, .int 0, .long (a1).toInt64, .ref 257, .ref 258, .int 0] rfl ?_
    refine Ar.hp (en_sg (en_gs_eq (hm_231 _))).symm ?_
    refine r_iconst 0 rfl ?_
    refine r_istore_n ([(2, .int 0), (0, .ref 231), (1, .int a1)]) rfl ?_
    refine Ar.fall 129 rfl ?_
    refine At.enter rfl ?_
    refine r_iload_n rfl ?_
    refine r_aload_n rfl ?_
    refine r_get (v := .int 0) (en_gs_eq (hm_231 _)) rfl ?_
    refine r_ict (by decide) ?_
    refine At.enter rfl ?_
    refine r_aload_n rfl ?_
    refine r_aload_n rfl ?_
    refine r_callV1s (True) (.int 0) ((en_pre a 231 hp_M).set 231 (.inr (11, [.int 0, .int 0, .ref 232, .ref 233, .ref 234, .ref 235, .int 0, .ref 236, .int 0, .int 0, .int 0, .int 0, .long 0, .int (-1), .int 0, .int 0, .ref 237, .int 0, .ref 238, .ref 239, .int 0, .ref 240, .ref 241, .int 0, .int 0, .ref 242, .ref 243, .int 0, .ref 244, .ref 245, .int 0, .long 0, .long 0, .ref 246, .ref 247, .ref 248, .int 0, .ref 249, .ref 250, .ref 251, .ref 252, .ref 253, .ref 254, .ref 255, .ref 256, .int 0, .int 0, .int 0, .long (a1).toInt64, .ref 257, .ref 258, .int 0])), n) 172 rfl [.ref 231] [.ref 231] (Nat.le_of_ble_eq_true rfl) rfl ?_ (fun _ => ?_)
    · refine Ev.mk rfl rfl ⟨Nat.le_of_ble_eq_true rfl, Or.inr (en_rcI (en_gs_eq (hm_231 _)) rfl)⟩ ?_
      show At _ none _ _ (0, [(0, .ref 231)], [], ((en_pre a 231 hp_M).set 231 (.inr (11, [.int 0, .int 0, .ref 232, .ref 233, .ref 234, .ref 235, .int 0, .ref 236, .int 0, .int 0, .int 0, .int 0, .long 0, .int (-1), .int 0, .int 0, .ref 237, .int 0, .ref 238, .ref 239, .int 0, .ref 240, .ref 241, .int 0, .int 0, .ref 242, .ref 243, .int 0, .ref 244, .ref 245, .int 0, .long 0, .long 0, .ref 246, .ref 247, .ref 248, .int 0, .ref 249, .ref 250, .ref 251, .ref 252, .ref 253, .ref 254, .ref 255, .ref 256, .int 0, .int 0, .int 0, .long (a1).toInt64, .ref 257, .ref 258, .int 0])), n)) _
      refine At.enter rfl ?_
      refine r_iconst 0 rfl ?_
      refine r_istore_n ([(1, .int 0), (0, .ref 231)]) rfl ?_
      refine r_iconst 0 rfl ?_
      refine r_istore_n ([(2, .int 0), (1, .int 0), (0, .ref 231)]) rfl ?_
      refine Ar.fall 4 rfl ?_
      refine At.enter rfl ?_
      refine r_iload_n rfl ?_
      refine r_aload_n rfl ?_
      refine r_get (v := .ref 233) (en_gs_eq (hm_231 _)) rfl ?_
      refine r_iconst 1 rfl ?_
      refine r_iald (v := 0) (en_gs_ne (by decide) (hm_233 _)) (by decide) rfl ?_
      refine r_ict (by decide) ?_
      refine At.enter rfl ?_
      refine r_iload_n rfl ?_
      refine r_ireti ?_
      exact ⟨trivial, rfl, rfl⟩
    refine At.enter rfl ?_
    refine r_callV1s (True) (.int 0) ((en_pre a 231 hp_M).set 231 (.inr (11, [.int 0, .int 0, .ref 232, .ref 233, .ref 234, .ref 235, .int 0, .ref 236, .int 0, .int 0, .int 0, .int 0, .long 0, .int (-1), .int 0, .int 0, .ref 237, .int 0, .ref 238, .ref 239, .int 0, .ref 240, .ref 241, .int 0, .int 0, .ref 242, .ref 243, .int 0, .ref 244, .ref 245, .int 0, .long 0, .long 0, .ref 246, .ref 247, .ref 248, .int 0, .ref 249, .ref 250, .ref 251, .ref 252, .ref 253, .ref 254, .ref 255, .ref 256, .int 0, .int 0, .int 0, .long (a1).toInt64, .ref 257, .ref 258, .int 0])), n) 175 rfl [.ref 231, .int 0] [] (Nat.le_of_ble_eq_true rfl) rfl ?_ (fun _ => ?_)
    · refine Ev.mk rfl rfl ⟨Nat.le_of_ble_eq_true rfl, Or.inr (en_rcI (en_gs_eq (hm_231 _)) rfl)⟩ ?_
      show At _ none _ _ (0, [(0, .ref 231), (1, .int 0)], [], ((en_pre a 231 hp_M).set 231 (.inr (11, [.int 0, .int 0, .ref 232, .ref 233, .ref 234, .ref 235, .int 0, .ref 236, .int 0, .int 0, .int 0, .int 0, .long 0, .int (-1), .int 0, .int 0, .ref 237, .int 0, .ref 238, .ref 239, .int 0, .ref 240, .ref 241, .int 0, .int 0, .ref 242, .ref 243, .int 0, .ref 244, .ref 245, .int 0, .long 0, .long 0, .ref 246, .ref 247, .ref 248, .int 0, .ref 249, .ref 250, .ref 251, .ref 252, .ref 253, .ref 254, .ref 255, .ref 256, .int 0, .int 0, .int 0, .long (a1).toInt64, .ref 257, .ref 258, .int 0])), n)) _
      refine At.enter rfl ?_
      refine r_aload_n rfl ?_
      refine r_iload_n rfl ?_
      refine r_ift (by decide) ?_
      refine At.enter rfl ?_
      refine r_iconst 0 rfl ?_
      refine Ar.fall 10 rfl ?_
      refine At.enter rfl ?_
      refine r_putf (en_gs_eq (hm_231 _)) (Nat.le_of_ble_eq_true rfl) rfl [.int 0, .int 0, .ref 232, .ref 233, .ref 234, .ref 235, .int 0, .ref 236, .int 0, .int 0, .int 0, .int 0, .long 0, .int (-1), .int 0, .int 0, .ref 237, .int 0, .ref 238, .ref 239, .int 0, .ref 240, .ref 241, .int 0, .int 0, .ref 242, .ref 243, .int 0, .ref 244, .ref 245, .int 0, .long 0, .long 0, .ref 246, .ref 247, .ref 248, .int 0, .ref 249, .ref 250, .ref 251, .ref 252, .ref 253, .ref 254, .ref 255, .ref 256, .int 0, .int 0, .int 0, .long (a1).toInt64, .ref 257, .ref 258, .int 0] rfl ?_
      refine Ar.hp (en_sg (en_gs_eq (hm_231 _))).symm ?_
      refine r_iload_n rfl ?_
      refine r_ift (by decide) ?_
      refine At.enter rfl ?_
      refine r_iload_n rfl ?_
      refine r_ireti ?_
      exact ⟨trivial, rfl, rfl⟩
    refine At.enter rfl ?_
    refine r_ireti ?_
    exact ⟨congrArg (fun z => some (Value.int z)) (by have z0 : (0 : Int32).toInt = 0 := rfl; have z1 : (1 : Int32).toInt = 1 := rfl; have z2 : (-1 : Int32).toInt = -1 := rfl; have z4 : (4 : Int32).toInt = 4 := rfl; have z5 : (5 : Int32).toInt = 5 := rfl; unfold sp_draw; (repeat' split) <;> first | rfl | omega | (refine Int32.toInt_inj.mp ?_; omega)), (en_lset (en_prel a)), rfl⟩
set_option maxRecDepth 100000 in
set_option maxHeartbeats 4000000 in
theorem zx_X10_draw (a1 : Int32) : Ev 14 138 [.ref 0, .int a1] (hp_X ++ hp_M, 51333) (fun r h' => r = some (.int (sp_draw a1)) ∧ IsX h'.1 ∧ h'.2 = 51333) := by
  refine Ev.mk rfl rfl ⟨Nat.le_of_ble_eq_true rfl, Or.inr (en_rcI hx_0 rfl)⟩ ?_
  show At _ none _ _ (0, [(0, .ref 0), (1, .int a1)], [], (hp_X ++ hp_M, 51333)) _
  refine At.enter rfl ?_
  refine r_iload_n rfl ?_
  refine r_iconst 0 rfl ?_
  refine r_ldcw 1000000 rfl ?_
  refine r_callS3s (((a1).toInt < (0))) (((a1).toInt ≥ (0)) ∧ ((a1).toInt > (1000000))) (((a1).toInt ≥ (0)) ∧ ((a1).toInt ≤ (1000000))) (.int 0) (.int 0) (.int 1) (hp_X ++ hp_M, 51333) (hp_X ++ hp_M, 51333) (hp_X ++ hp_M, 51333) 8 rfl [.int a1, .int 0, .int 1000000] [] (Nat.le_of_ble_eq_true rfl) rfl ?_ (fun c1_ => ?_) (fun ⟨c1_, c2_⟩ => ?_) (fun ⟨c1_, c2_⟩ => ?_)
  · refine Ev.mk rfl rfl ⟨Nat.le_of_ble_eq_true rfl, Or.inl rfl⟩ ?_
    show At _ none _ _ (0, [(0, .int a1), (1, .int 0), (2, .int 1000000)], [], (hp_X ++ hp_M, 51333)) _
    refine At.enter rfl ?_
    refine r_iload_n rfl ?_
    refine r_iload_n rfl ?_
    refine r_ics 5 rfl (fun c1 => ?_) (fun c1 => ?_)
    · have c1_ : (a1).toInt < (0) := (by have z := en_i_lt_t c1; (try simp only [Int32.toInt_toInt64] at z); exact z)
      refine At.enter rfl ?_
      refine r_iconst 0 rfl ?_
      refine Ar.fall 15 rfl ?_
      refine At.enter rfl ?_
      refine r_iretz (by decide) ?_
      exact Or.inl ⟨c1_, rfl, rfl⟩
    · have c1_ : (a1).toInt ≥ (0) := (by have z := en_i_lt_f c1; (try simp only [Int32.toInt_toInt64] at z); exact z)
      refine At.enter rfl ?_
      refine r_iload_n rfl ?_
      refine r_iload_n rfl ?_
      refine r_ics 10 rfl (fun c2 => ?_) (fun c2 => ?_)
      · have c2_ : (a1).toInt > (1000000) := (by have z := en_i_gt_t c2; (try simp only [Int32.toInt_toInt64] at z); exact z)
        refine At.enter rfl ?_
        refine r_iconst 0 rfl ?_
        refine Ar.fall 15 rfl ?_
        refine At.enter rfl ?_
        refine r_iretz (by decide) ?_
        exact Or.inr (Or.inl ⟨⟨c1_, c2_⟩, rfl, rfl⟩)
      · have c2_ : (a1).toInt ≤ (1000000) := (by have z := en_i_gt_f c2; (try simp only [Int32.toInt_toInt64] at z); exact z)
        refine At.enter rfl ?_
        refine r_iconst 1 rfl ?_
        refine r_goto ?_
        refine At.enter rfl ?_
        refine r_iretz (by decide) ?_
        exact Or.inr (Or.inr (⟨⟨c1_, c2_⟩, rfl, rfl⟩))
  · refine At.enter rfl ?_
    refine r_iff 11 rfl (by decide) ?_
    refine At.enter rfl ?_
    refine r_aload_n rfl ?_
    refine r_iconst (-1) rfl ?_
    refine r_callV1s (True) (.int (-1)) (((hp_X ++ hp_M).set 0 (.inr (10, [.ref 1, .ref 58, .ref 173, .ref 174, .ref 176, .ref 184, .ref 188, .ref 204, .ref 220, .ref 222, .ref 223, .ref 228, .ref 229, .ref 230, .int 0, .int 0, .int 0, .int (-1)]))).set 230 (.inl (0, .inl ([0, 1, 0, 0, 0, 0, 0]))), 51333) 16 rfl [.ref 0, .int (-1)] [] (Nat.le_of_ble_eq_true rfl) rfl ?_ (fun _ => ?_)
    · exact Ev.upn _ zc_4_X10_refused
    refine At.enter rfl ?_
    refine r_ireti ?_
    exact ⟨congrArg (fun z => some (Value.int z)) (by have z0 : (0 : Int32).toInt = 0 := rfl; have z1 : (1 : Int32).toInt = 1 := rfl; have z2 : (-1 : Int32).toInt = -1 := rfl; have z4 : (4 : Int32).toInt = 4 := rfl; have z5 : (5 : Int32).toInt = 5 := rfl; unfold sp_draw; (repeat' split) <;> first | rfl | omega | (refine Int32.toInt_inj.mp ?_; omega)), (IsX.set (IsX.set IsX.base (by decide)) (by decide)), rfl⟩
  · refine At.enter rfl ?_
    refine r_iff 11 rfl (by decide) ?_
    refine At.enter rfl ?_
    refine r_aload_n rfl ?_
    refine r_iconst (-1) rfl ?_
    refine r_callV1s (True) (.int (-1)) (((hp_X ++ hp_M).set 0 (.inr (10, [.ref 1, .ref 58, .ref 173, .ref 174, .ref 176, .ref 184, .ref 188, .ref 204, .ref 220, .ref 222, .ref 223, .ref 228, .ref 229, .ref 230, .int 0, .int 0, .int 0, .int (-1)]))).set 230 (.inl (0, .inl ([0, 1, 0, 0, 0, 0, 0]))), 51333) 16 rfl [.ref 0, .int (-1)] [] (Nat.le_of_ble_eq_true rfl) rfl ?_ (fun _ => ?_)
    · exact Ev.upn _ zc_4_X10_refused
    refine At.enter rfl ?_
    refine r_ireti ?_
    exact ⟨congrArg (fun z => some (Value.int z)) (by have z0 : (0 : Int32).toInt = 0 := rfl; have z1 : (1 : Int32).toInt = 1 := rfl; have z2 : (-1 : Int32).toInt = -1 := rfl; have z4 : (4 : Int32).toInt = 4 := rfl; have z5 : (5 : Int32).toInt = 5 := rfl; unfold sp_draw; (repeat' split) <;> first | rfl | omega | (refine Int32.toInt_inj.mp ?_; omega)), (IsX.set (IsX.set IsX.base (by decide)) (by decide)), rfl⟩
  · refine At.enter rfl ?_
    refine r_ift (by decide) ?_
    refine At.enter rfl ?_
    refine r_aload_n rfl ?_
    refine r_get (v := .ref 204) hx_0 rfl ?_
    refine r_iconst 0 rfl ?_
    refine r_callV1v (True)  (hp_X ++ hp_M, 51333) 25 rfl [.ref 204, .int 0] [] (Nat.le_of_ble_eq_true rfl) rfl ?_ (fun _ => ?_)
    · exact Ev.upn _ zc_5_X1_layOut
    refine At.enter rfl ?_
    refine r_iload_n rfl ?_
    refine r_istore_n ([(2, .int a1), (0, .ref 0), (1, .int a1)]) rfl ?_
    refine r_iconst 0 rfl ?_
    refine r_istore_n ([(3, .int 0), (2, .int a1), (0, .ref 0), (1, .int a1)]) rfl ?_
    refine Ar.fall 29 rfl ?_
    refine At.enter rfl ?_
    refine r_iload_n rfl ?_
    refine r_aload_n rfl ?_
    refine r_get (v := .ref 1) hx_0 rfl ?_
    refine r_get (v := .int 0) hx_1 rfl ?_
    refine r_ict (by decide) ?_
    refine At.enter rfl ?_
    refine r_iconst 0 rfl ?_
    refine r_istore_n ([(3, .int 0), (2, .int a1), (0, .ref 0), (1, .int a1)]) rfl ?_
    refine Ar.fall 66 rfl ?_
    refine At.enter rfl ?_
    refine r_iload_n rfl ?_
    refine r_aload_n rfl ?_
    refine r_get (v := .ref 1) hx_0 rfl ?_
    refine r_get (v := .int 0) hx_1 rfl ?_
    refine r_ict (by decide) ?_
    refine At.enter rfl ?_
    refine r_aload_n rfl ?_
    refine r_get (v := .ref 204) hx_0 rfl ?_
    refine r_callV1v (True)  ((((hp_X ++ hp_M).set 211 (.inl (0, .inl (List.replicate 8 (-1))))).set 212 (.inl (0, .inl (List.replicate 8 (-1))))).set 219 (.inl (0, .inl (List.replicate 800 (-1)))), 51333) 125 rfl [.ref 204] [] (Nat.le_of_ble_eq_true rfl) rfl ?_ (fun _ => ?_)
    · exact Ev.upn _ zc_6_X1_runWhole
    refine At.enter rfl ?_
    refine r_aload_n rfl ?_
    refine r_aload_n rfl ?_
    refine r_get (v := .ref 1) (en_gs_ne (by decide) (en_gs_ne (by decide) (en_gs_ne (by decide) hx_0))) rfl ?_
    refine r_get (v := .int 0) (en_gs_ne (by decide) (en_gs_ne (by decide) (en_gs_ne (by decide) hx_1))) rfl ?_
    refine r_putf (en_gs_ne (by decide) (en_gs_ne (by decide) (en_gs_ne (by decide) hx_0))) (Nat.le_of_ble_eq_true rfl) rfl [.ref 1, .ref 58, .ref 173, .ref 174, .ref 176, .ref 184, .ref 188, .ref 204, .ref 220, .ref 222, .ref 223, .ref 228, .ref 229, .ref 230, .int 0, .int 0, .int 0, .int 0] rfl ?_
    refine Ar.hp (en_sg (en_gs_ne (by decide) (en_gs_ne (by decide) (en_gs_ne (by decide) hx_0)))).symm ?_
    refine r_aload_n rfl ?_
    refine r_get (v := .ref 204) (en_gs_ne (by decide) (en_gs_ne (by decide) (en_gs_ne (by decide) hx_0))) rfl ?_
    refine r_get (v := .ref 212) (en_gs_ne (by decide) (en_gs_ne (by decide) (en_gs_ne (by decide) hx_204))) rfl ?_
    refine r_iconst 0 rfl ?_
    refine r_aload_n rfl ?_
    refine r_get (v := .ref 228) (en_gs_ne (by decide) (en_gs_ne (by decide) (en_gs_ne (by decide) hx_0))) rfl ?_
    refine r_iconst 0 rfl ?_
    refine r_bipush 8 rfl ?_
    refine r_cpy rfl (en_gs_ne (by decide) (en_gs_eq (en_gs_ne (by decide) hx_212))) (en_gs_ne (by decide) (en_gs_ne (by decide) (en_gs_ne (by decide) hx_228))) (by decide +kernel) (List.replicate 8 (-1)) (by decide +kernel) ?_
    refine r_aload_n rfl ?_
    refine r_get (v := .ref 204) (en_gs_ne (by decide) (en_gs_ne (by decide) (en_gs_ne (by decide) (en_gs_ne (by decide) hx_0)))) rfl ?_
    refine r_get (v := .ref 207) (en_gs_ne (by decide) (en_gs_ne (by decide) (en_gs_ne (by decide) (en_gs_ne (by decide) hx_204)))) rfl ?_
    refine r_iconst 0 rfl ?_
    refine r_aload_n rfl ?_
    refine r_get (v := .ref 229) (en_gs_ne (by decide) (en_gs_ne (by decide) (en_gs_ne (by decide) (en_gs_ne (by decide) hx_0)))) rfl ?_
    refine r_iconst 0 rfl ?_
    refine r_bipush 8 rfl ?_
    refine r_cpy rfl (en_gs_ne (by decide) (en_gs_ne (by decide) (en_gs_ne (by decide) (en_gs_ne (by decide) hx_207)))) (en_gs_ne (by decide) (en_gs_ne (by decide) (en_gs_ne (by decide) (en_gs_ne (by decide) hx_229)))) (by decide +kernel) (List.replicate 8 0) (by decide +kernel) ?_
    refine Ar.hp (en_sg (en_gs_ne (by decide) (en_gs_ne (by decide) (en_gs_ne (by decide) (en_gs_ne (by decide) hx_229))))).symm ?_
    refine r_aload_n rfl ?_
    refine r_aload_n rfl ?_
    refine r_get (v := .ref 204) (en_gs_ne (by decide) (en_gs_ne (by decide) (en_gs_ne (by decide) (en_gs_ne (by decide) hx_0)))) rfl ?_
    refine r_callV1s (True) (.int 0) (((((hp_X ++ hp_M).set 211 (.inl (0, .inl (List.replicate 8 (-1))))).set 212 (.inl (0, .inl (List.replicate 8 (-1))))).set 219 (.inl (0, .inl (List.replicate 800 (-1))))).set 228 (.inl (0, .inl (List.replicate 8 (-1)))), 51333) 180 rfl [.ref 204] [.ref 0] (Nat.le_of_ble_eq_true rfl) rfl ?_ (fun _ => ?_)
    · refine Ev.mk rfl rfl ⟨Nat.le_of_ble_eq_true rfl, Or.inr (en_rcI (en_gs_ne (by decide) (en_gs_ne (by decide) (en_gs_ne (by decide) (en_gs_ne (by decide) hx_204)))) rfl)⟩ ?_
      show At _ none _ _ (0, [(0, .ref 204)], [], (((((hp_X ++ hp_M).set 211 (.inl (0, .inl (List.replicate 8 (-1))))).set 212 (.inl (0, .inl (List.replicate 8 (-1))))).set 219 (.inl (0, .inl (List.replicate 800 (-1))))).set 228 (.inl (0, .inl (List.replicate 8 (-1)))), 51333)) _
      refine At.enter rfl ?_
      refine r_iconst 0 rfl ?_
      refine r_istore_n ([(1, .int 0), (0, .ref 204)]) rfl ?_
      refine r_iconst 0 rfl ?_
      refine r_istore_n ([(2, .int 0), (1, .int 0), (0, .ref 204)]) rfl ?_
      refine Ar.fall 4 rfl ?_
      refine At.enter rfl ?_
      refine r_iload_n rfl ?_
      refine r_aload_n rfl ?_
      refine r_get (v := .ref 1) (en_gs_ne (by decide) (en_gs_ne (by decide) (en_gs_ne (by decide) (en_gs_ne (by decide) hx_204)))) rfl ?_
      refine r_get (v := .int 0) (en_gs_ne (by decide) (en_gs_ne (by decide) (en_gs_ne (by decide) (en_gs_ne (by decide) hx_1)))) rfl ?_
      refine r_ict (by decide) ?_
      refine At.enter rfl ?_
      refine r_iload_n rfl ?_
      refine r_ireti ?_
      exact ⟨trivial, rfl, rfl⟩
    refine At.enter rfl ?_
    refine r_callV1s (True) (.int 0) (((((hp_X ++ hp_M).set 211 (.inl (0, .inl (List.replicate 8 (-1))))).set 212 (.inl (0, .inl (List.replicate 8 (-1))))).set 219 (.inl (0, .inl (List.replicate 800 (-1))))).set 228 (.inl (0, .inl (List.replicate 8 (-1)))), 51333) 183 rfl [.ref 0, .int 0] [] (Nat.le_of_ble_eq_true rfl) rfl ?_ (fun _ => ?_)
    · refine Ev.mk rfl rfl ⟨Nat.le_of_ble_eq_true rfl, Or.inr (en_rcI (en_gs_ne (by decide) (en_gs_ne (by decide) (en_gs_ne (by decide) (en_gs_ne (by decide) hx_0)))) rfl)⟩ ?_
      show At _ none _ _ (0, [(0, .ref 0), (1, .int 0)], [], (((((hp_X ++ hp_M).set 211 (.inl (0, .inl (List.replicate 8 (-1))))).set 212 (.inl (0, .inl (List.replicate 8 (-1))))).set 219 (.inl (0, .inl (List.replicate 800 (-1))))).set 228 (.inl (0, .inl (List.replicate 8 (-1)))), 51333)) _
      refine At.enter rfl ?_
      refine r_aload_n rfl ?_
      refine r_iconst 0 rfl ?_
      refine r_putf (en_gs_ne (by decide) (en_gs_ne (by decide) (en_gs_ne (by decide) (en_gs_ne (by decide) hx_0)))) (Nat.le_of_ble_eq_true rfl) rfl [.ref 1, .ref 58, .ref 173, .ref 174, .ref 176, .ref 184, .ref 188, .ref 204, .ref 220, .ref 222, .ref 223, .ref 228, .ref 229, .ref 230, .int 0, .int 0, .int 0, .int 0] rfl ?_
      refine Ar.hp (en_sg (en_gs_ne (by decide) (en_gs_ne (by decide) (en_gs_ne (by decide) (en_gs_ne (by decide) hx_0))))).symm ?_
      refine r_iload_n rfl ?_
      refine r_ireti ?_
      exact ⟨trivial, rfl, rfl⟩
    refine At.enter rfl ?_
    refine r_ireti ?_
    exact ⟨congrArg (fun z => some (Value.int z)) (by have z0 : (0 : Int32).toInt = 0 := rfl; have z1 : (1 : Int32).toInt = 1 := rfl; have z2 : (-1 : Int32).toInt = -1 := rfl; have z4 : (4 : Int32).toInt = 4 := rfl; have z5 : (5 : Int32).toInt = 5 := rfl; unfold sp_draw; (repeat' split) <;> first | rfl | omega | (refine Int32.toInt_inj.mp ?_; omega)), (IsX.set (IsX.set (IsX.set (IsX.set IsX.base (by decide)) (by decide)) (by decide)) (by decide)), rfl⟩
