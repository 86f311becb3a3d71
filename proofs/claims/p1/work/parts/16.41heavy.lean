def sp_count (a1 : Int32) : Int32 := if 0 ≤ a1.toInt ∧ a1.toInt ≤ 11 then 0 else if a1.toInt = 13 then 60 else if a1.toInt = 14 then 2 else -1
set_option maxRecDepth 100000 in
set_option maxHeartbeats 4000000 in
theorem zm_X11_count (a : Nat → en_E) (n : Nat) (a1 : Int32) : Ev 14 263 [.ref 231, .int a1] (en_pre a 231 hp_M, n) (fun r h' => r = some (.int (sp_count a1)) ∧ h'.1.length = 259 ∧ h'.2 = n) := by
  by_cases pp_4 : a1.toInt = 4
  · have pe_4 : a1 = 4 := Int32.toInt_inj.mp pp_4
    subst pe_4
    refine Ev.mk rfl rfl ⟨Nat.le_of_ble_eq_true rfl, Or.inr (en_rcI (hm_231 _) rfl)⟩ ?_
    show At _ none _ _ (0, [(0, .ref 231), (1, .int 4)], [], (en_pre a 231 hp_M, n)) _
    refine At.enter rfl ?_
    refine r_aload_n rfl ?_
    refine r_iconst 0 rfl ?_
    refine r_putf (hm_231 _) (Nat.le_of_ble_eq_true rfl) rfl [.int 0, .int 0, .ref 232, .ref 233, .ref 234, .ref 235, .int 0, .ref 236, .int 0, .int 0, .int 0, .int 0, .long 0, .int (-1), .int 0, .int 0, .ref 237, .int 0, .ref 238, .ref 239, .int 0, .ref 240, .ref 241, .int 0, .int 0, .ref 242, .ref 243, .int 0, .ref 244, .ref 245, .int 0, .long 0, .long 0, .ref 246, .ref 247, .ref 248, .int 0, .ref 249, .ref 250, .ref 251, .ref 252, .ref 253, .ref 254, .ref 255, .ref 256, .int 0, .int 0, .int 0, .long 0, .ref 257, .ref 258, .int 0] rfl ?_
    refine Ar.hp (en_sg (hm_231 _)).symm ?_
    refine r_iload_n rfl ?_
    refine r_iconst 4 rfl ?_
    refine r_ict (by decide) ?_
    refine At.enter rfl ?_
    refine r_aload_n rfl ?_
    refine r_callV1v (True)  (en_pre a 231 hp_M, n) 19 rfl [.ref 231] [] (Nat.le_of_ble_eq_true rfl) rfl ?_ (fun _ => ?_)
    · refine Ev.mk rfl rfl ⟨Nat.le_of_ble_eq_true rfl, Or.inr (en_rcI (hm_231 _) rfl)⟩ ?_
      show At _ none _ _ (0, [(0, .ref 231)], [], (en_pre a 231 hp_M, n)) _
      refine At.enter rfl ?_
      refine r_aload_n rfl ?_
      refine r_callV1v (True)  (en_pre a 231 hp_M, n) 4 rfl [.ref 231] [] (Nat.le_of_ble_eq_true rfl) rfl ?_ (fun _ => ?_)
      · exact zr_asIs _ ⟨(hm_231 _), rfl, (hm_233 _), zr_row0⟩ ⟨rfl, rfl, rfl, (hm_246 _), (hm_247 _), (hm_248 _)⟩ rfl
      refine At.enter rfl ?_
      refine r_aload_n rfl ?_
      refine r_callV1v (True)  (en_pre a 231 hp_M, n) 8 rfl [.ref 231] [] (Nat.le_of_ble_eq_true rfl) rfl ?_ (fun _ => ?_)
      · exact zr_run _ ⟨(hm_231 _), rfl, (hm_233 _), rfl⟩
      refine At.enter rfl ?_
      refine r_vret ?_
      exact ⟨trivial, rfl, rfl⟩
    refine At.enter rfl ?_
    refine r_iconst 0 rfl ?_
    refine r_istore_n ([(2, .int 0), (0, .ref 231), (1, .int 4)]) rfl ?_
    refine r_iconst 0 rfl ?_
    refine r_istore_n ([(3, .int 0), (2, .int 0), (0, .ref 231), (1, .int 4)]) rfl ?_
    refine Ar.fall 23 rfl ?_
    refine At.enter rfl ?_
    refine r_iload_n rfl ?_
    refine r_aload_n rfl ?_
    refine r_get (v := .ref 233) (hm_231 _) rfl ?_
    refine r_iconst 1 rfl ?_
    refine r_iald (v := 0) (hm_233 _) (by decide) rfl ?_
    refine r_ict (by decide) ?_
    refine At.enter rfl ?_
    refine r_iload_n rfl ?_
    refine r_iconst 4 rfl ?_
    refine r_icf 62 rfl (by decide) ?_
    refine At.enter rfl ?_
    refine r_aload_n rfl ?_
    refine r_callV1s (True) (.int 0) (en_pre a 231 hp_M, n) 66 rfl [.ref 231] [] (Nat.le_of_ble_eq_true rfl) rfl ?_ (fun _ => ?_)
    · refine Ev.mk rfl rfl ⟨Nat.le_of_ble_eq_true rfl, Or.inr (en_rcI (hm_231 _) rfl)⟩ ?_
      show At _ none _ _ (0, [(0, .ref 231)], [], (en_pre a 231 hp_M, n)) _
      refine At.enter rfl ?_
      refine r_iconst 0 rfl ?_
      refine r_istore_n ([(1, .int 0), (0, .ref 231)]) rfl ?_
      refine r_iconst 0 rfl ?_
      refine r_istore_n ([(2, .int 0), (1, .int 0), (0, .ref 231)]) rfl ?_
      refine Ar.fall 4 rfl ?_
      refine At.enter rfl ?_
      refine r_iload_n rfl ?_
      refine r_aload_n rfl ?_
      refine r_get (v := .ref 233) (hm_231 _) rfl ?_
      refine r_iconst 1 rfl ?_
      refine r_iald (v := 0) (hm_233 _) (by decide) rfl ?_
      refine r_ict (by decide) ?_
      refine At.enter rfl ?_
      refine r_iload_n rfl ?_
      refine r_ireti ?_
      exact ⟨trivial, rfl, rfl⟩
    refine At.enter rfl ?_
    refine r_goto ?_
    refine At.enter rfl ?_
    refine r_ireti ?_
    exact ⟨congrArg (fun z => some (Value.int z)) (by have z0 : (0 : Int32).toInt = 0 := rfl; have z1 : (1 : Int32).toInt = 1 := rfl; have z2 : (-1 : Int32).toInt = -1 := rfl; have z4 : (4 : Int32).toInt = 4 := rfl; have z5 : (5 : Int32).toInt = 5 := rfl; unfold sp_count; (repeat' split) <;> first | rfl | omega | (refine Int32.toInt_inj.mp ?_; omega)), (en_prel a), rfl⟩
  by_cases pp_5 : a1.toInt = 5
  · have pe_5 : a1 = 5 := Int32.toInt_inj.mp pp_5
    subst pe_5
    refine Ev.mk rfl rfl ⟨Nat.le_of_ble_eq_true rfl, Or.inr (en_rcI (hm_231 _) rfl)⟩ ?_
    show At _ none _ _ (0, [(0, .ref 231), (1, .int 5)], [], (en_pre a 231 hp_M, n)) _
    refine At.enter rfl ?_
    refine r_aload_n rfl ?_
    refine r_iconst 0 rfl ?_
    refine r_putf (hm_231 _) (Nat.le_of_ble_eq_true rfl) rfl [.int 0, .int 0, .ref 232, .ref 233, .ref 234, .ref 235, .int 0, .ref 236, .int 0, .int 0, .int 0, .int 0, .long 0, .int (-1), .int 0, .int 0, .ref 237, .int 0, .ref 238, .ref 239, .int 0, .ref 240, .ref 241, .int 0, .int 0, .ref 242, .ref 243, .int 0, .ref 244, .ref 245, .int 0, .long 0, .long 0, .ref 246, .ref 247, .ref 248, .int 0, .ref 249, .ref 250, .ref 251, .ref 252, .ref 253, .ref 254, .ref 255, .ref 256, .int 0, .int 0, .int 0, .long 0, .ref 257, .ref 258, .int 0] rfl ?_
    refine Ar.hp (en_sg (hm_231 _)).symm ?_
    refine r_iload_n rfl ?_
    refine r_iconst 4 rfl ?_
    refine r_icf 10 rfl (by decide) ?_
    refine At.enter rfl ?_
    refine r_iload_n rfl ?_
    refine r_iconst 5 rfl ?_
    refine r_icf 15 rfl (by decide) ?_
    refine At.enter rfl ?_
    refine r_aload_n rfl ?_
    refine r_callV1v (True)  (en_pre a 231 hp_M, n) 19 rfl [.ref 231] [] (Nat.le_of_ble_eq_true rfl) rfl ?_ (fun _ => ?_)
    · refine Ev.mk rfl rfl ⟨Nat.le_of_ble_eq_true rfl, Or.inr (en_rcI (hm_231 _) rfl)⟩ ?_
      show At _ none _ _ (0, [(0, .ref 231)], [], (en_pre a 231 hp_M, n)) _
      refine At.enter rfl ?_
      refine r_aload_n rfl ?_
      refine r_callV1v (True)  (en_pre a 231 hp_M, n) 4 rfl [.ref 231] [] (Nat.le_of_ble_eq_true rfl) rfl ?_ (fun _ => ?_)
      · exact zr_asIs _ ⟨(hm_231 _), rfl, (hm_233 _), zr_row0⟩ ⟨rfl, rfl, rfl, (hm_246 _), (hm_247 _), (hm_248 _)⟩ rfl
      refine At.enter rfl ?_
      refine r_aload_n rfl ?_
      refine r_callV1v (True)  (en_pre a 231 hp_M, n) 8 rfl [.ref 231] [] (Nat.le_of_ble_eq_true rfl) rfl ?_ (fun _ => ?_)
      · exact zr_run _ ⟨(hm_231 _), rfl, (hm_233 _), rfl⟩
      refine At.enter rfl ?_
      refine r_vret ?_
      exact ⟨trivial, rfl, rfl⟩
    refine At.enter rfl ?_
    refine r_iconst 0 rfl ?_
    refine r_istore_n ([(2, .int 0), (0, .ref 231), (1, .int 5)]) rfl ?_
    refine r_iconst 0 rfl ?_
    refine r_istore_n ([(3, .int 0), (2, .int 0), (0, .ref 231), (1, .int 5)]) rfl ?_
    refine Ar.fall 23 rfl ?_
    refine At.enter rfl ?_
    refine r_iload_n rfl ?_
    refine r_aload_n rfl ?_
    refine r_get (v := .ref 233) (hm_231 _) rfl ?_
    refine r_iconst 1 rfl ?_
    refine r_iald (v := 0) (hm_233 _) (by decide) rfl ?_
    refine r_ict (by decide) ?_
    refine At.enter rfl ?_
    refine r_iload_n rfl ?_
    refine r_iconst 4 rfl ?_
    refine r_ict (by decide) ?_
    refine At.enter rfl ?_
    refine r_iload_n rfl ?_
    refine Ar.fall 70 rfl ?_
    refine At.enter rfl ?_
    refine r_ireti ?_
    exact ⟨congrArg (fun z => some (Value.int z)) (by have z0 : (0 : Int32).toInt = 0 := rfl; have z1 : (1 : Int32).toInt = 1 := rfl; have z2 : (-1 : Int32).toInt = -1 := rfl; have z4 : (4 : Int32).toInt = 4 := rfl; have z5 : (5 : Int32).toInt = 5 := rfl; unfold sp_count; (repeat' split) <;> first | rfl | omega | (refine Int32.toInt_inj.mp ?_; omega)), (en_prel a), rfl⟩
  have pq_ : a1.toInt < 4 ∨ a1.toInt > 5 := by omega
  rcases pq_ with pq_ | pq_
  · refine Ev.mk rfl rfl ⟨Nat.le_of_ble_eq_true rfl, Or.inr (en_rcI (hm_231 _) rfl)⟩ ?_
    show At _ none _ _ (0, [(0, .ref 231), (1, .int a1)], [], (en_pre a 231 hp_M, n)) _
    refine At.enter rfl ?_
    refine r_aload_n rfl ?_
    refine r_iconst 0 rfl ?_
    refine r_putf (hm_231 _) (Nat.le_of_ble_eq_true rfl) rfl [.int 0, .int 0, .ref 232, .ref 233, .ref 234, .ref 235, .int 0, .ref 236, .int 0, .int 0, .int 0, .int 0, .long 0, .int (-1), .int 0, .int 0, .ref 237, .int 0, .ref 238, .ref 239, .int 0, .ref 240, .ref 241, .int 0, .int 0, .ref 242, .ref 243, .int 0, .ref 244, .ref 245, .int 0, .long 0, .long 0, .ref 246, .ref 247, .ref 248, .int 0, .ref 249, .ref 250, .ref 251, .ref 252, .ref 253, .ref 254, .ref 255, .ref 256, .int 0, .int 0, .int 0, .long 0, .ref 257, .ref 258, .int 0] rfl ?_
    refine Ar.hp (en_sg (hm_231 _)).symm ?_
    refine r_iload_n rfl ?_
    refine r_iconst 4 rfl ?_
    refine r_ics 10 rfl (fun c1 => ?_) (fun c1 => ?_)
    · have c1_ : (a1).toInt = (4) := (by have z := en_i_eq_t c1; (try simp only [Int32.toInt_toInt64] at z); exact z)
      exfalso; omega
    · have c1_ : (a1).toInt ≠ (4) := (by have z := en_i_eq_f c1; (try simp only [Int32.toInt_toInt64] at z); exact z)
      refine At.enter rfl ?_
      refine r_iload_n rfl ?_
      refine r_iconst 5 rfl ?_
      refine r_ics 15 rfl (fun c2 => ?_) (fun c2 => ?_)
      · have c2_ : (a1).toInt ≠ (5) := (by have z := en_i_ne_t c2; (try simp only [Int32.toInt_toInt64] at z); exact z)
        refine At.enter rfl ?_
        refine r_iload_n rfl ?_
        by_cases c3_0 : (a1).toInt = 0
        · refine r_tsw 148 (by rw [c3_0]; rfl) ?_
          refine At.enter rfl ?_
          refine r_aload_n rfl ?_
          refine r_get (v := .ref 233) (hm_231 _) rfl ?_
          refine r_iconst 0 rfl ?_
          refine r_iald (v := 0) (hm_233 _) (by decide) rfl ?_
          refine r_ireti ?_
          exact ⟨congrArg (fun z => some (Value.int z)) (by have z0 : (0 : Int32).toInt = 0 := rfl; have z1 : (1 : Int32).toInt = 1 := rfl; have z2 : (-1 : Int32).toInt = -1 := rfl; have z4 : (4 : Int32).toInt = 4 := rfl; have z5 : (5 : Int32).toInt = 5 := rfl; unfold sp_count; (repeat' split) <;> first | rfl | omega | (refine Int32.toInt_inj.mp ?_; omega)), (en_prel a), rfl⟩
        by_cases c3_1 : (a1).toInt = 1
        · refine r_tsw 155 (by rw [c3_1]; rfl) ?_
          refine At.enter rfl ?_
          refine r_aload_n rfl ?_
          refine r_get (v := .ref 233) (hm_231 _) rfl ?_
          refine r_iconst 1 rfl ?_
          refine r_iald (v := 0) (hm_233 _) (by decide) rfl ?_
          refine r_ireti ?_
          exact ⟨congrArg (fun z => some (Value.int z)) (by have z0 : (0 : Int32).toInt = 0 := rfl; have z1 : (1 : Int32).toInt = 1 := rfl; have z2 : (-1 : Int32).toInt = -1 := rfl; have z4 : (4 : Int32).toInt = 4 := rfl; have z5 : (5 : Int32).toInt = 5 := rfl; unfold sp_count; (repeat' split) <;> first | rfl | omega | (refine Int32.toInt_inj.mp ?_; omega)), (en_prel a), rfl⟩
        by_cases c3_2 : (a1).toInt = 2
        · refine r_tsw 162 (by rw [c3_2]; rfl) ?_
          refine At.enter rfl ?_
          refine r_aload_n rfl ?_
          refine r_get (v := .ref 233) (hm_231 _) rfl ?_
          refine r_iconst 2 rfl ?_
          refine r_iald (v := 0) (hm_233 _) (by decide) rfl ?_
          refine r_ireti ?_
          exact ⟨congrArg (fun z => some (Value.int z)) (by have z0 : (0 : Int32).toInt = 0 := rfl; have z1 : (1 : Int32).toInt = 1 := rfl; have z2 : (-1 : Int32).toInt = -1 := rfl; have z4 : (4 : Int32).toInt = 4 := rfl; have z5 : (5 : Int32).toInt = 5 := rfl; unfold sp_count; (repeat' split) <;> first | rfl | omega | (refine Int32.toInt_inj.mp ?_; omega)), (en_prel a), rfl⟩
        by_cases c3_3 : (a1).toInt = 3
        · refine r_tsw 169 (by rw [c3_3]; rfl) ?_
          refine At.enter rfl ?_
          refine r_aload_n rfl ?_
          refine r_get (v := .ref 233) (hm_231 _) rfl ?_
          refine r_iconst 4 rfl ?_
          refine r_iald (v := 0) (hm_233 _) (by decide) rfl ?_
          refine r_ireti ?_
          exact ⟨congrArg (fun z => some (Value.int z)) (by have z0 : (0 : Int32).toInt = 0 := rfl; have z1 : (1 : Int32).toInt = 1 := rfl; have z2 : (-1 : Int32).toInt = -1 := rfl; have z4 : (4 : Int32).toInt = 4 := rfl; have z5 : (5 : Int32).toInt = 5 := rfl; unfold sp_count; (repeat' split) <;> first | rfl | omega | (refine Int32.toInt_inj.mp ?_; omega)), (en_prel a), rfl⟩
        have c4 : (a1).toInt < 0 ∨ 14 < (a1).toInt := by omega
        refine r_tsw 239 (by unfold en_sw; rw [if_pos c4]; rfl) ?_
        refine At.enter rfl ?_
        refine r_iconst (-1) rfl ?_
        refine r_ireti ?_
        exact ⟨congrArg (fun z => some (Value.int z)) (by have z0 : (0 : Int32).toInt = 0 := rfl; have z1 : (1 : Int32).toInt = 1 := rfl; have z2 : (-1 : Int32).toInt = -1 := rfl; have z4 : (4 : Int32).toInt = 4 := rfl; have z5 : (5 : Int32).toInt = 5 := rfl; unfold sp_count; (repeat' split) <;> first | rfl | omega | (refine Int32.toInt_inj.mp ?_; omega)), (en_prel a), rfl⟩
      · have c2_ : (a1).toInt = (5) := (by have z := en_i_ne_f c2; (try simp only [Int32.toInt_toInt64] at z); exact z)
        exfalso; omega
  · refine Ev.mk rfl rfl ⟨Nat.le_of_ble_eq_true rfl, Or.inr (en_rcI (hm_231 _) rfl)⟩ ?_
    show At _ none _ _ (0, [(0, .ref 231), (1, .int a1)], [], (en_pre a 231 hp_M, n)) _
    refine At.enter rfl ?_
    refine r_aload_n rfl ?_
    refine r_iconst 0 rfl ?_
    refine r_putf (hm_231 _) (Nat.le_of_ble_eq_true rfl) rfl [.int 0, .int 0, .ref 232, .ref 233, .ref 234, .ref 235, .int 0, .ref 236, .int 0, .int 0, .int 0, .int 0, .long 0, .int (-1), .int 0, .int 0, .ref 237, .int 0, .ref 238, .ref 239, .int 0, .ref 240, .ref 241, .int 0, .int 0, .ref 242, .ref 243, .int 0, .ref 244, .ref 245, .int 0, .long 0, .long 0, .ref 246, .ref 247, .ref 248, .int 0, .ref 249, .ref 250, .ref 251, .ref 252, .ref 253, .ref 254, .ref 255, .ref 256, .int 0, .int 0, .int 0, .long 0, .ref 257, .ref 258, .int 0] rfl ?_
    refine Ar.hp (en_sg (hm_231 _)).symm ?_
    refine r_iload_n rfl ?_
    refine r_iconst 4 rfl ?_
    refine r_ics 10 rfl (fun c5 => ?_) (fun c5 => ?_)
    · have c5_ : (a1).toInt = (4) := (by have z := en_i_eq_t c5; (try simp only [Int32.toInt_toInt64] at z); exact z)
      exfalso; omega
    · have c5_ : (a1).toInt ≠ (4) := (by have z := en_i_eq_f c5; (try simp only [Int32.toInt_toInt64] at z); exact z)
      refine At.enter rfl ?_
      refine r_iload_n rfl ?_
      refine r_iconst 5 rfl ?_
      refine r_ics 15 rfl (fun c6 => ?_) (fun c6 => ?_)
      · have c6_ : (a1).toInt ≠ (5) := (by have z := en_i_ne_t c6; (try simp only [Int32.toInt_toInt64] at z); exact z)
        refine At.enter rfl ?_
        refine r_iload_n rfl ?_
        by_cases c7_6 : (a1).toInt = 6
        · refine r_tsw 176 (by rw [c7_6]; rfl) ?_
          refine At.enter rfl ?_
          refine r_aload_n rfl ?_
          refine r_get (v := .int 0) (hm_231 _) rfl ?_
          refine r_ireti ?_
          exact ⟨congrArg (fun z => some (Value.int z)) (by have z0 : (0 : Int32).toInt = 0 := rfl; have z1 : (1 : Int32).toInt = 1 := rfl; have z2 : (-1 : Int32).toInt = -1 := rfl; have z4 : (4 : Int32).toInt = 4 := rfl; have z5 : (5 : Int32).toInt = 5 := rfl; unfold sp_count; (repeat' split) <;> first | rfl | omega | (refine Int32.toInt_inj.mp ?_; omega)), (en_prel a), rfl⟩
        by_cases c7_7 : (a1).toInt = 7
        · refine r_tsw 181 (by rw [c7_7]; rfl) ?_
          refine At.enter rfl ?_
          refine r_aload_n rfl ?_
          refine r_get (v := .ref 232) (hm_231 _) rfl ?_
          refine r_iconst 1 rfl ?_
          refine r_iald (v := 0) (hm_232 _) (by decide) rfl ?_
          refine r_ireti ?_
          exact ⟨congrArg (fun z => some (Value.int z)) (by have z0 : (0 : Int32).toInt = 0 := rfl; have z1 : (1 : Int32).toInt = 1 := rfl; have z2 : (-1 : Int32).toInt = -1 := rfl; have z4 : (4 : Int32).toInt = 4 := rfl; have z5 : (5 : Int32).toInt = 5 := rfl; unfold sp_count; (repeat' split) <;> first | rfl | omega | (refine Int32.toInt_inj.mp ?_; omega)), (en_prel a), rfl⟩
        by_cases c7_8 : (a1).toInt = 8
        · refine r_tsw 188 (by rw [c7_8]; rfl) ?_
          refine At.enter rfl ?_
          refine r_aload_n rfl ?_
          refine r_get (v := .ref 232) (hm_231 _) rfl ?_
          refine r_iconst 2 rfl ?_
          refine r_iald (v := 0) (hm_232 _) (by decide) rfl ?_
          refine r_ireti ?_
          exact ⟨congrArg (fun z => some (Value.int z)) (by have z0 : (0 : Int32).toInt = 0 := rfl; have z1 : (1 : Int32).toInt = 1 := rfl; have z2 : (-1 : Int32).toInt = -1 := rfl; have z4 : (4 : Int32).toInt = 4 := rfl; have z5 : (5 : Int32).toInt = 5 := rfl; unfold sp_count; (repeat' split) <;> first | rfl | omega | (refine Int32.toInt_inj.mp ?_; omega)), (en_prel a), rfl⟩
        by_cases c7_9 : (a1).toInt = 9
        · refine r_tsw 195 (by rw [c7_9]; rfl) ?_
          refine At.enter rfl ?_
          refine r_aload_n rfl ?_
          refine r_get (v := .ref 232) (hm_231 _) rfl ?_
          refine r_iconst 3 rfl ?_
          refine r_iald (v := 0) (hm_232 _) (by decide) rfl ?_
          refine r_ireti ?_
          exact ⟨congrArg (fun z => some (Value.int z)) (by have z0 : (0 : Int32).toInt = 0 := rfl; have z1 : (1 : Int32).toInt = 1 := rfl; have z2 : (-1 : Int32).toInt = -1 := rfl; have z4 : (4 : Int32).toInt = 4 := rfl; have z5 : (5 : Int32).toInt = 5 := rfl; unfold sp_count; (repeat' split) <;> first | rfl | omega | (refine Int32.toInt_inj.mp ?_; omega)), (en_prel a), rfl⟩
        by_cases c7_10 : (a1).toInt = 10
        · refine r_tsw 202 (by rw [c7_10]; rfl) ?_
          refine At.enter rfl ?_
          refine r_aload_n rfl ?_
          refine r_get (v := .ref 232) (hm_231 _) rfl ?_
          refine r_iconst 5 rfl ?_
          refine r_iald (v := 0) (hm_232 _) (by decide) rfl ?_
          refine r_ireti ?_
          exact ⟨congrArg (fun z => some (Value.int z)) (by have z0 : (0 : Int32).toInt = 0 := rfl; have z1 : (1 : Int32).toInt = 1 := rfl; have z2 : (-1 : Int32).toInt = -1 := rfl; have z4 : (4 : Int32).toInt = 4 := rfl; have z5 : (5 : Int32).toInt = 5 := rfl; unfold sp_count; (repeat' split) <;> first | rfl | omega | (refine Int32.toInt_inj.mp ?_; omega)), (en_prel a), rfl⟩
        by_cases c7_11 : (a1).toInt = 11
        · refine r_tsw 209 (by rw [c7_11]; rfl) ?_
          refine At.enter rfl ?_
          refine r_aload_n rfl ?_
          refine r_get (v := .ref 232) (hm_231 _) rfl ?_
          refine r_bipush 6 rfl ?_
          refine r_iald (v := 0) (hm_232 _) (by decide) rfl ?_
          refine r_ireti ?_
          exact ⟨congrArg (fun z => some (Value.int z)) (by have z0 : (0 : Int32).toInt = 0 := rfl; have z1 : (1 : Int32).toInt = 1 := rfl; have z2 : (-1 : Int32).toInt = -1 := rfl; have z4 : (4 : Int32).toInt = 4 := rfl; have z5 : (5 : Int32).toInt = 5 := rfl; unfold sp_count; (repeat' split) <;> first | rfl | omega | (refine Int32.toInt_inj.mp ?_; omega)), (en_prel a), rfl⟩
        by_cases c7_12 : (a1).toInt = 12
        · refine r_tsw 217 (by rw [c7_12]; rfl) ?_
          refine At.enter rfl ?_
          refine r_aload_n rfl ?_
          refine r_get (v := .ref 233) (hm_231 _) rfl ?_
          refine r_iconst 3 rfl ?_
          refine r_iald (v := (-1)) (hm_233 _) (by decide) rfl ?_
          refine r_ireti ?_
          exact ⟨congrArg (fun z => some (Value.int z)) (by have z0 : (0 : Int32).toInt = 0 := rfl; have z1 : (1 : Int32).toInt = 1 := rfl; have z2 : (-1 : Int32).toInt = -1 := rfl; have z4 : (4 : Int32).toInt = 4 := rfl; have z5 : (5 : Int32).toInt = 5 := rfl; unfold sp_count; (repeat' split) <;> first | rfl | omega | (refine Int32.toInt_inj.mp ?_; omega)), (en_prel a), rfl⟩
        by_cases c7_13 : (a1).toInt = 13
        · refine r_tsw 224 (by rw [c7_13]; rfl) ?_
          refine At.enter rfl ?_
          refine r_aload_n rfl ?_
          refine r_get (v := .ref 233) (hm_231 _) rfl ?_
          refine r_iconst 5 rfl ?_
          refine r_iald (v := 60) (hm_233 _) (by decide) rfl ?_
          refine r_ireti ?_
          exact ⟨congrArg (fun z => some (Value.int z)) (by have z0 : (0 : Int32).toInt = 0 := rfl; have z1 : (1 : Int32).toInt = 1 := rfl; have z2 : (-1 : Int32).toInt = -1 := rfl; have z4 : (4 : Int32).toInt = 4 := rfl; have z5 : (5 : Int32).toInt = 5 := rfl; unfold sp_count; (repeat' split) <;> first | rfl | omega | (refine Int32.toInt_inj.mp ?_; omega)), (en_prel a), rfl⟩
        by_cases c7_14 : (a1).toInt = 14
        · refine r_tsw 231 (by rw [c7_14]; rfl) ?_
          refine At.enter rfl ?_
          refine r_aload_n rfl ?_
          refine r_get (v := .ref 233) (hm_231 _) rfl ?_
          refine r_bipush 6 rfl ?_
          refine r_iald (v := 2) (hm_233 _) (by decide) rfl ?_
          refine r_ireti ?_
          exact ⟨congrArg (fun z => some (Value.int z)) (by have z0 : (0 : Int32).toInt = 0 := rfl; have z1 : (1 : Int32).toInt = 1 := rfl; have z2 : (-1 : Int32).toInt = -1 := rfl; have z4 : (4 : Int32).toInt = 4 := rfl; have z5 : (5 : Int32).toInt = 5 := rfl; unfold sp_count; (repeat' split) <;> first | rfl | omega | (refine Int32.toInt_inj.mp ?_; omega)), (en_prel a), rfl⟩
        have c8 : (a1).toInt < 0 ∨ 14 < (a1).toInt := by omega
        refine r_tsw 239 (by unfold en_sw; rw [if_pos c8]; rfl) ?_
        refine At.enter rfl ?_
        refine r_iconst (-1) rfl ?_
        refine r_ireti ?_
        exact ⟨congrArg (fun z => some (Value.int z)) (by have z0 : (0 : Int32).toInt = 0 := rfl; have z1 : (1 : Int32).toInt = 1 := rfl; have z2 : (-1 : Int32).toInt = -1 := rfl; have z4 : (4 : Int32).toInt = 4 := rfl; have z5 : (5 : Int32).toInt = 5 := rfl; unfold sp_count; (repeat' split) <;> first | rfl | omega | (refine Int32.toInt_inj.mp ?_; omega)), (en_prel a), rfl⟩
      · have c6_ : (a1).toInt = (5) := (by have z := en_i_ne_f c6; (try simp only [Int32.toInt_toInt64] at z); exact z)
        exfalso; omega
set_option maxRecDepth 100000 in
set_option maxHeartbeats 4000000 in
theorem zx_X10_count (a1 : Int32) : Ev 14 142 [.ref 0, .int a1] (hp_X ++ hp_M, 51333) (fun r h' => r = some (.int (sp_count a1)) ∧ IsX h'.1 ∧ h'.2 = 51333) := by
  by_cases pp_4 : a1.toInt = 4
  · have pe_4 : a1 = 4 := Int32.toInt_inj.mp pp_4
    subst pe_4
    refine Ev.mk rfl rfl ⟨Nat.le_of_ble_eq_true rfl, Or.inr (en_rcI hx_0 rfl)⟩ ?_
    show At _ none _ _ (0, [(0, .ref 0), (1, .int 4)], [], (hp_X ++ hp_M, 51333)) _
    refine At.enter rfl ?_
    refine r_iload_n rfl ?_
    refine r_tsw 108 rfl ?_
    refine At.enter rfl ?_
    refine r_aload_n rfl ?_
    refine r_callV1s (True) (.ref 188) (((((hp_X ++ hp_M).set 0 (.inr (10, [.ref 1, .ref 58, .ref 173, .ref 174, .ref 176, .ref 184, .ref 188, .ref 204, .ref 220, .ref 222, .ref 223, .ref 228, .ref 229, .ref 230, .int 1, .int 0, .int 0, .int 0]))).set 195 (.inl (0, .inl (List.replicate 8 (-1))))).set 196 (.inl (0, .inl (List.replicate 8 (-1))))).set 203 (.inl (0, .inl (List.replicate 800 (-1)))), 51333) 112 rfl [.ref 0] [] (Nat.le_of_ble_eq_true rfl) rfl ?_ (fun _ => ?_)
    · exact Ev.upn _ zc_0_X10_dayNow
    refine At.enter rfl ?_
    refine r_callV1s (True) (.int 0) (((((hp_X ++ hp_M).set 0 (.inr (10, [.ref 1, .ref 58, .ref 173, .ref 174, .ref 176, .ref 184, .ref 188, .ref 204, .ref 220, .ref 222, .ref 223, .ref 228, .ref 229, .ref 230, .int 1, .int 0, .int 0, .int 0]))).set 195 (.inl (0, .inl (List.replicate 8 (-1))))).set 196 (.inl (0, .inl (List.replicate 8 (-1))))).set 203 (.inl (0, .inl (List.replicate 800 (-1)))), 51333) 115 rfl [.ref 188] [] (Nat.le_of_ble_eq_true rfl) rfl ?_ (fun _ => ?_)
    · refine Ev.mk rfl rfl ⟨Nat.le_of_ble_eq_true rfl, Or.inr (en_rcI (en_gs_ne (by decide) (en_gs_ne (by decide) (en_gs_ne (by decide) (en_gs_ne (by decide) hx_188)))) rfl)⟩ ?_
      show At _ none _ _ (0, [(0, .ref 188)], [], (((((hp_X ++ hp_M).set 0 (.inr (10, [.ref 1, .ref 58, .ref 173, .ref 174, .ref 176, .ref 184, .ref 188, .ref 204, .ref 220, .ref 222, .ref 223, .ref 228, .ref 229, .ref 230, .int 1, .int 0, .int 0, .int 0]))).set 195 (.inl (0, .inl (List.replicate 8 (-1))))).set 196 (.inl (0, .inl (List.replicate 8 (-1))))).set 203 (.inl (0, .inl (List.replicate 800 (-1)))), 51333)) _
      refine At.enter rfl ?_
      refine r_iconst 0 rfl ?_
      refine r_istore_n ([(1, .int 0), (0, .ref 188)]) rfl ?_
      refine r_iconst 0 rfl ?_
      refine r_istore_n ([(2, .int 0), (1, .int 0), (0, .ref 188)]) rfl ?_
      refine Ar.fall 4 rfl ?_
      refine At.enter rfl ?_
      refine r_iload_n rfl ?_
      refine r_aload_n rfl ?_
      refine r_get (v := .ref 1) (en_gs_ne (by decide) (en_gs_ne (by decide) (en_gs_ne (by decide) (en_gs_ne (by decide) hx_188)))) rfl ?_
      refine r_get (v := .int 0) (en_gs_ne (by decide) (en_gs_ne (by decide) (en_gs_ne (by decide) (en_gs_ne (by decide) hx_1)))) rfl ?_
      refine r_ict (by decide) ?_
      refine At.enter rfl ?_
      refine r_iload_n rfl ?_
      refine r_ireti ?_
      exact ⟨trivial, rfl, rfl⟩
    refine At.enter rfl ?_
    refine r_ireti ?_
    exact ⟨congrArg (fun z => some (Value.int z)) (by have z0 : (0 : Int32).toInt = 0 := rfl; have z1 : (1 : Int32).toInt = 1 := rfl; have z2 : (-1 : Int32).toInt = -1 := rfl; have z4 : (4 : Int32).toInt = 4 := rfl; have z5 : (5 : Int32).toInt = 5 := rfl; unfold sp_count; (repeat' split) <;> first | rfl | omega | (refine Int32.toInt_inj.mp ?_; omega)), (IsX.set (IsX.set (IsX.set (IsX.set IsX.base (by decide)) (by decide)) (by decide)) (by decide)), rfl⟩
  by_cases pp_5 : a1.toInt = 5
  · have pe_5 : a1 = 5 := Int32.toInt_inj.mp pp_5
    subst pe_5
    refine Ev.mk rfl rfl ⟨Nat.le_of_ble_eq_true rfl, Or.inr (en_rcI hx_0 rfl)⟩ ?_
    show At _ none _ _ (0, [(0, .ref 0), (1, .int 5)], [], (hp_X ++ hp_M, 51333)) _
    refine At.enter rfl ?_
    refine r_iload_n rfl ?_
    refine r_tsw 116 rfl ?_
    refine At.enter rfl ?_
    refine r_aload_n rfl ?_
    refine r_callV1s (True) (.ref 188) (((((hp_X ++ hp_M).set 0 (.inr (10, [.ref 1, .ref 58, .ref 173, .ref 174, .ref 176, .ref 184, .ref 188, .ref 204, .ref 220, .ref 222, .ref 223, .ref 228, .ref 229, .ref 230, .int 1, .int 0, .int 0, .int 0]))).set 195 (.inl (0, .inl (List.replicate 8 (-1))))).set 196 (.inl (0, .inl (List.replicate 8 (-1))))).set 203 (.inl (0, .inl (List.replicate 800 (-1)))), 51333) 120 rfl [.ref 0] [] (Nat.le_of_ble_eq_true rfl) rfl ?_ (fun _ => ?_)
    · exact Ev.upn _ zc_0_X10_dayNow
    refine At.enter rfl ?_
    refine r_callV1s (True) (.int 0) (((((hp_X ++ hp_M).set 0 (.inr (10, [.ref 1, .ref 58, .ref 173, .ref 174, .ref 176, .ref 184, .ref 188, .ref 204, .ref 220, .ref 222, .ref 223, .ref 228, .ref 229, .ref 230, .int 1, .int 0, .int 0, .int 0]))).set 195 (.inl (0, .inl (List.replicate 8 (-1))))).set 196 (.inl (0, .inl (List.replicate 8 (-1))))).set 203 (.inl (0, .inl (List.replicate 800 (-1)))), 51333) 123 rfl [.ref 188] [] (Nat.le_of_ble_eq_true rfl) rfl ?_ (fun _ => ?_)
    · refine Ev.mk rfl rfl ⟨Nat.le_of_ble_eq_true rfl, Or.inr (en_rcI (en_gs_ne (by decide) (en_gs_ne (by decide) (en_gs_ne (by decide) (en_gs_ne (by decide) hx_188)))) rfl)⟩ ?_
      show At _ none _ _ (0, [(0, .ref 188)], [], (((((hp_X ++ hp_M).set 0 (.inr (10, [.ref 1, .ref 58, .ref 173, .ref 174, .ref 176, .ref 184, .ref 188, .ref 204, .ref 220, .ref 222, .ref 223, .ref 228, .ref 229, .ref 230, .int 1, .int 0, .int 0, .int 0]))).set 195 (.inl (0, .inl (List.replicate 8 (-1))))).set 196 (.inl (0, .inl (List.replicate 8 (-1))))).set 203 (.inl (0, .inl (List.replicate 800 (-1)))), 51333)) _
      refine At.enter rfl ?_
      refine r_iconst 0 rfl ?_
      refine r_istore_n ([(1, .int 0), (0, .ref 188)]) rfl ?_
      refine r_iconst 0 rfl ?_
      refine r_istore_n ([(2, .int 0), (1, .int 0), (0, .ref 188)]) rfl ?_
      refine Ar.fall 4 rfl ?_
      refine At.enter rfl ?_
      refine r_iload_n rfl ?_
      refine r_aload_n rfl ?_
      refine r_get (v := .ref 1) (en_gs_ne (by decide) (en_gs_ne (by decide) (en_gs_ne (by decide) (en_gs_ne (by decide) hx_188)))) rfl ?_
      refine r_get (v := .int 0) (en_gs_ne (by decide) (en_gs_ne (by decide) (en_gs_ne (by decide) (en_gs_ne (by decide) hx_1)))) rfl ?_
      refine r_ict (by decide) ?_
      refine At.enter rfl ?_
      refine r_iload_n rfl ?_
      refine r_ireti ?_
      exact ⟨trivial, rfl, rfl⟩
    refine At.enter rfl ?_
    refine r_ireti ?_
    exact ⟨congrArg (fun z => some (Value.int z)) (by have z0 : (0 : Int32).toInt = 0 := rfl; have z1 : (1 : Int32).toInt = 1 := rfl; have z2 : (-1 : Int32).toInt = -1 := rfl; have z4 : (4 : Int32).toInt = 4 := rfl; have z5 : (5 : Int32).toInt = 5 := rfl; unfold sp_count; (repeat' split) <;> first | rfl | omega | (refine Int32.toInt_inj.mp ?_; omega)), (IsX.set (IsX.set (IsX.set (IsX.set IsX.base (by decide)) (by decide)) (by decide)) (by decide)), rfl⟩
  have pq_ : a1.toInt < 4 ∨ a1.toInt > 5 := by omega
  rcases pq_ with pq_ | pq_
  · refine Ev.mk rfl rfl ⟨Nat.le_of_ble_eq_true rfl, Or.inr (en_rcI hx_0 rfl)⟩ ?_
    show At _ none _ _ (0, [(0, .ref 0), (1, .int a1)], [], (hp_X ++ hp_M, 51333)) _
    refine At.enter rfl ?_
    refine r_iload_n rfl ?_
    by_cases c1_0 : (a1).toInt = 0
    · refine r_tsw 76 (by rw [c1_0]; rfl) ?_
      refine At.enter rfl ?_
      refine r_aload_n rfl ?_
      refine r_get (v := .ref 1) hx_0 rfl ?_
      refine r_get (v := .int 0) hx_1 rfl ?_
      refine r_ireti ?_
      exact ⟨congrArg (fun z => some (Value.int z)) (by have z0 : (0 : Int32).toInt = 0 := rfl; have z1 : (1 : Int32).toInt = 1 := rfl; have z2 : (-1 : Int32).toInt = -1 := rfl; have z4 : (4 : Int32).toInt = 4 := rfl; have z5 : (5 : Int32).toInt = 5 := rfl; unfold sp_count; (repeat' split) <;> first | rfl | omega | (refine Int32.toInt_inj.mp ?_; omega)), IsX.base, rfl⟩
    by_cases c1_1 : (a1).toInt = 1
    · refine r_tsw 84 (by rw [c1_1]; rfl) ?_
      refine At.enter rfl ?_
      refine r_aload_n rfl ?_
      refine r_get (v := .ref 1) hx_0 rfl ?_
      refine r_get (v := .int 0) hx_1 rfl ?_
      refine r_ireti ?_
      exact ⟨congrArg (fun z => some (Value.int z)) (by have z0 : (0 : Int32).toInt = 0 := rfl; have z1 : (1 : Int32).toInt = 1 := rfl; have z2 : (-1 : Int32).toInt = -1 := rfl; have z4 : (4 : Int32).toInt = 4 := rfl; have z5 : (5 : Int32).toInt = 5 := rfl; unfold sp_count; (repeat' split) <;> first | rfl | omega | (refine Int32.toInt_inj.mp ?_; omega)), IsX.base, rfl⟩
    by_cases c1_2 : (a1).toInt = 2
    · refine r_tsw 92 (by rw [c1_2]; rfl) ?_
      refine At.enter rfl ?_
      refine r_aload_n rfl ?_
      refine r_get (v := .ref 1) hx_0 rfl ?_
      refine r_get (v := .int 0) hx_1 rfl ?_
      refine r_ireti ?_
      exact ⟨congrArg (fun z => some (Value.int z)) (by have z0 : (0 : Int32).toInt = 0 := rfl; have z1 : (1 : Int32).toInt = 1 := rfl; have z2 : (-1 : Int32).toInt = -1 := rfl; have z4 : (4 : Int32).toInt = 4 := rfl; have z5 : (5 : Int32).toInt = 5 := rfl; unfold sp_count; (repeat' split) <;> first | rfl | omega | (refine Int32.toInt_inj.mp ?_; omega)), IsX.base, rfl⟩
    by_cases c1_3 : (a1).toInt = 3
    · refine r_tsw 100 (by rw [c1_3]; rfl) ?_
      refine At.enter rfl ?_
      refine r_aload_n rfl ?_
      refine r_get (v := .ref 1) hx_0 rfl ?_
      refine r_get (v := .int 0) hx_1 rfl ?_
      refine r_ireti ?_
      exact ⟨congrArg (fun z => some (Value.int z)) (by have z0 : (0 : Int32).toInt = 0 := rfl; have z1 : (1 : Int32).toInt = 1 := rfl; have z2 : (-1 : Int32).toInt = -1 := rfl; have z4 : (4 : Int32).toInt = 4 := rfl; have z5 : (5 : Int32).toInt = 5 := rfl; unfold sp_count; (repeat' split) <;> first | rfl | omega | (refine Int32.toInt_inj.mp ?_; omega)), IsX.base, rfl⟩
    have c2 : (a1).toInt < 0 ∨ 14 < (a1).toInt := by omega
    refine r_tsw 192 (by unfold en_sw; rw [if_pos c2]; rfl) ?_
    refine At.enter rfl ?_
    refine r_iconst (-1) rfl ?_
    refine r_ireti ?_
    exact ⟨congrArg (fun z => some (Value.int z)) (by have z0 : (0 : Int32).toInt = 0 := rfl; have z1 : (1 : Int32).toInt = 1 := rfl; have z2 : (-1 : Int32).toInt = -1 := rfl; have z4 : (4 : Int32).toInt = 4 := rfl; have z5 : (5 : Int32).toInt = 5 := rfl; unfold sp_count; (repeat' split) <;> first | rfl | omega | (refine Int32.toInt_inj.mp ?_; omega)), IsX.base, rfl⟩
  · refine Ev.mk rfl rfl ⟨Nat.le_of_ble_eq_true rfl, Or.inr (en_rcI hx_0 rfl)⟩ ?_
    show At _ none _ _ (0, [(0, .ref 0), (1, .int a1)], [], (hp_X ++ hp_M, 51333)) _
    refine At.enter rfl ?_
    refine r_iload_n rfl ?_
    by_cases c3_6 : (a1).toInt = 6
    · refine r_tsw 124 (by rw [c3_6]; rfl) ?_
      refine At.enter rfl ?_
      refine r_aload_n rfl ?_
      refine r_get (v := .ref 174) hx_0 rfl ?_
      refine r_get (v := .int 0) hx_174 rfl ?_
      refine r_ireti ?_
      exact ⟨congrArg (fun z => some (Value.int z)) (by have z0 : (0 : Int32).toInt = 0 := rfl; have z1 : (1 : Int32).toInt = 1 := rfl; have z2 : (-1 : Int32).toInt = -1 := rfl; have z4 : (4 : Int32).toInt = 4 := rfl; have z5 : (5 : Int32).toInt = 5 := rfl; unfold sp_count; (repeat' split) <;> first | rfl | omega | (refine Int32.toInt_inj.mp ?_; omega)), IsX.base, rfl⟩
    by_cases c3_7 : (a1).toInt = 7
    · refine r_tsw 132 (by rw [c3_7]; rfl) ?_
      refine At.enter rfl ?_
      refine r_aload_n rfl ?_
      refine r_get (v := .ref 230) hx_0 rfl ?_
      refine r_iconst 1 rfl ?_
      refine r_iald (v := 0) hx_230 (by decide) rfl ?_
      refine r_ireti ?_
      exact ⟨congrArg (fun z => some (Value.int z)) (by have z0 : (0 : Int32).toInt = 0 := rfl; have z1 : (1 : Int32).toInt = 1 := rfl; have z2 : (-1 : Int32).toInt = -1 := rfl; have z4 : (4 : Int32).toInt = 4 := rfl; have z5 : (5 : Int32).toInt = 5 := rfl; unfold sp_count; (repeat' split) <;> first | rfl | omega | (refine Int32.toInt_inj.mp ?_; omega)), IsX.base, rfl⟩
    by_cases c3_8 : (a1).toInt = 8
    · refine r_tsw 139 (by rw [c3_8]; rfl) ?_
      refine At.enter rfl ?_
      refine r_aload_n rfl ?_
      refine r_get (v := .ref 230) hx_0 rfl ?_
      refine r_iconst 2 rfl ?_
      refine r_iald (v := 0) hx_230 (by decide) rfl ?_
      refine r_ireti ?_
      exact ⟨congrArg (fun z => some (Value.int z)) (by have z0 : (0 : Int32).toInt = 0 := rfl; have z1 : (1 : Int32).toInt = 1 := rfl; have z2 : (-1 : Int32).toInt = -1 := rfl; have z4 : (4 : Int32).toInt = 4 := rfl; have z5 : (5 : Int32).toInt = 5 := rfl; unfold sp_count; (repeat' split) <;> first | rfl | omega | (refine Int32.toInt_inj.mp ?_; omega)), IsX.base, rfl⟩
    by_cases c3_9 : (a1).toInt = 9
    · refine r_tsw 146 (by rw [c3_9]; rfl) ?_
      refine At.enter rfl ?_
      refine r_aload_n rfl ?_
      refine r_get (v := .ref 230) hx_0 rfl ?_
      refine r_iconst 3 rfl ?_
      refine r_iald (v := 0) hx_230 (by decide) rfl ?_
      refine r_ireti ?_
      exact ⟨congrArg (fun z => some (Value.int z)) (by have z0 : (0 : Int32).toInt = 0 := rfl; have z1 : (1 : Int32).toInt = 1 := rfl; have z2 : (-1 : Int32).toInt = -1 := rfl; have z4 : (4 : Int32).toInt = 4 := rfl; have z5 : (5 : Int32).toInt = 5 := rfl; unfold sp_count; (repeat' split) <;> first | rfl | omega | (refine Int32.toInt_inj.mp ?_; omega)), IsX.base, rfl⟩
    by_cases c3_10 : (a1).toInt = 10
    · refine r_tsw 153 (by rw [c3_10]; rfl) ?_
      refine At.enter rfl ?_
      refine r_aload_n rfl ?_
      refine r_get (v := .ref 230) hx_0 rfl ?_
      refine r_iconst 5 rfl ?_
      refine r_iald (v := 0) hx_230 (by decide) rfl ?_
      refine r_ireti ?_
      exact ⟨congrArg (fun z => some (Value.int z)) (by have z0 : (0 : Int32).toInt = 0 := rfl; have z1 : (1 : Int32).toInt = 1 := rfl; have z2 : (-1 : Int32).toInt = -1 := rfl; have z4 : (4 : Int32).toInt = 4 := rfl; have z5 : (5 : Int32).toInt = 5 := rfl; unfold sp_count; (repeat' split) <;> first | rfl | omega | (refine Int32.toInt_inj.mp ?_; omega)), IsX.base, rfl⟩
    by_cases c3_11 : (a1).toInt = 11
    · refine r_tsw 160 (by rw [c3_11]; rfl) ?_
      refine At.enter rfl ?_
      refine r_aload_n rfl ?_
      refine r_get (v := .ref 230) hx_0 rfl ?_
      refine r_bipush 6 rfl ?_
      refine r_iald (v := 0) hx_230 (by decide) rfl ?_
      refine r_ireti ?_
      exact ⟨congrArg (fun z => some (Value.int z)) (by have z0 : (0 : Int32).toInt = 0 := rfl; have z1 : (1 : Int32).toInt = 1 := rfl; have z2 : (-1 : Int32).toInt = -1 := rfl; have z4 : (4 : Int32).toInt = 4 := rfl; have z5 : (5 : Int32).toInt = 5 := rfl; unfold sp_count; (repeat' split) <;> first | rfl | omega | (refine Int32.toInt_inj.mp ?_; omega)), IsX.base, rfl⟩
    by_cases c3_12 : (a1).toInt = 12
    · refine r_tsw 168 (by rw [c3_12]; rfl) ?_
      refine At.enter rfl ?_
      refine r_aload_n rfl ?_
      refine r_get (v := .ref 1) hx_0 rfl ?_
      refine r_get (v := .int (-1)) hx_1 rfl ?_
      refine r_ireti ?_
      exact ⟨congrArg (fun z => some (Value.int z)) (by have z0 : (0 : Int32).toInt = 0 := rfl; have z1 : (1 : Int32).toInt = 1 := rfl; have z2 : (-1 : Int32).toInt = -1 := rfl; have z4 : (4 : Int32).toInt = 4 := rfl; have z5 : (5 : Int32).toInt = 5 := rfl; unfold sp_count; (repeat' split) <;> first | rfl | omega | (refine Int32.toInt_inj.mp ?_; omega)), IsX.base, rfl⟩
    by_cases c3_13 : (a1).toInt = 13
    · refine r_tsw 176 (by rw [c3_13]; rfl) ?_
      refine At.enter rfl ?_
      refine r_aload_n rfl ?_
      refine r_get (v := .ref 1) hx_0 rfl ?_
      refine r_get (v := .int 60) hx_1 rfl ?_
      refine r_ireti ?_
      exact ⟨congrArg (fun z => some (Value.int z)) (by have z0 : (0 : Int32).toInt = 0 := rfl; have z1 : (1 : Int32).toInt = 1 := rfl; have z2 : (-1 : Int32).toInt = -1 := rfl; have z4 : (4 : Int32).toInt = 4 := rfl; have z5 : (5 : Int32).toInt = 5 := rfl; unfold sp_count; (repeat' split) <;> first | rfl | omega | (refine Int32.toInt_inj.mp ?_; omega)), IsX.base, rfl⟩
    by_cases c3_14 : (a1).toInt = 14
    · refine r_tsw 184 (by rw [c3_14]; rfl) ?_
      refine At.enter rfl ?_
      refine r_aload_n rfl ?_
      refine r_get (v := .ref 1) hx_0 rfl ?_
      refine r_get (v := .int 2) hx_1 rfl ?_
      refine r_ireti ?_
      exact ⟨congrArg (fun z => some (Value.int z)) (by have z0 : (0 : Int32).toInt = 0 := rfl; have z1 : (1 : Int32).toInt = 1 := rfl; have z2 : (-1 : Int32).toInt = -1 := rfl; have z4 : (4 : Int32).toInt = 4 := rfl; have z5 : (5 : Int32).toInt = 5 := rfl; unfold sp_count; (repeat' split) <;> first | rfl | omega | (refine Int32.toInt_inj.mp ?_; omega)), IsX.base, rfl⟩
    have c4 : (a1).toInt < 0 ∨ 14 < (a1).toInt := by omega
    refine r_tsw 192 (by unfold en_sw; rw [if_pos c4]; rfl) ?_
    refine At.enter rfl ?_
    refine r_iconst (-1) rfl ?_
    refine r_ireti ?_
    exact ⟨congrArg (fun z => some (Value.int z)) (by have z0 : (0 : Int32).toInt = 0 := rfl; have z1 : (1 : Int32).toInt = 1 := rfl; have z2 : (-1 : Int32).toInt = -1 := rfl; have z4 : (4 : Int32).toInt = 4 := rfl; have z5 : (5 : Int32).toInt = 5 := rfl; unfold sp_count; (repeat' split) <;> first | rfl | omega | (refine Int32.toInt_inj.mp ?_; omega)), IsX.base, rfl⟩
def sp_home (a1 : Int32) : Int32 := if 0 ≤ a1.toInt ∧ a1.toInt ≤ 1 then 0 else if a1.toInt = 2 then 1 else -1
set_option maxRecDepth 100000 in
set_option maxHeartbeats 4000000 in
theorem zm_X11_home (a : Nat → en_E) (n : Nat) (a1 : Int32) : Ev 14 242 [.ref 231, .int a1] (en_pre a 231 hp_M, n) (fun r h' => r = some (.int (sp_home a1)) ∧ h'.1.length = 259 ∧ h'.2 = n) := by
  refine Ev.mk rfl rfl ⟨Nat.le_of_ble_eq_true rfl, Or.inr (en_rcI (hm_231 _) rfl)⟩ ?_
  show At _ none _ _ (0, [(0, .ref 231), (1, .int a1)], [], (en_pre a 231 hp_M, n)) _
  refine At.enter rfl ?_
  refine r_aload_n rfl ?_
  refine r_iconst 0 rfl ?_
  refine r_putf (hm_231 _) (Nat.le_of_ble_eq_true rfl) rfl [.int 0, .int 0, .ref 232, .ref 233, .ref 234, .ref 235, .int 0, .ref 236, .int 0, .int 0, .int 0, .int 0, .long 0, .int (-1), .int 0, .int 0, .ref 237, .int 0, .ref 238, .ref 239, .int 0, .ref 240, .ref 241, .int 0, .int 0, .ref 242, .ref 243, .int 0, .ref 244, .ref 245, .int 0, .long 0, .long 0, .ref 246, .ref 247, .ref 248, .int 0, .ref 249, .ref 250, .ref 251, .ref 252, .ref 253, .ref 254, .ref 255, .ref 256, .int 0, .int 0, .int 0, .long 0, .ref 257, .ref 258, .int 0] rfl ?_
  refine Ar.hp (en_sg (hm_231 _)).symm ?_
  refine r_iload_n rfl ?_
  refine r_i2l ((a1).toInt64) rfl ?_
  refine r_lconst 0 rfl ?_
  refine r_ldc2 2 rfl ?_
  refine r_callS3s (((a1).toInt < (0))) (((a1).toInt ≥ (0)) ∧ ((a1).toInt > (2))) (((a1).toInt ≥ (0)) ∧ ((a1).toInt ≤ (2))) (.int 0) (.int 0) (.int 1) (en_pre a 231 hp_M, n) (en_pre a 231 hp_M, n) (en_pre a 231 hp_M, n) 14 rfl [.long (a1).toInt64, .long 0, .long 2] [] (Nat.le_of_ble_eq_true rfl) rfl ?_ (fun c1_ => ?_) (fun ⟨c1_, c2_⟩ => ?_) (fun ⟨c1_, c2_⟩ => ?_)
  · refine Ev.mk rfl rfl ⟨Nat.le_of_ble_eq_true rfl, Or.inl rfl⟩ ?_
    show At _ none _ _ (0, [(0, .long (a1).toInt64), (2, .long 0), (4, .long 2)], [], (en_pre a 231 hp_M, n)) _
    refine At.enter rfl ?_
    refine r_lload_n rfl ?_
    refine r_lload_n rfl ?_
    refine r_lcmp (lg_cmp (a1).toInt64 0) rfl ?_
    refine r_ifs 6 rfl (fun c1 => ?_) (fun c1 => ?_)
    · have c1_ : (a1).toInt < (0) := (by have z := en_j_lt_t c1; (try simp only [Int32.toInt_toInt64] at z); exact z)
      refine At.enter rfl ?_
      refine r_iconst 0 rfl ?_
      refine Ar.fall 18 rfl ?_
      refine At.enter rfl ?_
      refine r_iretz (by decide) ?_
      exact Or.inl ⟨c1_, rfl, rfl⟩
    · have c1_ : (a1).toInt ≥ (0) := (by have z := en_j_lt_f c1; (try simp only [Int32.toInt_toInt64] at z); exact z)
      refine At.enter rfl ?_
      refine r_lload_n rfl ?_
      refine r_lload rfl ?_
      refine r_lcmp (lg_cmp (a1).toInt64 2) rfl ?_
      refine r_ifs 13 rfl (fun c2 => ?_) (fun c2 => ?_)
      · have c2_ : (a1).toInt > (2) := (by have z := en_j_gt_t c2; (try simp only [Int32.toInt_toInt64] at z); exact z)
        refine At.enter rfl ?_
        refine r_iconst 0 rfl ?_
        refine Ar.fall 18 rfl ?_
        refine At.enter rfl ?_
        refine r_iretz (by decide) ?_
        exact Or.inr (Or.inl ⟨⟨c1_, c2_⟩, rfl, rfl⟩)
      · have c2_ : (a1).toInt ≤ (2) := (by have z := en_j_gt_f c2; (try simp only [Int32.toInt_toInt64] at z); exact z)
        refine At.enter rfl ?_
        refine r_iconst 1 rfl ?_
        refine r_goto ?_
        refine At.enter rfl ?_
        refine r_iretz (by decide) ?_
        exact Or.inr (Or.inr (⟨⟨c1_, c2_⟩, rfl, rfl⟩))
  · refine At.enter rfl ?_
    refine r_iff 17 rfl (by decide) ?_
    refine At.enter rfl ?_
    refine r_iconst (-1) rfl ?_
    refine r_ireti ?_
    exact ⟨congrArg (fun z => some (Value.int z)) (by have z0 : (0 : Int32).toInt = 0 := rfl; have z1 : (1 : Int32).toInt = 1 := rfl; have z2 : (-1 : Int32).toInt = -1 := rfl; have z4 : (4 : Int32).toInt = 4 := rfl; have z5 : (5 : Int32).toInt = 5 := rfl; unfold sp_home; (repeat' split) <;> first | rfl | omega | (refine Int32.toInt_inj.mp ?_; omega)), (en_prel a), rfl⟩
  · refine At.enter rfl ?_
    refine r_iff 17 rfl (by decide) ?_
    refine At.enter rfl ?_
    refine r_iconst (-1) rfl ?_
    refine r_ireti ?_
    exact ⟨congrArg (fun z => some (Value.int z)) (by have z0 : (0 : Int32).toInt = 0 := rfl; have z1 : (1 : Int32).toInt = 1 := rfl; have z2 : (-1 : Int32).toInt = -1 := rfl; have z4 : (4 : Int32).toInt = 4 := rfl; have z5 : (5 : Int32).toInt = 5 := rfl; unfold sp_home; (repeat' split) <;> first | rfl | omega | (refine Int32.toInt_inj.mp ?_; omega)), (en_prel a), rfl⟩
  · refine At.enter rfl ?_
    refine r_ift (by decide) ?_
    refine At.enter rfl ?_
    refine r_iconst 0 rfl ?_
    refine r_istore_n ([(2, .int 0), (0, .ref 231), (1, .int a1)]) rfl ?_
    refine Ar.fall 21 rfl ?_
    refine At.enter rfl ?_
    refine r_iload_n rfl ?_
    refine r_iconst 4 rfl ?_
    refine r_icf 26 rfl (by decide) ?_
    refine At.enter rfl ?_
    refine r_iconst 0 rfl ?_
    refine r_istore_n ([(3, .int 0), (2, .int 0), (0, .ref 231), (1, .int a1)]) rfl ?_
    refine r_iconst (-1) rfl ?_
    refine r_istore ([(4, .int (-1)), (3, .int 0), (2, .int 0), (0, .ref 231), (1, .int a1)]) rfl ?_
    refine r_iconst 0 rfl ?_
    refine r_istore ([(5, .int 0), (4, .int (-1)), (3, .int 0), (2, .int 0), (0, .ref 231), (1, .int a1)]) rfl ?_
    refine Ar.fall 34 rfl ?_
    refine At.enter rfl ?_
    refine r_iload rfl ?_
    refine r_iconst 1 rfl ?_
    refine r_aload_n rfl ?_
    refine r_get (v := .ref 233) (hm_231 _) rfl ?_
    refine r_iconst 0 rfl ?_
    refine r_iald (v := 0) (hm_233 _) (by decide) rfl ?_
    refine r_ishl 1 rfl ?_
    refine r_icf 47 rfl (by decide) ?_
    refine At.enter rfl ?_
    refine r_iload rfl ?_
    refine r_callS1s (True) (.int 0) (en_pre a 231 hp_M, n) 52 rfl [.int 0] [] (Nat.le_of_ble_eq_true rfl) rfl ?_ (fun _ => ?_)
    · refine Ev.mk rfl rfl ⟨Nat.le_of_ble_eq_true rfl, Or.inl rfl⟩ ?_
      show At _ none _ _ (0, [(0, .int 0)], [], (en_pre a 231 hp_M, n)) _
      refine At.enter rfl ?_
      refine r_iconst 0 rfl ?_
      refine r_istore_n ([(1, .int 0), (0, .int 0)]) rfl ?_
      refine r_iconst 0 rfl ?_
      refine r_istore_n ([(2, .int 0), (1, .int 0), (0, .int 0)]) rfl ?_
      refine Ar.fall 4 rfl ?_
      refine At.enter rfl ?_
      refine r_iload_n rfl ?_
      refine r_bipush 12 rfl ?_
      refine r_icf 10 rfl (by decide) ?_
      refine At.enter rfl ?_
      refine r_iload_n rfl ?_
      refine r_iload_n rfl ?_
      refine r_iload_n rfl ?_
      refine r_ishr 0 rfl ?_
      refine r_iconst 1 rfl ?_
      refine r_iand 0 rfl ?_
      refine r_iadd 0 rfl ?_
      refine r_istore_n ([(1, .int 0), (2, .int 0), (0, .int 0)]) rfl ?_
      refine r_iinc rfl 1 rfl ([(2, .int 1), (1, .int 0), (0, .int 0)]) rfl ?_
      refine r_goto ?_
      refine At.enter rfl ?_
      refine r_iload_n rfl ?_
      refine r_bipush 12 rfl ?_
      refine r_icf 10 rfl (by decide) ?_
      refine At.enter rfl ?_
      refine r_iload_n rfl ?_
      refine r_iload_n rfl ?_
      refine r_iload_n rfl ?_
      refine r_ishr 0 rfl ?_
      refine r_iconst 1 rfl ?_
      refine r_iand 0 rfl ?_
      refine r_iadd 0 rfl ?_
      refine r_istore_n ([(1, .int 0), (2, .int 1), (0, .int 0)]) rfl ?_
      refine r_iinc rfl 2 rfl ([(2, .int 2), (1, .int 0), (0, .int 0)]) rfl ?_
      refine r_goto ?_
      refine At.enter rfl ?_
      refine r_iload_n rfl ?_
      refine r_bipush 12 rfl ?_
      refine r_icf 10 rfl (by decide) ?_
      refine At.enter rfl ?_
      refine r_iload_n rfl ?_
      refine r_iload_n rfl ?_
      refine r_iload_n rfl ?_
      refine r_ishr 0 rfl ?_
      refine r_iconst 1 rfl ?_
      refine r_iand 0 rfl ?_
      refine r_iadd 0 rfl ?_
      refine r_istore_n ([(1, .int 0), (2, .int 2), (0, .int 0)]) rfl ?_
      refine r_iinc rfl 3 rfl ([(2, .int 3), (1, .int 0), (0, .int 0)]) rfl ?_
      refine r_goto ?_
      refine At.enter rfl ?_
      refine r_iload_n rfl ?_
      refine r_bipush 12 rfl ?_
      refine r_icf 10 rfl (by decide) ?_
      refine At.enter rfl ?_
      refine r_iload_n rfl ?_
      refine r_iload_n rfl ?_
      refine r_iload_n rfl ?_
      refine r_ishr 0 rfl ?_
      refine r_iconst 1 rfl ?_
      refine r_iand 0 rfl ?_
      refine r_iadd 0 rfl ?_
      refine r_istore_n ([(1, .int 0), (2, .int 3), (0, .int 0)]) rfl ?_
      refine r_iinc rfl 4 rfl ([(2, .int 4), (1, .int 0), (0, .int 0)]) rfl ?_
      refine r_goto ?_
      refine At.enter rfl ?_
      refine r_iload_n rfl ?_
      refine r_bipush 12 rfl ?_
      refine r_icf 10 rfl (by decide) ?_
      refine At.enter rfl ?_
      refine r_iload_n rfl ?_
      refine r_iload_n rfl ?_
      refine r_iload_n rfl ?_
      refine r_ishr 0 rfl ?_
      refine r_iconst 1 rfl ?_
      refine r_iand 0 rfl ?_
      refine r_iadd 0 rfl ?_
      refine r_istore_n ([(1, .int 0), (2, .int 4), (0, .int 0)]) rfl ?_
      refine r_iinc rfl 5 rfl ([(2, .int 5), (1, .int 0), (0, .int 0)]) rfl ?_
      refine r_goto ?_
      refine At.enter rfl ?_
      refine r_iload_n rfl ?_
      refine r_bipush 12 rfl ?_
      refine r_icf 10 rfl (by decide) ?_
      refine At.enter rfl ?_
      refine r_iload_n rfl ?_
      refine r_iload_n rfl ?_
      refine r_iload_n rfl ?_
      refine r_ishr 0 rfl ?_
      refine r_iconst 1 rfl ?_
      refine r_iand 0 rfl ?_
      refine r_iadd 0 rfl ?_
      refine r_istore_n ([(1, .int 0), (2, .int 5), (0, .int 0)]) rfl ?_
      refine r_iinc rfl 6 rfl ([(2, .int 6), (1, .int 0), (0, .int 0)]) rfl ?_
      refine r_goto ?_
      refine At.enter rfl ?_
      refine r_iload_n rfl ?_
      refine r_bipush 12 rfl ?_
      refine r_icf 10 rfl (by decide) ?_
      refine At.enter rfl ?_
      refine r_iload_n rfl ?_
      refine r_iload_n rfl ?_
      refine r_iload_n rfl ?_
      refine r_ishr 0 rfl ?_
      refine r_iconst 1 rfl ?_
      refine r_iand 0 rfl ?_
      refine r_iadd 0 rfl ?_
      refine r_istore_n ([(1, .int 0), (2, .int 6), (0, .int 0)]) rfl ?_
      refine r_iinc rfl 7 rfl ([(2, .int 7), (1, .int 0), (0, .int 0)]) rfl ?_
      refine r_goto ?_
      refine At.enter rfl ?_
      refine r_iload_n rfl ?_
      refine r_bipush 12 rfl ?_
      refine r_icf 10 rfl (by decide) ?_
      refine At.enter rfl ?_
      refine r_iload_n rfl ?_
      refine r_iload_n rfl ?_
      refine r_iload_n rfl ?_
      refine r_ishr 0 rfl ?_
      refine r_iconst 1 rfl ?_
      refine r_iand 0 rfl ?_
      refine r_iadd 0 rfl ?_
      refine r_istore_n ([(1, .int 0), (2, .int 7), (0, .int 0)]) rfl ?_
      refine r_iinc rfl 8 rfl ([(2, .int 8), (1, .int 0), (0, .int 0)]) rfl ?_
      refine r_goto ?_
      refine At.enter rfl ?_
      refine r_iload_n rfl ?_
      refine r_bipush 12 rfl ?_
      refine r_icf 10 rfl (by decide) ?_
      refine At.enter rfl ?_
      refine r_iload_n rfl ?_
      refine r_iload_n rfl ?_
      refine r_iload_n rfl ?_
      refine r_ishr 0 rfl ?_
      refine r_iconst 1 rfl ?_
      refine r_iand 0 rfl ?_
      refine r_iadd 0 rfl ?_
      refine r_istore_n ([(1, .int 0), (2, .int 8), (0, .int 0)]) rfl ?_
      refine r_iinc rfl 9 rfl ([(2, .int 9), (1, .int 0), (0, .int 0)]) rfl ?_
      refine r_goto ?_
      refine At.enter rfl ?_
      refine r_iload_n rfl ?_
      refine r_bipush 12 rfl ?_
      refine r_icf 10 rfl (by decide) ?_
      refine At.enter rfl ?_
      refine r_iload_n rfl ?_
      refine r_iload_n rfl ?_
      refine r_iload_n rfl ?_
      refine r_ishr 0 rfl ?_
      refine r_iconst 1 rfl ?_
      refine r_iand 0 rfl ?_
      refine r_iadd 0 rfl ?_
      refine r_istore_n ([(1, .int 0), (2, .int 9), (0, .int 0)]) rfl ?_
      refine r_iinc rfl 10 rfl ([(2, .int 10), (1, .int 0), (0, .int 0)]) rfl ?_
      refine r_goto ?_
      refine At.enter rfl ?_
      refine r_iload_n rfl ?_
      refine r_bipush 12 rfl ?_
      refine r_icf 10 rfl (by decide) ?_
      refine At.enter rfl ?_
      refine r_iload_n rfl ?_
      refine r_iload_n rfl ?_
      refine r_iload_n rfl ?_
      refine r_ishr 0 rfl ?_
      refine r_iconst 1 rfl ?_
      refine r_iand 0 rfl ?_
      refine r_iadd 0 rfl ?_
      refine r_istore_n ([(1, .int 0), (2, .int 10), (0, .int 0)]) rfl ?_
      refine r_iinc rfl 11 rfl ([(2, .int 11), (1, .int 0), (0, .int 0)]) rfl ?_
      refine r_goto ?_
      refine At.enter rfl ?_
      refine r_iload_n rfl ?_
      refine r_bipush 12 rfl ?_
      refine r_icf 10 rfl (by decide) ?_
      refine At.enter rfl ?_
      refine r_iload_n rfl ?_
      refine r_iload_n rfl ?_
      refine r_iload_n rfl ?_
      refine r_ishr 0 rfl ?_
      refine r_iconst 1 rfl ?_
      refine r_iand 0 rfl ?_
      refine r_iadd 0 rfl ?_
      refine r_istore_n ([(1, .int 0), (2, .int 11), (0, .int 0)]) rfl ?_
      refine r_iinc rfl 12 rfl ([(2, .int 12), (1, .int 0), (0, .int 0)]) rfl ?_
      refine r_goto ?_
      refine At.enter rfl ?_
      refine r_iload_n rfl ?_
      refine r_bipush 12 rfl ?_
      refine r_ict (by decide) ?_
      refine At.enter rfl ?_
      refine r_iload_n rfl ?_
      refine r_ireti ?_
      exact ⟨trivial, rfl, rfl⟩
    refine At.enter rfl ?_
    refine r_iload_n rfl ?_
    refine r_icf 56 rfl (by decide) ?_
    refine At.enter rfl ?_
    refine r_aload_n rfl ?_
    refine r_callV1v (True)  (en_pre a 231 hp_M, n) 60 rfl [.ref 231] [] (Nat.le_of_ble_eq_true rfl) rfl ?_ (fun _ => ?_)
    · exact zr_asIs _ ⟨(hm_231 _), rfl, (hm_233 _), zr_row0⟩ ⟨rfl, rfl, rfl, (hm_246 _), (hm_247 _), (hm_248 _)⟩ rfl
    refine At.enter rfl ?_
    refine r_aload_n rfl ?_
    refine r_iload rfl ?_
    refine r_putf (hm_231 _) (Nat.le_of_ble_eq_true rfl) rfl [.int 0, .int 0, .ref 232, .ref 233, .ref 234, .ref 235, .int 0, .ref 236, .int 0, .int 0, .int 0, .int 0, .long 0, .int (-1), .int 0, .int 0, .ref 237, .int 0, .ref 238, .ref 239, .int 0, .ref 240, .ref 241, .int 0, .int 0, .ref 242, .ref 243, .int 0, .ref 244, .ref 245, .int 0, .long 0, .long 0, .ref 246, .ref 247, .ref 248, .int 0, .ref 249, .ref 250, .ref 251, .ref 252, .ref 253, .ref 254, .ref 255, .ref 256, .int 0, .int 0, .int 0, .long 0, .ref 257, .ref 258, .int 0] rfl ?_
    refine Ar.hp (en_sg (hm_231 _)).symm ?_
    refine r_aload_n rfl ?_
    refine r_callV1s (True) (.int 1) (en_pre a 231 hp_M, n) 70 rfl [.ref 231] [] (Nat.le_of_ble_eq_true rfl) rfl ?_ (fun _ => ?_)
    · refine Ev.mk rfl rfl ⟨Nat.le_of_ble_eq_true rfl, Or.inr (en_rcI (hm_231 _) rfl)⟩ ?_
      show At _ none _ _ (0, [(0, .ref 231)], [], (en_pre a 231 hp_M, n)) _
      refine At.enter rfl ?_
      refine r_iconst 1 rfl ?_
      refine r_istore_n ([(1, .int 1), (0, .ref 231)]) rfl ?_
      refine r_iconst 0 rfl ?_
      refine r_istore_n ([(2, .int 0), (1, .int 1), (0, .ref 231)]) rfl ?_
      refine Ar.fall 4 rfl ?_
      refine At.enter rfl ?_
      refine r_iload_n rfl ?_
      refine r_aload_n rfl ?_
      refine r_get (v := .ref 233) (hm_231 _) rfl ?_
      refine r_iconst 1 rfl ?_
      refine r_iald (v := 0) (hm_233 _) (by decide) rfl ?_
      refine r_ict (by decide) ?_
      refine At.enter rfl ?_
      refine r_iload_n rfl ?_
      refine r_iretz (by decide) ?_
      exact ⟨trivial, rfl, rfl⟩
    refine At.enter rfl ?_
    refine r_iff 73 rfl (by decide) ?_
    refine At.enter rfl ?_
    refine r_aload_n rfl ?_
    refine r_sipush 255 rfl ?_
    refine r_bipush 99 rfl ?_
    refine r_callV1s (True) (.int 1) (en_pre a 231 hp_M, n) 82 rfl [.ref 231, .int 255, .int 99] [] (Nat.le_of_ble_eq_true rfl) rfl ?_ (fun _ => ?_)
    · refine Ev.mk rfl rfl ⟨Nat.le_of_ble_eq_true rfl, Or.inr (en_rcI (hm_231 _) rfl)⟩ ?_
      show At _ none _ _ (0, [(0, .ref 231), (1, .int 255), (2, .int 99)], [], (en_pre a 231 hp_M, n)) _
      refine At.enter rfl ?_
      refine r_aload_n rfl ?_
      refine r_callV1v (True)  (en_pre a 231 hp_M, n) 4 rfl [.ref 231] [] (Nat.le_of_ble_eq_true rfl) rfl ?_ (fun _ => ?_)
      · exact zr_run _ ⟨(hm_231 _), rfl, (hm_233 _), rfl⟩
      refine At.enter rfl ?_
      refine r_iconst 1 rfl ?_
      refine r_istore_n ([(3, .int 1), (0, .ref 231), (1, .int 255), (2, .int 99)]) rfl ?_
      refine r_iconst 0 rfl ?_
      refine r_istore ([(4, .int 0), (3, .int 1), (0, .ref 231), (1, .int 255), (2, .int 99)]) rfl ?_
      refine Ar.fall 9 rfl ?_
      refine At.enter rfl ?_
      refine r_iload rfl ?_
      refine r_aload_n rfl ?_
      refine r_get (v := .ref 233) (hm_231 _) rfl ?_
      refine r_iconst 1 rfl ?_
      refine r_iald (v := 0) (hm_233 _) (by decide) rfl ?_
      refine r_ict (by decide) ?_
      refine At.enter rfl ?_
      refine r_iload_n rfl ?_
      refine r_iretz (by decide) ?_
      exact ⟨trivial, rfl, rfl⟩
    refine At.enter rfl ?_
    refine r_iff 85 rfl (by decide) ?_
    refine At.enter rfl ?_
    refine r_iload_n rfl ?_
    refine r_iff 89 rfl (by decide) ?_
    refine At.enter rfl ?_
    refine r_iload rfl ?_
    refine r_goto ?_
    refine At.enter rfl ?_
    refine r_istore ([(4, .int 0), (5, .int 0), (3, .int 0), (2, .int 0), (0, .ref 231), (1, .int a1)]) rfl ?_
    refine r_iinc rfl 1 rfl ([(3, .int 1), (4, .int 0), (5, .int 0), (2, .int 0), (0, .ref 231), (1, .int a1)]) rfl ?_
    refine Ar.fall 101 rfl ?_
    refine At.enter rfl ?_
    refine r_iinc rfl 1 rfl ([(5, .int 1), (3, .int 1), (4, .int 0), (2, .int 0), (0, .ref 231), (1, .int a1)]) rfl ?_
    refine r_goto ?_
    refine At.enter rfl ?_
    refine r_iload rfl ?_
    refine r_iconst 1 rfl ?_
    refine r_aload_n rfl ?_
    refine r_get (v := .ref 233) (hm_231 _) rfl ?_
    refine r_iconst 0 rfl ?_
    refine r_iald (v := 0) (hm_233 _) (by decide) rfl ?_
    refine r_ishl 1 rfl ?_
    refine r_ict (by decide) ?_
    refine At.enter rfl ?_
    refine r_iload_n rfl ?_
    refine r_iff 111 rfl (by decide) ?_
    refine At.enter rfl ?_
    refine r_iload_n rfl ?_
    refine r_ifs 115 rfl (fun c3 => ?_) (fun c3 => ?_)
    · have c3_ : (a1).toInt ≠ (0) := (by have z := en_k_ne_t c3; (try simp only [Int32.toInt_toInt64] at z); exact z)
      refine At.enter rfl ?_
      refine r_iload_n rfl ?_
      refine r_iconst 1 rfl ?_
      refine r_ics 124 rfl (fun c4 => ?_) (fun c4 => ?_)
      · have c4_ : (a1).toInt ≠ (1) := (by have z := en_i_ne_t c4; (try simp only [Int32.toInt_toInt64] at z); exact z)
        refine At.enter rfl ?_
        refine r_iload_n rfl ?_
        refine Ar.fall 130 rfl ?_
        refine At.enter rfl ?_
        refine r_ireti ?_
        exact ⟨congrArg (fun z => some (Value.int z)) (by have z0 : (0 : Int32).toInt = 0 := rfl; have z1 : (1 : Int32).toInt = 1 := rfl; have z2 : (-1 : Int32).toInt = -1 := rfl; have z4 : (4 : Int32).toInt = 4 := rfl; have z5 : (5 : Int32).toInt = 5 := rfl; unfold sp_home; (repeat' split) <;> first | rfl | omega | (refine Int32.toInt_inj.mp ?_; omega)), (en_prel a), rfl⟩
      · have c4_ : (a1).toInt = (1) := (by have z := en_i_ne_f c4; (try simp only [Int32.toInt_toInt64] at z); exact z)
        refine At.enter rfl ?_
        refine r_iload rfl ?_
        refine r_goto ?_
        refine At.enter rfl ?_
        refine r_ireti ?_
        exact ⟨congrArg (fun z => some (Value.int z)) (by have z0 : (0 : Int32).toInt = 0 := rfl; have z1 : (1 : Int32).toInt = 1 := rfl; have z2 : (-1 : Int32).toInt = -1 := rfl; have z4 : (4 : Int32).toInt = 4 := rfl; have z5 : (5 : Int32).toInt = 5 := rfl; unfold sp_home; (repeat' split) <;> first | rfl | omega | (refine Int32.toInt_inj.mp ?_; omega)), (en_prel a), rfl⟩
    · have c3_ : (a1).toInt = (0) := (by have z := en_k_ne_f c3; (try simp only [Int32.toInt_toInt64] at z); exact z)
      refine At.enter rfl ?_
      refine r_iload_n rfl ?_
      refine r_goto ?_
      refine At.enter rfl ?_
      refine r_ireti ?_
      exact ⟨congrArg (fun z => some (Value.int z)) (by have z0 : (0 : Int32).toInt = 0 := rfl; have z1 : (1 : Int32).toInt = 1 := rfl; have z2 : (-1 : Int32).toInt = -1 := rfl; have z4 : (4 : Int32).toInt = 4 := rfl; have z5 : (5 : Int32).toInt = 5 := rfl; unfold sp_home; (repeat' split) <;> first | rfl | omega | (refine Int32.toInt_inj.mp ?_; omega)), (en_prel a), rfl⟩
set_option maxRecDepth 100000 in
set_option maxHeartbeats 4000000 in
theorem zx_X10_home (a1 : Int32) : Ev 14 126 [.ref 0, .int a1] (hp_X ++ hp_M, 51333) (fun r h' => r = some (.int (sp_home a1)) ∧ IsX h'.1 ∧ h'.2 = 51333) := by
  refine Ev.mk rfl rfl ⟨Nat.le_of_ble_eq_true rfl, Or.inr (en_rcI hx_0 rfl)⟩ ?_
  show At _ none _ _ (0, [(0, .ref 0), (1, .int a1)], [], (hp_X ++ hp_M, 51333)) _
  refine At.enter rfl ?_
  refine r_iload_n rfl ?_
  refine r_iconst 0 rfl ?_
  refine r_iconst 2 rfl ?_
  refine r_callS3s (((a1).toInt < (0))) (((a1).toInt ≥ (0)) ∧ ((a1).toInt > (2))) (((a1).toInt ≥ (0)) ∧ ((a1).toInt ≤ (2))) (.int 0) (.int 0) (.int 1) (hp_X ++ hp_M, 51333) (hp_X ++ hp_M, 51333) (hp_X ++ hp_M, 51333) 6 rfl [.int a1, .int 0, .int 2] [] (Nat.le_of_ble_eq_true rfl) rfl ?_ (fun c1_ => ?_) (fun ⟨c1_, c2_⟩ => ?_) (fun ⟨c1_, c2_⟩ => ?_)
  · refine Ev.mk rfl rfl ⟨Nat.le_of_ble_eq_true rfl, Or.inl rfl⟩ ?_
    show At _ none _ _ (0, [(0, .int a1), (1, .int 0), (2, .int 2)], [], (hp_X ++ hp_M, 51333)) _
    refine At.enter rfl ?_
    refine r_iload_n rfl ?_
    refine r_iload_n rfl ?_
    refine r_ics 5 rfl (fun c1 => ?_) (fun c1 => ?_)
    · have c1_ : (a1).toInt < (0) := (by have z := en_i_lt_t c1; (try simp only [Int32.toInt_toInt64] at z); exact z)
      refine At.enter rfl ?_
      refine r_iconst 0 rfl ?_
      refine Ar.fall 15 rfl ?_
      refine At.enter rfl ?_
      refine r_iretz (by decide) ?_
      exact Or.inl ⟨c1_, rfl, rfl⟩
    · have c1_ : (a1).toInt ≥ (0) := (by have z := en_i_lt_f c1; (try simp only [Int32.toInt_toInt64] at z); exact z)
      refine At.enter rfl ?_
      refine r_iload_n rfl ?_
      refine r_iload_n rfl ?_
      refine r_ics 10 rfl (fun c2 => ?_) (fun c2 => ?_)
      · have c2_ : (a1).toInt > (2) := (by have z := en_i_gt_t c2; (try simp only [Int32.toInt_toInt64] at z); exact z)
        refine At.enter rfl ?_
        refine r_iconst 0 rfl ?_
        refine Ar.fall 15 rfl ?_
        refine At.enter rfl ?_
        refine r_iretz (by decide) ?_
        exact Or.inr (Or.inl ⟨⟨c1_, c2_⟩, rfl, rfl⟩)
      · have c2_ : (a1).toInt ≤ (2) := (by have z := en_i_gt_f c2; (try simp only [Int32.toInt_toInt64] at z); exact z)
        refine At.enter rfl ?_
        refine r_iconst 1 rfl ?_
        refine r_goto ?_
        refine At.enter rfl ?_
        refine r_iretz (by decide) ?_
        exact Or.inr (Or.inr (⟨⟨c1_, c2_⟩, rfl, rfl⟩))
  · refine At.enter rfl ?_
    refine r_ift (by decide) ?_
    refine At.enter rfl ?_
    refine r_iconst (-1) rfl ?_
    refine Ar.fall 21 rfl ?_
    refine At.enter rfl ?_
    refine r_ireti ?_
    exact ⟨congrArg (fun z => some (Value.int z)) (by have z0 : (0 : Int32).toInt = 0 := rfl; have z1 : (1 : Int32).toInt = 1 := rfl; have z2 : (-1 : Int32).toInt = -1 := rfl; have z4 : (4 : Int32).toInt = 4 := rfl; have z5 : (5 : Int32).toInt = 5 := rfl; unfold sp_home; (repeat' split) <;> first | rfl | omega | (refine Int32.toInt_inj.mp ?_; omega)), IsX.base, rfl⟩
  · refine At.enter rfl ?_
    refine r_ift (by decide) ?_
    refine At.enter rfl ?_
    refine r_iconst (-1) rfl ?_
    refine Ar.fall 21 rfl ?_
    refine At.enter rfl ?_
    refine r_ireti ?_
    exact ⟨congrArg (fun z => some (Value.int z)) (by have z0 : (0 : Int32).toInt = 0 := rfl; have z1 : (1 : Int32).toInt = 1 := rfl; have z2 : (-1 : Int32).toInt = -1 := rfl; have z4 : (4 : Int32).toInt = 4 := rfl; have z5 : (5 : Int32).toInt = 5 := rfl; unfold sp_home; (repeat' split) <;> first | rfl | omega | (refine Int32.toInt_inj.mp ?_; omega)), IsX.base, rfl⟩
  · refine At.enter rfl ?_
    refine r_iff 9 rfl (by decide) ?_
    refine At.enter rfl ?_
    refine r_aload_n rfl ?_
    refine r_get (v := .ref 222) hx_0 rfl ?_
    refine r_iload_n rfl ?_
    refine r_callV3s (((a1).toInt ≠ (0)) ∧ ((a1).toInt ≠ (1))) (((a1).toInt ≠ (0)) ∧ ((a1).toInt = (1))) (((a1).toInt = (0))) (.int 1) (.int 0) (.int 0) ((((hp_X ++ hp_M).set 222 (.inr (6, [.ref 1, .ref 204, .int 1, .int 0, .int 0, .int 1]))).set 211 (.inl (0, .inl (List.replicate 8 (-1))))).set 212 (.inl (0, .inl (List.replicate 8 (-1)))), 51333) ((((hp_X ++ hp_M).set 222 (.inr (6, [.ref 1, .ref 204, .int 1, .int 0, .int 0, .int 1]))).set 211 (.inl (0, .inl (List.replicate 8 (-1))))).set 212 (.inl (0, .inl (List.replicate 8 (-1)))), 51333) ((((hp_X ++ hp_M).set 222 (.inr (6, [.ref 1, .ref 204, .int 1, .int 0, .int 0, .int 1]))).set 211 (.inl (0, .inl (List.replicate 8 (-1))))).set 212 (.inl (0, .inl (List.replicate 8 (-1)))), 51333) 17 rfl [.ref 222, .int a1] [] (Nat.le_of_ble_eq_true rfl) rfl ?_ (fun ⟨c3_, c4_⟩ => ?_) (fun ⟨c3_, c4_⟩ => ?_) (fun c3_ => ?_)
    · refine Ev.mk rfl rfl ⟨Nat.le_of_ble_eq_true rfl, Or.inr (en_rcI hx_222 rfl)⟩ ?_
      show At _ none _ _ (0, [(0, .ref 222), (1, .int a1)], [], (hp_X ++ hp_M, 51333)) _
      refine At.enter rfl ?_
      refine r_aload_n rfl ?_
      refine r_get (v := .int 0) hx_222 rfl ?_
      refine r_iff 7 rfl (by decide) ?_
      refine At.enter rfl ?_
      refine r_aload_n rfl ?_
      refine r_iconst 1 rfl ?_
      refine r_putf hx_222 (Nat.le_of_ble_eq_true rfl) rfl [.ref 1, .ref 204, .int 1, .int 0, .int 0, .int 0] rfl ?_
      refine r_aload_n rfl ?_
      refine r_callV1v (True)  ((((hp_X ++ hp_M).set 222 (.inr (6, [.ref 1, .ref 204, .int 1, .int 0, .int 0, .int 1]))).set 211 (.inl (0, .inl (List.replicate 8 (-1))))).set 212 (.inl (0, .inl (List.replicate 8 (-1)))), 51333) 16 rfl [.ref 222] [] (Nat.le_of_ble_eq_true rfl) rfl ?_ (fun _ => ?_)
      · exact Ev.upn _ zc_3_X6_search
      refine At.enter rfl ?_
      refine r_iload_n rfl ?_
      refine r_ifs 20 rfl (fun c3 => ?_) (fun c3 => ?_)
      · have c3_ : (a1).toInt ≠ (0) := (by have z := en_k_ne_t c3; (try simp only [Int32.toInt_toInt64] at z); exact z)
        refine At.enter rfl ?_
        refine r_iload_n rfl ?_
        refine r_iconst 1 rfl ?_
        refine r_ics 32 rfl (fun c4 => ?_) (fun c4 => ?_)
        · have c4_ : (a1).toInt ≠ (1) := (by have z := en_i_ne_t c4; (try simp only [Int32.toInt_toInt64] at z); exact z)
          refine At.enter rfl ?_
          refine r_aload_n rfl ?_
          refine r_get (v := .int 1) (en_gs_ne (by decide) (en_gs_ne (by decide) (en_gs_eq hx_222))) rfl ?_
          refine Ar.fall 43 rfl ?_
          refine At.enter rfl ?_
          refine r_ireti ?_
          exact Or.inl ⟨⟨c3_, c4_⟩, rfl, rfl⟩
        · have c4_ : (a1).toInt = (1) := (by have z := en_i_ne_f c4; (try simp only [Int32.toInt_toInt64] at z); exact z)
          refine At.enter rfl ?_
          refine r_aload_n rfl ?_
          refine r_get (v := .int 0) (en_gs_ne (by decide) (en_gs_ne (by decide) (en_gs_eq hx_222))) rfl ?_
          refine r_goto ?_
          refine At.enter rfl ?_
          refine r_ireti ?_
          exact Or.inr (Or.inl ⟨⟨c3_, c4_⟩, rfl, rfl⟩)
      · have c3_ : (a1).toInt = (0) := (by have z := en_k_ne_f c3; (try simp only [Int32.toInt_toInt64] at z); exact z)
        refine At.enter rfl ?_
        refine r_aload_n rfl ?_
        refine r_get (v := .int 0) (en_gs_ne (by decide) (en_gs_ne (by decide) (en_gs_eq hx_222))) rfl ?_
        refine r_goto ?_
        refine At.enter rfl ?_
        refine r_ireti ?_
        exact Or.inr (Or.inr (⟨c3_, rfl, rfl⟩))
    · refine At.enter rfl ?_
      refine r_goto ?_
      refine At.enter rfl ?_
      refine r_ireti ?_
      exact ⟨congrArg (fun z => some (Value.int z)) (by have z0 : (0 : Int32).toInt = 0 := rfl; have z1 : (1 : Int32).toInt = 1 := rfl; have z2 : (-1 : Int32).toInt = -1 := rfl; have z4 : (4 : Int32).toInt = 4 := rfl; have z5 : (5 : Int32).toInt = 5 := rfl; unfold sp_home; (repeat' split) <;> first | rfl | omega | (refine Int32.toInt_inj.mp ?_; omega)), (IsX.set (IsX.set (IsX.set IsX.base (by decide)) (by decide)) (by decide)), rfl⟩
    · refine At.enter rfl ?_
      refine r_goto ?_
      refine At.enter rfl ?_
      refine r_ireti ?_
      exact ⟨congrArg (fun z => some (Value.int z)) (by have z0 : (0 : Int32).toInt = 0 := rfl; have z1 : (1 : Int32).toInt = 1 := rfl; have z2 : (-1 : Int32).toInt = -1 := rfl; have z4 : (4 : Int32).toInt = 4 := rfl; have z5 : (5 : Int32).toInt = 5 := rfl; unfold sp_home; (repeat' split) <;> first | rfl | omega | (refine Int32.toInt_inj.mp ?_; omega)), (IsX.set (IsX.set (IsX.set IsX.base (by decide)) (by decide)) (by decide)), rfl⟩
    · refine At.enter rfl ?_
      refine r_goto ?_
      refine At.enter rfl ?_
      refine r_ireti ?_
      exact ⟨congrArg (fun z => some (Value.int z)) (by have z0 : (0 : Int32).toInt = 0 := rfl; have z1 : (1 : Int32).toInt = 1 := rfl; have z2 : (-1 : Int32).toInt = -1 := rfl; have z4 : (4 : Int32).toInt = 4 := rfl; have z5 : (5 : Int32).toInt = 5 := rfl; unfold sp_home; (repeat' split) <;> first | rfl | omega | (refine Int32.toInt_inj.mp ?_; omega)), (IsX.set (IsX.set (IsX.set IsX.base (by decide)) (by decide)) (by decide)), rfl⟩
