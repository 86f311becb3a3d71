def F_X2_settle_223 : List (Nat × Nat) := [(185, 3), (223, 5), (223, 6), (223, 7), (223, 8), (223, 9), (223, 10), (223, 11)]
def A_X2_settle_223 : List Nat := [224, 225, 226, 227]
theorem mf_X2_seekAnswer_223_223_11 : memF F_X2_seekAnswer_223 223 11 = false := by decide
set_option maxRecDepth 100000 in
set_option maxHeartbeats 4000000 in
theorem T_X2_settle_223 (d : Nat) {N : Nat} {g0 : List en_E} (hI0 : HI g0) : Ev (d + 7) 43 [.ref 223] (g0, N) (fun w h' => ∃ g', h' = (g', N) ∧ HI g' ∧ Fr F_X2_settle_223 A_X2_settle_223 g0 g' ∧ w = none) := by
  have hF0 : Fr F_X2_settle_223 A_X2_settle_223 g0 g0 := Fr.rf
  refine Ev.mk rfl rfl ⟨Nat.le_of_ble_eq_true rfl, Or.inr (q_rc hI0.1 kx_223 rfl)⟩ ?_
  show At _ none _ _ (0, [(0, .ref 223)], [], (_, _)) _
  refine At.enter rfl ?_
  refine r_aload_n rfl ?_
  obtain ⟨v6339, hv6339⟩ : ∃ v, gI g0 223 10 = v := ⟨_, rfl⟩
  refine q_getI (Sh.int hI0.1 kx_223 rfl) v6339 hv6339 ?_
  refine r_ifs 7 rfl (fun c6340 => ?_) (fun c6340 => ?_)
  · have c6340_ : v6339.toInt = 0 := en_k_eq_t c6340
    refine At.enter rfl ?_
    refine r_aload_n rfl ?_
    refine r_callV 12 rfl [.ref 223] [] (Nat.le_of_ble_eq_true rfl) rfl (T_X2_begin_223 _ hI0) ?_
    rintro _ _ ⟨g6341, rfl, hI6342, hF6343, rfl⟩
    refine At.stn ?_
    have hF6346 := Fr.tr hF0 hF6343 rfl rfl
    refine At.enter rfl ?_
    refine r_iconst 1 rfl ?_
    refine r_istore_n ([(1, .int 1), (0, .ref 223)]) rfl ?_
    refine r_aload_n rfl ?_
    refine r_iconst 0 rfl ?_
    refine q_putI (Sh.int hI6342.1 kx_223 rfl) rfl ?_
    have hI6347 := HI.wI0 hI6342 kx_223 rfl (p := 223) (b := 11) (v := 0) rfl
    have hF6348 := Fr.wI (p := 223) (b := 11) (v := 0) hF6346 rfl
    refine Ar.fall 19 rfl ?_
    have z_9236 : (1 : Int32).toInt = 1 := rfl
    have z_9237 : (0 : Int32).toInt = 0 := rfl
    refine w_loopI (fun n_ l_ g_ => ∃ x9223 : Int32, ∃ x9224 : Int32, n_ = 50 - x9224.toInt ∧ HI g_ ∧ Fr F_X2_settle_223 A_X2_settle_223 g0 g_ ∧ gI g_ 223 11 = x9224 ∧ en_get 0 l_ = some (.ref 223) ∧ en_get 1 l_ = some (.int x9223) ∧ (0 ≤ x9223.toInt ∧ x9223.toInt ≤ 1) ∧ (0 ≤ x9224.toInt ∧ x9224.toInt ≤ 50)) ?_ (50 - 0) ⟨1, 0, by first | rfl | omega, hI6347, hF6348, (gI_sI_eq hI6342.1 kx_223 rfl _), rfl, rfl, by decide, by decide⟩
    rintro n9229 l9228 g9225 ⟨x9223, x9224, hm9238, hI9226, hF9227, e9231, e9232, e9233, r9234, r9235⟩ ih9230
    refine At.enter rfl ?_
    refine r_iload_n e9233 ?_
    refine r_ifs 23 rfl (fun c9239 => ?_) (fun c9239 => ?_)
    · have c9239_ : x9223.toInt = 0 := en_k_eq_t c9239
      refine At.enter rfl ?_
      refine r_iload_n e9233 ?_
      refine r_ifs 98 rfl (fun c9240 => ?_) (fun c9240 => ?_)
      · have c9240_ : x9223.toInt = 0 := en_k_eq_t c9240
        refine At.enter rfl ?_
        refine r_aload_n e9232 ?_
        refine q_getR (Sh.ref hI9226.1 kx_223 rfl) ?_
        refine r_iconst 0 rfl ?_
        refine r_aload_n e9232 ?_
        refine q_getR (Sh.ref hI9226.1 kx_223 rfl) ?_
        refine r_iconst 0 rfl ?_
        refine r_bipush 12 rfl ?_
        have zv9241 : (0 : Int32).toInt = 0 := rfl
        have zv9242 : (0 : Int32).toInt = 0 := rfl
        have zv9243 : (12 : Int32).toInt = 12 := rfl
        refine q_cpy rfl (Nat.le_of_ble_eq_true rfl) (Sh.arr hI9226.1 ka_224) (Sh.arr hI9226.1 ka_227) ⟨by omega, by omega, by omega, by omega, by omega⟩ ?_
        have hI9244 := HI.cpy0 hI9226 ka_224 ka_227 rfl rfl ((0 : Int32).toInt.toNat) ((0 : Int32).toInt.toNat) ((12 : Int32).toInt.toNat) (by omega) (by omega)
        have hF9245 := Fr.cpy (p0 := 224) (p1 := 227) hF9227 rfl ((0 : Int32).toInt.toNat) ((0 : Int32).toInt.toNat) ((12 : Int32).toInt.toNat)
        refine r_aload_n e9232 ?_
        refine r_iconst 1 rfl ?_
        refine q_putI (Sh.int hI9244.1 kx_223 rfl) rfl ?_
        have hI9246 := HI.wI0 hI9244 kx_223 rfl (p := 223) (b := 10) (v := 1) rfl
        have hF9247 := Fr.wI (p := 223) (b := 10) (v := 1) hF9245 rfl
        refine r_vret ?_
        exact ⟨_, rfl, hI9246, hF9247, rfl⟩
      · have c9240_ : x9223.toInt ≠ 0 := en_k_eq_f c9240
        exfalso; omega
    · have c9239_ : x9223.toInt ≠ 0 := en_k_eq_f c9239
      refine At.enter rfl ?_
      refine r_aload_n e9232 ?_
      refine q_getI (Sh.int hI9226.1 kx_223 rfl) x9224 e9231 ?_
      refine r_bipush 50 rfl ?_
      refine r_ics 32 rfl (fun c9248 => ?_) (fun c9248 => ?_)
      · have c9248_ : x9224.toInt ≥ 50 := en_i_ge_t c9248
        refine At.enter rfl ?_
        refine r_iload_n e9233 ?_
        refine r_ifs 98 rfl (fun c9249 => ?_) (fun c9249 => ?_)
        · have c9249_ : x9223.toInt = 0 := en_k_eq_t c9249
          exfalso; omega
        · have c9249_ : x9223.toInt ≠ 0 := en_k_eq_f c9249
          refine At.enter rfl ?_
          refine r_aload_n e9232 ?_
          refine r_dup rfl ?_
          refine q_getI (Sh.int hI9226.1 kx_223 rfl) x9224 e9231 ?_
          refine r_iconst 1 rfl ?_
          refine q_iadd (x9224.toInt + 1) rfl (by omega) (fun v9250 hv9250 => ?_)
          refine q_putI (Sh.int hI9226.1 kx_223 rfl) rfl ?_
          have hI9251 := HI.wI0 hI9226 kx_223 rfl (p := 223) (b := 11) (v := v9250) rfl
          have hF9252 := Fr.wI (p := 223) (b := 11) (v := v9250) hF9227 rfl
          refine Ar.fall 108 rfl ?_
          refine At.enter rfl ?_
          refine r_aload_n e9232 ?_
          refine q_getR (Sh.ref hI9251.1 kx_223 rfl) ?_
          refine r_iconst 0 rfl ?_
          refine r_aload_n e9232 ?_
          refine q_getR (Sh.ref hI9251.1 kx_223 rfl) ?_
          refine r_iconst 0 rfl ?_
          refine r_bipush 12 rfl ?_
          have zv9253 : (0 : Int32).toInt = 0 := rfl
          have zv9254 : (0 : Int32).toInt = 0 := rfl
          have zv9255 : (12 : Int32).toInt = 12 := rfl
          refine q_cpy rfl (Nat.le_of_ble_eq_true rfl) (Sh.arr hI9251.1 ka_224) (Sh.arr hI9251.1 ka_227) ⟨by omega, by omega, by omega, by omega, by omega⟩ ?_
          have hI9256 := HI.cpy0 hI9251 ka_224 ka_227 rfl rfl ((0 : Int32).toInt.toNat) ((0 : Int32).toInt.toNat) ((12 : Int32).toInt.toNat) (by omega) (by omega)
          have hF9257 := Fr.cpy (p0 := 224) (p1 := 227) hF9252 rfl ((0 : Int32).toInt.toNat) ((0 : Int32).toInt.toNat) ((12 : Int32).toInt.toNat)
          refine r_aload_n e9232 ?_
          refine r_iconst 1 rfl ?_
          refine q_putI (Sh.int hI9256.1 kx_223 rfl) rfl ?_
          have hI9258 := HI.wI0 hI9256 kx_223 rfl (p := 223) (b := 10) (v := 1) rfl
          have hF9259 := Fr.wI (p := 223) (b := 10) (v := 1) hF9257 rfl
          refine r_vret ?_
          exact ⟨_, rfl, hI9258, hF9259, rfl⟩
      · have c9248_ : x9224.toInt < 50 := en_i_ge_f c9248
        refine At.enter rfl ?_
        refine r_aload_n e9232 ?_
        refine r_dup rfl ?_
        refine q_getI (Sh.int hI9226.1 kx_223 rfl) x9224 e9231 ?_
        refine r_iconst 1 rfl ?_
        refine q_iadd (x9224.toInt + 1) rfl (by omega) (fun v9260 hv9260 => ?_)
        refine q_putI (Sh.int hI9226.1 kx_223 rfl) rfl ?_
        have hI9261 := HI.wI0 hI9226 kx_223 rfl (p := 223) (b := 11) (v := v9260) rfl
        have hF9262 := Fr.wI (p := 223) (b := 11) (v := v9260) hF9227 rfl
        refine r_iconst 0 rfl ?_
        refine r_istore_n _ rfl ?_
        refine r_iconst 0 rfl ?_
        refine r_istore_n _ rfl ?_
        refine Ar.fall 46 rfl ?_
        have z_9484 : (0 : Int32).toInt = 0 := rfl
        have z_9485 : (0 : Int32).toInt = 0 := rfl
        refine w_loopI (fun n_ l_ g_ => ∃ x9470 : Int32, ∃ x9471 : Int32, n_ = 12 - x9471.toInt ∧ HI g_ ∧ Fr F_X2_settle_223 A_X2_settle_223 g0 g_ ∧ gI g_ 223 11 = v9260 ∧ en_get 0 l_ = some (.ref 223) ∧ en_get 1 l_ = some (.int x9470) ∧ en_get 2 l_ = some (.int x9471) ∧ (0 ≤ x9470.toInt ∧ x9470.toInt ≤ 1) ∧ (0 ≤ x9471.toInt ∧ x9471.toInt ≤ 12)) ?_ (12 - 0) ⟨0, 0, by first | rfl | omega, hI9261, hF9262, (gI_sI_eq hI9226.1 kx_223 rfl _), (w_p1 (by decide) (Or.inr rfl) (w_p1 (by decide) (Or.inr rfl) e9232)), (w_p1 (by decide) (Or.inr rfl) (w_e1 _ _ _)), (w_e1 _ _ _), by decide, by decide⟩
        rintro n9476 l9475 g9472 ⟨x9470, x9471, hm9486, hI9473, hF9474, e9478, e9479, e9480, e9481, r9482, r9483⟩ ih9477
        have tv9487 := congrArg Int32.toInt e9478
        refine At.enter rfl ?_
        refine r_iload_n e9481 ?_
        refine r_aload_n e9479 ?_
        refine q_getR (Sh.ref hI9473.1 kx_223 rfl) ?_
        obtain ⟨v9488, hv9488⟩ : ∃ v, gI g0 1 0 = v := ⟨_, rfl⟩
        have rv9488 := RgF.at hI0.2.1 (p := 1) (b := 0) rfl
        rw [hv9488] at rv9488
        dsimp only at rv9488
        refine q_getI (Sh.int hI9473.1 kx_1 rfl) v9488 ((hF9474.1 1 0 (by decide)).trans hv9488) ?_
        have bv9490 := q_bnd x9471
        have bv9491 := q_bnd v9488
        refine r_ics 57 rfl (fun c9489 => ?_) (fun c9489 => ?_)
        · have c9489_ : x9471.toInt ≥ v9488.toInt := en_i_ge_t c9489
          refine At.enter rfl ?_
          refine r_goto ?_
          exact ih9230 (50 - v9260.toInt) _ _ ⟨x9470, v9260, by first | rfl | omega, hI9473, hF9474, e9478, e9479, e9480, by omega, by omega⟩ ⟨by omega, by omega⟩
        · have c9489_ : x9471.toInt < v9488.toInt := en_i_ge_f c9489
          refine At.enter rfl ?_
          refine r_aload_n e9479 ?_
          refine r_iload_n e9481 ?_
          refine r_callV 62 rfl [.ref 223, .int x9471] [] (Nat.le_of_ble_eq_true rfl) rfl (T_X2_seekAnswer_223 _ hI9473 x9471 (by omega)) ?_
          rintro _ _ ⟨g9492, rfl, hI9493, hF9494, rfl⟩
          refine At.stn ?_
          have hF9497 := Fr.tr hF9474 hF9494 rfl rfl
          refine At.enter rfl ?_
          refine r_aload_n e9479 ?_
          obtain ⟨v9498, hv9498⟩ : ∃ v, gI g9492 223 8 = v := ⟨_, rfl⟩
          refine q_getI (Sh.int hI9493.1 kx_223 rfl) v9498 hv9498 ?_
          refine r_aload_n e9479 ?_
          obtain ⟨v9499, hv9499⟩ : ∃ v, gI g9492 223 9 = v := ⟨_, rfl⟩
          refine q_getI (Sh.int hI9493.1 kx_223 rfl) v9499 hv9499 ?_
          have bv9501 := q_bnd v9498
          have bv9502 := q_bnd v9499
          refine r_ics 73 rfl (fun c9500 => ?_) (fun c9500 => ?_)
          · have c9500_ : v9498.toInt ≤ v9499.toInt := en_i_le_t c9500
            refine At.enter rfl ?_
            refine q_iinc e9481 (x9471.toInt + 1) rfl (by omega) (fun v9503 hv9503 => ?_)
            refine r_goto ?_
            exact ih9477 (12 - v9503.toInt) _ _ ⟨x9470, v9503, by first | rfl | omega, hI9493, hF9497, ((hF9494.1 223 11 mf_X2_seekAnswer_223_223_11).trans e9478), (w_p1 (by decide) (Or.inr rfl) e9479), (w_p1 (by decide) (Or.inr rfl) e9480), (w_e1 _ _ _), by omega, by omega⟩ ⟨by omega, by omega⟩
          · have c9500_ : v9498.toInt > v9499.toInt := en_i_le_f c9500
            refine At.enter rfl ?_
            refine r_aload_n e9479 ?_
            refine q_getR (Sh.ref hI9493.1 kx_223 rfl) ?_
            refine r_iload_n e9481 ?_
            refine r_aload_n e9479 ?_
            obtain ⟨v9504, hv9504⟩ : ∃ v, gI g9492 223 7 = v := ⟨_, rfl⟩
            refine q_getI (Sh.int hI9493.1 kx_223 rfl) v9504 hv9504 ?_
            refine q_iast (Sh.arr hI9493.1 ka_224) (x9471.toInt) rfl (by omega) ?_
            have hI9505 := HI.wA0 hI9493 ka_224 (p := 224) rfl rfl (x9471.toInt) (v9504)
            have hF9506 := Fr.wA (p := 224) (j := x9471.toInt) (v := v9504) hF9497 rfl
            refine r_iconst 1 rfl ?_
            refine r_istore_n _ rfl ?_
            refine Ar.fall 85 rfl ?_
            refine At.enter rfl ?_
            refine q_iinc (w_p1 (by decide) (Or.inr rfl) e9481) (x9471.toInt + 1) rfl (by omega) (fun v9507 hv9507 => ?_)
            refine r_goto ?_
            exact ih9477 (12 - v9507.toInt) _ _ ⟨1, v9507, by first | rfl | omega, hI9505, hF9506, (((gI_sW).trans (hF9494.1 223 11 mf_X2_seekAnswer_223_223_11)).trans e9478), (w_p1 (by decide) (Or.inr rfl) (w_p1 (by decide) (Or.inr rfl) e9479)), (w_p1 (by decide) (Or.inr rfl) (w_e1 _ _ _)), (w_e1 _ _ _), by decide, by omega⟩ ⟨by omega, by omega⟩
  · have c6340_ : v6339.toInt ≠ 0 := en_k_eq_f c6340
    refine At.enter rfl ?_
    refine r_vret ?_
    exact ⟨_, rfl, hI0, hF0, rfl⟩

def F_X2_firstRestless_223 : List (Nat × Nat) := [(185, 3), (223, 5), (223, 6), (223, 7), (223, 8), (223, 9)]
def A_X2_firstRestless_223 : List Nat := [224, 225, 226]
set_option maxRecDepth 100000 in
set_option maxHeartbeats 4000000 in
theorem T_X2_firstRestless_223 (d : Nat) {N : Nat} {g0 : List en_E} (hI0 : HI g0) : Ev (d + 7) 42 [.ref 223] (g0, N) (fun w h' => ∃ g', h' = (g', N) ∧ HI g' ∧ Fr F_X2_firstRestless_223 A_X2_firstRestless_223 g0 g' ∧ ∃ r : Int32, w = some (.int r) ∧ ((-1) ≤ r.toInt ∧ r.toInt ≤ 11)) := by
  have hF0 : Fr F_X2_firstRestless_223 A_X2_firstRestless_223 g0 g0 := Fr.rf
  refine Ev.mk rfl rfl ⟨Nat.le_of_ble_eq_true rfl, Or.inr (q_rc hI0.1 kx_223 rfl)⟩ ?_
  show At _ none _ _ (0, [(0, .ref 223)], [], (_, _)) _
  refine At.enter rfl ?_
  refine r_aload_n rfl ?_
  refine r_callV 4 rfl [.ref 223] [] (Nat.le_of_ble_eq_true rfl) rfl (T_X2_begin_223 _ hI0) ?_
  rintro _ _ ⟨g393, rfl, hI394, hF395, rfl⟩
  refine At.stn ?_
  have hF398 := Fr.tr hF0 hF395 rfl rfl
  refine At.enter rfl ?_
  refine r_iconst 0 rfl ?_
  refine r_istore_n ([(1, .int 0), (0, .ref 223)]) rfl ?_
  refine Ar.fall 6 rfl ?_
  have z_571 : (0 : Int32).toInt = 0 := rfl
  refine w_loopI (fun n_ l_ g_ => ∃ x561 : Int32, n_ = 12 - x561.toInt ∧ HI g_ ∧ Fr F_X2_firstRestless_223 A_X2_firstRestless_223 g0 g_ ∧ en_get 0 l_ = some (.ref 223) ∧ en_get 1 l_ = some (.int x561) ∧ (0 ≤ x561.toInt ∧ x561.toInt ≤ 12)) ?_ (12 - 0) ⟨0, by first | rfl | omega, hI394, hF398, rfl, rfl, by decide⟩
  rintro n566 l565 g562 ⟨x561, hm572, hI563, hF564, e568, e569, r570⟩ ih567
  refine At.enter rfl ?_
  refine r_iload_n e569 ?_
  refine r_aload_n e568 ?_
  refine q_getR (Sh.ref hI563.1 kx_223 rfl) ?_
  obtain ⟨v573, hv573⟩ : ∃ v, gI g0 1 0 = v := ⟨_, rfl⟩
  have rv573 := RgF.at hI0.2.1 (p := 1) (b := 0) rfl
  rw [hv573] at rv573
  dsimp only at rv573
  refine q_getI (Sh.int hI563.1 kx_1 rfl) v573 ((hF564.1 1 0 (by decide)).trans hv573) ?_
  have bv575 := q_bnd x561
  have bv576 := q_bnd v573
  refine r_ics 17 rfl (fun c574 => ?_) (fun c574 => ?_)
  · have c574_ : x561.toInt ≥ v573.toInt := en_i_ge_t c574
    refine At.enter rfl ?_
    refine r_iconst (-1) rfl ?_
    refine r_ireti ?_
    exact ⟨_, rfl, hI563, hF564, _, rfl, by decide⟩
  · have c574_ : x561.toInt < v573.toInt := en_i_ge_f c574
    refine At.enter rfl ?_
    refine r_aload_n e568 ?_
    refine r_iload_n e569 ?_
    refine r_callV 22 rfl [.ref 223, .int x561] [] (Nat.le_of_ble_eq_true rfl) rfl (T_X2_seekAnswer_223 _ hI563 x561 (by omega)) ?_
    rintro _ _ ⟨g577, rfl, hI578, hF579, rfl⟩
    refine At.stn ?_
    have hF582 := Fr.tr hF564 hF579 rfl rfl
    refine At.enter rfl ?_
    refine r_aload_n e568 ?_
    obtain ⟨v583, hv583⟩ : ∃ v, gI g577 223 8 = v := ⟨_, rfl⟩
    refine q_getI (Sh.int hI578.1 kx_223 rfl) v583 hv583 ?_
    refine r_aload_n e568 ?_
    obtain ⟨v584, hv584⟩ : ∃ v, gI g577 223 9 = v := ⟨_, rfl⟩
    refine q_getI (Sh.int hI578.1 kx_223 rfl) v584 hv584 ?_
    have bv586 := q_bnd v583
    have bv587 := q_bnd v584
    refine r_ics 33 rfl (fun c585 => ?_) (fun c585 => ?_)
    · have c585_ : v583.toInt ≤ v584.toInt := en_i_le_t c585
      refine At.enter rfl ?_
      refine q_iinc e569 (x561.toInt + 1) rfl (by omega) (fun v588 hv588 => ?_)
      refine r_goto ?_
      exact ih567 (12 - v588.toInt) _ _ ⟨v588, by first | rfl | omega, hI578, hF582, (w_p1 (by decide) (Or.inr rfl) e568), (w_e1 _ _ _), by omega⟩ ⟨by omega, by omega⟩
    · have c585_ : v583.toInt > v584.toInt := en_i_le_f c585
      refine At.enter rfl ?_
      refine r_iload_n e569 ?_
      refine r_ireti ?_
      exact ⟨_, rfl, hI578, hF582, _, rfl, by omega⟩

def F_X6_search_222 : List (Nat × Nat) := [(185, 3), (204, 16), (204, 18), (222, 3), (222, 4), (222, 5)]
def A_X6_search_222 : List Nat := [205, 206, 207, 208, 209, 210, 211, 212, 213, 214, 215, 216, 218]
theorem mf_X1_comesBy_204_222_5 : memF F_X1_comesBy_204 222 5 = false := by decide
theorem mf_X1_layOut_204_222_5 : memF F_X1_layOut_204 222 5 = false := by decide
theorem mf_J6_bitCount_0f7a4_222_5 : memF F_J6_bitCount_0f7a4 222 5 = false := by decide
theorem mf_X1_comesBy_204_222_4 : memF F_X1_comesBy_204 222 4 = false := by decide
theorem mf_X1_layOut_204_222_4 : memF F_X1_layOut_204 222 4 = false := by decide
theorem mf_J6_bitCount_0f7a4_222_4 : memF F_J6_bitCount_0f7a4 222 4 = false := by decide
set_option maxRecDepth 100000 in
set_option maxHeartbeats 4000000 in
theorem T_X6_search_222 (d : Nat) {N : Nat} {g0 : List en_E} (hI0 : HI g0) : Ev (d + 6) 82 [.ref 222] (g0, N) (fun w h' => ∃ g', h' = (g', N) ∧ HI g' ∧ Fr F_X6_search_222 A_X6_search_222 g0 g' ∧ w = none) := by
  have hF0 : Fr F_X6_search_222 A_X6_search_222 g0 g0 := Fr.rf
  refine Ev.mk rfl rfl ⟨Nat.le_of_ble_eq_true rfl, Or.inr (q_rc hI0.1 kx_222 rfl)⟩ ?_
  show At _ none _ _ (0, [(0, .ref 222)], [], (_, _)) _
  refine At.enter rfl ?_
  refine r_aload_n rfl ?_
  refine r_iconst 0 rfl ?_
  refine q_putI (Sh.int hI0.1 kx_222 rfl) rfl ?_
  have hI112197 := HI.wI0 hI0 kx_222 rfl (p := 222) (b := 5) (v := 0) rfl
  have hF112198 := Fr.wI (p := 222) (b := 5) (v := 0) hF0 rfl
  refine r_aload_n rfl ?_
  refine r_iconst (-1) rfl ?_
  refine q_putI (Sh.int hI112197.1 kx_222 rfl) rfl ?_
  have hI112199 := HI.wI0 hI112197 kx_222 rfl (p := 222) (b := 4) (v := (-1)) rfl
  have hF112200 := Fr.wI (p := 222) (b := 4) (v := (-1)) hF112198 rfl
  refine r_aload_n rfl ?_
  refine r_iconst (-1) rfl ?_
  refine q_putI (Sh.int hI112199.1 kx_222 rfl) rfl ?_
  have hI112201 := HI.wI0 hI112199 kx_222 rfl (p := 222) (b := 3) (v := (-1)) rfl
  have hF112202 := Fr.wI (p := 222) (b := 3) (v := (-1)) hF112200 rfl
  refine r_iconst 0 rfl ?_
  refine r_istore_n ([(1, .int 0), (0, .ref 222)]) rfl ?_
  refine r_iconst 0 rfl ?_
  refine r_istore_n ([(2, .int 0), (1, .int 0), (0, .ref 222)]) rfl ?_
  refine Ar.fall 19 rfl ?_
  have z_161285 : (0 : Int32).toInt = 0 := rfl
  have z_161286 : (0 : Int32).toInt = 0 := rfl
  refine w_loopI (fun n_ l_ g_ => ∃ x161273 : Int32, ∃ x161274 : Int32, n_ = 8 - x161274.toInt ∧ HI g_ ∧ Fr F_X6_search_222 A_X6_search_222 g0 g_ ∧ en_get 0 l_ = some (.ref 222) ∧ en_get 1 l_ = some (.int x161273) ∧ en_get 2 l_ = some (.int x161274) ∧ (0 ≤ x161274.toInt ∧ x161274.toInt ≤ 8)) ?_ (8 - 0) ⟨0, 0, by first | rfl | omega, hI112201, hF112202, rfl, rfl, rfl, by decide⟩
  rintro n161279 l161278 g161275 ⟨x161273, x161274, hm161287, hI161276, hF161277, e161281, e161282, e161283, r161284⟩ ih161280
  refine At.enter rfl ?_
  refine r_iload_n e161283 ?_
  refine r_aload_n e161281 ?_
  refine q_getR (Sh.ref hI161276.1 kx_222 rfl) ?_
  obtain ⟨v161288, hv161288⟩ : ∃ v, gI g0 1 4 = v := ⟨_, rfl⟩
  have rv161288 := RgF.at hI0.2.1 (p := 1) (b := 4) rfl
  rw [hv161288] at rv161288
  dsimp only at rv161288
  refine q_getI (Sh.int hI161276.1 kx_1 rfl) v161288 ((hF161277.1 1 4 (by decide)).trans hv161288) ?_
  have bv161290 := q_bnd x161274
  have bv161291 := q_bnd v161288
  refine r_ics 30 rfl (fun c161289 => ?_) (fun c161289 => ?_)
  · have c161289_ : x161274.toInt ≥ v161288.toInt := en_i_ge_t c161289
    refine At.enter rfl ?_
    refine r_iconst 1 rfl ?_
    refine r_aload_n e161281 ?_
    refine q_getR (Sh.ref hI161276.1 kx_222 rfl) ?_
    refine q_getI (Sh.int hI161276.1 kx_1 rfl) v161288 ((hF161277.1 1 4 (by decide)).trans hv161288) ?_
    refine q_ishlO (fun v161292 hv161292 => ?_)
    refine r_iconst 1 rfl ?_
    refine q_isubO (fun v161293 _ => ?_)
    refine r_istore_n _ rfl ?_
    refine r_iconst 0 rfl ?_
    refine r_istore_n _ rfl ?_
    refine Ar.fall 76 rfl ?_
    have z_167116 : (0 : Int32).toInt = 0 := rfl
    refine w_loopI (fun n_ l_ g_ => ∃ x167104 : Int32, n_ = 4 - x167104.toInt ∧ HI g_ ∧ Fr F_X6_search_222 A_X6_search_222 g0 g_ ∧ en_get 0 l_ = some (.ref 222) ∧ en_get 1 l_ = some (.int x161273) ∧ en_get 2 l_ = some (.int v161293) ∧ en_get 3 l_ = some (.int x167104) ∧ (0 ≤ x167104.toInt ∧ x167104.toInt ≤ 4)) ?_ (4 - 0) ⟨0, by first | rfl | omega, hI161276, hF161277, (w_p1 (by decide) (Or.inr rfl) (w_p1 (by decide) (Or.inr rfl) e161281)), (w_p1 (by decide) (Or.inr rfl) (w_p1 (by decide) (Or.inr rfl) e161282)), (w_p1 (by decide) (Or.inr rfl) (w_e1 _ _ _)), (w_e1 _ _ _), by decide⟩
    rintro n167109 l167108 g167105 ⟨x167104, hm167117, hI167106, hF167107, e167111, e167112, e167113, e167114, r167115⟩ ih167110
    refine At.enter rfl ?_
    refine r_iload_n e167114 ?_
    refine r_iconst 3 rfl ?_
    refine r_ics 81 rfl (fun c167118 => ?_) (fun c167118 => ?_)
    · have c167118_ : x167104.toInt > 3 := en_i_gt_t c167118
      refine At.enter rfl ?_
      refine r_vret ?_
      exact ⟨_, rfl, hI167106, hF167107, rfl⟩
    · have c167118_ : x167104.toInt ≤ 3 := en_i_gt_f c167118
      refine At.enter rfl ?_
      refine r_aload_n e167111 ?_
      obtain ⟨v167119, hv167119⟩ : ∃ v, gI g167105 222 5 = v := ⟨_, rfl⟩
      refine q_getI (Sh.int hI167106.1 kx_222 rfl) v167119 hv167119 ?_
      refine r_ifs 88 rfl (fun c167120 => ?_) (fun c167120 => ?_)
      · have c167120_ : v167119.toInt ≠ 0 := en_k_ne_t c167120
        refine At.enter rfl ?_
        refine r_vret ?_
        exact ⟨_, rfl, hI167106, hF167107, rfl⟩
      · have c167120_ : v167119.toInt = 0 := en_k_ne_f c167120
        refine At.enter rfl ?_
        refine r_iconst 0 rfl ?_
        refine r_istore _ rfl ?_
        refine Ar.fall 91 rfl ?_
        have z_168226 : (0 : Int32).toInt = 0 := rfl
        refine w_loopI (fun n_ l_ g_ => ∃ x168213 : Int32, n_ = 2147483647 - x168213.toInt ∧ HI g_ ∧ Fr F_X6_search_222 A_X6_search_222 g0 g_ ∧ en_get 0 l_ = some (.ref 222) ∧ en_get 1 l_ = some (.int x161273) ∧ en_get 2 l_ = some (.int v161293) ∧ en_get 3 l_ = some (.int x167104) ∧ en_get 4 l_ = some (.int x168213) ∧ 0 ≤ x168213.toInt) ?_ (2147483647 - 0) ⟨0, by first | rfl | omega, hI167106, hF167107, (w_p1 (by decide) (Or.inr rfl) e167111), (w_p1 (by decide) (Or.inr rfl) e167112), (w_p1 (by decide) (Or.inr rfl) e167113), (w_p1 (by decide) (Or.inr rfl) e167114), (w_e1 _ _ _), by decide⟩
        rintro n168218 l168217 g168214 ⟨x168213, hm168227, hI168215, hF168216, e168220, e168221, e168222, e168223, e168224, r168225⟩ ih168219
        refine At.enter rfl ?_
        refine r_iload e168224 ?_
        refine r_iconst 1 rfl ?_
        refine r_aload_n e168220 ?_
        refine q_getR (Sh.ref hI168215.1 kx_222 rfl) ?_
        obtain ⟨v168228, hv168228⟩ : ∃ v, gI g0 1 0 = v := ⟨_, rfl⟩
        have rv168228 := RgF.at hI0.2.1 (p := 1) (b := 0) rfl
        rw [hv168228] at rv168228
        dsimp only at rv168228
        refine q_getI (Sh.int hI168215.1 kx_1 rfl) v168228 ((hF168216.1 1 0 (by decide)).trans hv168228) ?_
        refine q_ishlO (fun v168229 hv168229 => ?_)
        have bv168231 := q_bnd x168213
        have bv168232 := q_bnd v168229
        refine r_ics 105 rfl (fun c168230 => ?_) (fun c168230 => ?_)
        · have c168230_ : x168213.toInt ≥ v168229.toInt := en_i_ge_t c168230
          refine At.enter rfl ?_
          refine q_iinc e168223 (x167104.toInt + 1) rfl (by omega) (fun v168233 hv168233 => ?_)
          refine r_goto ?_
          exact ih167110 (4 - v168233.toInt) _ _ ⟨v168233, by first | rfl | omega, hI168215, hF168216, (w_p1 (by decide) (Or.inr rfl) e168220), (w_p1 (by decide) (Or.inr rfl) e168221), (w_p1 (by decide) (Or.inr rfl) e168222), (w_e1 _ _ _), by omega⟩ ⟨by omega, by omega⟩
        · have c168230_ : x168213.toInt < v168229.toInt := en_i_ge_f c168230
          refine At.enter rfl ?_
          refine r_iload e168224 ?_
          refine r_callS 110 rfl [.int x168213] [] (Nat.le_of_ble_eq_true rfl) rfl (T_J6_bitCount_0f7a4 _ hI168215 x168213) ?_
          rintro _ _ ⟨g168234, rfl, hI168235, hF168236, v168237, rfl, hr168238⟩
          refine At.sti ?_
          have hF168239 := Fr.tr hF168216 hF168236 rfl rfl
          refine At.enter rfl ?_
          refine r_iload_n e168223 ?_
          refine r_ics 114 rfl (fun c168240 => ?_) (fun c168240 => ?_)
          · have c168240_ : v168237.toInt ≠ x167104.toInt := en_i_ne_t c168240
            refine At.enter rfl ?_
            refine q_iinc e168224 (x168213.toInt + 1) rfl (by omega) (fun v168241 hv168241 => ?_)
            refine r_goto ?_
            have bv168242 := q_bnd v168241
            exact ih168219 (2147483647 - v168241.toInt) _ _ ⟨v168241, by first | rfl | omega, hI168235, hF168239, (w_p1 (by decide) (Or.inr rfl) e168220), (w_p1 (by decide) (Or.inr rfl) e168221), (w_p1 (by decide) (Or.inr rfl) e168222), (w_p1 (by decide) (Or.inr rfl) e168223), (w_e1 _ _ _), by omega⟩ ⟨by omega, by omega⟩
          · have c168240_ : v168237.toInt = x167104.toInt := en_i_ne_f c168240
            refine At.enter rfl ?_
            refine r_iload e168224 ?_
            refine r_iload_n e168221 ?_
            refine q_iandO (fun v168243 hv168243 => ?_)
            refine r_ifs 121 rfl (fun c168244 => ?_) (fun c168244 => ?_)
            · have c168244_ : v168243.toInt = 0 := en_k_eq_t c168244
              refine At.enter rfl ?_
              refine r_aload_n e168220 ?_
              refine q_getR (Sh.ref hI168235.1 kx_222 rfl) ?_
              refine r_iload e168224 ?_
              refine r_callV 133 rfl [.ref 204, .int x168213] [] (Nat.le_of_ble_eq_true rfl) rfl (T_X1_layOut_204 _ hI168235 x168213) ?_
              rintro _ _ ⟨g168245, rfl, hI168246, hF168247, rfl⟩
              refine At.stn ?_
              have hF168250 := Fr.tr hF168239 hF168247 rfl rfl
              refine At.enter rfl ?_
              refine r_aload_n e168220 ?_
              refine q_getR (Sh.ref hI168246.1 kx_222 rfl) ?_
              refine r_iload_n e168222 ?_
              refine r_bipush 99 rfl ?_
              refine r_callV 143 rfl [.ref 204, .int v161293, .int 99] [] (Nat.le_of_ble_eq_true rfl) rfl (T_X1_comesBy_204 _ hI168246 v161293 99) ?_
              rintro _ _ ⟨g168251, rfl, hI168252, hF168253, v168254, rfl, hr168255⟩
              refine At.sti ?_
              have hF168256 := Fr.tr hF168250 hF168253 rfl rfl
              refine At.enter rfl ?_
              refine r_ifs 146 rfl (fun c168257 => ?_) (fun c168257 => ?_)
              · have c168257_ : v168254.toInt = 0 := en_k_eq_t c168257
                refine At.enter rfl ?_
                refine q_iinc e168224 (x168213.toInt + 1) rfl (by omega) (fun v168258 hv168258 => ?_)
                refine r_goto ?_
                have bv168259 := q_bnd v168258
                exact ih168219 (2147483647 - v168258.toInt) _ _ ⟨v168258, by first | rfl | omega, hI168252, hF168256, (w_p1 (by decide) (Or.inr rfl) e168220), (w_p1 (by decide) (Or.inr rfl) e168221), (w_p1 (by decide) (Or.inr rfl) e168222), (w_p1 (by decide) (Or.inr rfl) e168223), (w_e1 _ _ _), by omega⟩ ⟨by omega, by omega⟩
              · have c168257_ : v168254.toInt ≠ 0 := en_k_eq_f c168257
                refine At.enter rfl ?_
                refine r_aload_n e168220 ?_
                refine r_aload_n e168220 ?_
                obtain ⟨v168260, hv168260⟩ : ∃ v, gI g168214 222 5 = v := ⟨_, rfl⟩
                refine q_getI (Sh.int hI168252.1 kx_222 rfl) v168260 (((hF168253.1 222 5 mf_X1_comesBy_204_222_5).trans ((hF168247.1 222 5 mf_X1_layOut_204_222_5).trans (hF168236.1 222 5 mf_J6_bitCount_0f7a4_222_5))).trans hv168260) ?_
                refine r_ifs 154 rfl (fun c168261 => ?_) (fun c168261 => ?_)
                · have c168261_ : v168260.toInt ≠ 0 := en_k_ne_t c168261
                  refine At.enter rfl ?_
                  refine r_aload_n e168220 ?_
                  obtain ⟨v168262, hv168262⟩ : ∃ v, gI g168214 222 4 = v := ⟨_, rfl⟩
                  refine q_getI (Sh.int hI168252.1 kx_222 rfl) v168262 (((hF168253.1 222 4 mf_X1_comesBy_204_222_4).trans ((hF168247.1 222 4 mf_X1_layOut_204_222_4).trans (hF168236.1 222 4 mf_J6_bitCount_0f7a4_222_4))).trans hv168262) ?_
                  refine Ar.fall 163 rfl ?_
                  refine At.enter rfl ?_
                  refine q_putI (Sh.int hI168252.1 kx_222 rfl) rfl ?_
                  have hI168263 := HI.wI0 hI168252 kx_222 rfl (p := 222) (b := 4) (v := v168262) rfl
                  have hF168264 := Fr.wI (p := 222) (b := 4) (v := v168262) hF168256 rfl
                  refine r_aload_n e168220 ?_
                  refine r_iload_n e168223 ?_
                  refine q_putI (Sh.int hI168263.1 kx_222 rfl) rfl ?_
                  have hI168265 := HI.wI0 hI168263 kx_222 rfl (p := 222) (b := 3) (v := x167104) rfl
                  have hF168266 := Fr.wI (p := 222) (b := 3) (v := x167104) hF168264 rfl
                  refine r_aload_n e168220 ?_
                  refine r_dup rfl ?_
                  refine q_getI (Sh.int hI168265.1 kx_222 rfl) v168260 (((gI_sI_ne (by decide)).trans ((gI_sI_ne (by decide)).trans ((hF168253.1 222 5 mf_X1_comesBy_204_222_5).trans ((hF168247.1 222 5 mf_X1_layOut_204_222_5).trans (hF168236.1 222 5 mf_J6_bitCount_0f7a4_222_5))))).trans hv168260) ?_
                  refine r_iconst 1 rfl ?_
                  refine q_iaddO (fun v168267 _ => ?_)
                  refine q_putI (Sh.int hI168265.1 kx_222 rfl) rfl ?_
                  have hI168268 := HI.wI0 hI168265 kx_222 rfl (p := 222) (b := 5) (v := v168267) rfl
                  have hF168269 := Fr.wI (p := 222) (b := 5) (v := v168267) hF168266 rfl
                  refine Ar.fall 181 rfl ?_
                  refine At.enter rfl ?_
                  refine q_iinc e168224 (x168213.toInt + 1) rfl (by omega) (fun v168270 hv168270 => ?_)
                  refine r_goto ?_
                  have bv168271 := q_bnd v168270
                  exact ih168219 (2147483647 - v168270.toInt) _ _ ⟨v168270, by first | rfl | omega, hI168268, hF168269, (w_p1 (by decide) (Or.inr rfl) e168220), (w_p1 (by decide) (Or.inr rfl) e168221), (w_p1 (by decide) (Or.inr rfl) e168222), (w_p1 (by decide) (Or.inr rfl) e168223), (w_e1 _ _ _), by omega⟩ ⟨by omega, by omega⟩
                · have c168261_ : v168260.toInt = 0 := en_k_ne_f c168261
                  refine At.enter rfl ?_
                  refine r_iload e168224 ?_
                  refine r_goto ?_
                  refine At.enter rfl ?_
                  refine q_putI (Sh.int hI168252.1 kx_222 rfl) rfl ?_
                  have hI168272 := HI.wI0 hI168252 kx_222 rfl (p := 222) (b := 4) (v := x168213) rfl
                  have hF168273 := Fr.wI (p := 222) (b := 4) (v := x168213) hF168256 rfl
                  refine r_aload_n e168220 ?_
                  refine r_iload_n e168223 ?_
                  refine q_putI (Sh.int hI168272.1 kx_222 rfl) rfl ?_
                  have hI168274 := HI.wI0 hI168272 kx_222 rfl (p := 222) (b := 3) (v := x167104) rfl
                  have hF168275 := Fr.wI (p := 222) (b := 3) (v := x167104) hF168273 rfl
                  refine r_aload_n e168220 ?_
                  refine r_dup rfl ?_
                  refine q_getI (Sh.int hI168274.1 kx_222 rfl) v168260 (((gI_sI_ne (by decide)).trans ((gI_sI_ne (by decide)).trans ((hF168253.1 222 5 mf_X1_comesBy_204_222_5).trans ((hF168247.1 222 5 mf_X1_layOut_204_222_5).trans (hF168236.1 222 5 mf_J6_bitCount_0f7a4_222_5))))).trans hv168260) ?_
                  refine r_iconst 1 rfl ?_
                  refine q_iadd (v168260.toInt + 1) rfl (by omega) (fun v168276 hv168276 => ?_)
                  refine q_putI (Sh.int hI168274.1 kx_222 rfl) rfl ?_
                  have hI168277 := HI.wI0 hI168274 kx_222 rfl (p := 222) (b := 5) (v := v168276) rfl
                  have hF168278 := Fr.wI (p := 222) (b := 5) (v := v168276) hF168275 rfl
                  refine Ar.fall 181 rfl ?_
                  refine At.enter rfl ?_
                  refine q_iinc e168224 (x168213.toInt + 1) rfl (by omega) (fun v168279 hv168279 => ?_)
                  refine r_goto ?_
                  have bv168280 := q_bnd v168279
                  exact ih168219 (2147483647 - v168279.toInt) _ _ ⟨v168279, by first | rfl | omega, hI168277, hF168278, (w_p1 (by decide) (Or.inr rfl) e168220), (w_p1 (by decide) (Or.inr rfl) e168221), (w_p1 (by decide) (Or.inr rfl) e168222), (w_p1 (by decide) (Or.inr rfl) e168223), (w_e1 _ _ _), by omega⟩ ⟨by omega, by omega⟩
            · have c168244_ : v168243.toInt ≠ 0 := en_k_eq_f c168244
              refine At.enter rfl ?_
              refine r_goto ?_
              refine At.enter rfl ?_
              refine q_iinc e168224 (x168213.toInt + 1) rfl (by omega) (fun v168281 hv168281 => ?_)
              refine r_goto ?_
              have bv168282 := q_bnd v168281
              exact ih168219 (2147483647 - v168281.toInt) _ _ ⟨v168281, by first | rfl | omega, hI168235, hF168239, (w_p1 (by decide) (Or.inr rfl) e168220), (w_p1 (by decide) (Or.inr rfl) e168221), (w_p1 (by decide) (Or.inr rfl) e168222), (w_p1 (by decide) (Or.inr rfl) e168223), (w_e1 _ _ _), by omega⟩ ⟨by omega, by omega⟩
  · have c161289_ : x161274.toInt < v161288.toInt := en_i_ge_f c161289
    refine At.enter rfl ?_
    refine r_iload_n e161282 ?_
    refine r_iconst 1 rfl ?_
    refine r_aload_n e161281 ?_
    refine q_getR (Sh.ref hI161276.1 kx_222 rfl) ?_
    refine r_iload_n e161283 ?_
    refine r_iconst 1 rfl ?_
    refine r_callV 41 rfl [.ref 1, .int x161274, .int 1] [.int 1, .int x161273] (Nat.le_of_ble_eq_true rfl) rfl (T_X0_about_1 _ hI161276 x161274 1) ?_
    rintro _ _ ⟨g168283, rfl, hI168284, hF168285, v168286, rfl, hr168287⟩
    refine At.sti ?_
    have hF168288 := Fr.tr hF161277 hF168285 rfl rfl
    refine At.enter rfl ?_
    refine q_ishlO (fun v168289 hv168289 => ?_)
    refine r_iconst 1 rfl ?_
    refine r_aload_n e161281 ?_
    refine q_getR (Sh.ref hI168284.1 kx_222 rfl) ?_
    refine r_iload_n e161283 ?_
    refine r_iconst 2 rfl ?_
    refine r_callV 52 rfl [.ref 1, .int x161274, .int 2] [.int 1, .int v168289, .int x161273] (Nat.le_of_ble_eq_true rfl) rfl (T_X0_about_1 _ hI168284 x161274 2) ?_
    rintro _ _ ⟨g168290, rfl, hI168291, hF168292, v168293, rfl, hr168294⟩
    refine At.sti ?_
    have hF168295 := Fr.tr hF168288 hF168292 rfl rfl
    refine At.enter rfl ?_
    refine q_ishlO (fun v168296 hv168296 => ?_)
    refine q_iorO (fun v168297 hv168297 => ?_)
    refine q_iorO (fun v168298 hv168298 => ?_)
    refine r_istore_n _ rfl ?_
    refine q_iinc (w_p1 (by decide) (Or.inr rfl) e161283) (x161274.toInt + 1) rfl (by omega) (fun v168299 hv168299 => ?_)
    refine r_goto ?_
    have bv168300 := q_bnd v168298
    exact ih161280 (8 - v168299.toInt) _ _ ⟨v168298, v168299, by first | rfl | omega, hI168291, hF168295, (w_p1 (by decide) (Or.inr rfl) (w_p1 (by decide) (Or.inr rfl) e161281)), (w_p1 (by decide) (Or.inr rfl) (w_e1 _ _ _)), (w_e1 _ _ _), by omega⟩ ⟨by omega, by omega⟩
