def F_X2_settle_223 : List (Nat × Nat) := [(185, 3), (223, 5), (223, 6), (223, 7), (223, 8), (223, 9), (223, 10), (223, 11)]
def A_X2_settle_223 : List Nat := [224, 225, 226, 227]
theorem mf_X2_seekAnswer_223_223_11 : memF F_X2_seekAnswer_223 223 11 = false := by decide
set_option maxRecDepth 100000 in
set_option maxHeartbeats 4000000 in
theorem T_X2_settle_223 (d : Nat) {N : Nat} {g0 : List en_E} (hI0 : HI g0) : Ev (d + 7) 43 [.ref 223] (g0, N) (fun w h' => ∃ g', h' = (g', N) ∧ HI g' ∧ Fr F_X2_settle_223 A_X2_settle_223 g0 g' ∧ w = none) := by
  have hF0 : Fr F_X2_settle_223 A_X2_settle_223 g0 g0 := Fr.rf
  refine Ev.mk rfl rfl ⟨Nat.le_of_ble_eq_true rfl, Or.inr (q_rc hI0.1 kx_223 rfl)⟩ ?_
  show At _ none _ _ (0, [(0, .ref 223)], [], (_, _)) _
  refine At.enter rfl ?_
  refine r_aload_n rfl ?_
  obtain ⟨v6339, hv6339⟩ : ∃ v, gI g0 223 10 = v := ⟨_, rfl⟩
  refine q_getI (Sh.int hI0.1 kx_223 rfl) v6339 hv6339 ?_
  refine r_ifs 7 rfl (fun c6340 => ?_) (fun c6340 => ?_)
  · have c6340_ : v6339.toInt = 0 := en_k_eq_t c6340
    refine At.enter rfl ?_
    refine r_aload_n rfl ?_
    refine r_callV 12 rfl [.ref 223] [] (Nat.le_of_ble_eq_true rfl) rfl (T_X2_begin_223 _ hI0) ?_
    rintro _ _ ⟨g6341, rfl, hI6342, hF6343, rfl⟩
    refine At.stn ?_
    have hF6346 := Fr.tr hF0 hF6343 rfl rfl
    refine At.enter rfl ?_
    refine r_iconst 1 rfl ?_
    refine r_istore_n ([(1, .int 1), (0, .ref 223)]) rfl ?_
    refine r_aload_n rfl ?_
    refine r_iconst 0 rfl ?_
    refine q_putI (Sh.int hI6342.1 kx_223 rfl) rfl ?_
    have hI6347 := HI.wI0 hI6342 kx_223 rfl (p := 223) (b := 11) (v := 0) rfl
    have hF6348 := Fr.wI (p := 223) (b := 11) (v := 0) hF6346 rfl
    refine Ar.fall 19 rfl ?_
    have z_9236 : (1 : Int32).toInt = 1 := rfl
    have z_9237 : (0 : Int32).toInt = 0 := rfl
    refine w_loopI (fun n_ l_ g_ => ∃ x9223 : Int32, ∃ x9224 : Int32, n_ = 50 - x9224.toInt ∧ HI g_ ∧ Fr F_X2_settle_223 A_X2_settle_223 g0 g_ ∧ gI g_ 223 11 = x9224 ∧ en_get 0 l_ = some (.ref 223) ∧ en_get 1 l_ = some (.int x9223) ∧ (0 ≤ x9223.toInt ∧ x9223.toInt ≤ 1) ∧ (0 ≤ x9224.toInt ∧ x9224.toInt ≤ 50)) ?_ (50 - 0) ⟨1, 0, by first | rfl | omega, hI6347, hF6348, (gI_sI_eq hI6342.1 kx_223 rfl _), rfl, rfl, by decide, by decide⟩
    rintro n9229 l9228 g9225 ⟨x9223, x9224, hm9238, hI9226, hF9227, e9231, e9232, e9233, r9234, r9235⟩ ih9230
    refine At.enter rfl ?_
    refine r_iload_n e9233 ?_
    refine r_ifs 23 rfl (fun c9239 => ?_) (fun c9239 => ?_)
    · have c9239_ : x9223.toInt = 0 := en_k_eq_t c9239
      refine At.enter rfl ?_
      refine r_iload_n e9233 ?_
      refine r_ifs 98 rfl (fun c9240 => ?_) (fun c9240 => ?_)
      · have c9240_ : x9223.toInt = 0 := en_k_eq_t c9240
        refine At.enter rfl ?_
        refine r_aload_n e9232 ?_
        refine q_getR (Sh.ref hI9226.1 kx_223 rfl) ?_
        refine r_iconst 0 rfl ?_
        refine r_aload_n e9232 ?_
        refine q_getR (Sh.ref hI9226.1 kx_223 rfl) ?_
        refine r_iconst 0 rfl ?_
        refine r_bipush 12 rfl ?_
        have zv9241 : (0 : Int32).toInt = 0 := rfl
        have zv9242 : (0 : Int32).toInt = 0 := rfl
        have zv9243 : (12 : Int32).toInt = 12 := rfl
        refine q_cpy rfl (Nat.le_of_ble_eq_true rfl) (Sh.arr hI9226.1 ka_224) (Sh.arr hI9226.1 ka_227) ⟨by omega, by omega, by omega, by omega, by omega⟩ ?_
        have hI9244 := HI.cpy0 hI9226 ka_224 ka_227 rfl rfl ((0 : Int32).toInt.toNat) ((0 : Int32).toInt.toNat) ((12 : Int32).toInt.toNat) (by omega) (by omega)
        have hF9245 := Fr.cpy (p0 := 224) (p1 := 227) hF9227 rfl ((0 : Int32).toInt.toNat) ((0 : Int32).toInt.toNat) ((12 : Int32).toInt.toNat)
        refine r_aload_n e9232 ?_
        refine r_iconst 1 rfl ?_
        refine q_putI (Sh.int hI9244.1 kx_223 rfl) rfl ?_
        have hI9246 := HI.wI0 hI9244 kx_223 rfl (p := 223) (b := 10) (v := 1) rfl
        have hF9247 := Fr.wI (p := 223) (b := 10) (v := 1) hF9245 rfl
        refine r_vret ?_
        exact ⟨_, rfl, hI9246, hF9247, rfl⟩
      · have c9240_ : x9223.toInt ≠ 0 := en_k_eq_f c9240
        exfalso; omega
    · have c9239_ : x9223.toInt ≠ 0 := en_k_eq_f c9239
      refine At.enter rfl ?_
      refine r_aload_n e9232 ?_
      refine q_getI (Sh.int hI9226.1 kx_223 rfl) x9224 e9231 ?_
      refine r_bipush 50 rfl ?_
      refine r_ics 32 rfl (fun c9248 => ?_) (fun c9248 => ?_)
      · have c9248_ : x9224.toInt ≥ 50 := en_i_ge_t c9248
        refine At.enter rfl ?_
        refine r_iload_n e9233 ?_
        refine r_ifs 98 rfl (fun c9249 => ?_) (fun c9249 => ?_)
        · have c9249_ : x9223.toInt = 0 := en_k_eq_t c9249
          exfalso; omega
        · have c9249_ : x9223.toInt ≠ 0 := en_k_eq_f c9249
          refine At.enter rfl ?_
          refine r_aload_n e9232 ?_
          refine r_dup rfl ?_
          refine q_getI (Sh.int hI9226.1 kx_223 rfl) x9224 e9231 ?_
          refine r_iconst 1 rfl ?_
          refine q_iadd (x9224.toInt + 1) rfl (by omega) (fun v9250 hv9250 => ?_)
          refine q_putI (Sh.int hI9226.1 kx_223 rfl) rfl ?_
          have hI9251 := HI.wI0 hI9226 kx_223 rfl (p := 223) (b := 11) (v := v9250) rfl
          have hF9252 := Fr.wI (p := 223) (b := 11) (v := v9250) hF9227 rfl
          refine Ar.fall 108 rfl ?_
          refine At.enter rfl ?_
          refine r_aload_n e9232 ?_
          refine q_getR (Sh.ref hI9251.1 kx_223 rfl) ?_
          refine r_iconst 0 rfl ?_
          refine r_aload_n e9232 ?_
          refine q_getR (Sh.ref hI9251.1 kx_223 rfl) ?_
          refine r_iconst 0 rfl ?_
          refine r_bipush 12 rfl ?_
          have zv9253 : (0 : Int32).toInt = 0 := rfl
          have zv9254 : (0 : Int32).toInt = 0 := rfl
          have zv9255 : (12 : Int32).toInt = 12 := rfl
          refine q_cpy rfl (Nat.le_of_ble_eq_true rfl) (Sh.arr hI9251.1 ka_224) (Sh.arr hI9251.1 ka_227) ⟨by omega, by omega, by omega, by omega, by omega⟩ ?_
          have hI9256 := HI.cpy0 hI9251 ka_224 ka_227 rfl rfl ((0 : Int32).toInt.toNat) ((0 : Int32).toInt.toNat) ((12 : Int32).toInt.toNat) (by omega) (by omega)
          have hF9257 := Fr.cpy (p0 := 224) (p1 := 227) hF9252 rfl ((0 : Int32).toInt.toNat) ((0 : Int32).toInt.toNat) ((12 : Int32).toInt.toNat)
          refine r_aload_n e9232 ?_
          refine r_iconst 1 rfl ?_
          refine q_putI (Sh.int hI9256.1 kx_223 rfl) rfl ?_
          have hI9258 := HI.wI0 hI9256 kx_223 rfl (p := 223) (b := 10) (v := 1) rfl
          have hF9259 := Fr.wI (p := 223) (b := 10) (v := 1) hF9257 rfl
          refine r_vret ?_
          exact ⟨_, rfl, hI9258, hF9259, rfl⟩
      · have c9248_ : x9224.toInt < 50 := en_i_ge_f c9248
        refine At.enter rfl ?_
        refine r_aload_n e9232 ?_
        refine r_dup rfl ?_
        refine q_getI (Sh.int hI9226.1 kx_223 rfl) x9224 e9231 ?_
        refine r_iconst 1 rfl ?_
        refine q_iadd (x9224.toInt + 1) rfl (by omega) (fun v9260 hv9260 => ?_)
        refine q_putI (Sh.int hI9226.1 kx_223 rfl) rfl ?_
        have hI9261 := HI.wI0 hI9226 kx_223 rfl (p := 223) (b := 11) (v := v9260) rfl
        have hF9262 := Fr.wI (p := 223) (b := 11) (v := v9260) hF9227 rfl
        refine r_iconst 0 rfl ?_
        refine r_istore_n _ rfl ?_
        refine r_iconst 0 rfl ?_
        refine r_istore_n _ rfl ?_
        refine Ar.fall 46 rfl ?_
        have z_9484 : (0 : Int32).toInt = 0 := rfl
        have z_9485 : (0 : Int32).toInt = 0 := rfl
        refine w_loopI (fun n_ l_ g_ => ∃ x9470 : Int32, ∃ x9471 : Int32, n_ = 12 - x9471.toInt ∧ HI g_ ∧ Fr F_X2_settle_223 A_X2_settle_223 g0 g_ ∧ gI g_ 223 11 = v9260 ∧ en_get 0 l_ = some (.ref 223) ∧ en_get 1 l_ = some (.int x9470) ∧ en_get 2 l_ = some (.int x9471) ∧ (0 ≤ x9470.toInt ∧ x9470.toInt ≤ 1) ∧ (0 ≤ x9471.toInt ∧ x9471.toInt ≤ 12)) ?_ (12 - 0) ⟨0, 0, by first | rfl | omega, hI9261, hF9262, (gI_sI_eq hI9226.1 kx_223 rfl _), (w_p1 (by decide) (Or.inr rfl) (w_p1 (by decide) (Or.inr rfl) e9232)), (w_p1 (by decide) (Or.inr rfl) (w_e1 _ _ _)), (w_e1 _ _ _), by decide, by decide⟩
        rintro n9476 l9475 g9472 ⟨x9470, x9471, hm9486, hI9473, hF9474, e9478, e9479, e9480, e9481, r9482, r9483⟩ ih9477
        have tv9487 := congrArg Int32.toInt e9478
        refine At.enter rfl ?_
        refine r_iload_n e9481 ?_
        refine r_aload_n e9479 ?_
        refine q_getR (Sh.ref hI9473.1 kx_223 rfl) ?_
        obtain ⟨v9488, hv9488⟩ : ∃ v, gI g0 1 0 = v := ⟨_, rfl⟩
        have rv9488 := RgF.at hI0.2.1 (p := 1) (b := 0) rfl
        rw [hv9488] at rv9488
        dsimp only at rv9488
        refine q_getI (Sh.int hI9473.1 kx_1 rfl) v9488 ((hF9474.1 1 0 (by decide)).trans hv9488) ?_
        have bv9490 := q_bnd x9471
        have bv9491 := q_bnd v9488
        refine r_ics 57 rfl (fun c9489 => ?_) (fun c9489 => ?_)
        · have c9489_ : x9471.toInt ≥ v9488.toInt := en_i_ge_t c9489
          refine At.enter rfl ?_
          refine r_goto ?_
          exact ih9230 (50 - v9260.toInt) _ _ ⟨x9470, v9260, by first | rfl | omega, hI9473, hF9474, e9478, e9479, e9480, by omega, by omega⟩ ⟨by omega, by omega⟩
        · have c9489_ : x9471.toInt < v9488.toInt := en_i_ge_f c9489
          refine At.enter rfl ?_
          refine r_aload_n e9479 ?_
          refine r_iload_n e9481 ?_
          refine r_callV 62 rfl [.ref 223, .int x9471] [] (Nat.le_of_ble_eq_true rfl) rfl (T_X2_seekAnswer_223 _ hI9473 x9471 (by omega)) ?_
          rintro _ _ ⟨g9492, rfl, hI9493, hF9494, rfl⟩
          refine At.stn ?_
          have hF9497 := Fr.tr hF9474 hF9494 rfl rfl
          refine At.enter rfl ?_
          refine r_aload_n e9479 ?_
          obtain ⟨v9498, hv9498⟩ : ∃ v, gI g9492 223 8 = v := ⟨_, rfl⟩
          refine q_getI (Sh.int hI9493.1 kx_223 rfl) v9498 hv9498 ?_
          refine r_aload_n e9479 ?_
          obtain ⟨v9499, hv9499⟩ : ∃ v, gI g9492 223 9 = v := ⟨_, rfl⟩
          refine q_getI (Sh.int hI9493.1 kx_223 rfl) v9499 hv9499 ?_
          have bv9501 := q_bnd v9498
          have bv9502 := q_bnd v9499
          refine r_ics 73 rfl (fun c9500 => ?_) (fun c9500 => ?_)
          · have c9500_ : v9498.toInt ≤ v9499.toInt := en_i_le_t c9500
            refine At.enter rfl ?_
            refine q_iinc e9481 (x9471.toInt + 1) rfl (by omega) (fun v9503 hv9503 => ?_)
            refine r_goto ?_
            exact ih9477 (12 - v9503.toInt) _ _ ⟨x9470, v9503, by first | rfl | omega, hI9493, hF9497, ((hF9494.1 223 11 mf_X2_seekAnswer_223_223_11).trans e9478), (w_p1 (by decide) (Or.inr rfl) e9479), (w_p1 (by decide) (Or.inr rfl) e9480), (w_e1 _ _ _), by omega, by omega⟩ ⟨by omega, by omega⟩
          · have c9500_ : v9498.toInt > v9499.toInt := en_i_le_f c9500
            refine At.enter rfl ?_
            refine r_aload_n e9479 ?_
            refine q_getR (Sh.ref hI9493.1 kx_223 rfl) ?_
            refine r_iload_n e9481 ?_
            refine r_aload_n e9479 ?_
            obtain ⟨v9504, hv9504⟩ : ∃ v, gI g9492 223 7 = v := ⟨_, rfl⟩
            refine q_getI (Sh.int hI9493.1 kx_223 rfl) v9504 hv9504 ?_
            refine q_iast (Sh.arr hI9493.1 ka_224) (x9471.toInt) rfl (by omega) ?_
            have hI9505 := HI.wA0 hI9493 ka_224 (p := 224) rfl rfl (x9471.toInt) (v9504)
            have hF9506 := Fr.wA (p := 224) (j := x9471.toInt) (v := v9504) hF9497 rfl
            refine r_iconst 1 rfl ?_
            refine r_istore_n _ rfl ?_
            refine Ar.fall 85 rfl ?_
            refine At.enter rfl ?_
            refine q_iinc (w_p1 (by decide) (Or.inr rfl) e9481) (x9471.toInt + 1) rfl (by omega) (fun v9507 hv9507 => ?_)
            refine r_goto ?_
            exact ih9477 (12 - v9507.toInt) _ _ ⟨1, v9507, by first | rfl | omega, hI9505, hF9506, (((gI_sW).trans (hF9494.1 223 11 mf_X2_seekAnswer_223_223_11)).trans e9478), (w_p1 (by decide) (Or.inr rfl) (w_p1 (by decide) (Or.inr rfl) e9479)), (w_p1 (by decide) (Or.inr rfl) (w_e1 _ _ _)), (w_e1 _ _ _), by decide, by omega⟩ ⟨by omega, by omega⟩
  · have c6340_ : v6339.toInt ≠ 0 := en_k_eq_f c6340
    refine At.enter rfl ?_
    refine r_vret ?_
    exact ⟨_, rfl, hI0, hF0, rfl⟩

def F_X2_firstRestless_223 : List (Nat × Nat) := [(185, 3), (223, 5), (223, 6), (223, 7), (223, 8), (223, 9)]
def A_X2_firstRestless_223 : List Nat := [224, 225, 226]
set_option maxRecDepth 100000 in
set_option maxHeartbeats 4000000 in
theorem T_X2_firstRestless_223 (d : Nat) {N : Nat} {g0 : List en_E} (hI0 : HI g0) : Ev (d + 7) 42 [.ref 223] (g0, N) (fun w h' => ∃ g', h' = (g', N) ∧ HI g' ∧ Fr F_X2_firstRestless_223 A_X2_firstRestless_223 g0 g' ∧ ∃ r : Int32, w = some (.int r) ∧ ((-1) ≤ r.toInt ∧ r.toInt ≤ 11)) := by
  have hF0 : Fr F_X2_firstRestless_223 A_X2_firstRestless_223 g0 g0 := Fr.rf
  refine Ev.mk rfl rfl ⟨Nat.le_of_ble_eq_true rfl, Or.inr (q_rc hI0.1 kx_223 rfl)⟩ ?_
  show At _ none _ _ (0, [(0, .ref 223)], [], (_, _)) _
  refine At.enter rfl ?_
  refine r_aload_n rfl ?_
  refine r_callV 4 rfl [.ref 223] [] (Nat.le_of_ble_eq_true rfl) rfl (T_X2_begin_223 _ hI0) ?_
  rintro _ _ ⟨g393, rfl, hI394, hF395, rfl⟩
  refine At.stn ?_
  have hF398 := Fr.tr hF0 hF395 rfl rfl
  refine At.enter rfl ?_
  refine r_iconst 0 rfl ?_
  refine r_istore_n ([(1, .int 0), (0, .ref 223)]) rfl ?_
  refine Ar.fall 6 rfl ?_
  have z_571 : (0 : Int32).toInt = 0 := rfl
  refine w_loopI (fun n_ l_ g_ => ∃ x561 : Int32, n_ = 12 - x561.toInt ∧ HI g_ ∧ Fr F_X2_firstRestless_223 A_X2_firstRestless_223 g0 g_ ∧ en_get 0 l_ = some (.ref 223) ∧ en_get 1 l_ = some (.int x561) ∧ (0 ≤ x561.toInt ∧ x561.toInt ≤ 12)) ?_ (12 - 0) ⟨0, by first | rfl | omega, hI394, hF398, rfl, rfl, by decide⟩
  rintro n566 l565 g562 ⟨x561, hm572, hI563, hF564, e568, e569, r570⟩ ih567
  refine At.enter rfl ?_
  refine r_iload_n e569 ?_
  refine r_aload_n e568 ?_
  refine q_getR (Sh.ref hI563.1 kx_223 rfl) ?_
  obtain ⟨v573, hv573⟩ : ∃ v, gI g0 1 0 = v := ⟨_, rfl⟩
  have rv573 := RgF.at hI0.2.1 (p := 1) (b := 0) rfl
  rw [hv573] at rv573
  dsimp only at rv573
  refine q_getI (Sh.int hI563.1 kx_1 rfl) v573 ((hF564.1 1 0 (by decide)).trans hv573) ?_
  have bv575 := q_bnd x561
  have bv576 := q_bnd v573
  refine r_ics 17 rfl (fun c574 => ?_) (fun c574 => ?_)
  · have c574_ : x561.toInt ≥ v573.toInt := en_i_ge_t c574
    refine At.enter rfl ?_
    refine r_iconst (-1) rfl ?_
    refine r_ireti ?_
    exact ⟨_, rfl, hI563, hF564, _, rfl, by decide⟩
  · have c574_ : x561.toInt < v573.toInt := en_i_ge_f c574
    refine At.enter rfl ?_
    refine r_aload_n e568 ?_
    refine r_iload_n e569 ?_
    refine r_callV 22 rfl [.ref 223, .int x561] [] (Nat.le_of_ble_eq_true rfl) rfl (T_X2_seekAnswer_223 _ hI563 x561 (by omega)) ?_
    rintro _ _ ⟨g577, rfl, hI578, hF579, rfl⟩
    refine At.stn ?_
    have hF582 := Fr.tr hF564 hF579 rfl rfl
    refine At.enter rfl ?_
    refine r_aload_n e568 ?_
    obtain ⟨v583, hv583⟩ : ∃ v, gI g577 223 8 = v := ⟨_, rfl⟩
    refine q_getI (Sh.int hI578.1 kx_223 rfl) v583 hv583 ?_
    refine r_aload_n e568 ?_
    obtain ⟨v584, hv584⟩ : ∃ v, gI g577 223 9 = v := ⟨_, rfl⟩
    refine q_getI (Sh.int hI578.1 kx_223 rfl) v584 hv584 ?_
    have bv586 := q_bnd v583
    have bv587 := q_bnd v584
    refine r_ics 33 rfl (fun c585 => ?_) (fun c585 => ?_)
    · have c585_ : v583.toInt ≤ v584.toInt := en_i_le_t c585
      refine At.enter rfl ?_
      refine q_iinc e569 (x561.toInt + 1) rfl (by omega) (fun v588 hv588 => ?_)
      refine r_goto ?_
      exact ih567 (12 - v588.toInt) _ _ ⟨v588, by first | rfl | omega, hI578, hF582, (w_p1 (by decide) (Or.inr rfl) e568), (w_e1 _ _ _), by omega⟩ ⟨by omega, by omega⟩
    · have c585_ : v583.toInt > v584.toInt := en_i_le_f c585
      refine At.enter rfl ?_
      refine r_iload_n e569 ?_
      refine r_ireti ?_
      exact ⟨_, rfl, hI578, hF582, _, rfl, by omega⟩

def F_X6_search_222 : List (Nat × Nat) := [(185, 3), (204, 16), (204, 18), (222, 3), (222, 4), (222, 5)]
def A_X6_search_222 : List Nat := [205, 206, 207, 208, 209, 210, 211, 212, 213, 214, 215, 216, 218]
theorem mf_X1_comesBy_204_222_5 : memF F_X1_comesBy_204 222 5 = false := by decide
theorem mf_X1_layOut_204_222_5 : memF F_X1_layOut_204 222 5 = false := by decide
theorem mf_J6_bitCount_0f7a4_222_5 : memF F_J6_bitCount_0f7a4 222 5 = false := by decide
theorem mf_X1_comesBy_204_222_4 : memF F_X1_comesBy_204 222 4 = false := by decide
theorem mf_X1_layOut_204_222_4 : memF F_X1_layOut_204 222 4 = false := by decide
theorem mf_J6_bitCount_0f7a4_222_4 : memF F_J6_bitCount_0f7a4 222 4 = false := by decide
set_option maxRecDepth 100000 in
set_option maxHeartbeats 4000000 in
theorem T_X6_search_222 (d : Nat) {N : Nat} {g0 : List en_E} (hI0 : HI g0) : Ev (d + 6) 82 [.ref 222] (g0, N) (fun w h' => ∃ g', h' = (g', N) ∧ HI g' ∧ Fr F_X6_search_222 A_X6_search_222 g0 g' ∧ w = none) := by
  have hF0 : Fr F_X6_search_222 A_X6_search_222 g0 g0 := Fr.rf
  refine Ev.mk rfl rfl ⟨Nat.le_of_ble_eq_true rfl, Or.inr (q_rc hI0.1 kx_222 rfl)⟩ ?_
  show At _ none _ _ (0, [(0, .ref 222)], [], (_, _)) _
  refine At.enter rfl ?_
  refine r_aload_n rfl ?_
  refine r_iconst 0 rfl ?_
  refine q_putI (Sh.int hI0.1 kx_222 rfl) rfl ?_
  have hI112229 := HI.wI0 hI0 kx_222 rfl (p := 222) (b := 5) (v := 0) rfl
  have hF112230 := Fr.wI (p := 222) (b := 5) (v := 0) hF0 rfl
  refine r_aload_n rfl ?_
  refine r_iconst (-1) rfl ?_
  refine q_putI (Sh.int hI112229.1 kx_222 rfl) rfl ?_
  have hI112231 := HI.wI0 hI112229 kx_222 rfl (p := 222) (b := 4) (v := (-1)) rfl
  have hF112232 := Fr.wI (p := 222) (b := 4) (v := (-1)) hF112230 rfl
  refine r_aload_n rfl ?_
  refine r_iconst (-1) rfl ?_
  refine q_putI (Sh.int hI112231.1 kx_222 rfl) rfl ?_
  have hI112233 := HI.wI0 hI112231 kx_222 rfl (p := 222) (b := 3) (v := (-1)) rfl
  have hF112234 := Fr.wI (p := 222) (b := 3) (v := (-1)) hF112232 rfl
  refine r_iconst 0 rfl ?_
  refine r_istore_n ([(1, .int 0), (0, .ref 222)]) rfl ?_
  refine r_iconst 0 rfl ?_
  refine r_istore_n ([(2, .int 0), (1, .int 0), (0, .ref 222)]) rfl ?_
  refine Ar.fall 19 rfl ?_
  have z_161331 : (0 : Int32).toInt = 0 := rfl
  have z_161332 : (0 : Int32).toInt = 0 := rfl
  refine w_loopI (fun n_ l_ g_ => ∃ x161319 : Int32, ∃ x161320 : Int32, n_ = 8 - x161320.toInt ∧ HI g_ ∧ Fr F_X6_search_222 A_X6_search_222 g0 g_ ∧ en_get 0 l_ = some (.ref 222) ∧ en_get 1 l_ = some (.int x161319) ∧ en_get 2 l_ = some (.int x161320) ∧ (0 ≤ x161320.toInt ∧ x161320.toInt ≤ 8)) ?_ (8 - 0) ⟨0, 0, by first | rfl | omega, hI112233, hF112234, rfl, rfl, rfl, by decide⟩
  rintro n161325 l161324 g161321 ⟨x161319, x161320, hm161333, hI161322, hF161323, e161327, e161328, e161329, r161330⟩ ih161326
  refine At.enter rfl ?_
  refine r_iload_n e161329 ?_
  refine r_aload_n e161327 ?_
  refine q_getR (Sh.ref hI161322.1 kx_222 rfl) ?_
  obtain ⟨v161334, hv161334⟩ : ∃ v, gI g0 1 4 = v := ⟨_, rfl⟩
  have rv161334 := RgF.at hI0.2.1 (p := 1) (b := 4) rfl
  rw [hv161334] at rv161334
  dsimp only at rv161334
  refine q_getI (Sh.int hI161322.1 kx_1 rfl) v161334 ((hF161323.1 1 4 (by decide)).trans hv161334) ?_
  have bv161336 := q_bnd x161320
  have bv161337 := q_bnd v161334
  refine r_ics 30 rfl (fun c161335 => ?_) (fun c161335 => ?_)
  · have c161335_ : x161320.toInt ≥ v161334.toInt := en_i_ge_t c161335
    refine At.enter rfl ?_
    refine r_iconst 1 rfl ?_
    refine r_aload_n e161327 ?_
    refine q_getR (Sh.ref hI161322.1 kx_222 rfl) ?_
    refine q_getI (Sh.int hI161322.1 kx_1 rfl) v161334 ((hF161323.1 1 4 (by decide)).trans hv161334) ?_
    refine q_ishlO (fun v161338 hv161338 => ?_)
    refine r_iconst 1 rfl ?_
    refine q_isubO (fun v161339 _ => ?_)
    refine r_istore_n _ rfl ?_
    refine r_iconst 0 rfl ?_
    refine r_istore_n _ rfl ?_
    refine Ar.fall 76 rfl ?_
    have z_167162 : (0 : Int32).toInt = 0 := rfl
    refine w_loopI (fun n_ l_ g_ => ∃ x167150 : Int32, n_ = 4 - x167150.toInt ∧ HI g_ ∧ Fr F_X6_search_222 A_X6_search_222 g0 g_ ∧ en_get 0 l_ = some (.ref 222) ∧ en_get 1 l_ = some (.int x161319) ∧ en_get 2 l_ = some (.int v161339) ∧ en_get 3 l_ = some (.int x167150) ∧ (0 ≤ x167150.toInt ∧ x167150.toInt ≤ 4)) ?_ (4 - 0) ⟨0, by first | rfl | omega, hI161322, hF161323, (w_p1 (by decide) (Or.inr rfl) (w_p1 (by decide) (Or.inr rfl) e161327)), (w_p1 (by decide) (Or.inr rfl) (w_p1 (by decide) (Or.inr rfl) e161328)), (w_p1 (by decide) (Or.inr rfl) (w_e1 _ _ _)), (w_e1 _ _ _), by decide⟩
    rintro n167155 l167154 g167151 ⟨x167150, hm167163, hI167152, hF167153, e167157, e167158, e167159, e167160, r167161⟩ ih167156
    refine At.enter rfl ?_
    refine r_iload_n e167160 ?_
    refine r_iconst 3 rfl ?_
    refine r_ics 81 rfl (fun c167164 => ?_) (fun c167164 => ?_)
    · have c167164_ : x167150.toInt > 3 := en_i_gt_t c167164
      refine At.enter rfl ?_
      refine r_vret ?_
      exact ⟨_, rfl, hI167152, hF167153, rfl⟩
    · have c167164_ : x167150.toInt ≤ 3 := en_i_gt_f c167164
      refine At.enter rfl ?_
      refine r_aload_n e167157 ?_
      obtain ⟨v167165, hv167165⟩ : ∃ v, gI g167151 222 5 = v := ⟨_, rfl⟩
      refine q_getI (Sh.int hI167152.1 kx_222 rfl) v167165 hv167165 ?_
      refine r_ifs 88 rfl (fun c167166 => ?_) (fun c167166 => ?_)
      · have c167166_ : v167165.toInt ≠ 0 := en_k_ne_t c167166
        refine At.enter rfl ?_
        refine r_vret ?_
        exact ⟨_, rfl, hI167152, hF167153, rfl⟩
      · have c167166_ : v167165.toInt = 0 := en_k_ne_f c167166
        refine At.enter rfl ?_
        refine r_iconst 0 rfl ?_
        refine r_istore _ rfl ?_
        refine Ar.fall 91 rfl ?_
        have z_168272 : (0 : Int32).toInt = 0 := rfl
        refine w_loopI (fun n_ l_ g_ => ∃ x168259 : Int32, n_ = 2147483647 - x168259.toInt ∧ HI g_ ∧ Fr F_X6_search_222 A_X6_search_222 g0 g_ ∧ en_get 0 l_ = some (.ref 222) ∧ en_get 1 l_ = some (.int x161319) ∧ en_get 2 l_ = some (.int v161339) ∧ en_get 3 l_ = some (.int x167150) ∧ en_get 4 l_ = some (.int x168259) ∧ 0 ≤ x168259.toInt) ?_ (2147483647 - 0) ⟨0, by first | rfl | omega, hI167152, hF167153, (w_p1 (by decide) (Or.inr rfl) e167157), (w_p1 (by decide) (Or.inr rfl) e167158), (w_p1 (by decide) (Or.inr rfl) e167159), (w_p1 (by decide) (Or.inr rfl) e167160), (w_e1 _ _ _), by decide⟩
        rintro n168264 l168263 g168260 ⟨x168259, hm168273, hI168261, hF168262, e168266, e168267, e168268, e168269, e168270, r168271⟩ ih168265
        refine At.enter rfl ?_
        refine r_iload e168270 ?_
        refine r_iconst 1 rfl ?_
        refine r_aload_n e168266 ?_
        refine q_getR (Sh.ref hI168261.1 kx_222 rfl) ?_
        obtain ⟨v168274, hv168274⟩ : ∃ v, gI g0 1 0 = v := ⟨_, rfl⟩
        have rv168274 := RgF.at hI0.2.1 (p := 1) (b := 0) rfl
        rw [hv168274] at rv168274
        dsimp only at rv168274
        refine q_getI (Sh.int hI168261.1 kx_1 rfl) v168274 ((hF168262.1 1 0 (by decide)).trans hv168274) ?_
        refine q_ishlO (fun v168275 hv168275 => ?_)
        have bv168277 := q_bnd x168259
        have bv168278 := q_bnd v168275
        refine r_ics 105 rfl (fun c168276 => ?_) (fun c168276 => ?_)
        · have c168276_ : x168259.toInt ≥ v168275.toInt := en_i_ge_t c168276
          refine At.enter rfl ?_
          refine q_iinc e168269 (x167150.toInt + 1) rfl (by omega) (fun v168279 hv168279 => ?_)
          refine r_goto ?_
          exact ih167156 (4 - v168279.toInt) _ _ ⟨v168279, by first | rfl | omega, hI168261, hF168262, (w_p1 (by decide) (Or.inr rfl) e168266), (w_p1 (by decide) (Or.inr rfl) e168267), (w_p1 (by decide) (Or.inr rfl) e168268), (w_e1 _ _ _), by omega⟩ ⟨by omega, by omega⟩
        · have c168276_ : x168259.toInt < v168275.toInt := en_i_ge_f c168276
          refine At.enter rfl ?_
          refine r_iload e168270 ?_
          refine r_callS 110 rfl [.int x168259] [] (Nat.le_of_ble_eq_true rfl) rfl (T_J6_bitCount_0f7a4 _ hI168261 x168259) ?_
          rintro _ _ ⟨g168280, rfl, hI168281, hF168282, v168283, rfl, hr168284⟩
          refine At.sti ?_
          have hF168285 := Fr.tr hF168262 hF168282 rfl rfl
          refine At.enter rfl ?_
          refine r_iload_n e168269 ?_
          refine r_ics 114 rfl (fun c168286 => ?_) (fun c168286 => ?_)
          · have c168286_ : v168283.toInt ≠ x167150.toInt := en_i_ne_t c168286
            refine At.enter rfl ?_
            refine q_iinc e168270 (x168259.toInt + 1) rfl (by omega) (fun v168287 hv168287 => ?_)
            refine r_goto ?_
            have bv168288 := q_bnd v168287
            exact ih168265 (2147483647 - v168287.toInt) _ _ ⟨v168287, by first | rfl | omega, hI168281, hF168285, (w_p1 (by decide) (Or.inr rfl) e168266), (w_p1 (by decide) (Or.inr rfl) e168267), (w_p1 (by decide) (Or.inr rfl) e168268), (w_p1 (by decide) (Or.inr rfl) e168269), (w_e1 _ _ _), by omega⟩ ⟨by omega, by omega⟩
          · have c168286_ : v168283.toInt = x167150.toInt := en_i_ne_f c168286
            refine At.enter rfl ?_
            refine r_iload e168270 ?_
            refine r_iload_n e168267 ?_
            refine q_iandO (fun v168289 hv168289 => ?_)
            refine r_ifs 121 rfl (fun c168290 => ?_) (fun c168290 => ?_)
            · have c168290_ : v168289.toInt = 0 := en_k_eq_t c168290
              refine At.enter rfl ?_
              refine r_aload_n e168266 ?_
              refine q_getR (Sh.ref hI168281.1 kx_222 rfl) ?_
              refine r_iload e168270 ?_
              refine r_callV 133 rfl [.ref 204, .int x168259] [] (Nat.le_of_ble_eq_true rfl) rfl (T_X1_layOut_204 _ hI168281 x168259) ?_
              rintro _ _ ⟨g168291, rfl, hI168292, hF168293, rfl⟩
              refine At.stn ?_
              have hF168296 := Fr.tr hF168285 hF168293 rfl rfl
              refine At.enter rfl ?_
              refine r_aload_n e168266 ?_
              refine q_getR (Sh.ref hI168292.1 kx_222 rfl) ?_
              refine r_iload_n e168268 ?_
              refine r_bipush 99 rfl ?_
              refine r_callV 143 rfl [.ref 204, .int v161339, .int 99] [] (Nat.le_of_ble_eq_true rfl) rfl (T_X1_comesBy_204 _ hI168292 v161339 99) ?_
              rintro _ _ ⟨g168297, rfl, hI168298, hF168299, v168300, rfl, hr168301⟩
              refine At.sti ?_
              have hF168302 := Fr.tr hF168296 hF168299 rfl rfl
              refine At.enter rfl ?_
              refine r_ifs 146 rfl (fun c168303 => ?_) (fun c168303 => ?_)
              · have c168303_ : v168300.toInt = 0 := en_k_eq_t c168303
                refine At.enter rfl ?_
                refine q_iinc e168270 (x168259.toInt + 1) rfl (by omega) (fun v168304 hv168304 => ?_)
                refine r_goto ?_
                have bv168305 := q_bnd v168304
                exact ih168265 (2147483647 - v168304.toInt) _ _ ⟨v168304, by first | rfl | omega, hI168298, hF168302, (w_p1 (by decide) (Or.inr rfl) e168266), (w_p1 (by decide) (Or.inr rfl) e168267), (w_p1 (by decide) (Or.inr rfl) e168268), (w_p1 (by decide) (Or.inr rfl) e168269), (w_e1 _ _ _), by omega⟩ ⟨by omega, by omega⟩
              · have c168303_ : v168300.toInt ≠ 0 := en_k_eq_f c168303
                refine At.enter rfl ?_
                refine r_aload_n e168266 ?_
                refine r_aload_n e168266 ?_
                obtain ⟨v168306, hv168306⟩ : ∃ v, gI g168260 222 5 = v := ⟨_, rfl⟩
                refine q_getI (Sh.int hI168298.1 kx_222 rfl) v168306 (((hF168299.1 222 5 mf_X1_comesBy_204_222_5).trans ((hF168293.1 222 5 mf_X1_layOut_204_222_5).trans (hF168282.1 222 5 mf_J6_bitCount_0f7a4_222_5))).trans hv168306) ?_
                refine r_ifs 154 rfl (fun c168307 => ?_) (fun c168307 => ?_)
                · have c168307_ : v168306.toInt ≠ 0 := en_k_ne_t c168307
                  refine At.enter rfl ?_
                  refine r_aload_n e168266 ?_
                  obtain ⟨v168308, hv168308⟩ : ∃ v, gI g168260 222 4 = v := ⟨_, rfl⟩
                  refine q_getI (Sh.int hI168298.1 kx_222 rfl) v168308 (((hF168299.1 222 4 mf_X1_comesBy_204_222_4).trans ((hF168293.1 222 4 mf_X1_layOut_204_222_4).trans (hF168282.1 222 4 mf_J6_bitCount_0f7a4_222_4))).trans hv168308) ?_
                  refine Ar.fall 163 rfl ?_
                  refine At.enter rfl ?_
                  refine q_putI (Sh.int hI168298.1 kx_222 rfl) rfl ?_
                  have hI168309 := HI.wI0 hI168298 kx_222 rfl (p := 222) (b := 4) (v := v168308) rfl
                  have hF168310 := Fr.wI (p := 222) (b := 4) (v := v168308) hF168302 rfl
                  refine r_aload_n e168266 ?_
                  refine r_iload_n e168269 ?_
                  refine q_putI (Sh.int hI168309.1 kx_222 rfl) rfl ?_
                  have hI168311 := HI.wI0 hI168309 kx_222 rfl (p := 222) (b := 3) (v := x167150) rfl
                  have hF168312 := Fr.wI (p := 222) (b := 3) (v := x167150) hF168310 rfl
                  refine r_aload_n e168266 ?_
                  refine r_dup rfl ?_
                  refine q_getI (Sh.int hI168311.1 kx_222 rfl) v168306 (((gI_sI_ne (by decide)).trans ((gI_sI_ne (by decide)).trans ((hF168299.1 222 5 mf_X1_comesBy_204_222_5).trans ((hF168293.1 222 5 mf_X1_layOut_204_222_5).trans (hF168282.1 222 5 mf_J6_bitCount_0f7a4_222_5))))).trans hv168306) ?_
                  refine r_iconst 1 rfl ?_
                  refine q_iaddO (fun v168313 _ => ?_)
                  refine q_putI (Sh.int hI168311.1 kx_222 rfl) rfl ?_
                  have hI168314 := HI.wI0 hI168311 kx_222 rfl (p := 222) (b := 5) (v := v168313) rfl
                  have hF168315 := Fr.wI (p := 222) (b := 5) (v := v168313) hF168312 rfl
                  refine Ar.fall 181 rfl ?_
                  refine At.enter rfl ?_
                  refine q_iinc e168270 (x168259.toInt + 1) rfl (by omega) (fun v168316 hv168316 => ?_)
                  refine r_goto ?_
                  have bv168317 := q_bnd v168316
                  exact ih168265 (2147483647 - v168316.toInt) _ _ ⟨v168316, by first | rfl | omega, hI168314, hF168315, (w_p1 (by decide) (Or.inr rfl) e168266), (w_p1 (by decide) (Or.inr rfl) e168267), (w_p1 (by decide) (Or.inr rfl) e168268), (w_p1 (by decide) (Or.inr rfl) e168269), (w_e1 _ _ _), by omega⟩ ⟨by omega, by omega⟩
                · have c168307_ : v168306.toInt = 0 := en_k_ne_f c168307
                  refine At.enter rfl ?_
                  refine r_iload e168270 ?_
                  refine r_goto ?_
                  refine At.enter rfl ?_
                  refine q_putI (Sh.int hI168298.1 kx_222 rfl) rfl ?_
                  have hI168318 := HI.wI0 hI168298 kx_222 rfl (p := 222) (b := 4) (v := x168259) rfl
                  have hF168319 := Fr.wI (p := 222) (b := 4) (v := x168259) hF168302 rfl
                  refine r_aload_n e168266 ?_
                  refine r_iload_n e168269 ?_
                  refine q_putI (Sh.int hI168318.1 kx_222 rfl) rfl ?_
                  have hI168320 := HI.wI0 hI168318 kx_222 rfl (p := 222) (b := 3) (v := x167150) rfl
                  have hF168321 := Fr.wI (p := 222) (b := 3) (v := x167150) hF168319 rfl
                  refine r_aload_n e168266 ?_
                  refine r_dup rfl ?_
                  refine q_getI (Sh.int hI168320.1 kx_222 rfl) v168306 (((gI_sI_ne (by decide)).trans ((gI_sI_ne (by decide)).trans ((hF168299.1 222 5 mf_X1_comesBy_204_222_5).trans ((hF168293.1 222 5 mf_X1_layOut_204_222_5).trans (hF168282.1 222 5 mf_J6_bitCount_0f7a4_222_5))))).trans hv168306) ?_
                  refine r_iconst 1 rfl ?_
                  refine q_iadd (v168306.toInt + 1) rfl (by omega) (fun v168322 hv168322 => ?_)
                  refine q_putI (Sh.int hI168320.1 kx_222 rfl) rfl ?_
                  have hI168323 := HI.wI0 hI168320 kx_222 rfl (p := 222) (b := 5) (v := v168322) rfl
                  have hF168324 := Fr.wI (p := 222) (b := 5) (v := v168322) hF168321 rfl
                  refine Ar.fall 181 rfl ?_
                  refine At.enter rfl ?_
                  refine q_iinc e168270 (x168259.toInt + 1) rfl (by omega) (fun v168325 hv168325 => ?_)
                  refine r_goto ?_
                  have bv168326 := q_bnd v168325
                  exact ih168265 (2147483647 - v168325.toInt) _ _ ⟨v168325, by first | rfl | omega, hI168323, hF168324, (w_p1 (by decide) (Or.inr rfl) e168266), (w_p1 (by decide) (Or.inr rfl) e168267), (w_p1 (by decide) (Or.inr rfl) e168268), (w_p1 (by decide) (Or.inr rfl) e168269), (w_e1 _ _ _), by omega⟩ ⟨by omega, by omega⟩
            · have c168290_ : v168289.toInt ≠ 0 := en_k_eq_f c168290
              refine At.enter rfl ?_
              refine r_goto ?_
              refine At.enter rfl ?_
              refine q_iinc e168270 (x168259.toInt + 1) rfl (by omega) (fun v168327 hv168327 => ?_)
              refine r_goto ?_
              have bv168328 := q_bnd v168327
              exact ih168265 (2147483647 - v168327.toInt) _ _ ⟨v168327, by first | rfl | omega, hI168281, hF168285, (w_p1 (by decide) (Or.inr rfl) e168266), (w_p1 (by decide) (Or.inr rfl) e168267), (w_p1 (by decide) (Or.inr rfl) e168268), (w_p1 (by decide) (Or.inr rfl) e168269), (w_e1 _ _ _), by omega⟩ ⟨by omega, by omega⟩
  · have c161335_ : x161320.toInt < v161334.toInt := en_i_ge_f c161335
    refine At.enter rfl ?_
    refine r_iload_n e161328 ?_
    refine r_iconst 1 rfl ?_
    refine r_aload_n e161327 ?_
    refine q_getR (Sh.ref hI161322.1 kx_222 rfl) ?_
    refine r_iload_n e161329 ?_
    refine r_iconst 1 rfl ?_
    refine r_callV 41 rfl [.ref 1, .int x161320, .int 1] [.int 1, .int x161319] (Nat.le_of_ble_eq_true rfl) rfl (T_X0_about_1 _ hI161322 x161320 1) ?_
    rintro _ _ ⟨g168329, rfl, hI168330, hF168331, v168332, rfl, hr168333⟩
    refine At.sti ?_
    have hF168334 := Fr.tr hF161323 hF168331 rfl rfl
    have zv168335 : (1 : Int32).toInt = 1 := rfl
    refine At.enter rfl ?_
    refine q_ishlO (fun v168336 hv168336 => ?_)
    refine r_iconst 1 rfl ?_
    refine r_aload_n e161327 ?_
    refine q_getR (Sh.ref hI168330.1 kx_222 rfl) ?_
    refine r_iload_n e161329 ?_
    refine r_iconst 2 rfl ?_
    refine r_callV 52 rfl [.ref 1, .int x161320, .int 2] [.int 1, .int v168336, .int x161319] (Nat.le_of_ble_eq_true rfl) rfl (T_X0_about_1 _ hI168330 x161320 2) ?_
    rintro _ _ ⟨g168337, rfl, hI168338, hF168339, v168340, rfl, hr168341⟩
    refine At.sti ?_
    have hF168342 := Fr.tr hF168334 hF168339 rfl rfl
    have zv168343 : (2 : Int32).toInt = 2 := rfl
    refine At.enter rfl ?_
    refine q_ishlO (fun v168344 hv168344 => ?_)
    refine q_iorO (fun v168345 hv168345 => ?_)
    refine q_iorO (fun v168346 hv168346 => ?_)
    refine r_istore_n _ rfl ?_
    refine q_iinc (w_p1 (by decide) (Or.inr rfl) e161329) (x161320.toInt + 1) rfl (by omega) (fun v168347 hv168347 => ?_)
    refine r_goto ?_
    have bv168348 := q_bnd v168346
    exact ih161326 (8 - v168347.toInt) _ _ ⟨v168346, v168347, by first | rfl | omega, hI168338, hF168342, (w_p1 (by decide) (Or.inr rfl) (w_p1 (by decide) (Or.inr rfl) e161327)), (w_p1 (by decide) (Or.inr rfl) (w_e1 _ _ _)), (w_e1 _ _ _), by omega⟩ ⟨by omega, by omega⟩
