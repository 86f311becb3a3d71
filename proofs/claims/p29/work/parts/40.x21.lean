def F_X2_settle_223 : List (Nat × Nat) := [(185, 3), (223, 5), (223, 6), (223, 7), (223, 8), (223, 9), (223, 10), (223, 11)]
def A_X2_settle_223 : List Nat := [224, 225, 226, 227]
theorem mf_X2_seekAnswer_223_223_11 : memF F_X2_seekAnswer_223 223 11 = false := by decide
theorem ma_X2_seekAnswer_223_224 : memA A_X2_seekAnswer_223 224 = false := by decide
set_option maxRecDepth 100000 in
set_option maxHeartbeats 4000000 in
theorem T_X2_settle_223 (d : Nat) {N : Nat} {g0 : List en_E} (hI0 : HI g0) : Ev (d + 7) 43 [.ref 223] (g0, N) (fun w h' => ∃ g', h' = (g', N) ∧ HI g' ∧ Fr F_X2_settle_223 A_X2_settle_223 g0 g' ∧ w = none ∧ SEP g0 g') := by
  have hF0 : Fr F_X2_settle_223 A_X2_settle_223 g0 g0 := Fr.rf
  refine Ev.mk rfl rfl ⟨Nat.le_of_ble_eq_true rfl, Or.inr (q_rc hI0.1 kx_223 rfl)⟩ ?_
  show At _ none _ _ (0, [(0, .ref 223)], [], (_, _)) _
  refine At.enter rfl ?_
  refine r_aload_n rfl ?_
  obtain ⟨v6415, hv6415⟩ : ∃ v, gI g0 223 10 = v := ⟨_, rfl⟩
  refine q_getI (Sh.int hI0.1 kx_223 rfl) v6415 hv6415 ?_
  refine r_ifs 7 rfl (fun c6416 => ?_) (fun c6416 => ?_)
  · have c6416_ : v6415.toInt = 0 := en_k_eq_t c6416
    refine At.enter rfl ?_
    refine r_aload_n rfl ?_
    refine r_callV 12 rfl [.ref 223] [] (Nat.le_of_ble_eq_true rfl) rfl (T_X2_begin_223 _ hI0) ?_
    rintro _ _ ⟨g6417, rfl, hI6418, hF6419, rfl, hr6421⟩
    refine At.stn ?_
    have hF6422 := Fr.tr hF0 hF6419 rfl rfl
    refine At.enter rfl ?_
    refine r_iconst 1 rfl ?_
    refine r_istore_n ([(1, .int 1), (0, .ref 223)]) rfl ?_
    refine r_aload_n rfl ?_
    refine r_iconst 0 rfl ?_
    refine q_putI (Sh.int hI6418.1 kx_223 rfl) rfl ?_
    have hI6423 := HI.wI0 hI6418 kx_223 rfl (p := 223) (b := 11) (v := 0) rfl
    have hF6424 := Fr.wI (p := 223) (b := 11) (v := 0) hF6422 rfl
    refine Ar.fall 19 rfl ?_
    have z_9347 : (1 : Int32).toInt = 1 := rfl
    have z_9348 : (0 : Int32).toInt = 0 := rfl
    refine w_loopI (fun n_ l_ g_ => ∃ x9332 : Int32, ∃ x9333 : Int32, n_ = 50 - x9333.toInt ∧ HI g_ ∧ Fr F_X2_settle_223 A_X2_settle_223 g0 g_ ∧ gI g_ 223 11 = x9333 ∧ en_get 0 l_ = some (.ref 223) ∧ en_get 1 l_ = some (.int x9332) ∧ (0 ≤ x9332.toInt ∧ x9332.toInt ≤ 1) ∧ (0 ≤ x9333.toInt ∧ x9333.toInt ≤ 50) ∧ (SEO g6417 g_ x9333.toInt x9332.toInt) ∧ (FSX g6417 g_)) ?_ (50 - 0) ⟨1, 0, by first | rfl | omega, hI6423, hF6424, (gI_sI_eq hI6418.1 kx_223 rfl _), rfl, rfl, by decide, by decide, (SEO_z (FSX_tr FSX_rf (FSX_I rfl rfl)) ((gI_sI_ne (by decide))) ((gI_sI_ne (by decide))) ((gA_sI)) ((gA_sI)) rfl rfl), (FSX_tr FSX_rf (FSX_I rfl rfl))⟩
    rintro n9338 l9337 g9334 ⟨x9332, x9333, hm9349, hI9335, hF9336, e9340, e9341, e9342, r9343, r9344, q9345, q9346⟩ ih9339
    refine At.enter rfl ?_
    refine r_iload_n e9342 ?_
    refine r_ifs 23 rfl (fun c9350 => ?_) (fun c9350 => ?_)
    · have c9350_ : x9332.toInt = 0 := en_k_eq_t c9350
      refine At.enter rfl ?_
      refine r_iload_n e9342 ?_
      refine r_ifs 98 rfl (fun c9351 => ?_) (fun c9351 => ?_)
      · have c9351_ : x9332.toInt = 0 := en_k_eq_t c9351
        refine At.enter rfl ?_
        refine r_aload_n e9341 ?_
        refine q_getR (Sh.ref hI9335.1 kx_223 rfl) ?_
        refine r_iconst 0 rfl ?_
        refine r_aload_n e9341 ?_
        refine q_getR (Sh.ref hI9335.1 kx_223 rfl) ?_
        refine r_iconst 0 rfl ?_
        refine r_bipush 12 rfl ?_
        have zv9352 : (0 : Int32).toInt = 0 := rfl
        have zv9353 : (0 : Int32).toInt = 0 := rfl
        have zv9354 : (12 : Int32).toInt = 12 := rfl
        refine q_cpy rfl (Nat.le_of_ble_eq_true rfl) (Sh.arr hI9335.1 ka_224) (Sh.arr hI9335.1 ka_227) ⟨by omega, by omega, by omega, by omega, by omega⟩ ?_
        have hI9355 := HI.cpy0 hI9335 ka_224 ka_227 rfl rfl ((0 : Int32).toInt.toNat) ((0 : Int32).toInt.toNat) ((12 : Int32).toInt.toNat) (by omega) (by omega)
        have hF9356 := Fr.cpy (p0 := 224) (p1 := 227) hF9336 rfl ((0 : Int32).toInt.toNat) ((0 : Int32).toInt.toNat) ((12 : Int32).toInt.toNat)
        refine r_aload_n e9341 ?_
        refine r_iconst 1 rfl ?_
        refine q_putI (Sh.int hI9355.1 kx_223 rfl) rfl ?_
        have hI9357 := HI.wI0 hI9355 kx_223 rfl (p := 223) (b := 10) (v := 1) rfl
        have hF9358 := Fr.wI (p := 223) (b := 10) (v := 1) hF9356 rfl
        refine r_vret ?_
        exact ⟨_, rfl, hI9357, hF9358, rfl, (SEP_mk hr6421 q9345 (FSX_tr (FSX_tr FSX_rf (FSX_W rfl)) (FSX_I rfl rfl)) (((gI_sI_ne (by decide)).trans (gI_sW))) (((gI_sI_ne (by decide)).trans (gI_sW))) (((gA_sI).trans (gA_sW_ne (by decide)))) (congrArg Int32.toInt ((((gI_sI_ne (by decide)).trans (gI_sW)).trans e9340))) (((gA_sI).trans (gA_cpF hI9335.1 ka_224 ka_227 rfl rfl rfl))) ⟨by omega, by omega⟩ (by omega) (by first | exact Or.inl ⟨by omega, by omega⟩ | exact Or.inr ⟨by omega, by omega⟩))⟩
      · have c9351_ : x9332.toInt ≠ 0 := en_k_eq_f c9351
        exfalso; omega
    · have c9350_ : x9332.toInt ≠ 0 := en_k_eq_f c9350
      refine At.enter rfl ?_
      refine r_aload_n e9341 ?_
      refine q_getI (Sh.int hI9335.1 kx_223 rfl) x9333 e9340 ?_
      refine r_bipush 50 rfl ?_
      refine r_ics 32 rfl (fun c9359 => ?_) (fun c9359 => ?_)
      · have c9359_ : x9333.toInt ≥ 50 := en_i_ge_t c9359
        refine At.enter rfl ?_
        refine r_iload_n e9342 ?_
        refine r_ifs 98 rfl (fun c9360 => ?_) (fun c9360 => ?_)
        · have c9360_ : x9332.toInt = 0 := en_k_eq_t c9360
          exfalso; omega
        · have c9360_ : x9332.toInt ≠ 0 := en_k_eq_f c9360
          refine At.enter rfl ?_
          refine r_aload_n e9341 ?_
          refine r_dup rfl ?_
          refine q_getI (Sh.int hI9335.1 kx_223 rfl) x9333 e9340 ?_
          refine r_iconst 1 rfl ?_
          refine q_iadd (x9333.toInt + 1) rfl (by omega) (fun v9361 hv9361 => ?_)
          refine q_putI (Sh.int hI9335.1 kx_223 rfl) rfl ?_
          have hI9362 := HI.wI0 hI9335 kx_223 rfl (p := 223) (b := 11) (v := v9361) rfl
          have hF9363 := Fr.wI (p := 223) (b := 11) (v := v9361) hF9336 rfl
          refine Ar.fall 108 rfl ?_
          refine At.enter rfl ?_
          refine r_aload_n e9341 ?_
          refine q_getR (Sh.ref hI9362.1 kx_223 rfl) ?_
          refine r_iconst 0 rfl ?_
          refine r_aload_n e9341 ?_
          refine q_getR (Sh.ref hI9362.1 kx_223 rfl) ?_
          refine r_iconst 0 rfl ?_
          refine r_bipush 12 rfl ?_
          have zv9364 : (0 : Int32).toInt = 0 := rfl
          have zv9365 : (0 : Int32).toInt = 0 := rfl
          have zv9366 : (12 : Int32).toInt = 12 := rfl
          refine q_cpy rfl (Nat.le_of_ble_eq_true rfl) (Sh.arr hI9362.1 ka_224) (Sh.arr hI9362.1 ka_227) ⟨by omega, by omega, by omega, by omega, by omega⟩ ?_
          have hI9367 := HI.cpy0 hI9362 ka_224 ka_227 rfl rfl ((0 : Int32).toInt.toNat) ((0 : Int32).toInt.toNat) ((12 : Int32).toInt.toNat) (by omega) (by omega)
          have hF9368 := Fr.cpy (p0 := 224) (p1 := 227) hF9363 rfl ((0 : Int32).toInt.toNat) ((0 : Int32).toInt.toNat) ((12 : Int32).toInt.toNat)
          refine r_aload_n e9341 ?_
          refine r_iconst 1 rfl ?_
          refine q_putI (Sh.int hI9367.1 kx_223 rfl) rfl ?_
          have hI9369 := HI.wI0 hI9367 kx_223 rfl (p := 223) (b := 10) (v := 1) rfl
          have hF9370 := Fr.wI (p := 223) (b := 10) (v := 1) hF9368 rfl
          refine r_vret ?_
          exact ⟨_, rfl, hI9369, hF9370, rfl, (SEP_mk hr6421 q9345 (FSX_tr (FSX_tr (FSX_tr FSX_rf (FSX_I rfl rfl)) (FSX_W rfl)) (FSX_I rfl rfl)) (((gI_sI_ne (by decide)).trans ((gI_sW).trans (gI_sI_ne (by decide))))) (((gI_sI_ne (by decide)).trans ((gI_sW).trans (gI_sI_ne (by decide))))) (((gA_sI).trans ((gA_sW_ne (by decide)).trans (gA_sI)))) (congrArg Int32.toInt (((gI_sI_ne (by decide)).trans ((gI_sW).trans (gI_sI_eq hI9335.1 kx_223 rfl _))))) (((gA_sI).trans ((gA_cpF hI9362.1 ka_224 ka_227 rfl rfl rfl).trans (((gA_sI)))))) ⟨by omega, by omega⟩ (by omega) (by first | exact Or.inl ⟨by omega, by omega⟩ | exact Or.inr ⟨by omega, by omega⟩))⟩
      · have c9359_ : x9333.toInt < 50 := en_i_ge_f c9359
        refine At.enter rfl ?_
        refine r_aload_n e9341 ?_
        refine r_dup rfl ?_
        refine q_getI (Sh.int hI9335.1 kx_223 rfl) x9333 e9340 ?_
        refine r_iconst 1 rfl ?_
        refine q_iadd (x9333.toInt + 1) rfl (by omega) (fun v9371 hv9371 => ?_)
        refine q_putI (Sh.int hI9335.1 kx_223 rfl) rfl ?_
        have hI9372 := HI.wI0 hI9335 kx_223 rfl (p := 223) (b := 11) (v := v9371) rfl
        have hF9373 := Fr.wI (p := 223) (b := 11) (v := v9371) hF9336 rfl
        refine r_iconst 0 rfl ?_
        refine r_istore_n _ rfl ?_
        refine r_iconst 0 rfl ?_
        refine r_istore_n _ rfl ?_
        refine Ar.fall 46 rfl ?_
        have z_9598 : (0 : Int32).toInt = 0 := rfl
        have z_9599 : (0 : Int32).toInt = 0 := rfl
        refine w_loopI (fun n_ l_ g_ => ∃ x9581 : Int32, ∃ x9582 : Int32, n_ = 12 - x9582.toInt ∧ HI g_ ∧ Fr F_X2_settle_223 A_X2_settle_223 g0 g_ ∧ gI g_ 223 11 = v9371 ∧ en_get 0 l_ = some (.ref 223) ∧ en_get 1 l_ = some (.int x9581) ∧ en_get 2 l_ = some (.int x9582) ∧ (0 ≤ x9581.toInt ∧ x9581.toInt ≤ 1) ∧ (0 ≤ x9582.toInt ∧ x9582.toInt ≤ 12) ∧ (SEN g6417 g_ (NRM (ASKF g9334)) x9582.toInt x9581.toInt) ∧ (FSX g6417 g_) ∧ (x9582.toInt ≤ (gI g0 1 0).toInt ∨ x9582.toInt = 0)) ?_ (12 - 0) ⟨0, 0, by first | rfl | omega, hI9372, hF9373, (gI_sI_eq hI9335.1 kx_223 rfl _), (w_p1 (by decide) (Or.inr rfl) (w_p1 (by decide) (Or.inr rfl) e9341)), (w_p1 (by decide) (Or.inr rfl) (w_e1 _ _ _)), (w_e1 _ _ _), by decide, by decide, (SEN_z q9345 (FSX_tr FSX_rf (FSX_I rfl rfl)) ((gI_sI_ne (by decide))) ((gI_sI_ne (by decide))) ((gA_sI)) ((gA_sI)) rfl rfl), (FSX_tr q9346 (FSX_I rfl rfl)), (Or.inr rfl)⟩
        rintro n9587 l9586 g9583 ⟨x9581, x9582, hm9600, hI9584, hF9585, e9589, e9590, e9591, e9592, r9593, r9594, q9595, q9596, q9597⟩ ih9588
        have tv9601 := congrArg Int32.toInt e9589
        refine At.enter rfl ?_
        refine r_iload_n e9592 ?_
        refine r_aload_n e9590 ?_
        refine q_getR (Sh.ref hI9584.1 kx_223 rfl) ?_
        obtain ⟨v9602, hv9602⟩ : ∃ v, gI g0 1 0 = v := ⟨_, rfl⟩
        have rv9602 := RgF.at hI0.2.1 (p := 1) (b := 0) rfl
        rw [hv9602] at rv9602
        dsimp only at rv9602
        refine q_getI (Sh.int hI9584.1 kx_1 rfl) v9602 ((hF9585.1 1 0 (by decide)).trans hv9602) ?_
        have bv9604 := q_bnd x9582
        have bv9605 := q_bnd v9602
        refine r_ics 57 rfl (fun c9603 => ?_) (fun c9603 => ?_)
        · have c9603_ : x9582.toInt ≥ v9602.toInt := en_i_ge_t c9603
          refine At.enter rfl ?_
          refine r_goto ?_
          exact ih9339 (50 - v9371.toInt) _ _ ⟨x9581, v9371, by first | rfl | omega, hI9584, hF9585, e9589, e9590, e9591, by omega, by omega, (SEO_s q9345 (by omega) q9595 (by have y := congrArg Int32.toInt hv9602; rw [hr6421.2.2.2.2.2.1]; omega) (by omega) (by omega)), q9596⟩ ⟨by omega, by omega⟩
        · have c9603_ : x9582.toInt < v9602.toInt := en_i_ge_f c9603
          refine At.enter rfl ?_
          refine r_aload_n e9590 ?_
          refine r_iload_n e9592 ?_
          refine r_callV 62 rfl [.ref 223, .int x9582] [] (Nat.le_of_ble_eq_true rfl) rfl (T_X2_seekAnswer_223 _ hI9584 x9582 (by omega)) ?_
          rintro _ _ ⟨g9606, rfl, hI9607, hF9608, rfl, hr9610⟩
          refine At.stn ?_
          have hF9611 := Fr.tr hF9585 hF9608 rfl rfl
          refine At.enter rfl ?_
          refine r_aload_n e9590 ?_
          obtain ⟨v9612, hv9612⟩ : ∃ v, gI g9606 223 8 = v := ⟨_, rfl⟩
          refine q_getI (Sh.int hI9607.1 kx_223 rfl) v9612 hv9612 ?_
          refine r_aload_n e9590 ?_
          obtain ⟨v9613, hv9613⟩ : ∃ v, gI g9606 223 9 = v := ⟨_, rfl⟩
          refine q_getI (Sh.int hI9607.1 kx_223 rfl) v9613 hv9613 ?_
          have bv9615 := q_bnd v9612
          have bv9616 := q_bnd v9613
          refine r_ics 73 rfl (fun c9614 => ?_) (fun c9614 => ?_)
          · have c9614_ : v9612.toInt ≤ v9613.toInt := en_i_le_t c9614
            refine At.enter rfl ?_
            refine q_iinc e9592 (x9582.toInt + 1) rfl (by omega) (fun v9617 hv9617 => ?_)
            refine r_goto ?_
            exact ih9588 (12 - v9617.toInt) _ _ ⟨x9581, v9617, by first | rfl | omega, hI9607, hF9611, ((hF9608.1 223 11 mf_X2_seekAnswer_223_223_11).trans e9589), (w_p1 (by decide) (Or.inr rfl) e9590), (w_p1 (by decide) (Or.inr rfl) e9591), (w_e1 _ _ _), by omega, by omega, (SEN_n q9595 q9596 hr9610 (hF9608.2.1 224 ma_X2_seekAnswer_223_224) (FSX_fr hF9608 rfl) ⟨by omega, by rw [hr6421.2.2.2.2.2.1, hv9602]; omega⟩ (by rw [hv9612, hv9613]; omega) (by omega)), (FSX_tr q9596 (FSX_fr hF9608 rfl)), (Or.inl (by have y := congrArg Int32.toInt hv9602; omega))⟩ ⟨by omega, by omega⟩
          · have c9614_ : v9612.toInt > v9613.toInt := en_i_le_f c9614
            refine At.enter rfl ?_
            refine r_aload_n e9590 ?_
            refine q_getR (Sh.ref hI9607.1 kx_223 rfl) ?_
            refine r_iload_n e9592 ?_
            refine r_aload_n e9590 ?_
            obtain ⟨v9618, hv9618⟩ : ∃ v, gI g9606 223 7 = v := ⟨_, rfl⟩
            refine q_getI (Sh.int hI9607.1 kx_223 rfl) v9618 hv9618 ?_
            refine q_iast (Sh.arr hI9607.1 ka_224) (x9582.toInt) rfl (by omega) ?_
            have hI9619 := HI.wA0 hI9607 ka_224 (p := 224) rfl rfl (x9582.toInt) (v9618)
            have hF9620 := Fr.wA (p := 224) (j := x9582.toInt) (v := v9618) hF9611 rfl
            refine r_iconst 1 rfl ?_
            refine r_istore_n _ rfl ?_
            refine Ar.fall 85 rfl ?_
            refine At.enter rfl ?_
            refine q_iinc (w_p1 (by decide) (Or.inr rfl) e9592) (x9582.toInt + 1) rfl (by omega) (fun v9621 hv9621 => ?_)
            refine r_goto ?_
            have zv9622 : (1 : Int32).toInt = 1 := rfl
            exact ih9588 (12 - v9621.toInt) _ _ ⟨1, v9621, by first | rfl | omega, hI9619, hF9620, (((gI_sW).trans (hF9608.1 223 11 mf_X2_seekAnswer_223_223_11)).trans e9589), (w_p1 (by decide) (Or.inr rfl) (w_p1 (by decide) (Or.inr rfl) e9590)), (w_p1 (by decide) (Or.inr rfl) (w_e1 _ _ _)), (w_e1 _ _ _), by decide, by omega, (SEN_y q9595 q9596 hr9610 (hF9608.2.1 224 ma_X2_seekAnswer_223_224) (FSX_fr hF9608 rfl) hI9607.1 ⟨by omega, by rw [hr6421.2.2.2.2.2.1, hv9602]; omega⟩ (by omega) (by rw [hv9613, hv9612]; omega) (congrArg Int32.toInt hv9618).symm rfl (by omega)), (FSX_tr (FSX_tr q9596 (FSX_fr hF9608 rfl)) (FSX_A rfl)), (Or.inl (by have y := congrArg Int32.toInt hv9602; omega))⟩ ⟨by omega, by omega⟩
  · have c6416_ : v6415.toInt ≠ 0 := en_k_eq_f c6416
    refine At.enter rfl ?_
    refine r_vret ?_
    exact ⟨_, rfl, hI0, hF0, rfl, (SEP_old (by have y := congrArg Int32.toInt hv6415; omega))⟩

def F_X2_firstRestless_223 : List (Nat × Nat) := [(185, 3), (223, 5), (223, 6), (223, 7), (223, 8), (223, 9)]
def A_X2_firstRestless_223 : List Nat := [224, 225, 226]
set_option maxRecDepth 100000 in
set_option maxHeartbeats 4000000 in
theorem T_X2_firstRestless_223 (d : Nat) {N : Nat} {g0 : List en_E} (hI0 : HI g0) : Ev (d + 7) 42 [.ref 223] (g0, N) (fun w h' => ∃ g', h' = (g', N) ∧ HI g' ∧ Fr F_X2_firstRestless_223 A_X2_firstRestless_223 g0 g' ∧ ∃ r : Int32, w = some (.int r) ∧ ((-1) ≤ r.toInt ∧ r.toInt ≤ 11) ∧ FRP g0 g' r.toInt) := by
  have hF0 : Fr F_X2_firstRestless_223 A_X2_firstRestless_223 g0 g0 := Fr.rf
  refine Ev.mk rfl rfl ⟨Nat.le_of_ble_eq_true rfl, Or.inr (q_rc hI0.1 kx_223 rfl)⟩ ?_
  show At _ none _ _ (0, [(0, .ref 223)], [], (_, _)) _
  refine At.enter rfl ?_
  refine r_aload_n rfl ?_
  refine r_callV 4 rfl [.ref 223] [] (Nat.le_of_ble_eq_true rfl) rfl (T_X2_begin_223 _ hI0) ?_
  rintro _ _ ⟨g401, rfl, hI402, hF403, rfl, hr405⟩
  refine At.stn ?_
  have hF406 := Fr.tr hF0 hF403 rfl rfl
  refine At.enter rfl ?_
  refine r_iconst 0 rfl ?_
  refine r_istore_n ([(1, .int 0), (0, .ref 223)]) rfl ?_
  refine Ar.fall 6 rfl ?_
  have z_583 : (0 : Int32).toInt = 0 := rfl
  refine w_loopI (fun n_ l_ g_ => ∃ x569 : Int32, n_ = 12 - x569.toInt ∧ HI g_ ∧ Fr F_X2_firstRestless_223 A_X2_firstRestless_223 g0 g_ ∧ en_get 0 l_ = some (.ref 223) ∧ en_get 1 l_ = some (.int x569) ∧ (0 ≤ x569.toInt ∧ x569.toInt ≤ 12) ∧ (RSL g401 g_ x569.toInt) ∧ (FSX g401 g_) ∧ (gA g_ 224 = gA g401 224) ∧ (x569.toInt ≤ (gI g0 1 0).toInt ∨ x569.toInt = 0)) ?_ (12 - 0) ⟨0, by first | rfl | omega, hI402, hF406, rfl, rfl, by decide, (RSL_z (by first | decide | omega)), FSX_rf, rfl, (Or.inr rfl)⟩
  rintro n574 l573 g570 ⟨x569, hm584, hI571, hF572, e576, e577, r578, q579, q580, q581, q582⟩ ih575
  refine At.enter rfl ?_
  refine r_iload_n e577 ?_
  refine r_aload_n e576 ?_
  refine q_getR (Sh.ref hI571.1 kx_223 rfl) ?_
  obtain ⟨v585, hv585⟩ : ∃ v, gI g0 1 0 = v := ⟨_, rfl⟩
  have rv585 := RgF.at hI0.2.1 (p := 1) (b := 0) rfl
  rw [hv585] at rv585
  dsimp only at rv585
  refine q_getI (Sh.int hI571.1 kx_1 rfl) v585 ((hF572.1 1 0 (by decide)).trans hv585) ?_
  have bv587 := q_bnd x569
  have bv588 := q_bnd v585
  refine r_ics 17 rfl (fun c586 => ?_) (fun c586 => ?_)
  · have c586_ : x569.toInt ≥ v585.toInt := en_i_ge_t c586
    refine At.enter rfl ?_
    refine r_iconst (-1) rfl ?_
    refine r_ireti ?_
    have zv589 : ((-1) : Int32).toInt = (-1) := rfl
    exact ⟨_, rfl, hI571, hF572, _, rfl, by decide, (FRP_n hr405 q579 (by rw [hr405.2.2.2.2.2.1, hv585]; omega) (by omega))⟩
  · have c586_ : x569.toInt < v585.toInt := en_i_ge_f c586
    refine At.enter rfl ?_
    refine r_aload_n e576 ?_
    refine r_iload_n e577 ?_
    refine r_callV 22 rfl [.ref 223, .int x569] [] (Nat.le_of_ble_eq_true rfl) rfl (T_X2_seekAnswer_223 _ hI571 x569 (by omega)) ?_
    rintro _ _ ⟨g590, rfl, hI591, hF592, rfl, hr594⟩
    refine At.stn ?_
    have hF595 := Fr.tr hF572 hF592 rfl rfl
    refine At.enter rfl ?_
    refine r_aload_n e576 ?_
    obtain ⟨v596, hv596⟩ : ∃ v, gI g590 223 8 = v := ⟨_, rfl⟩
    refine q_getI (Sh.int hI591.1 kx_223 rfl) v596 hv596 ?_
    refine r_aload_n e576 ?_
    obtain ⟨v597, hv597⟩ : ∃ v, gI g590 223 9 = v := ⟨_, rfl⟩
    refine q_getI (Sh.int hI591.1 kx_223 rfl) v597 hv597 ?_
    have bv599 := q_bnd v596
    have bv600 := q_bnd v597
    refine r_ics 33 rfl (fun c598 => ?_) (fun c598 => ?_)
    · have c598_ : v596.toInt ≤ v597.toInt := en_i_le_t c598
      refine At.enter rfl ?_
      refine q_iinc e577 (x569.toInt + 1) rfl (by omega) (fun v601 hv601 => ?_)
      refine r_goto ?_
      exact ih575 (12 - v601.toInt) _ _ ⟨v601, by first | rfl | omega, hI591, hF595, (w_p1 (by decide) (Or.inr rfl) e576), (w_e1 _ _ _), by omega, (RSL_s q579 q580 q581 hr594 ⟨by omega, by rw [hr405.2.2.2.2.2.1, hv585]; omega⟩ (by rw [hv596, hv597]; omega) (by omega)), (FSX_tr q580 (FSX_fr hF592 rfl)), (((hF592.2.1 224 ma_X2_seekAnswer_223_224)).trans q581), (Or.inl (by have y := congrArg Int32.toInt hv585; omega))⟩ ⟨by omega, by omega⟩
    · have c598_ : v596.toInt > v597.toInt := en_i_le_f c598
      refine At.enter rfl ?_
      refine r_iload_n e577 ?_
      refine r_ireti ?_
      exact ⟨_, rfl, hI591, hF595, _, rfl, by omega, (FRP_y hr405 q579 q580 q581 hr594 ⟨by omega, by rw [hr405.2.2.2.2.2.1, hv585]; omega⟩ (by rw [hv596, hv597]; omega) rfl)⟩

def F_X6_search_222 : List (Nat × Nat) := [(185, 3), (204, 16), (204, 18), (222, 3), (222, 4), (222, 5)]
def A_X6_search_222 : List Nat := [205, 206, 207, 208, 209, 210, 211, 212, 213, 214, 215, 216, 218]
theorem mf_X1_comesBy_204_222_5 : memF F_X1_comesBy_204 222 5 = false := by decide
theorem mf_X1_layOut_204_222_5 : memF F_X1_layOut_204 222 5 = false := by decide
theorem mf_J6_bitCount_0f7a4_222_5 : memF F_J6_bitCount_0f7a4 222 5 = false := by decide
theorem mf_X1_comesBy_204_222_4 : memF F_X1_comesBy_204 222 4 = false := by decide
theorem mf_X1_layOut_204_222_4 : memF F_X1_layOut_204 222 4 = false := by decide
theorem mf_J6_bitCount_0f7a4_222_4 : memF F_J6_bitCount_0f7a4 222 4 = false := by decide
set_option maxRecDepth 100000 in
set_option maxHeartbeats 4000000 in
theorem T_X6_search_222 (d : Nat) {N : Nat} {g0 : List en_E} (hI0 : HI g0) : Ev (d + 6) 82 [.ref 222] (g0, N) (fun w h' => ∃ g', h' = (g', N) ∧ HI g' ∧ Fr F_X6_search_222 A_X6_search_222 g0 g' ∧ w = none) := by
  have hF0 : Fr F_X6_search_222 A_X6_search_222 g0 g0 := Fr.rf
  refine Ev.mk rfl rfl ⟨Nat.le_of_ble_eq_true rfl, Or.inr (q_rc hI0.1 kx_222 rfl)⟩ ?_
  show At _ none _ _ (0, [(0, .ref 222)], [], (_, _)) _
  refine At.enter rfl ?_
  refine r_aload_n rfl ?_
  refine r_iconst 0 rfl ?_
  refine q_putI (Sh.int hI0.1 kx_222 rfl) rfl ?_
  have hI112293 := HI.wI0 hI0 kx_222 rfl (p := 222) (b := 5) (v := 0) rfl
  have hF112294 := Fr.wI (p := 222) (b := 5) (v := 0) hF0 rfl
  refine r_aload_n rfl ?_
  refine r_iconst (-1) rfl ?_
  refine q_putI (Sh.int hI112293.1 kx_222 rfl) rfl ?_
  have hI112295 := HI.wI0 hI112293 kx_222 rfl (p := 222) (b := 4) (v := (-1)) rfl
  have hF112296 := Fr.wI (p := 222) (b := 4) (v := (-1)) hF112294 rfl
  refine r_aload_n rfl ?_
  refine r_iconst (-1) rfl ?_
  refine q_putI (Sh.int hI112295.1 kx_222 rfl) rfl ?_
  have hI112297 := HI.wI0 hI112295 kx_222 rfl (p := 222) (b := 3) (v := (-1)) rfl
  have hF112298 := Fr.wI (p := 222) (b := 3) (v := (-1)) hF112296 rfl
  refine r_iconst 0 rfl ?_
  refine r_istore_n ([(1, .int 0), (0, .ref 222)]) rfl ?_
  refine r_iconst 0 rfl ?_
  refine r_istore_n ([(2, .int 0), (1, .int 0), (0, .ref 222)]) rfl ?_
  refine Ar.fall 19 rfl ?_
  have z_161423 : (0 : Int32).toInt = 0 := rfl
  have z_161424 : (0 : Int32).toInt = 0 := rfl
  refine w_loopI (fun n_ l_ g_ => ∃ x161411 : Int32, ∃ x161412 : Int32, n_ = 8 - x161412.toInt ∧ HI g_ ∧ Fr F_X6_search_222 A_X6_search_222 g0 g_ ∧ en_get 0 l_ = some (.ref 222) ∧ en_get 1 l_ = some (.int x161411) ∧ en_get 2 l_ = some (.int x161412) ∧ (0 ≤ x161412.toInt ∧ x161412.toInt ≤ 8)) ?_ (8 - 0) ⟨0, 0, by first | rfl | omega, hI112297, hF112298, rfl, rfl, rfl, by decide⟩
  rintro n161417 l161416 g161413 ⟨x161411, x161412, hm161425, hI161414, hF161415, e161419, e161420, e161421, r161422⟩ ih161418
  refine At.enter rfl ?_
  refine r_iload_n e161421 ?_
  refine r_aload_n e161419 ?_
  refine q_getR (Sh.ref hI161414.1 kx_222 rfl) ?_
  obtain ⟨v161426, hv161426⟩ : ∃ v, gI g0 1 4 = v := ⟨_, rfl⟩
  have rv161426 := RgF.at hI0.2.1 (p := 1) (b := 4) rfl
  rw [hv161426] at rv161426
  dsimp only at rv161426
  refine q_getI (Sh.int hI161414.1 kx_1 rfl) v161426 ((hF161415.1 1 4 (by decide)).trans hv161426) ?_
  have bv161428 := q_bnd x161412
  have bv161429 := q_bnd v161426
  refine r_ics 30 rfl (fun c161427 => ?_) (fun c161427 => ?_)
  · have c161427_ : x161412.toInt ≥ v161426.toInt := en_i_ge_t c161427
    refine At.enter rfl ?_
    refine r_iconst 1 rfl ?_
    refine r_aload_n e161419 ?_
    refine q_getR (Sh.ref hI161414.1 kx_222 rfl) ?_
    refine q_getI (Sh.int hI161414.1 kx_1 rfl) v161426 ((hF161415.1 1 4 (by decide)).trans hv161426) ?_
    refine q_ishlO (fun v161430 hv161430 => ?_)
    refine r_iconst 1 rfl ?_
    refine q_isubO (fun v161431 _ => ?_)
    refine r_istore_n _ rfl ?_
    refine r_iconst 0 rfl ?_
    refine r_istore_n _ rfl ?_
    refine Ar.fall 76 rfl ?_
    have z_167254 : (0 : Int32).toInt = 0 := rfl
    refine w_loopI (fun n_ l_ g_ => ∃ x167242 : Int32, n_ = 4 - x167242.toInt ∧ HI g_ ∧ Fr F_X6_search_222 A_X6_search_222 g0 g_ ∧ en_get 0 l_ = some (.ref 222) ∧ en_get 1 l_ = some (.int x161411) ∧ en_get 2 l_ = some (.int v161431) ∧ en_get 3 l_ = some (.int x167242) ∧ (0 ≤ x167242.toInt ∧ x167242.toInt ≤ 4)) ?_ (4 - 0) ⟨0, by first | rfl | omega, hI161414, hF161415, (w_p1 (by decide) (Or.inr rfl) (w_p1 (by decide) (Or.inr rfl) e161419)), (w_p1 (by decide) (Or.inr rfl) (w_p1 (by decide) (Or.inr rfl) e161420)), (w_p1 (by decide) (Or.inr rfl) (w_e1 _ _ _)), (w_e1 _ _ _), by decide⟩
    rintro n167247 l167246 g167243 ⟨x167242, hm167255, hI167244, hF167245, e167249, e167250, e167251, e167252, r167253⟩ ih167248
    refine At.enter rfl ?_
    refine r_iload_n e167252 ?_
    refine r_iconst 3 rfl ?_
    refine r_ics 81 rfl (fun c167256 => ?_) (fun c167256 => ?_)
    · have c167256_ : x167242.toInt > 3 := en_i_gt_t c167256
      refine At.enter rfl ?_
      refine r_vret ?_
      exact ⟨_, rfl, hI167244, hF167245, rfl⟩
    · have c167256_ : x167242.toInt ≤ 3 := en_i_gt_f c167256
      refine At.enter rfl ?_
      refine r_aload_n e167249 ?_
      obtain ⟨v167257, hv167257⟩ : ∃ v, gI g167243 222 5 = v := ⟨_, rfl⟩
      refine q_getI (Sh.int hI167244.1 kx_222 rfl) v167257 hv167257 ?_
      refine r_ifs 88 rfl (fun c167258 => ?_) (fun c167258 => ?_)
      · have c167258_ : v167257.toInt ≠ 0 := en_k_ne_t c167258
        refine At.enter rfl ?_
        refine r_vret ?_
        exact ⟨_, rfl, hI167244, hF167245, rfl⟩
      · have c167258_ : v167257.toInt = 0 := en_k_ne_f c167258
        refine At.enter rfl ?_
        refine r_iconst 0 rfl ?_
        refine r_istore _ rfl ?_
        refine Ar.fall 91 rfl ?_
        have z_168364 : (0 : Int32).toInt = 0 := rfl
        refine w_loopI (fun n_ l_ g_ => ∃ x168351 : Int32, n_ = 2147483647 - x168351.toInt ∧ HI g_ ∧ Fr F_X6_search_222 A_X6_search_222 g0 g_ ∧ en_get 0 l_ = some (.ref 222) ∧ en_get 1 l_ = some (.int x161411) ∧ en_get 2 l_ = some (.int v161431) ∧ en_get 3 l_ = some (.int x167242) ∧ en_get 4 l_ = some (.int x168351) ∧ 0 ≤ x168351.toInt) ?_ (2147483647 - 0) ⟨0, by first | rfl | omega, hI167244, hF167245, (w_p1 (by decide) (Or.inr rfl) e167249), (w_p1 (by decide) (Or.inr rfl) e167250), (w_p1 (by decide) (Or.inr rfl) e167251), (w_p1 (by decide) (Or.inr rfl) e167252), (w_e1 _ _ _), by decide⟩
        rintro n168356 l168355 g168352 ⟨x168351, hm168365, hI168353, hF168354, e168358, e168359, e168360, e168361, e168362, r168363⟩ ih168357
        refine At.enter rfl ?_
        refine r_iload e168362 ?_
        refine r_iconst 1 rfl ?_
        refine r_aload_n e168358 ?_
        refine q_getR (Sh.ref hI168353.1 kx_222 rfl) ?_
        obtain ⟨v168366, hv168366⟩ : ∃ v, gI g0 1 0 = v := ⟨_, rfl⟩
        have rv168366 := RgF.at hI0.2.1 (p := 1) (b := 0) rfl
        rw [hv168366] at rv168366
        dsimp only at rv168366
        refine q_getI (Sh.int hI168353.1 kx_1 rfl) v168366 ((hF168354.1 1 0 (by decide)).trans hv168366) ?_
        refine q_ishlO (fun v168367 hv168367 => ?_)
        have bv168369 := q_bnd x168351
        have bv168370 := q_bnd v168367
        refine r_ics 105 rfl (fun c168368 => ?_) (fun c168368 => ?_)
        · have c168368_ : x168351.toInt ≥ v168367.toInt := en_i_ge_t c168368
          refine At.enter rfl ?_
          refine q_iinc e168361 (x167242.toInt + 1) rfl (by omega) (fun v168371 hv168371 => ?_)
          refine r_goto ?_
          exact ih167248 (4 - v168371.toInt) _ _ ⟨v168371, by first | rfl | omega, hI168353, hF168354, (w_p1 (by decide) (Or.inr rfl) e168358), (w_p1 (by decide) (Or.inr rfl) e168359), (w_p1 (by decide) (Or.inr rfl) e168360), (w_e1 _ _ _), by omega⟩ ⟨by omega, by omega⟩
        · have c168368_ : x168351.toInt < v168367.toInt := en_i_ge_f c168368
          refine At.enter rfl ?_
          refine r_iload e168362 ?_
          refine r_callS 110 rfl [.int x168351] [] (Nat.le_of_ble_eq_true rfl) rfl (T_J6_bitCount_0f7a4 _ hI168353 x168351) ?_
          rintro _ _ ⟨g168372, rfl, hI168373, hF168374, v168375, rfl, hr168376⟩
          refine At.sti ?_
          have hF168377 := Fr.tr hF168354 hF168374 rfl rfl
          refine At.enter rfl ?_
          refine r_iload_n e168361 ?_
          refine r_ics 114 rfl (fun c168378 => ?_) (fun c168378 => ?_)
          · have c168378_ : v168375.toInt ≠ x167242.toInt := en_i_ne_t c168378
            refine At.enter rfl ?_
            refine q_iinc e168362 (x168351.toInt + 1) rfl (by omega) (fun v168379 hv168379 => ?_)
            refine r_goto ?_
            have bv168380 := q_bnd v168379
            exact ih168357 (2147483647 - v168379.toInt) _ _ ⟨v168379, by first | rfl | omega, hI168373, hF168377, (w_p1 (by decide) (Or.inr rfl) e168358), (w_p1 (by decide) (Or.inr rfl) e168359), (w_p1 (by decide) (Or.inr rfl) e168360), (w_p1 (by decide) (Or.inr rfl) e168361), (w_e1 _ _ _), by omega⟩ ⟨by omega, by omega⟩
          · have c168378_ : v168375.toInt = x167242.toInt := en_i_ne_f c168378
            refine At.enter rfl ?_
            refine r_iload e168362 ?_
            refine r_iload_n e168359 ?_
            refine q_iandO (fun v168381 hv168381 => ?_)
            refine r_ifs 121 rfl (fun c168382 => ?_) (fun c168382 => ?_)
            · have c168382_ : v168381.toInt = 0 := en_k_eq_t c168382
              refine At.enter rfl ?_
              refine r_aload_n e168358 ?_
              refine q_getR (Sh.ref hI168373.1 kx_222 rfl) ?_
              refine r_iload e168362 ?_
              refine r_callV 133 rfl [.ref 204, .int x168351] [] (Nat.le_of_ble_eq_true rfl) rfl (T_X1_layOut_204 _ hI168373 x168351) ?_
              rintro _ _ ⟨g168383, rfl, hI168384, hF168385, rfl⟩
              refine At.stn ?_
              have hF168388 := Fr.tr hF168377 hF168385 rfl rfl
              refine At.enter rfl ?_
              refine r_aload_n e168358 ?_
              refine q_getR (Sh.ref hI168384.1 kx_222 rfl) ?_
              refine r_iload_n e168360 ?_
              refine r_bipush 99 rfl ?_
              refine r_callV 143 rfl [.ref 204, .int v161431, .int 99] [] (Nat.le_of_ble_eq_true rfl) rfl (T_X1_comesBy_204 _ hI168384 v161431 99) ?_
              rintro _ _ ⟨g168389, rfl, hI168390, hF168391, v168392, rfl, hr168393⟩
              refine At.sti ?_
              have hF168394 := Fr.tr hF168388 hF168391 rfl rfl
              refine At.enter rfl ?_
              refine r_ifs 146 rfl (fun c168395 => ?_) (fun c168395 => ?_)
              · have c168395_ : v168392.toInt = 0 := en_k_eq_t c168395
                refine At.enter rfl ?_
                refine q_iinc e168362 (x168351.toInt + 1) rfl (by omega) (fun v168396 hv168396 => ?_)
                refine r_goto ?_
                have bv168397 := q_bnd v168396
                exact ih168357 (2147483647 - v168396.toInt) _ _ ⟨v168396, by first | rfl | omega, hI168390, hF168394, (w_p1 (by decide) (Or.inr rfl) e168358), (w_p1 (by decide) (Or.inr rfl) e168359), (w_p1 (by decide) (Or.inr rfl) e168360), (w_p1 (by decide) (Or.inr rfl) e168361), (w_e1 _ _ _), by omega⟩ ⟨by omega, by omega⟩
              · have c168395_ : v168392.toInt ≠ 0 := en_k_eq_f c168395
                refine At.enter rfl ?_
                refine r_aload_n e168358 ?_
                refine r_aload_n e168358 ?_
                obtain ⟨v168398, hv168398⟩ : ∃ v, gI g168352 222 5 = v := ⟨_, rfl⟩
                refine q_getI (Sh.int hI168390.1 kx_222 rfl) v168398 (((hF168391.1 222 5 mf_X1_comesBy_204_222_5).trans ((hF168385.1 222 5 mf_X1_layOut_204_222_5).trans (hF168374.1 222 5 mf_J6_bitCount_0f7a4_222_5))).trans hv168398) ?_
                refine r_ifs 154 rfl (fun c168399 => ?_) (fun c168399 => ?_)
                · have c168399_ : v168398.toInt ≠ 0 := en_k_ne_t c168399
                  refine At.enter rfl ?_
                  refine r_aload_n e168358 ?_
                  obtain ⟨v168400, hv168400⟩ : ∃ v, gI g168352 222 4 = v := ⟨_, rfl⟩
                  refine q_getI (Sh.int hI168390.1 kx_222 rfl) v168400 (((hF168391.1 222 4 mf_X1_comesBy_204_222_4).trans ((hF168385.1 222 4 mf_X1_layOut_204_222_4).trans (hF168374.1 222 4 mf_J6_bitCount_0f7a4_222_4))).trans hv168400) ?_
                  refine Ar.fall 163 rfl ?_
                  refine At.enter rfl ?_
                  refine q_putI (Sh.int hI168390.1 kx_222 rfl) rfl ?_
                  have hI168401 := HI.wI0 hI168390 kx_222 rfl (p := 222) (b := 4) (v := v168400) rfl
                  have hF168402 := Fr.wI (p := 222) (b := 4) (v := v168400) hF168394 rfl
                  refine r_aload_n e168358 ?_
                  refine r_iload_n e168361 ?_
                  refine q_putI (Sh.int hI168401.1 kx_222 rfl) rfl ?_
                  have hI168403 := HI.wI0 hI168401 kx_222 rfl (p := 222) (b := 3) (v := x167242) rfl
                  have hF168404 := Fr.wI (p := 222) (b := 3) (v := x167242) hF168402 rfl
                  refine r_aload_n e168358 ?_
                  refine r_dup rfl ?_
                  refine q_getI (Sh.int hI168403.1 kx_222 rfl) v168398 (((gI_sI_ne (by decide)).trans ((gI_sI_ne (by decide)).trans ((hF168391.1 222 5 mf_X1_comesBy_204_222_5).trans ((hF168385.1 222 5 mf_X1_layOut_204_222_5).trans (hF168374.1 222 5 mf_J6_bitCount_0f7a4_222_5))))).trans hv168398) ?_
                  refine r_iconst 1 rfl ?_
                  refine q_iaddO (fun v168405 _ => ?_)
                  refine q_putI (Sh.int hI168403.1 kx_222 rfl) rfl ?_
                  have hI168406 := HI.wI0 hI168403 kx_222 rfl (p := 222) (b := 5) (v := v168405) rfl
                  have hF168407 := Fr.wI (p := 222) (b := 5) (v := v168405) hF168404 rfl
                  refine Ar.fall 181 rfl ?_
                  refine At.enter rfl ?_
                  refine q_iinc e168362 (x168351.toInt + 1) rfl (by omega) (fun v168408 hv168408 => ?_)
                  refine r_goto ?_
                  have bv168409 := q_bnd v168408
                  exact ih168357 (2147483647 - v168408.toInt) _ _ ⟨v168408, by first | rfl | omega, hI168406, hF168407, (w_p1 (by decide) (Or.inr rfl) e168358), (w_p1 (by decide) (Or.inr rfl) e168359), (w_p1 (by decide) (Or.inr rfl) e168360), (w_p1 (by decide) (Or.inr rfl) e168361), (w_e1 _ _ _), by omega⟩ ⟨by omega, by omega⟩
                · have c168399_ : v168398.toInt = 0 := en_k_ne_f c168399
                  refine At.enter rfl ?_
                  refine r_iload e168362 ?_
                  refine r_goto ?_
                  refine At.enter rfl ?_
                  refine q_putI (Sh.int hI168390.1 kx_222 rfl) rfl ?_
                  have hI168410 := HI.wI0 hI168390 kx_222 rfl (p := 222) (b := 4) (v := x168351) rfl
                  have hF168411 := Fr.wI (p := 222) (b := 4) (v := x168351) hF168394 rfl
                  refine r_aload_n e168358 ?_
                  refine r_iload_n e168361 ?_
                  refine q_putI (Sh.int hI168410.1 kx_222 rfl) rfl ?_
                  have hI168412 := HI.wI0 hI168410 kx_222 rfl (p := 222) (b := 3) (v := x167242) rfl
                  have hF168413 := Fr.wI (p := 222) (b := 3) (v := x167242) hF168411 rfl
                  refine r_aload_n e168358 ?_
                  refine r_dup rfl ?_
                  refine q_getI (Sh.int hI168412.1 kx_222 rfl) v168398 (((gI_sI_ne (by decide)).trans ((gI_sI_ne (by decide)).trans ((hF168391.1 222 5 mf_X1_comesBy_204_222_5).trans ((hF168385.1 222 5 mf_X1_layOut_204_222_5).trans (hF168374.1 222 5 mf_J6_bitCount_0f7a4_222_5))))).trans hv168398) ?_
                  refine r_iconst 1 rfl ?_
                  refine q_iadd (v168398.toInt + 1) rfl (by omega) (fun v168414 hv168414 => ?_)
                  refine q_putI (Sh.int hI168412.1 kx_222 rfl) rfl ?_
                  have hI168415 := HI.wI0 hI168412 kx_222 rfl (p := 222) (b := 5) (v := v168414) rfl
                  have hF168416 := Fr.wI (p := 222) (b := 5) (v := v168414) hF168413 rfl
                  refine Ar.fall 181 rfl ?_
                  refine At.enter rfl ?_
                  refine q_iinc e168362 (x168351.toInt + 1) rfl (by omega) (fun v168417 hv168417 => ?_)
                  refine r_goto ?_
                  have bv168418 := q_bnd v168417
                  exact ih168357 (2147483647 - v168417.toInt) _ _ ⟨v168417, by first | rfl | omega, hI168415, hF168416, (w_p1 (by decide) (Or.inr rfl) e168358), (w_p1 (by decide) (Or.inr rfl) e168359), (w_p1 (by decide) (Or.inr rfl) e168360), (w_p1 (by decide) (Or.inr rfl) e168361), (w_e1 _ _ _), by omega⟩ ⟨by omega, by omega⟩
            · have c168382_ : v168381.toInt ≠ 0 := en_k_eq_f c168382
              refine At.enter rfl ?_
              refine r_goto ?_
              refine At.enter rfl ?_
              refine q_iinc e168362 (x168351.toInt + 1) rfl (by omega) (fun v168419 hv168419 => ?_)
              refine r_goto ?_
              have bv168420 := q_bnd v168419
              exact ih168357 (2147483647 - v168419.toInt) _ _ ⟨v168419, by first | rfl | omega, hI168373, hF168377, (w_p1 (by decide) (Or.inr rfl) e168358), (w_p1 (by decide) (Or.inr rfl) e168359), (w_p1 (by decide) (Or.inr rfl) e168360), (w_p1 (by decide) (Or.inr rfl) e168361), (w_e1 _ _ _), by omega⟩ ⟨by omega, by omega⟩
  · have c161427_ : x161412.toInt < v161426.toInt := en_i_ge_f c161427
    refine At.enter rfl ?_
    refine r_iload_n e161420 ?_
    refine r_iconst 1 rfl ?_
    refine r_aload_n e161419 ?_
    refine q_getR (Sh.ref hI161414.1 kx_222 rfl) ?_
    refine r_iload_n e161421 ?_
    refine r_iconst 1 rfl ?_
    refine r_callV 41 rfl [.ref 1, .int x161412, .int 1] [.int 1, .int x161411] (Nat.le_of_ble_eq_true rfl) rfl (T_X0_about_1 _ hI161414 x161412 1) ?_
    rintro _ _ ⟨g168421, rfl, hI168422, hF168423, v168424, rfl, hr168425⟩
    refine At.sti ?_
    have ks168428 := hr168425.2.2
    have hr168427 : _ ∧ _ := ⟨hr168425.1, hr168425.2.1⟩
    have hF168426 := Fr.tr hF161415 hF168423 rfl rfl
    have zv168429 : (1 : Int32).toInt = 1 := rfl
    refine At.enter rfl ?_
    refine q_ishlO (fun v168430 hv168430 => ?_)
    refine r_iconst 1 rfl ?_
    refine r_aload_n e161419 ?_
    refine q_getR (Sh.ref hI168422.1 kx_222 rfl) ?_
    refine r_iload_n e161421 ?_
    refine r_iconst 2 rfl ?_
    refine r_callV 52 rfl [.ref 1, .int x161412, .int 2] [.int 1, .int v168430, .int x161411] (Nat.le_of_ble_eq_true rfl) rfl (T_X0_about_1 _ hI168422 x161412 2) ?_
    rintro _ _ ⟨g168431, rfl, hI168432, hF168433, v168434, rfl, hr168435⟩
    refine At.sti ?_
    have ks168438 := hr168435.2.2
    have hr168437 : _ ∧ _ := ⟨hr168435.1, hr168435.2.1⟩
    have hF168436 := Fr.tr hF168426 hF168433 rfl rfl
    have zv168439 : (2 : Int32).toInt = 2 := rfl
    refine At.enter rfl ?_
    refine q_ishlO (fun v168440 hv168440 => ?_)
    refine q_iorO (fun v168441 hv168441 => ?_)
    refine q_iorO (fun v168442 hv168442 => ?_)
    refine r_istore_n _ rfl ?_
    refine q_iinc (w_p1 (by decide) (Or.inr rfl) e161421) (x161412.toInt + 1) rfl (by omega) (fun v168443 hv168443 => ?_)
    refine r_goto ?_
    have bv168444 := q_bnd v168442
    exact ih161418 (8 - v168443.toInt) _ _ ⟨v168442, v168443, by first | rfl | omega, hI168432, hF168436, (w_p1 (by decide) (Or.inr rfl) (w_p1 (by decide) (Or.inr rfl) e161419)), (w_p1 (by decide) (Or.inr rfl) (w_e1 _ _ _)), (w_e1 _ _ _), by omega⟩ ⟨by omega, by omega⟩
