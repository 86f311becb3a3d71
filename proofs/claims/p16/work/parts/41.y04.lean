set_option maxRecDepth 100000 in
set_option maxHeartbeats 4000000 in
theorem S_X5_readPart_176 (n : Nat) (IHJ : QJ n) (IHP : QP n) (IHT : QT n) : QT (n + 1) := by
  intro e he N g0 hI0 a1 h_a1 hm
  obtain ⟨d, rfl⟩ : ∃ d, e = d + 4 := ⟨e - 4, by omega⟩
  have hF0 : Fr F_rd A_rd g0 g0 := Fr.rf
  refine Ev.mk rfl rfl ⟨Nat.le_of_ble_eq_true rfl, Or.inr (q_rc hI0.1 kx_176 rfl)⟩ ?_
  show At _ none _ _ (0, [(0, .ref 176), (1, .int a1)], [], (_, _)) _
  refine At.enter rfl ?_
  refine r_aload_n rfl ?_
  refine r_bipush 91 rfl ?_
  refine r_callV 6 rfl [.ref 176, .int 91] [] (Nat.le_of_ble_eq_true rfl) rfl (T_X5_isSingle_176 _ hI0 91) ?_
  rintro _ _ ⟨g347, rfl, hI348, hF349, v350, rfl, hr351⟩
  refine At.sti ?_
  have hF352 := Fr.tr hF0 hF349 rfl rfl
  refine At.enter rfl ?_
  refine r_ifs 9 rfl (fun c353 => ?_) (fun c353 => ?_)
  · have c353_ : v350.toInt = 0 := en_k_eq_t c353
    refine At.enter rfl ?_
    refine r_aload_n rfl ?_
    obtain ⟨v354, hv354⟩ : ∃ v, gI g0 176 3 = v := ⟨_, rfl⟩
    refine q_getI (Sh.int hI348.1 kx_176 rfl) v354 ((hF349.1 176 3 (by decide)).trans hv354) ?_
    refine r_iconst 1 rfl ?_
    refine r_ics 45 rfl (fun c355 => ?_) (fun c355 => ?_)
    · have c355_ : v354.toInt ≠ 1 := en_i_ne_t c355
      refine At.enter rfl ?_
      refine r_iconst 1 rfl ?_
      refine Ar.fall 50 rfl ?_
      refine At.enter rfl ?_
      refine r_istore_n ([(2, .int 1), (0, .ref 176), (1, .int a1)]) rfl ?_
      refine r_aload_n rfl ?_
      refine q_getI (Sh.int hI348.1 kx_176 rfl) v354 ((hF349.1 176 3 (by decide)).trans hv354) ?_
      refine r_iconst 1 rfl ?_
      refine r_ics 59 rfl (fun c356 => ?_) (fun c356 => ?_)
      · have c356_ : v354.toInt ≠ 1 := en_i_ne_t c356
        refine At.enter rfl ?_
        refine r_aload_n rfl ?_
        refine r_callV 70 rfl [.ref 176] [] (Nat.le_of_ble_eq_true rfl) rfl (T_X5_wordHere_176 _ hI348) ?_
        rintro _ _ ⟨g357, rfl, hI358, hF359, v360, rfl, hr361⟩
        refine At.sti ?_
        have hF362 := Fr.tr hF352 hF359 rfl rfl
        refine At.enter rfl ?_
        refine r_istore_n ([(3, .int v360), (2, .int 1), (0, .ref 176), (1, .int a1)]) rfl ?_
        refine r_iload_n rfl ?_
        refine r_iconst (-1) rfl ?_
        refine r_ics 76 rfl (fun c363 => ?_) (fun c363 => ?_)
        · have c363_ : v360.toInt = (-1) := en_i_eq_t c363
          refine At.enter rfl ?_
          refine r_aload_n rfl ?_
          refine q_inlV 96 rfl [.ref 176] [] (Nat.le_of_ble_eq_true rfl) rfl ?_
          refine Ev.mk rfl rfl ⟨Nat.le_of_ble_eq_true rfl, Or.inr (q_rc hI358.1 kx_176 rfl)⟩ ?_
          show At _ none _ _ (0, [(0, .ref 176)], [], (_, _)) _
          refine At.enter rfl ?_
          refine r_aload_n rfl ?_
          obtain ⟨v364, hv364⟩ : ∃ v, gI g0 176 2 = v := ⟨_, rfl⟩
          refine q_getI (Sh.int hI358.1 kx_176 rfl) v364 (((hF359.1 176 2 (by decide)).trans (hF349.1 176 2 (by decide))).trans hv364) ?_
          refine r_iconst (-1) rfl ?_
          refine r_ics 8 rfl (fun c365 => ?_) (fun c365 => ?_)
          · have c365_ : v364.toInt ≠ (-1) := en_i_ne_t c365
            refine At.enter rfl ?_
            refine q_vret ?_
            refine At.enter rfl ?_
            refine r_vret ?_
            exact ⟨_, rfl, hI358, hF362, rfl⟩
          · have c365_ : v364.toInt = (-1) := en_i_ne_f c365
            refine At.enter rfl ?_
            refine r_aload_n rfl ?_
            refine r_aload_n rfl ?_
            obtain ⟨v366, hv366⟩ : ∃ v, gI g0 176 4 = v := ⟨_, rfl⟩
            have rv366 := RgF.at hI0.2.1 (p := 176) (b := 4) rfl
            rw [hv366] at rv366
            dsimp only at rv366
            refine q_getI (Sh.int hI358.1 kx_176 rfl) v366 (((hF359.1 176 4 (by decide)).trans (hF349.1 176 4 (by decide))).trans hv366) ?_
            refine q_putI (Sh.int hI358.1 kx_176 rfl) rfl ?_
            have hI367 := HI.wI0 hI358 kx_176 rfl (p := 176) (b := 2) (v := v366) rfl
            have hF368 := Fr.wI (p := 176) (b := 2) (v := v366) hF362 rfl
            refine Ar.fall 16 rfl ?_
            refine At.enter rfl ?_
            refine q_vret ?_
            refine At.enter rfl ?_
            refine r_vret ?_
            exact ⟨_, rfl, hI367, hF368, rfl⟩
        · have c363_ : v360.toInt ≠ (-1) := en_i_eq_f c363
          refine At.enter rfl ?_
          refine r_iload_n rfl ?_
          refine r_sipush 1000 rfl ?_
          refine r_ics 83 rfl (fun c369 => ?_) (fun c369 => ?_)
          · have c369_ : v360.toInt > 1000 := en_i_gt_t c369
            exfalso; omega
          · have c369_ : v360.toInt ≤ 1000 := en_i_gt_f c369
            refine At.enter rfl ?_
            refine r_aload_n rfl ?_
            obtain ⟨v370, hv370⟩ : ∃ v, gI g0 176 6 = v := ⟨_, rfl⟩
            refine q_getI (Sh.int hI358.1 kx_176 rfl) v370 (((hF359.1 176 6 (by decide)).trans (hF349.1 176 6 (by decide))).trans hv370) ?_
            refine r_bipush 50 rfl ?_
            refine r_ics 92 rfl (fun c371 => ?_) (fun c371 => ?_)
            · have c371_ : v370.toInt < 50 := en_i_lt_t c371
              refine At.enter rfl ?_
              refine r_aload_n rfl ?_
              refine r_dup rfl ?_
              refine q_getI (Sh.int hI358.1 kx_176 rfl) v370 (((hF359.1 176 6 (by decide)).trans (hF349.1 176 6 (by decide))).trans hv370) ?_
              refine r_iconst 1 rfl ?_
              have bv372 := q_bnd v370
              refine q_iadd (v370.toInt + 1) rfl (by omega) (fun v373 hv373 => ?_)
              refine q_putI (Sh.int hI358.1 kx_176 rfl) rfl ?_
              have hI374 := HI.wI0 hI358 kx_176 rfl (p := 176) (b := 6) (v := v373) rfl
              have hF375 := Fr.wI (p := 176) (b := 6) (v := v373) hF362 rfl
              refine r_aload_n rfl ?_
              refine q_getR (Sh.ref hI374.1 kx_176 rfl) ?_
              refine r_iload_n rfl ?_
              refine r_iload_n rfl ?_
              refine r_callV 116 rfl [.ref 177, .int 1, .int v360] [] (Nat.le_of_ble_eq_true rfl) rfl (T_X4_add_177 _ hI374 1 v360) ?_
              rintro _ _ ⟨g376, rfl, hI377, hF378, v379, rfl, hr380⟩
              refine At.sti ?_
              have hF381 := Fr.tr hF375 hF378 rfl rfl
              refine At.enter rfl ?_
              refine r_pop rfl ?_
              refine r_aload_n rfl ?_
              refine r_callV 121 rfl [.ref 176] [] (Nat.le_of_ble_eq_true rfl) rfl (T_X5_step_176 _ hI377) ?_
              rintro _ _ ⟨g382, rfl, hI383, hF384, rfl⟩
              refine At.stn ?_
              have hF387 := Fr.tr hF381 hF384 rfl rfl
              refine At.enter rfl ?_
              refine r_vret ?_
              exact ⟨_, rfl, hI383, hF387, rfl⟩
            · have c371_ : v370.toInt ≥ 50 := en_i_lt_f c371
              refine At.enter rfl ?_
              refine r_aload_n rfl ?_
              refine q_inlV 96 rfl [.ref 176] [] (Nat.le_of_ble_eq_true rfl) rfl ?_
              refine Ev.mk rfl rfl ⟨Nat.le_of_ble_eq_true rfl, Or.inr (q_rc hI358.1 kx_176 rfl)⟩ ?_
              show At _ none _ _ (0, [(0, .ref 176)], [], (_, _)) _
              refine At.enter rfl ?_
              refine r_aload_n rfl ?_
              obtain ⟨v388, hv388⟩ : ∃ v, gI g0 176 2 = v := ⟨_, rfl⟩
              refine q_getI (Sh.int hI358.1 kx_176 rfl) v388 (((hF359.1 176 2 (by decide)).trans (hF349.1 176 2 (by decide))).trans hv388) ?_
              refine r_iconst (-1) rfl ?_
              refine r_ics 8 rfl (fun c389 => ?_) (fun c389 => ?_)
              · have c389_ : v388.toInt ≠ (-1) := en_i_ne_t c389
                refine At.enter rfl ?_
                refine q_vret ?_
                refine At.enter rfl ?_
                refine r_vret ?_
                exact ⟨_, rfl, hI358, hF362, rfl⟩
              · have c389_ : v388.toInt = (-1) := en_i_ne_f c389
                refine At.enter rfl ?_
                refine r_aload_n rfl ?_
                refine r_aload_n rfl ?_
                obtain ⟨v390, hv390⟩ : ∃ v, gI g0 176 4 = v := ⟨_, rfl⟩
                have rv390 := RgF.at hI0.2.1 (p := 176) (b := 4) rfl
                rw [hv390] at rv390
                dsimp only at rv390
                refine q_getI (Sh.int hI358.1 kx_176 rfl) v390 (((hF359.1 176 4 (by decide)).trans (hF349.1 176 4 (by decide))).trans hv390) ?_
                refine q_putI (Sh.int hI358.1 kx_176 rfl) rfl ?_
                have hI391 := HI.wI0 hI358 kx_176 rfl (p := 176) (b := 2) (v := v390) rfl
                have hF392 := Fr.wI (p := 176) (b := 2) (v := v390) hF362 rfl
                refine Ar.fall 16 rfl ?_
                refine At.enter rfl ?_
                refine q_vret ?_
                refine At.enter rfl ?_
                refine r_vret ?_
                exact ⟨_, rfl, hI391, hF392, rfl⟩
      · have c356_ : v354.toInt = 1 := en_i_ne_f c356
        refine At.enter rfl ?_
        refine r_aload_n rfl ?_
        refine r_callV 63 rfl [.ref 176] [] (Nat.le_of_ble_eq_true rfl) rfl (T_X5_numberHere_176 _ hI348) ?_
        rintro _ _ ⟨g393, rfl, hI394, hF395, v396, rfl, hr397⟩
        refine At.sti ?_
        have hF398 := Fr.tr hF352 hF395 rfl rfl
        refine At.enter rfl ?_
        refine r_goto ?_
        refine At.enter rfl ?_
        refine r_istore_n ([(3, .int v396), (2, .int 1), (0, .ref 176), (1, .int a1)]) rfl ?_
        refine r_iload_n rfl ?_
        refine r_iconst (-1) rfl ?_
        refine r_ics 76 rfl (fun c399 => ?_) (fun c399 => ?_)
        · have c399_ : v396.toInt = (-1) := en_i_eq_t c399
          refine At.enter rfl ?_
          refine r_aload_n rfl ?_
          refine q_inlV 96 rfl [.ref 176] [] (Nat.le_of_ble_eq_true rfl) rfl ?_
          refine Ev.mk rfl rfl ⟨Nat.le_of_ble_eq_true rfl, Or.inr (q_rc hI394.1 kx_176 rfl)⟩ ?_
          show At _ none _ _ (0, [(0, .ref 176)], [], (_, _)) _
          refine At.enter rfl ?_
          refine r_aload_n rfl ?_
          obtain ⟨v400, hv400⟩ : ∃ v, gI g0 176 2 = v := ⟨_, rfl⟩
          refine q_getI (Sh.int hI394.1 kx_176 rfl) v400 (((hF395.1 176 2 (by decide)).trans (hF349.1 176 2 (by decide))).trans hv400) ?_
          refine r_iconst (-1) rfl ?_
          refine r_ics 8 rfl (fun c401 => ?_) (fun c401 => ?_)
          · have c401_ : v400.toInt ≠ (-1) := en_i_ne_t c401
            refine At.enter rfl ?_
            refine q_vret ?_
            refine At.enter rfl ?_
            refine r_vret ?_
            exact ⟨_, rfl, hI394, hF398, rfl⟩
          · have c401_ : v400.toInt = (-1) := en_i_ne_f c401
            refine At.enter rfl ?_
            refine r_aload_n rfl ?_
            refine r_aload_n rfl ?_
            obtain ⟨v402, hv402⟩ : ∃ v, gI g0 176 4 = v := ⟨_, rfl⟩
            have rv402 := RgF.at hI0.2.1 (p := 176) (b := 4) rfl
            rw [hv402] at rv402
            dsimp only at rv402
            refine q_getI (Sh.int hI394.1 kx_176 rfl) v402 (((hF395.1 176 4 (by decide)).trans (hF349.1 176 4 (by decide))).trans hv402) ?_
            refine q_putI (Sh.int hI394.1 kx_176 rfl) rfl ?_
            have hI403 := HI.wI0 hI394 kx_176 rfl (p := 176) (b := 2) (v := v402) rfl
            have hF404 := Fr.wI (p := 176) (b := 2) (v := v402) hF398 rfl
            refine Ar.fall 16 rfl ?_
            refine At.enter rfl ?_
            refine q_vret ?_
            refine At.enter rfl ?_
            refine r_vret ?_
            exact ⟨_, rfl, hI403, hF404, rfl⟩
        · have c399_ : v396.toInt ≠ (-1) := en_i_eq_f c399
          refine At.enter rfl ?_
          refine r_iload_n rfl ?_
          refine r_sipush 1000 rfl ?_
          refine r_ics 83 rfl (fun c405 => ?_) (fun c405 => ?_)
          · have c405_ : v396.toInt > 1000 := en_i_gt_t c405
            refine At.enter rfl ?_
            refine r_aload_n rfl ?_
            refine q_inlV 96 rfl [.ref 176] [] (Nat.le_of_ble_eq_true rfl) rfl ?_
            refine Ev.mk rfl rfl ⟨Nat.le_of_ble_eq_true rfl, Or.inr (q_rc hI394.1 kx_176 rfl)⟩ ?_
            show At _ none _ _ (0, [(0, .ref 176)], [], (_, _)) _
            refine At.enter rfl ?_
            refine r_aload_n rfl ?_
            obtain ⟨v406, hv406⟩ : ∃ v, gI g0 176 2 = v := ⟨_, rfl⟩
            refine q_getI (Sh.int hI394.1 kx_176 rfl) v406 (((hF395.1 176 2 (by decide)).trans (hF349.1 176 2 (by decide))).trans hv406) ?_
            refine r_iconst (-1) rfl ?_
            refine r_ics 8 rfl (fun c407 => ?_) (fun c407 => ?_)
            · have c407_ : v406.toInt ≠ (-1) := en_i_ne_t c407
              refine At.enter rfl ?_
              refine q_vret ?_
              refine At.enter rfl ?_
              refine r_vret ?_
              exact ⟨_, rfl, hI394, hF398, rfl⟩
            · have c407_ : v406.toInt = (-1) := en_i_ne_f c407
              refine At.enter rfl ?_
              refine r_aload_n rfl ?_
              refine r_aload_n rfl ?_
              obtain ⟨v408, hv408⟩ : ∃ v, gI g0 176 4 = v := ⟨_, rfl⟩
              have rv408 := RgF.at hI0.2.1 (p := 176) (b := 4) rfl
              rw [hv408] at rv408
              dsimp only at rv408
              refine q_getI (Sh.int hI394.1 kx_176 rfl) v408 (((hF395.1 176 4 (by decide)).trans (hF349.1 176 4 (by decide))).trans hv408) ?_
              refine q_putI (Sh.int hI394.1 kx_176 rfl) rfl ?_
              have hI409 := HI.wI0 hI394 kx_176 rfl (p := 176) (b := 2) (v := v408) rfl
              have hF410 := Fr.wI (p := 176) (b := 2) (v := v408) hF398 rfl
              refine Ar.fall 16 rfl ?_
              refine At.enter rfl ?_
              refine q_vret ?_
              refine At.enter rfl ?_
              refine r_vret ?_
              exact ⟨_, rfl, hI409, hF410, rfl⟩
          · have c405_ : v396.toInt ≤ 1000 := en_i_gt_f c405
            refine At.enter rfl ?_
            refine r_aload_n rfl ?_
            obtain ⟨v411, hv411⟩ : ∃ v, gI g0 176 6 = v := ⟨_, rfl⟩
            refine q_getI (Sh.int hI394.1 kx_176 rfl) v411 (((hF395.1 176 6 (by decide)).trans (hF349.1 176 6 (by decide))).trans hv411) ?_
            refine r_bipush 50 rfl ?_
            refine r_ics 92 rfl (fun c412 => ?_) (fun c412 => ?_)
            · have c412_ : v411.toInt < 50 := en_i_lt_t c412
              refine At.enter rfl ?_
              refine r_aload_n rfl ?_
              refine r_dup rfl ?_
              refine q_getI (Sh.int hI394.1 kx_176 rfl) v411 (((hF395.1 176 6 (by decide)).trans (hF349.1 176 6 (by decide))).trans hv411) ?_
              refine r_iconst 1 rfl ?_
              have bv413 := q_bnd v411
              refine q_iadd (v411.toInt + 1) rfl (by omega) (fun v414 hv414 => ?_)
              refine q_putI (Sh.int hI394.1 kx_176 rfl) rfl ?_
              have hI415 := HI.wI0 hI394 kx_176 rfl (p := 176) (b := 6) (v := v414) rfl
              have hF416 := Fr.wI (p := 176) (b := 6) (v := v414) hF398 rfl
              refine r_aload_n rfl ?_
              refine q_getR (Sh.ref hI415.1 kx_176 rfl) ?_
              refine r_iload_n rfl ?_
              refine r_iload_n rfl ?_
              refine r_callV 116 rfl [.ref 177, .int 1, .int v396] [] (Nat.le_of_ble_eq_true rfl) rfl (T_X4_add_177 _ hI415 1 v396) ?_
              rintro _ _ ⟨g417, rfl, hI418, hF419, v420, rfl, hr421⟩
              refine At.sti ?_
              have hF422 := Fr.tr hF416 hF419 rfl rfl
              refine At.enter rfl ?_
              refine r_pop rfl ?_
              refine r_aload_n rfl ?_
              refine r_callV 121 rfl [.ref 176] [] (Nat.le_of_ble_eq_true rfl) rfl (T_X5_step_176 _ hI418) ?_
              rintro _ _ ⟨g423, rfl, hI424, hF425, rfl⟩
              refine At.stn ?_
              have hF428 := Fr.tr hF422 hF425 rfl rfl
              refine At.enter rfl ?_
              refine r_vret ?_
              exact ⟨_, rfl, hI424, hF428, rfl⟩
            · have c412_ : v411.toInt ≥ 50 := en_i_lt_f c412
              refine At.enter rfl ?_
              refine r_aload_n rfl ?_
              refine q_inlV 96 rfl [.ref 176] [] (Nat.le_of_ble_eq_true rfl) rfl ?_
              refine Ev.mk rfl rfl ⟨Nat.le_of_ble_eq_true rfl, Or.inr (q_rc hI394.1 kx_176 rfl)⟩ ?_
              show At _ none _ _ (0, [(0, .ref 176)], [], (_, _)) _
              refine At.enter rfl ?_
              refine r_aload_n rfl ?_
              obtain ⟨v429, hv429⟩ : ∃ v, gI g0 176 2 = v := ⟨_, rfl⟩
              refine q_getI (Sh.int hI394.1 kx_176 rfl) v429 (((hF395.1 176 2 (by decide)).trans (hF349.1 176 2 (by decide))).trans hv429) ?_
              refine r_iconst (-1) rfl ?_
              refine r_ics 8 rfl (fun c430 => ?_) (fun c430 => ?_)
              · have c430_ : v429.toInt ≠ (-1) := en_i_ne_t c430
                refine At.enter rfl ?_
                refine q_vret ?_
                refine At.enter rfl ?_
                refine r_vret ?_
                exact ⟨_, rfl, hI394, hF398, rfl⟩
              · have c430_ : v429.toInt = (-1) := en_i_ne_f c430
                refine At.enter rfl ?_
                refine r_aload_n rfl ?_
                refine r_aload_n rfl ?_
                obtain ⟨v431, hv431⟩ : ∃ v, gI g0 176 4 = v := ⟨_, rfl⟩
                have rv431 := RgF.at hI0.2.1 (p := 176) (b := 4) rfl
                rw [hv431] at rv431
                dsimp only at rv431
                refine q_getI (Sh.int hI394.1 kx_176 rfl) v431 (((hF395.1 176 4 (by decide)).trans (hF349.1 176 4 (by decide))).trans hv431) ?_
                refine q_putI (Sh.int hI394.1 kx_176 rfl) rfl ?_
                have hI432 := HI.wI0 hI394 kx_176 rfl (p := 176) (b := 2) (v := v431) rfl
                have hF433 := Fr.wI (p := 176) (b := 2) (v := v431) hF398 rfl
                refine Ar.fall 16 rfl ?_
                refine At.enter rfl ?_
                refine q_vret ?_
                refine At.enter rfl ?_
                refine r_vret ?_
                exact ⟨_, rfl, hI432, hF433, rfl⟩
    · have c355_ : v354.toInt = 1 := en_i_ne_f c355
      refine At.enter rfl ?_
      refine r_iconst 0 rfl ?_
      refine r_goto ?_
      refine At.enter rfl ?_
      refine r_istore_n ([(2, .int 0), (0, .ref 176), (1, .int a1)]) rfl ?_
      refine r_aload_n rfl ?_
      refine q_getI (Sh.int hI348.1 kx_176 rfl) v354 ((hF349.1 176 3 (by decide)).trans hv354) ?_
      refine r_iconst 1 rfl ?_
      refine r_ics 59 rfl (fun c434 => ?_) (fun c434 => ?_)
      · have c434_ : v354.toInt ≠ 1 := en_i_ne_t c434
        exfalso; omega
      · have c434_ : v354.toInt = 1 := en_i_ne_f c434
        refine At.enter rfl ?_
        refine r_aload_n rfl ?_
        refine r_callV 63 rfl [.ref 176] [] (Nat.le_of_ble_eq_true rfl) rfl (T_X5_numberHere_176 _ hI348) ?_
        rintro _ _ ⟨g435, rfl, hI436, hF437, v438, rfl, hr439⟩
        refine At.sti ?_
        have hF440 := Fr.tr hF352 hF437 rfl rfl
        refine At.enter rfl ?_
        refine r_goto ?_
        refine At.enter rfl ?_
        refine r_istore_n ([(3, .int v438), (2, .int 0), (0, .ref 176), (1, .int a1)]) rfl ?_
        refine r_iload_n rfl ?_
        refine r_iconst (-1) rfl ?_
        refine r_ics 76 rfl (fun c441 => ?_) (fun c441 => ?_)
        · have c441_ : v438.toInt = (-1) := en_i_eq_t c441
          refine At.enter rfl ?_
          refine r_aload_n rfl ?_
          refine q_inlV 96 rfl [.ref 176] [] (Nat.le_of_ble_eq_true rfl) rfl ?_
          refine Ev.mk rfl rfl ⟨Nat.le_of_ble_eq_true rfl, Or.inr (q_rc hI436.1 kx_176 rfl)⟩ ?_
          show At _ none _ _ (0, [(0, .ref 176)], [], (_, _)) _
          refine At.enter rfl ?_
          refine r_aload_n rfl ?_
          obtain ⟨v442, hv442⟩ : ∃ v, gI g0 176 2 = v := ⟨_, rfl⟩
          refine q_getI (Sh.int hI436.1 kx_176 rfl) v442 (((hF437.1 176 2 (by decide)).trans (hF349.1 176 2 (by decide))).trans hv442) ?_
          refine r_iconst (-1) rfl ?_
          refine r_ics 8 rfl (fun c443 => ?_) (fun c443 => ?_)
          · have c443_ : v442.toInt ≠ (-1) := en_i_ne_t c443
            refine At.enter rfl ?_
            refine q_vret ?_
            refine At.enter rfl ?_
            refine r_vret ?_
            exact ⟨_, rfl, hI436, hF440, rfl⟩
          · have c443_ : v442.toInt = (-1) := en_i_ne_f c443
            refine At.enter rfl ?_
            refine r_aload_n rfl ?_
            refine r_aload_n rfl ?_
            obtain ⟨v444, hv444⟩ : ∃ v, gI g0 176 4 = v := ⟨_, rfl⟩
            have rv444 := RgF.at hI0.2.1 (p := 176) (b := 4) rfl
            rw [hv444] at rv444
            dsimp only at rv444
            refine q_getI (Sh.int hI436.1 kx_176 rfl) v444 (((hF437.1 176 4 (by decide)).trans (hF349.1 176 4 (by decide))).trans hv444) ?_
            refine q_putI (Sh.int hI436.1 kx_176 rfl) rfl ?_
            have hI445 := HI.wI0 hI436 kx_176 rfl (p := 176) (b := 2) (v := v444) rfl
            have hF446 := Fr.wI (p := 176) (b := 2) (v := v444) hF440 rfl
            refine Ar.fall 16 rfl ?_
            refine At.enter rfl ?_
            refine q_vret ?_
            refine At.enter rfl ?_
            refine r_vret ?_
            exact ⟨_, rfl, hI445, hF446, rfl⟩
        · have c441_ : v438.toInt ≠ (-1) := en_i_eq_f c441
          refine At.enter rfl ?_
          refine r_iload_n rfl ?_
          refine r_sipush 1000 rfl ?_
          refine r_ics 83 rfl (fun c447 => ?_) (fun c447 => ?_)
          · have c447_ : v438.toInt > 1000 := en_i_gt_t c447
            refine At.enter rfl ?_
            refine r_aload_n rfl ?_
            refine q_inlV 96 rfl [.ref 176] [] (Nat.le_of_ble_eq_true rfl) rfl ?_
            refine Ev.mk rfl rfl ⟨Nat.le_of_ble_eq_true rfl, Or.inr (q_rc hI436.1 kx_176 rfl)⟩ ?_
            show At _ none _ _ (0, [(0, .ref 176)], [], (_, _)) _
            refine At.enter rfl ?_
            refine r_aload_n rfl ?_
            obtain ⟨v448, hv448⟩ : ∃ v, gI g0 176 2 = v := ⟨_, rfl⟩
            refine q_getI (Sh.int hI436.1 kx_176 rfl) v448 (((hF437.1 176 2 (by decide)).trans (hF349.1 176 2 (by decide))).trans hv448) ?_
            refine r_iconst (-1) rfl ?_
            refine r_ics 8 rfl (fun c449 => ?_) (fun c449 => ?_)
            · have c449_ : v448.toInt ≠ (-1) := en_i_ne_t c449
              refine At.enter rfl ?_
              refine q_vret ?_
              refine At.enter rfl ?_
              refine r_vret ?_
              exact ⟨_, rfl, hI436, hF440, rfl⟩
            · have c449_ : v448.toInt = (-1) := en_i_ne_f c449
              refine At.enter rfl ?_
              refine r_aload_n rfl ?_
              refine r_aload_n rfl ?_
              obtain ⟨v450, hv450⟩ : ∃ v, gI g0 176 4 = v := ⟨_, rfl⟩
              have rv450 := RgF.at hI0.2.1 (p := 176) (b := 4) rfl
              rw [hv450] at rv450
              dsimp only at rv450
              refine q_getI (Sh.int hI436.1 kx_176 rfl) v450 (((hF437.1 176 4 (by decide)).trans (hF349.1 176 4 (by decide))).trans hv450) ?_
              refine q_putI (Sh.int hI436.1 kx_176 rfl) rfl ?_
              have hI451 := HI.wI0 hI436 kx_176 rfl (p := 176) (b := 2) (v := v450) rfl
              have hF452 := Fr.wI (p := 176) (b := 2) (v := v450) hF440 rfl
              refine Ar.fall 16 rfl ?_
              refine At.enter rfl ?_
              refine q_vret ?_
              refine At.enter rfl ?_
              refine r_vret ?_
              exact ⟨_, rfl, hI451, hF452, rfl⟩
          · have c447_ : v438.toInt ≤ 1000 := en_i_gt_f c447
            refine At.enter rfl ?_
            refine r_aload_n rfl ?_
            obtain ⟨v453, hv453⟩ : ∃ v, gI g0 176 6 = v := ⟨_, rfl⟩
            refine q_getI (Sh.int hI436.1 kx_176 rfl) v453 (((hF437.1 176 6 (by decide)).trans (hF349.1 176 6 (by decide))).trans hv453) ?_
            refine r_bipush 50 rfl ?_
            refine r_ics 92 rfl (fun c454 => ?_) (fun c454 => ?_)
            · have c454_ : v453.toInt < 50 := en_i_lt_t c454
              refine At.enter rfl ?_
              refine r_aload_n rfl ?_
              refine r_dup rfl ?_
              refine q_getI (Sh.int hI436.1 kx_176 rfl) v453 (((hF437.1 176 6 (by decide)).trans (hF349.1 176 6 (by decide))).trans hv453) ?_
              refine r_iconst 1 rfl ?_
              have bv455 := q_bnd v453
              refine q_iadd (v453.toInt + 1) rfl (by omega) (fun v456 hv456 => ?_)
              refine q_putI (Sh.int hI436.1 kx_176 rfl) rfl ?_
              have hI457 := HI.wI0 hI436 kx_176 rfl (p := 176) (b := 6) (v := v456) rfl
              have hF458 := Fr.wI (p := 176) (b := 6) (v := v456) hF440 rfl
              refine r_aload_n rfl ?_
              refine q_getR (Sh.ref hI457.1 kx_176 rfl) ?_
              refine r_iload_n rfl ?_
              refine r_iload_n rfl ?_
              refine r_callV 116 rfl [.ref 177, .int 0, .int v438] [] (Nat.le_of_ble_eq_true rfl) rfl (T_X4_add_177 _ hI457 0 v438) ?_
              rintro _ _ ⟨g459, rfl, hI460, hF461, v462, rfl, hr463⟩
              refine At.sti ?_
              have hF464 := Fr.tr hF458 hF461 rfl rfl
              refine At.enter rfl ?_
              refine r_pop rfl ?_
              refine r_aload_n rfl ?_
              refine r_callV 121 rfl [.ref 176] [] (Nat.le_of_ble_eq_true rfl) rfl (T_X5_step_176 _ hI460) ?_
              rintro _ _ ⟨g465, rfl, hI466, hF467, rfl⟩
              refine At.stn ?_
              have hF470 := Fr.tr hF464 hF467 rfl rfl
              refine At.enter rfl ?_
              refine r_vret ?_
              exact ⟨_, rfl, hI466, hF470, rfl⟩
            · have c454_ : v453.toInt ≥ 50 := en_i_lt_f c454
              refine At.enter rfl ?_
              refine r_aload_n rfl ?_
              refine q_inlV 96 rfl [.ref 176] [] (Nat.le_of_ble_eq_true rfl) rfl ?_
              refine Ev.mk rfl rfl ⟨Nat.le_of_ble_eq_true rfl, Or.inr (q_rc hI436.1 kx_176 rfl)⟩ ?_
              show At _ none _ _ (0, [(0, .ref 176)], [], (_, _)) _
              refine At.enter rfl ?_
              refine r_aload_n rfl ?_
              obtain ⟨v471, hv471⟩ : ∃ v, gI g0 176 2 = v := ⟨_, rfl⟩
              refine q_getI (Sh.int hI436.1 kx_176 rfl) v471 (((hF437.1 176 2 (by decide)).trans (hF349.1 176 2 (by decide))).trans hv471) ?_
              refine r_iconst (-1) rfl ?_
              refine r_ics 8 rfl (fun c472 => ?_) (fun c472 => ?_)
              · have c472_ : v471.toInt ≠ (-1) := en_i_ne_t c472
                refine At.enter rfl ?_
                refine q_vret ?_
                refine At.enter rfl ?_
                refine r_vret ?_
                exact ⟨_, rfl, hI436, hF440, rfl⟩
              · have c472_ : v471.toInt = (-1) := en_i_ne_f c472
                refine At.enter rfl ?_
                refine r_aload_n rfl ?_
                refine r_aload_n rfl ?_
                obtain ⟨v473, hv473⟩ : ∃ v, gI g0 176 4 = v := ⟨_, rfl⟩
                have rv473 := RgF.at hI0.2.1 (p := 176) (b := 4) rfl
                rw [hv473] at rv473
                dsimp only at rv473
                refine q_getI (Sh.int hI436.1 kx_176 rfl) v473 (((hF437.1 176 4 (by decide)).trans (hF349.1 176 4 (by decide))).trans hv473) ?_
                refine q_putI (Sh.int hI436.1 kx_176 rfl) rfl ?_
                have hI474 := HI.wI0 hI436 kx_176 rfl (p := 176) (b := 2) (v := v473) rfl
                have hF475 := Fr.wI (p := 176) (b := 2) (v := v473) hF440 rfl
                refine Ar.fall 16 rfl ?_
                refine At.enter rfl ?_
                refine q_vret ?_
                refine At.enter rfl ?_
                refine r_vret ?_
                exact ⟨_, rfl, hI474, hF475, rfl⟩
  · have c353_ : v350.toInt ≠ 0 := en_k_eq_f c353
    refine At.enter rfl ?_
    refine r_aload_n rfl ?_
    refine r_iload_n rfl ?_
    refine q_inlV 14 rfl [.ref 176, .int a1] [] (Nat.le_of_ble_eq_true rfl) rfl ?_
    refine Ev.mk rfl rfl ⟨Nat.le_of_ble_eq_true rfl, Or.inr (q_rc hI348.1 kx_176 rfl)⟩ ?_
    show At _ none _ _ (0, [(0, .ref 176), (1, .int a1)], [], (_, _)) _
    refine At.enter rfl ?_
    refine r_iload_n rfl ?_
    refine r_bipush 8 rfl ?_
    refine r_ics 6 rfl (fun c476 => ?_) (fun c476 => ?_)
    · have c476_ : a1.toInt < 8 := en_i_lt_t c476
      refine At.enter rfl ?_
      refine r_aload_n rfl ?_
      refine r_callV 17 rfl [.ref 176] [] (Nat.le_of_ble_eq_true rfl) rfl (T_X5_step_176 _ hI348) ?_
      rintro _ _ ⟨g477, rfl, hI478, hF479, rfl⟩
      refine At.stn ?_
      have hF482 := Fr.tr hF352 hF479 rfl rfl
      refine At.enter rfl ?_
      refine q_vret ?_
      refine At.enter rfl ?_
      refine r_aload_n rfl ?_
      obtain ⟨v483, hv483⟩ : ∃ v, gI g0 176 2 = v := ⟨_, rfl⟩
      refine q_getI (Sh.int hI478.1 kx_176 rfl) v483 (((hF479.1 176 2 (by decide)).trans (hF349.1 176 2 (by decide))).trans hv483) ?_
      refine r_iconst (-1) rfl ?_
      refine r_ics 22 rfl (fun c484 => ?_) (fun c484 => ?_)
      · have c484_ : v483.toInt ≠ (-1) := en_i_ne_t c484
        refine At.enter rfl ?_
        refine r_vret ?_
        exact ⟨_, rfl, hI478, hF482, rfl⟩
      · have c484_ : v483.toInt = (-1) := en_i_ne_f c484
        refine At.enter rfl ?_
        refine r_aload_n rfl ?_
        refine r_iconst 2 rfl ?_
        refine r_iload_n rfl ?_
        refine r_iconst 1 rfl ?_
        refine q_iadd (a1.toInt + 1) rfl (by omega) (fun v485 hv485 => ?_)
        have zv486 : (2 : Int32).toInt = 2 := rfl
        refine r_callV 30 rfl [.ref 176, .int 2, .int v485] [] (Nat.le_of_ble_eq_true rfl) rfl (IHJ _ (by omega) hI478 2 (by decide) v485 (by omega) (by omega)) ?_
        rintro _ _ ⟨g487, rfl, hI488, hF489, rfl⟩
        refine At.stn ?_
        have hF492 := Fr.tr hF482 hF489 rfl rfl
        refine At.enter rfl ?_
        refine r_aload_n rfl ?_
        refine r_bipush 93 rfl ?_
        refine r_callV 36 rfl [.ref 176, .int 93] [] (Nat.le_of_ble_eq_true rfl) rfl (T_X5_expect_176 _ hI488 93) ?_
        rintro _ _ ⟨g493, rfl, hI494, hF495, rfl⟩
        refine At.stn ?_
        have hF498 := Fr.tr hF492 hF495 rfl rfl
        refine At.enter rfl ?_
        refine r_vret ?_
        exact ⟨_, rfl, hI494, hF498, rfl⟩
    · have c476_ : a1.toInt ≥ 8 := en_i_lt_f c476
      refine At.enter rfl ?_
      refine r_aload_n rfl ?_
      refine q_inlV 10 rfl [.ref 176] [] (Nat.le_of_ble_eq_true rfl) rfl ?_
      refine Ev.mk rfl rfl ⟨Nat.le_of_ble_eq_true rfl, Or.inr (q_rc hI348.1 kx_176 rfl)⟩ ?_
      show At _ none _ _ (0, [(0, .ref 176)], [], (_, _)) _
      refine At.enter rfl ?_
      refine r_aload_n rfl ?_
      obtain ⟨v499, hv499⟩ : ∃ v, gI g0 176 2 = v := ⟨_, rfl⟩
      refine q_getI (Sh.int hI348.1 kx_176 rfl) v499 ((hF349.1 176 2 (by decide)).trans hv499) ?_
      refine r_iconst (-1) rfl ?_
      refine r_ics 8 rfl (fun c500 => ?_) (fun c500 => ?_)
      · have c500_ : v499.toInt ≠ (-1) := en_i_ne_t c500
        refine At.enter rfl ?_
        refine q_vret ?_
        refine At.enter rfl ?_
        refine r_goto ?_
        refine At.enter rfl ?_
        refine q_vret ?_
        refine At.enter rfl ?_
        refine r_aload_n rfl ?_
        refine q_getI (Sh.int hI348.1 kx_176 rfl) v499 ((hF349.1 176 2 (by decide)).trans hv499) ?_
        refine r_iconst (-1) rfl ?_
        refine r_ics 22 rfl (fun c501 => ?_) (fun c501 => ?_)
        · have c501_ : v499.toInt ≠ (-1) := en_i_ne_t c501
          refine At.enter rfl ?_
          refine r_vret ?_
          exact ⟨_, rfl, hI348, hF352, rfl⟩
        · have c501_ : v499.toInt = (-1) := en_i_ne_f c501
          refine At.enter rfl ?_
          refine r_aload_n rfl ?_
          refine r_iconst 2 rfl ?_
          refine r_iload_n rfl ?_
          refine r_iconst 1 rfl ?_
          refine q_iadd (a1.toInt + 1) rfl (by omega) (fun v502 hv502 => ?_)
          have zv503 : (2 : Int32).toInt = 2 := rfl
          refine r_callV 30 rfl [.ref 176, .int 2, .int v502] [] (Nat.le_of_ble_eq_true rfl) rfl (IHJ _ (by omega) hI348 2 (by decide) v502 (by omega) (by omega)) ?_
          rintro _ _ ⟨g504, rfl, hI505, hF506, rfl⟩
          refine At.stn ?_
          have hF509 := Fr.tr hF352 hF506 rfl rfl
          refine At.enter rfl ?_
          refine r_aload_n rfl ?_
          refine r_bipush 93 rfl ?_
          refine r_callV 36 rfl [.ref 176, .int 93] [] (Nat.le_of_ble_eq_true rfl) rfl (T_X5_expect_176 _ hI505 93) ?_
          rintro _ _ ⟨g510, rfl, hI511, hF512, rfl⟩
          refine At.stn ?_
          have hF515 := Fr.tr hF509 hF512 rfl rfl
          refine At.enter rfl ?_
          refine r_vret ?_
          exact ⟨_, rfl, hI511, hF515, rfl⟩
      · have c500_ : v499.toInt = (-1) := en_i_ne_f c500
        refine At.enter rfl ?_
        refine r_aload_n rfl ?_
        refine r_aload_n rfl ?_
        obtain ⟨v516, hv516⟩ : ∃ v, gI g0 176 4 = v := ⟨_, rfl⟩
        have rv516 := RgF.at hI0.2.1 (p := 176) (b := 4) rfl
        rw [hv516] at rv516
        dsimp only at rv516
        refine q_getI (Sh.int hI348.1 kx_176 rfl) v516 ((hF349.1 176 4 (by decide)).trans hv516) ?_
        refine q_putI (Sh.int hI348.1 kx_176 rfl) rfl ?_
        have hI517 := HI.wI0 hI348 kx_176 rfl (p := 176) (b := 2) (v := v516) rfl
        have hF518 := Fr.wI (p := 176) (b := 2) (v := v516) hF352 rfl
        refine Ar.fall 16 rfl ?_
        refine At.enter rfl ?_
        refine q_vret ?_
        refine At.enter rfl ?_
        refine r_goto ?_
        refine At.enter rfl ?_
        refine q_vret ?_
        refine At.enter rfl ?_
        refine r_aload_n rfl ?_
        refine q_getI (Sh.int hI517.1 kx_176 rfl) v516 (gI_sI_eq hI348.1 kx_176 rfl _) ?_
        refine r_iconst (-1) rfl ?_
        refine r_ics 22 rfl (fun c519 => ?_) (fun c519 => ?_)
        · have c519_ : v516.toInt ≠ (-1) := en_i_ne_t c519
          refine At.enter rfl ?_
          refine r_vret ?_
          exact ⟨_, rfl, hI517, hF518, rfl⟩
        · have c519_ : v516.toInt = (-1) := en_i_ne_f c519
          exfalso; omega

theorem Q_all : ∀ n, QJ n ∧ QP n ∧ QT n := by
  intro n
  induction n with
  | zero => exact ⟨fun e he N g0 hI a1 h1 a2 h2 hm => absurd hm (by omega), fun e he N g0 hI a1 h1 hm => absurd hm (by omega), fun e he N g0 hI a1 h1 hm => absurd hm (by omega)⟩
  | succ n ih => exact ⟨S_X5_readJoined_176 n ih.1 ih.2.1 ih.2.2, S_X5_readPlain_176 n ih.1 ih.2.1 ih.2.2, S_X5_readPart_176 n ih.1 ih.2.1 ih.2.2⟩
theorem T_X5_readJoined_176 (d : Nat) {N : Nat} {g0 : List en_E} (hI0 : HI g0) (a1 : Int32) (h_a1 : 0 ≤ a1.toInt ∧ a1.toInt ≤ 3) (a2 : Int32) (h_a2 : 0 ≤ a2.toInt ∧ a2.toInt ≤ 8) : Ev (d + 420) 65 [.ref 176, .int a1, .int a2] (g0, N) (fun w h' => ∃ g', h' = (g', N) ∧ HI g' ∧ Fr F_rd A_rd g0 g' ∧ w = none) :=
  (Q_all 100).1 (d + 420) (by omega) hI0 a1 h_a1 a2 h_a2 (by omega)

def F_X5_readClause_176 : List (Nat × Nat) := [(176, 2), (176, 3), (176, 4), (176, 5), (176, 6), (177, 0), (177, 3), (177, 4)]
def A_X5_readClause_176 : List Nat := [178, 179, 180, 181, 182, 183]
set_option maxRecDepth 100000 in
set_option maxHeartbeats 4000000 in
theorem T_X5_readClause_176 (d : Nat) {N : Nat} {g0 : List en_E} (hI0 : HI g0) : Ev (d + 421) 64 [.ref 176] (g0, N) (fun w h' => ∃ g', h' = (g', N) ∧ HI g' ∧ Fr F_X5_readClause_176 A_X5_readClause_176 g0 g' ∧ w = none) := by
  have hF0 : Fr F_X5_readClause_176 A_X5_readClause_176 g0 g0 := Fr.rf
  refine Ev.mk rfl rfl ⟨Nat.le_of_ble_eq_true rfl, Or.inr (q_rc hI0.1 kx_176 rfl)⟩ ?_
  show At _ none _ _ (0, [(0, .ref 176)], [], (_, _)) _
  refine At.enter rfl ?_
  refine r_aload_n rfl ?_
  refine r_ldcS (by decide) 1 rfl ?_
  refine r_callV 6 rfl [.ref 176, .float 1] [] (Nat.le_of_ble_eq_true rfl) rfl (T_X5_isWord_176 _ hI0 1 (by decide)) ?_
  rintro _ _ ⟨g413, rfl, hI414, hF415, v416, rfl, hr417⟩
  refine At.sti ?_
  have hF418 := Fr.tr hF0 hF415 rfl rfl
  refine At.enter rfl ?_
  refine r_ifs 9 rfl (fun c419 => ?_) (fun c419 => ?_)
  · have c419_ : v416.toInt = 0 := en_k_eq_t c419
    refine At.enter rfl ?_
    refine r_aload_n rfl ?_
    refine r_ldcS (by decide) 2 rfl ?_
    refine r_callV 19 rfl [.ref 176, .float 2] [] (Nat.le_of_ble_eq_true rfl) rfl (T_X5_isWord_176 _ hI414 2 (by decide)) ?_
    rintro _ _ ⟨g420, rfl, hI421, hF422, v423, rfl, hr424⟩
    refine At.sti ?_
    have hF425 := Fr.tr hF418 hF422 rfl rfl
    refine At.enter rfl ?_
    refine r_ifs 22 rfl (fun c426 => ?_) (fun c426 => ?_)
    · have c426_ : v423.toInt = 0 := en_k_eq_t c426
      refine At.enter rfl ?_
      refine r_aload_n rfl ?_
      refine r_ldcS (by decide) 3 rfl ?_
      refine r_callV 32 rfl [.ref 176, .float 3] [] (Nat.le_of_ble_eq_true rfl) rfl (T_X5_isWord_176 _ hI421 3 (by decide)) ?_
      rintro _ _ ⟨g427, rfl, hI428, hF429, v430, rfl, hr431⟩
      refine At.sti ?_
      have hF432 := Fr.tr hF425 hF429 rfl rfl
      refine At.enter rfl ?_
      refine r_ifs 35 rfl (fun c433 => ?_) (fun c433 => ?_)
      · have c433_ : v430.toInt = 0 := en_k_eq_t c433
        refine At.enter rfl ?_
        refine r_iconst (-1) rfl ?_
        refine Ar.fall 40 rfl ?_
        refine At.enter rfl ?_
        refine r_istore_n ([(1, .int (-1)), (0, .ref 176)]) rfl ?_
        refine r_aload_n rfl ?_
        refine q_getR (Sh.ref hI428.1 kx_176 rfl) ?_
        obtain ⟨v434, hv434⟩ : ∃ v, gI g0 177 3 = v := ⟨_, rfl⟩
        have rv434 := RgF.at hI0.2.1 (p := 177) (b := 3) rfl
        rw [hv434] at rv434
        dsimp only at rv434
        refine q_getI (Sh.int hI428.1 kx_177 rfl) v434 (((hF429.1 177 3 (by decide)).trans ((hF422.1 177 3 (by decide)).trans (hF415.1 177 3 (by decide)))).trans hv434) ?_
        refine r_istore_n ([(2, .int v434), (1, .int (-1)), (0, .ref 176)]) rfl ?_
        refine r_iload_n rfl ?_
        refine r_iconst (-1) rfl ?_
        refine r_ict (by decide) ?_
        refine At.enter rfl ?_
        refine r_aload_n rfl ?_
        refine q_inlV 64 rfl [.ref 176] [] (Nat.le_of_ble_eq_true rfl) rfl ?_
        refine Ev.mk rfl rfl ⟨Nat.le_of_ble_eq_true rfl, Or.inr (q_rc hI428.1 kx_176 rfl)⟩ ?_
        show At _ none _ _ (0, [(0, .ref 176)], [], (_, _)) _
        refine At.enter rfl ?_
        refine r_aload_n rfl ?_
        obtain ⟨v435, hv435⟩ : ∃ v, gI g0 176 2 = v := ⟨_, rfl⟩
        refine q_getI (Sh.int hI428.1 kx_176 rfl) v435 (((hF429.1 176 2 (by decide)).trans ((hF422.1 176 2 (by decide)).trans (hF415.1 176 2 (by decide)))).trans hv435) ?_
        refine r_iconst (-1) rfl ?_
        refine r_ics 8 rfl (fun c436 => ?_) (fun c436 => ?_)
        · have c436_ : v435.toInt ≠ (-1) := en_i_ne_t c436
          refine At.enter rfl ?_
          refine q_vret ?_
          refine At.enter rfl ?_
          refine r_vret ?_
          exact ⟨_, rfl, hI428, hF432, rfl⟩
        · have c436_ : v435.toInt = (-1) := en_i_ne_f c436
          refine At.enter rfl ?_
          refine r_aload_n rfl ?_
          refine r_aload_n rfl ?_
          obtain ⟨v437, hv437⟩ : ∃ v, gI g0 176 4 = v := ⟨_, rfl⟩
          have rv437 := RgF.at hI0.2.1 (p := 176) (b := 4) rfl
          rw [hv437] at rv437
          dsimp only at rv437
          refine q_getI (Sh.int hI428.1 kx_176 rfl) v437 (((hF429.1 176 4 (by decide)).trans ((hF422.1 176 4 (by decide)).trans (hF415.1 176 4 (by decide)))).trans hv437) ?_
          refine q_putI (Sh.int hI428.1 kx_176 rfl) rfl ?_
          have hI438 := HI.wI0 hI428 kx_176 rfl (p := 176) (b := 2) (v := v437) rfl
          have hF439 := Fr.wI (p := 176) (b := 2) (v := v437) hF432 rfl
          refine Ar.fall 16 rfl ?_
          refine At.enter rfl ?_
          refine q_vret ?_
          refine At.enter rfl ?_
          refine r_vret ?_
          exact ⟨_, rfl, hI438, hF439, rfl⟩
      · have c433_ : v430.toInt ≠ 0 := en_k_eq_f c433
        refine At.enter rfl ?_
        refine r_iconst 2 rfl ?_
        refine r_goto ?_
        refine At.enter rfl ?_
        refine r_istore_n ([(1, .int 2), (0, .ref 176)]) rfl ?_
        refine r_aload_n rfl ?_
        refine q_getR (Sh.ref hI428.1 kx_176 rfl) ?_
        obtain ⟨v440, hv440⟩ : ∃ v, gI g0 177 3 = v := ⟨_, rfl⟩
        have rv440 := RgF.at hI0.2.1 (p := 177) (b := 3) rfl
        rw [hv440] at rv440
        dsimp only at rv440
        refine q_getI (Sh.int hI428.1 kx_177 rfl) v440 (((hF429.1 177 3 (by decide)).trans ((hF422.1 177 3 (by decide)).trans (hF415.1 177 3 (by decide)))).trans hv440) ?_
        refine r_istore_n ([(2, .int v440), (1, .int 2), (0, .ref 176)]) rfl ?_
        refine r_iload_n rfl ?_
        refine r_iconst (-1) rfl ?_
        refine r_icf 54 rfl (by decide) ?_
        refine At.enter rfl ?_
        refine r_iload_n rfl ?_
        refine r_bipush 12 rfl ?_
        refine r_ics 60 rfl (fun c441 => ?_) (fun c441 => ?_)
        · have c441_ : v440.toInt < 12 := en_i_lt_t c441
          refine At.enter rfl ?_
          refine r_aload_n rfl ?_
          refine r_callV 69 rfl [.ref 176] [] (Nat.le_of_ble_eq_true rfl) rfl (T_X5_step_176 _ hI428) ?_
          rintro _ _ ⟨g442, rfl, hI443, hF444, rfl⟩
          refine At.stn ?_
          have hF447 := Fr.tr hF432 hF444 rfl rfl
          refine At.enter rfl ?_
          refine r_aload_n rfl ?_
          refine q_getR (Sh.ref hI443.1 kx_176 rfl) ?_
          refine r_iload_n rfl ?_
          refine r_iconst 1 rfl ?_
          refine q_iadd (v440.toInt + 1) rfl (by omega) (fun v448 hv448 => ?_)
          refine q_putI (Sh.int hI443.1 kx_177 rfl) rfl ?_
          have hI449 := HI.wI1 hI443 kx_177 rfl (p := 177) (b := 3) (v := v448) rfl (by dsimp only; omega)
          have hF450 := Fr.wI (p := 177) (b := 3) (v := v448) hF447 rfl
          refine r_aload_n rfl ?_
          refine q_getR (Sh.ref hI449.1 kx_176 rfl) ?_
          refine q_getR (Sh.ref hI449.1 kx_177 rfl) ?_
          refine r_iload_n rfl ?_
          refine r_iload_n rfl ?_
          refine q_iast (Sh.arr hI449.1 ka_180) (v440.toInt) rfl (by omega) ?_
          have hI451 := HI.wA0 hI449 ka_180 (p := 180) rfl rfl (v440.toInt) (2)
          have hF452 := Fr.wA (p := 180) (j := v440.toInt) (v := 2) hF450 rfl
          refine r_aload_n rfl ?_
          refine q_getR (Sh.ref hI451.1 kx_176 rfl) ?_
          refine r_dup rfl ?_
          obtain ⟨v453, hv453⟩ : ∃ v, gI g0 177 4 = v := ⟨_, rfl⟩
          refine q_getI (Sh.int hI451.1 kx_177 rfl) v453 (((gI_sW).trans ((gI_sI_ne (by decide)).trans ((hF444.1 177 4 (by decide)).trans ((hF429.1 177 4 (by decide)).trans ((hF422.1 177 4 (by decide)).trans (hF415.1 177 4 (by decide))))))).trans hv453) ?_
          refine r_iconst 1 rfl ?_
          refine r_iload_n rfl ?_
          refine r_ishl 4 (by decide) ?_
          refine q_iorO (fun v454 hv454 => ?_)
          refine q_putI (Sh.int hI451.1 kx_177 rfl) rfl ?_
          have hI455 := HI.wI0 hI451 kx_177 rfl (p := 177) (b := 4) (v := v454) rfl
          have hF456 := Fr.wI (p := 177) (b := 4) (v := v454) hF452 rfl
          refine r_aload_n rfl ?_
          refine q_getR (Sh.ref hI455.1 kx_176 rfl) ?_
          refine q_getR (Sh.ref hI455.1 kx_177 rfl) ?_
          refine r_iload_n rfl ?_
          refine r_aload_n rfl ?_
          refine q_getR (Sh.ref hI455.1 kx_176 rfl) ?_
          obtain ⟨v457, hv457⟩ : ∃ v, gI g0 177 0 = v := ⟨_, rfl⟩
          have rv457 := RgF.at hI0.2.1 (p := 177) (b := 0) rfl
          rw [hv457] at rv457
          dsimp only at rv457
          refine q_getI (Sh.int hI455.1 kx_177 rfl) v457 (((gI_sI_ne (by decide)).trans ((gI_sW).trans ((gI_sI_ne (by decide)).trans ((hF444.1 177 0 (by decide)).trans ((hF429.1 177 0 (by decide)).trans ((hF422.1 177 0 (by decide)).trans (hF415.1 177 0 (by decide)))))))).trans hv457) ?_
          refine q_iast (Sh.arr hI455.1 ka_181) (v440.toInt) rfl (by omega) ?_
          have hI458 := HI.wA0 hI455 ka_181 (p := 181) rfl rfl (v440.toInt) (v457)
          have hF459 := Fr.wA (p := 181) (j := v440.toInt) (v := v457) hF456 rfl
          refine r_iload_n rfl ?_
          refine r_iconst 2 rfl ?_
          refine r_ict (by decide) ?_
          refine At.enter rfl ?_
          refine r_aload_n rfl ?_
          refine q_getR (Sh.ref hI458.1 kx_176 rfl) ?_
          refine q_getR (Sh.ref hI458.1 kx_177 rfl) ?_
          refine r_iload_n rfl ?_
          refine r_aload_n rfl ?_
          refine q_getR (Sh.ref hI458.1 kx_176 rfl) ?_
          refine q_getI (Sh.int hI458.1 kx_177 rfl) v457 (((gI_sW).trans ((gI_sI_ne (by decide)).trans ((gI_sW).trans ((gI_sI_ne (by decide)).trans ((hF444.1 177 0 (by decide)).trans ((hF429.1 177 0 (by decide)).trans ((hF422.1 177 0 (by decide)).trans (hF415.1 177 0 (by decide))))))))).trans hv457) ?_
          refine q_iast (Sh.arr hI458.1 ka_182) (v440.toInt) rfl (by omega) ?_
          have hI460 := HI.wA0 hI458 ka_182 (p := 182) rfl rfl (v440.toInt) (v457)
          have hF461 := Fr.wA (p := 182) (j := v440.toInt) (v := v457) hF459 rfl
          refine r_aload_n rfl ?_
          obtain ⟨v462, hv462⟩ : ∃ v, gI g0 176 2 = v := ⟨_, rfl⟩
          refine q_getI (Sh.int hI460.1 kx_176 rfl) v462 (((gI_sW).trans ((gI_sW).trans ((gI_sI_ne (by decide)).trans ((gI_sW).trans ((gI_sI_ne (by decide)).trans ((hF444.1 176 2 (by decide)).trans ((hF429.1 176 2 (by decide)).trans ((hF422.1 176 2 (by decide)).trans (hF415.1 176 2 (by decide)))))))))).trans hv462) ?_
          refine r_iconst (-1) rfl ?_
          refine r_ics 155 rfl (fun c463 => ?_) (fun c463 => ?_)
          · have c463_ : v462.toInt ≠ (-1) := en_i_ne_t c463
            refine At.enter rfl ?_
            refine r_aload_n rfl ?_
            refine q_getR (Sh.ref hI460.1 kx_176 rfl) ?_
            refine q_getR (Sh.ref hI460.1 kx_177 rfl) ?_
            refine r_iload_n rfl ?_
            refine r_aload_n rfl ?_
            refine q_getR (Sh.ref hI460.1 kx_176 rfl) ?_
            refine q_getI (Sh.int hI460.1 kx_177 rfl) v457 (((gI_sW).trans ((gI_sW).trans ((gI_sI_ne (by decide)).trans ((gI_sW).trans ((gI_sI_ne (by decide)).trans ((hF444.1 177 0 (by decide)).trans ((hF429.1 177 0 (by decide)).trans ((hF422.1 177 0 (by decide)).trans (hF415.1 177 0 (by decide)))))))))).trans hv457) ?_
            refine q_iast (Sh.arr hI460.1 ka_183) (v440.toInt) rfl (by omega) ?_
            have hI464 := HI.wA0 hI460 ka_183 (p := 183) rfl rfl (v440.toInt) (v457)
            have hF465 := Fr.wA (p := 183) (j := v440.toInt) (v := v457) hF461 rfl
            refine r_vret ?_
            exact ⟨_, rfl, hI464, hF465, rfl⟩
          · have c463_ : v462.toInt = (-1) := en_i_ne_f c463
            refine At.enter rfl ?_
            refine r_aload_n rfl ?_
            refine r_ldcS (by decide) 17 rfl ?_
            refine r_callV 161 rfl [.ref 176, .float 17] [] (Nat.le_of_ble_eq_true rfl) rfl (T_X5_isWord_176 _ hI460 17 (by decide)) ?_
            rintro _ _ ⟨g466, rfl, hI467, hF468, v469, rfl, hr470⟩
            refine At.sti ?_
            have hF471 := Fr.tr hF461 hF468 rfl rfl
            refine At.enter rfl ?_
            refine r_ifs 164 rfl (fun c472 => ?_) (fun c472 => ?_)
            · have c472_ : v469.toInt = 0 := en_k_eq_t c472
              refine At.enter rfl ?_
              refine r_aload_n rfl ?_
              refine q_getR (Sh.ref hI467.1 kx_176 rfl) ?_
              refine q_getR (Sh.ref hI467.1 kx_177 rfl) ?_
              refine r_iload_n rfl ?_
              refine r_aload_n rfl ?_
              refine q_getR (Sh.ref hI467.1 kx_176 rfl) ?_
              refine q_getI (Sh.int hI467.1 kx_177 rfl) v457 (((hF468.1 177 0 (by decide)).trans ((gI_sW).trans ((gI_sW).trans ((gI_sI_ne (by decide)).trans ((gI_sW).trans ((gI_sI_ne (by decide)).trans ((hF444.1 177 0 (by decide)).trans ((hF429.1 177 0 (by decide)).trans ((hF422.1 177 0 (by decide)).trans (hF415.1 177 0 (by decide))))))))))).trans hv457) ?_
              refine q_iast (Sh.arr hI467.1 ka_183) (v440.toInt) rfl (by omega) ?_
              have hI473 := HI.wA0 hI467 ka_183 (p := 183) rfl rfl (v440.toInt) (v457)
              have hF474 := Fr.wA (p := 183) (j := v440.toInt) (v := v457) hF471 rfl
              refine r_vret ?_
              exact ⟨_, rfl, hI473, hF474, rfl⟩
            · have c472_ : v469.toInt ≠ 0 := en_k_eq_f c472
              refine At.enter rfl ?_
              refine r_aload_n rfl ?_
              refine r_callV 168 rfl [.ref 176] [] (Nat.le_of_ble_eq_true rfl) rfl (T_X5_step_176 _ hI467) ?_
              rintro _ _ ⟨g475, rfl, hI476, hF477, rfl⟩
              refine At.stn ?_
              have hF480 := Fr.tr hF471 hF477 rfl rfl
              refine At.enter rfl ?_
              refine r_aload_n rfl ?_
              refine r_iconst 0 rfl ?_
              refine r_iconst 0 rfl ?_
              refine r_callV 174 rfl [.ref 176, .int 0, .int 0] [] (Nat.le_of_ble_eq_true rfl) rfl (T_X5_readJoined_176 _ hI476 0 (by decide) 0 (by decide)) ?_
              rintro _ _ ⟨g481, rfl, hI482, hF483, rfl⟩
              refine At.stn ?_
              have hF486 := Fr.tr hF480 hF483 rfl rfl
              refine At.enter rfl ?_
              refine r_aload_n rfl ?_
              refine q_getR (Sh.ref hI482.1 kx_176 rfl) ?_
              refine q_getR (Sh.ref hI482.1 kx_177 rfl) ?_
              refine r_iload_n rfl ?_
              refine r_aload_n rfl ?_
              refine q_getR (Sh.ref hI482.1 kx_176 rfl) ?_
              obtain ⟨v487, hv487⟩ : ∃ v, gI g481 177 0 = v := ⟨_, rfl⟩
              have rv487 := RgF.at hI482.2.1 (p := 177) (b := 0) rfl
              rw [hv487] at rv487
              dsimp only at rv487
              refine q_getI (Sh.int hI482.1 kx_177 rfl) v487 hv487 ?_
              refine q_iast (Sh.arr hI482.1 ka_183) (v440.toInt) rfl (by omega) ?_
              have hI488 := HI.wA0 hI482 ka_183 (p := 183) rfl rfl (v440.toInt) (v487)
              have hF489 := Fr.wA (p := 183) (j := v440.toInt) (v := v487) hF486 rfl
              refine r_vret ?_
              exact ⟨_, rfl, hI488, hF489, rfl⟩
        · have c441_ : v440.toInt ≥ 12 := en_i_lt_f c441
          refine At.enter rfl ?_
          refine r_aload_n rfl ?_
          refine q_inlV 64 rfl [.ref 176] [] (Nat.le_of_ble_eq_true rfl) rfl ?_
          refine Ev.mk rfl rfl ⟨Nat.le_of_ble_eq_true rfl, Or.inr (q_rc hI428.1 kx_176 rfl)⟩ ?_
          show At _ none _ _ (0, [(0, .ref 176)], [], (_, _)) _
          refine At.enter rfl ?_
          refine r_aload_n rfl ?_
          obtain ⟨v490, hv490⟩ : ∃ v, gI g0 176 2 = v := ⟨_, rfl⟩
          refine q_getI (Sh.int hI428.1 kx_176 rfl) v490 (((hF429.1 176 2 (by decide)).trans ((hF422.1 176 2 (by decide)).trans (hF415.1 176 2 (by decide)))).trans hv490) ?_
          refine r_iconst (-1) rfl ?_
          refine r_ics 8 rfl (fun c491 => ?_) (fun c491 => ?_)
          · have c491_ : v490.toInt ≠ (-1) := en_i_ne_t c491
            refine At.enter rfl ?_
            refine q_vret ?_
            refine At.enter rfl ?_
            refine r_vret ?_
            exact ⟨_, rfl, hI428, hF432, rfl⟩
          · have c491_ : v490.toInt = (-1) := en_i_ne_f c491
            refine At.enter rfl ?_
            refine r_aload_n rfl ?_
            refine r_aload_n rfl ?_
            obtain ⟨v492, hv492⟩ : ∃ v, gI g0 176 4 = v := ⟨_, rfl⟩
            have rv492 := RgF.at hI0.2.1 (p := 176) (b := 4) rfl
            rw [hv492] at rv492
            dsimp only at rv492
            refine q_getI (Sh.int hI428.1 kx_176 rfl) v492 (((hF429.1 176 4 (by decide)).trans ((hF422.1 176 4 (by decide)).trans (hF415.1 176 4 (by decide)))).trans hv492) ?_
            refine q_putI (Sh.int hI428.1 kx_176 rfl) rfl ?_
            have hI493 := HI.wI0 hI428 kx_176 rfl (p := 176) (b := 2) (v := v492) rfl
            have hF494 := Fr.wI (p := 176) (b := 2) (v := v492) hF432 rfl
            refine Ar.fall 16 rfl ?_
            refine At.enter rfl ?_
            refine q_vret ?_
            refine At.enter rfl ?_
            refine r_vret ?_
            exact ⟨_, rfl, hI493, hF494, rfl⟩
    · have c426_ : v423.toInt ≠ 0 := en_k_eq_f c426
      refine At.enter rfl ?_
      refine r_iconst 1 rfl ?_
      refine r_goto ?_
      refine At.enter rfl ?_
      refine r_istore_n ([(1, .int 1), (0, .ref 176)]) rfl ?_
      refine r_aload_n rfl ?_
      refine q_getR (Sh.ref hI421.1 kx_176 rfl) ?_
      obtain ⟨v495, hv495⟩ : ∃ v, gI g0 177 3 = v := ⟨_, rfl⟩
      have rv495 := RgF.at hI0.2.1 (p := 177) (b := 3) rfl
      rw [hv495] at rv495
      dsimp only at rv495
      refine q_getI (Sh.int hI421.1 kx_177 rfl) v495 (((hF422.1 177 3 (by decide)).trans (hF415.1 177 3 (by decide))).trans hv495) ?_
      refine r_istore_n ([(2, .int v495), (1, .int 1), (0, .ref 176)]) rfl ?_
      refine r_iload_n rfl ?_
      refine r_iconst (-1) rfl ?_
      refine r_icf 54 rfl (by decide) ?_
      refine At.enter rfl ?_
      refine r_iload_n rfl ?_
      refine r_bipush 12 rfl ?_
      refine r_ics 60 rfl (fun c496 => ?_) (fun c496 => ?_)
      · have c496_ : v495.toInt < 12 := en_i_lt_t c496
        refine At.enter rfl ?_
        refine r_aload_n rfl ?_
        refine r_callV 69 rfl [.ref 176] [] (Nat.le_of_ble_eq_true rfl) rfl (T_X5_step_176 _ hI421) ?_
        rintro _ _ ⟨g497, rfl, hI498, hF499, rfl⟩
        refine At.stn ?_
        have hF502 := Fr.tr hF425 hF499 rfl rfl
        refine At.enter rfl ?_
        refine r_aload_n rfl ?_
        refine q_getR (Sh.ref hI498.1 kx_176 rfl) ?_
        refine r_iload_n rfl ?_
        refine r_iconst 1 rfl ?_
        refine q_iadd (v495.toInt + 1) rfl (by omega) (fun v503 hv503 => ?_)
        refine q_putI (Sh.int hI498.1 kx_177 rfl) rfl ?_
        have hI504 := HI.wI1 hI498 kx_177 rfl (p := 177) (b := 3) (v := v503) rfl (by dsimp only; omega)
        have hF505 := Fr.wI (p := 177) (b := 3) (v := v503) hF502 rfl
        refine r_aload_n rfl ?_
        refine q_getR (Sh.ref hI504.1 kx_176 rfl) ?_
        refine q_getR (Sh.ref hI504.1 kx_177 rfl) ?_
        refine r_iload_n rfl ?_
        refine r_iload_n rfl ?_
        refine q_iast (Sh.arr hI504.1 ka_180) (v495.toInt) rfl (by omega) ?_
        have hI506 := HI.wA0 hI504 ka_180 (p := 180) rfl rfl (v495.toInt) (1)
        have hF507 := Fr.wA (p := 180) (j := v495.toInt) (v := 1) hF505 rfl
        refine r_aload_n rfl ?_
        refine q_getR (Sh.ref hI506.1 kx_176 rfl) ?_
        refine r_dup rfl ?_
        obtain ⟨v508, hv508⟩ : ∃ v, gI g0 177 4 = v := ⟨_, rfl⟩
        refine q_getI (Sh.int hI506.1 kx_177 rfl) v508 (((gI_sW).trans ((gI_sI_ne (by decide)).trans ((hF499.1 177 4 (by decide)).trans ((hF422.1 177 4 (by decide)).trans (hF415.1 177 4 (by decide)))))).trans hv508) ?_
        refine r_iconst 1 rfl ?_
        refine r_iload_n rfl ?_
        refine r_ishl 2 (by decide) ?_
        refine q_iorO (fun v509 hv509 => ?_)
        refine q_putI (Sh.int hI506.1 kx_177 rfl) rfl ?_
        have hI510 := HI.wI0 hI506 kx_177 rfl (p := 177) (b := 4) (v := v509) rfl
        have hF511 := Fr.wI (p := 177) (b := 4) (v := v509) hF507 rfl
        refine r_aload_n rfl ?_
        refine q_getR (Sh.ref hI510.1 kx_176 rfl) ?_
        refine q_getR (Sh.ref hI510.1 kx_177 rfl) ?_
        refine r_iload_n rfl ?_
        refine r_aload_n rfl ?_
        refine q_getR (Sh.ref hI510.1 kx_176 rfl) ?_
        obtain ⟨v512, hv512⟩ : ∃ v, gI g0 177 0 = v := ⟨_, rfl⟩
        have rv512 := RgF.at hI0.2.1 (p := 177) (b := 0) rfl
        rw [hv512] at rv512
        dsimp only at rv512
        refine q_getI (Sh.int hI510.1 kx_177 rfl) v512 (((gI_sI_ne (by decide)).trans ((gI_sW).trans ((gI_sI_ne (by decide)).trans ((hF499.1 177 0 (by decide)).trans ((hF422.1 177 0 (by decide)).trans (hF415.1 177 0 (by decide))))))).trans hv512) ?_
        refine q_iast (Sh.arr hI510.1 ka_181) (v495.toInt) rfl (by omega) ?_
        have hI513 := HI.wA0 hI510 ka_181 (p := 181) rfl rfl (v495.toInt) (v512)
        have hF514 := Fr.wA (p := 181) (j := v495.toInt) (v := v512) hF511 rfl
        refine r_iload_n rfl ?_
        refine r_iconst 2 rfl ?_
        refine r_icf 125 rfl (by decide) ?_
        refine At.enter rfl ?_
        refine r_aload_n rfl ?_
        refine r_iconst 2 rfl ?_
        refine r_iconst 0 rfl ?_
        refine r_callV 131 rfl [.ref 176, .int 2, .int 0] [] (Nat.le_of_ble_eq_true rfl) rfl (T_X5_readJoined_176 _ hI513 2 (by decide) 0 (by decide)) ?_
        rintro _ _ ⟨g515, rfl, hI516, hF517, rfl⟩
        refine At.stn ?_
        have hF520 := Fr.tr hF514 hF517 rfl rfl
        refine At.enter rfl ?_
        refine r_aload_n rfl ?_
        refine q_getR (Sh.ref hI516.1 kx_176 rfl) ?_
        refine q_getR (Sh.ref hI516.1 kx_177 rfl) ?_
        refine r_iload_n rfl ?_
        refine r_aload_n rfl ?_
        refine q_getR (Sh.ref hI516.1 kx_176 rfl) ?_
        obtain ⟨v521, hv521⟩ : ∃ v, gI g515 177 0 = v := ⟨_, rfl⟩
        have rv521 := RgF.at hI516.2.1 (p := 177) (b := 0) rfl
        rw [hv521] at rv521
        dsimp only at rv521
        refine q_getI (Sh.int hI516.1 kx_177 rfl) v521 hv521 ?_
        refine q_iast (Sh.arr hI516.1 ka_182) (v495.toInt) rfl (by omega) ?_
        have hI522 := HI.wA0 hI516 ka_182 (p := 182) rfl rfl (v495.toInt) (v521)
        have hF523 := Fr.wA (p := 182) (j := v495.toInt) (v := v521) hF520 rfl
        refine r_aload_n rfl ?_
        obtain ⟨v524, hv524⟩ : ∃ v, gI g515 176 2 = v := ⟨_, rfl⟩
        refine q_getI (Sh.int hI522.1 kx_176 rfl) v524 ((gI_sW).trans hv524) ?_
        refine r_iconst (-1) rfl ?_
        refine r_ics 155 rfl (fun c525 => ?_) (fun c525 => ?_)
        · have c525_ : v524.toInt ≠ (-1) := en_i_ne_t c525
          refine At.enter rfl ?_
          refine r_aload_n rfl ?_
          refine q_getR (Sh.ref hI522.1 kx_176 rfl) ?_
          refine q_getR (Sh.ref hI522.1 kx_177 rfl) ?_
          refine r_iload_n rfl ?_
          refine r_aload_n rfl ?_
          refine q_getR (Sh.ref hI522.1 kx_176 rfl) ?_
          refine q_getI (Sh.int hI522.1 kx_177 rfl) v521 ((gI_sW).trans hv521) ?_
          refine q_iast (Sh.arr hI522.1 ka_183) (v495.toInt) rfl (by omega) ?_
          have hI526 := HI.wA0 hI522 ka_183 (p := 183) rfl rfl (v495.toInt) (v521)
          have hF527 := Fr.wA (p := 183) (j := v495.toInt) (v := v521) hF523 rfl
          refine r_vret ?_
          exact ⟨_, rfl, hI526, hF527, rfl⟩
        · have c525_ : v524.toInt = (-1) := en_i_ne_f c525
          refine At.enter rfl ?_
          refine r_aload_n rfl ?_
          refine r_ldcS (by decide) 17 rfl ?_
          refine r_callV 161 rfl [.ref 176, .float 17] [] (Nat.le_of_ble_eq_true rfl) rfl (T_X5_isWord_176 _ hI522 17 (by decide)) ?_
          rintro _ _ ⟨g528, rfl, hI529, hF530, v531, rfl, hr532⟩
          refine At.sti ?_
          have hF533 := Fr.tr hF523 hF530 rfl rfl
          refine At.enter rfl ?_
          refine r_ifs 164 rfl (fun c534 => ?_) (fun c534 => ?_)
          · have c534_ : v531.toInt = 0 := en_k_eq_t c534
            refine At.enter rfl ?_
            refine r_aload_n rfl ?_
            refine q_getR (Sh.ref hI529.1 kx_176 rfl) ?_
            refine q_getR (Sh.ref hI529.1 kx_177 rfl) ?_
            refine r_iload_n rfl ?_
            refine r_aload_n rfl ?_
            refine q_getR (Sh.ref hI529.1 kx_176 rfl) ?_
            refine q_getI (Sh.int hI529.1 kx_177 rfl) v521 (((hF530.1 177 0 (by decide)).trans (gI_sW)).trans hv521) ?_
            refine q_iast (Sh.arr hI529.1 ka_183) (v495.toInt) rfl (by omega) ?_
            have hI535 := HI.wA0 hI529 ka_183 (p := 183) rfl rfl (v495.toInt) (v521)
            have hF536 := Fr.wA (p := 183) (j := v495.toInt) (v := v521) hF533 rfl
            refine r_vret ?_
            exact ⟨_, rfl, hI535, hF536, rfl⟩
          · have c534_ : v531.toInt ≠ 0 := en_k_eq_f c534
            refine At.enter rfl ?_
            refine r_aload_n rfl ?_
            refine r_callV 168 rfl [.ref 176] [] (Nat.le_of_ble_eq_true rfl) rfl (T_X5_step_176 _ hI529) ?_
            rintro _ _ ⟨g537, rfl, hI538, hF539, rfl⟩
            refine At.stn ?_
            have hF542 := Fr.tr hF533 hF539 rfl rfl
            refine At.enter rfl ?_
            refine r_aload_n rfl ?_
            refine r_iconst 0 rfl ?_
            refine r_iconst 0 rfl ?_
            refine r_callV 174 rfl [.ref 176, .int 0, .int 0] [] (Nat.le_of_ble_eq_true rfl) rfl (T_X5_readJoined_176 _ hI538 0 (by decide) 0 (by decide)) ?_
            rintro _ _ ⟨g543, rfl, hI544, hF545, rfl⟩
            refine At.stn ?_
            have hF548 := Fr.tr hF542 hF545 rfl rfl
            refine At.enter rfl ?_
            refine r_aload_n rfl ?_
            refine q_getR (Sh.ref hI544.1 kx_176 rfl) ?_
            refine q_getR (Sh.ref hI544.1 kx_177 rfl) ?_
            refine r_iload_n rfl ?_
            refine r_aload_n rfl ?_
            refine q_getR (Sh.ref hI544.1 kx_176 rfl) ?_
            obtain ⟨v549, hv549⟩ : ∃ v, gI g543 177 0 = v := ⟨_, rfl⟩
            have rv549 := RgF.at hI544.2.1 (p := 177) (b := 0) rfl
            rw [hv549] at rv549
            dsimp only at rv549
            refine q_getI (Sh.int hI544.1 kx_177 rfl) v549 hv549 ?_
            refine q_iast (Sh.arr hI544.1 ka_183) (v495.toInt) rfl (by omega) ?_
            have hI550 := HI.wA0 hI544 ka_183 (p := 183) rfl rfl (v495.toInt) (v549)
            have hF551 := Fr.wA (p := 183) (j := v495.toInt) (v := v549) hF548 rfl
            refine r_vret ?_
            exact ⟨_, rfl, hI550, hF551, rfl⟩
      · have c496_ : v495.toInt ≥ 12 := en_i_lt_f c496
        refine At.enter rfl ?_
        refine r_aload_n rfl ?_
        refine q_inlV 64 rfl [.ref 176] [] (Nat.le_of_ble_eq_true rfl) rfl ?_
        refine Ev.mk rfl rfl ⟨Nat.le_of_ble_eq_true rfl, Or.inr (q_rc hI421.1 kx_176 rfl)⟩ ?_
        show At _ none _ _ (0, [(0, .ref 176)], [], (_, _)) _
        refine At.enter rfl ?_
        refine r_aload_n rfl ?_
        obtain ⟨v552, hv552⟩ : ∃ v, gI g0 176 2 = v := ⟨_, rfl⟩
        refine q_getI (Sh.int hI421.1 kx_176 rfl) v552 (((hF422.1 176 2 (by decide)).trans (hF415.1 176 2 (by decide))).trans hv552) ?_
        refine r_iconst (-1) rfl ?_
        refine r_ics 8 rfl (fun c553 => ?_) (fun c553 => ?_)
        · have c553_ : v552.toInt ≠ (-1) := en_i_ne_t c553
          refine At.enter rfl ?_
          refine q_vret ?_
          refine At.enter rfl ?_
          refine r_vret ?_
          exact ⟨_, rfl, hI421, hF425, rfl⟩
        · have c553_ : v552.toInt = (-1) := en_i_ne_f c553
          refine At.enter rfl ?_
          refine r_aload_n rfl ?_
          refine r_aload_n rfl ?_
          obtain ⟨v554, hv554⟩ : ∃ v, gI g0 176 4 = v := ⟨_, rfl⟩
          have rv554 := RgF.at hI0.2.1 (p := 176) (b := 4) rfl
          rw [hv554] at rv554
          dsimp only at rv554
          refine q_getI (Sh.int hI421.1 kx_176 rfl) v554 (((hF422.1 176 4 (by decide)).trans (hF415.1 176 4 (by decide))).trans hv554) ?_
          refine q_putI (Sh.int hI421.1 kx_176 rfl) rfl ?_
          have hI555 := HI.wI0 hI421 kx_176 rfl (p := 176) (b := 2) (v := v554) rfl
          have hF556 := Fr.wI (p := 176) (b := 2) (v := v554) hF425 rfl
          refine Ar.fall 16 rfl ?_
          refine At.enter rfl ?_
          refine q_vret ?_
          refine At.enter rfl ?_
          refine r_vret ?_
          exact ⟨_, rfl, hI555, hF556, rfl⟩
  · have c419_ : v416.toInt ≠ 0 := en_k_eq_f c419
    refine At.enter rfl ?_
    refine r_iconst 0 rfl ?_
    refine r_goto ?_
    refine At.enter rfl ?_
    refine r_istore_n ([(1, .int 0), (0, .ref 176)]) rfl ?_
    refine r_aload_n rfl ?_
    refine q_getR (Sh.ref hI414.1 kx_176 rfl) ?_
    obtain ⟨v557, hv557⟩ : ∃ v, gI g0 177 3 = v := ⟨_, rfl⟩
    have rv557 := RgF.at hI0.2.1 (p := 177) (b := 3) rfl
    rw [hv557] at rv557
    dsimp only at rv557
    refine q_getI (Sh.int hI414.1 kx_177 rfl) v557 ((hF415.1 177 3 (by decide)).trans hv557) ?_
    refine r_istore_n ([(2, .int v557), (1, .int 0), (0, .ref 176)]) rfl ?_
    refine r_iload_n rfl ?_
    refine r_iconst (-1) rfl ?_
    refine r_icf 54 rfl (by decide) ?_
    refine At.enter rfl ?_
    refine r_iload_n rfl ?_
    refine r_bipush 12 rfl ?_
    refine r_ics 60 rfl (fun c558 => ?_) (fun c558 => ?_)
    · have c558_ : v557.toInt < 12 := en_i_lt_t c558
      refine At.enter rfl ?_
      refine r_aload_n rfl ?_
      refine r_callV 69 rfl [.ref 176] [] (Nat.le_of_ble_eq_true rfl) rfl (T_X5_step_176 _ hI414) ?_
      rintro _ _ ⟨g559, rfl, hI560, hF561, rfl⟩
      refine At.stn ?_
      have hF564 := Fr.tr hF418 hF561 rfl rfl
      refine At.enter rfl ?_
      refine r_aload_n rfl ?_
      refine q_getR (Sh.ref hI560.1 kx_176 rfl) ?_
      refine r_iload_n rfl ?_
      refine r_iconst 1 rfl ?_
      refine q_iadd (v557.toInt + 1) rfl (by omega) (fun v565 hv565 => ?_)
      refine q_putI (Sh.int hI560.1 kx_177 rfl) rfl ?_
      have hI566 := HI.wI1 hI560 kx_177 rfl (p := 177) (b := 3) (v := v565) rfl (by dsimp only; omega)
      have hF567 := Fr.wI (p := 177) (b := 3) (v := v565) hF564 rfl
      refine r_aload_n rfl ?_
      refine q_getR (Sh.ref hI566.1 kx_176 rfl) ?_
      refine q_getR (Sh.ref hI566.1 kx_177 rfl) ?_
      refine r_iload_n rfl ?_
      refine r_iload_n rfl ?_
      refine q_iast (Sh.arr hI566.1 ka_180) (v557.toInt) rfl (by omega) ?_
      have hI568 := HI.wA0 hI566 ka_180 (p := 180) rfl rfl (v557.toInt) (0)
      have hF569 := Fr.wA (p := 180) (j := v557.toInt) (v := 0) hF567 rfl
      refine r_aload_n rfl ?_
      refine q_getR (Sh.ref hI568.1 kx_176 rfl) ?_
      refine r_dup rfl ?_
      obtain ⟨v570, hv570⟩ : ∃ v, gI g0 177 4 = v := ⟨_, rfl⟩
      refine q_getI (Sh.int hI568.1 kx_177 rfl) v570 (((gI_sW).trans ((gI_sI_ne (by decide)).trans ((hF561.1 177 4 (by decide)).trans (hF415.1 177 4 (by decide))))).trans hv570) ?_
      refine r_iconst 1 rfl ?_
      refine r_iload_n rfl ?_
      refine r_ishl 1 (by decide) ?_
      refine q_iorO (fun v571 hv571 => ?_)
      refine q_putI (Sh.int hI568.1 kx_177 rfl) rfl ?_
      have hI572 := HI.wI0 hI568 kx_177 rfl (p := 177) (b := 4) (v := v571) rfl
      have hF573 := Fr.wI (p := 177) (b := 4) (v := v571) hF569 rfl
      refine r_aload_n rfl ?_
      refine q_getR (Sh.ref hI572.1 kx_176 rfl) ?_
      refine q_getR (Sh.ref hI572.1 kx_177 rfl) ?_
      refine r_iload_n rfl ?_
      refine r_aload_n rfl ?_
      refine q_getR (Sh.ref hI572.1 kx_176 rfl) ?_
      obtain ⟨v574, hv574⟩ : ∃ v, gI g0 177 0 = v := ⟨_, rfl⟩
      have rv574 := RgF.at hI0.2.1 (p := 177) (b := 0) rfl
      rw [hv574] at rv574
      dsimp only at rv574
      refine q_getI (Sh.int hI572.1 kx_177 rfl) v574 (((gI_sI_ne (by decide)).trans ((gI_sW).trans ((gI_sI_ne (by decide)).trans ((hF561.1 177 0 (by decide)).trans (hF415.1 177 0 (by decide)))))).trans hv574) ?_
      refine q_iast (Sh.arr hI572.1 ka_181) (v557.toInt) rfl (by omega) ?_
      have hI575 := HI.wA0 hI572 ka_181 (p := 181) rfl rfl (v557.toInt) (v574)
      have hF576 := Fr.wA (p := 181) (j := v557.toInt) (v := v574) hF573 rfl
      refine r_iload_n rfl ?_
      refine r_iconst 2 rfl ?_
      refine r_icf 125 rfl (by decide) ?_
      refine At.enter rfl ?_
      refine r_aload_n rfl ?_
      refine r_iconst 2 rfl ?_
      refine r_iconst 0 rfl ?_
      refine r_callV 131 rfl [.ref 176, .int 2, .int 0] [] (Nat.le_of_ble_eq_true rfl) rfl (T_X5_readJoined_176 _ hI575 2 (by decide) 0 (by decide)) ?_
      rintro _ _ ⟨g577, rfl, hI578, hF579, rfl⟩
      refine At.stn ?_
      have hF582 := Fr.tr hF576 hF579 rfl rfl
      refine At.enter rfl ?_
      refine r_aload_n rfl ?_
      refine q_getR (Sh.ref hI578.1 kx_176 rfl) ?_
      refine q_getR (Sh.ref hI578.1 kx_177 rfl) ?_
      refine r_iload_n rfl ?_
      refine r_aload_n rfl ?_
      refine q_getR (Sh.ref hI578.1 kx_176 rfl) ?_
      obtain ⟨v583, hv583⟩ : ∃ v, gI g577 177 0 = v := ⟨_, rfl⟩
      have rv583 := RgF.at hI578.2.1 (p := 177) (b := 0) rfl
      rw [hv583] at rv583
      dsimp only at rv583
      refine q_getI (Sh.int hI578.1 kx_177 rfl) v583 hv583 ?_
      refine q_iast (Sh.arr hI578.1 ka_182) (v557.toInt) rfl (by omega) ?_
      have hI584 := HI.wA0 hI578 ka_182 (p := 182) rfl rfl (v557.toInt) (v583)
      have hF585 := Fr.wA (p := 182) (j := v557.toInt) (v := v583) hF582 rfl
      refine r_aload_n rfl ?_
      obtain ⟨v586, hv586⟩ : ∃ v, gI g577 176 2 = v := ⟨_, rfl⟩
      refine q_getI (Sh.int hI584.1 kx_176 rfl) v586 ((gI_sW).trans hv586) ?_
      refine r_iconst (-1) rfl ?_
      refine r_ics 155 rfl (fun c587 => ?_) (fun c587 => ?_)
      · have c587_ : v586.toInt ≠ (-1) := en_i_ne_t c587
        refine At.enter rfl ?_
        refine r_aload_n rfl ?_
        refine q_getR (Sh.ref hI584.1 kx_176 rfl) ?_
        refine q_getR (Sh.ref hI584.1 kx_177 rfl) ?_
        refine r_iload_n rfl ?_
        refine r_aload_n rfl ?_
        refine q_getR (Sh.ref hI584.1 kx_176 rfl) ?_
        refine q_getI (Sh.int hI584.1 kx_177 rfl) v583 ((gI_sW).trans hv583) ?_
        refine q_iast (Sh.arr hI584.1 ka_183) (v557.toInt) rfl (by omega) ?_
        have hI588 := HI.wA0 hI584 ka_183 (p := 183) rfl rfl (v557.toInt) (v583)
        have hF589 := Fr.wA (p := 183) (j := v557.toInt) (v := v583) hF585 rfl
        refine r_vret ?_
        exact ⟨_, rfl, hI588, hF589, rfl⟩
      · have c587_ : v586.toInt = (-1) := en_i_ne_f c587
        refine At.enter rfl ?_
        refine r_aload_n rfl ?_
        refine r_ldcS (by decide) 17 rfl ?_
        refine r_callV 161 rfl [.ref 176, .float 17] [] (Nat.le_of_ble_eq_true rfl) rfl (T_X5_isWord_176 _ hI584 17 (by decide)) ?_
        rintro _ _ ⟨g590, rfl, hI591, hF592, v593, rfl, hr594⟩
        refine At.sti ?_
        have hF595 := Fr.tr hF585 hF592 rfl rfl
        refine At.enter rfl ?_
        refine r_ifs 164 rfl (fun c596 => ?_) (fun c596 => ?_)
        · have c596_ : v593.toInt = 0 := en_k_eq_t c596
          refine At.enter rfl ?_
          refine r_aload_n rfl ?_
          refine q_getR (Sh.ref hI591.1 kx_176 rfl) ?_
          refine q_getR (Sh.ref hI591.1 kx_177 rfl) ?_
          refine r_iload_n rfl ?_
          refine r_aload_n rfl ?_
          refine q_getR (Sh.ref hI591.1 kx_176 rfl) ?_
          refine q_getI (Sh.int hI591.1 kx_177 rfl) v583 (((hF592.1 177 0 (by decide)).trans (gI_sW)).trans hv583) ?_
          refine q_iast (Sh.arr hI591.1 ka_183) (v557.toInt) rfl (by omega) ?_
          have hI597 := HI.wA0 hI591 ka_183 (p := 183) rfl rfl (v557.toInt) (v583)
          have hF598 := Fr.wA (p := 183) (j := v557.toInt) (v := v583) hF595 rfl
          refine r_vret ?_
          exact ⟨_, rfl, hI597, hF598, rfl⟩
        · have c596_ : v593.toInt ≠ 0 := en_k_eq_f c596
          refine At.enter rfl ?_
          refine r_aload_n rfl ?_
          refine r_callV 168 rfl [.ref 176] [] (Nat.le_of_ble_eq_true rfl) rfl (T_X5_step_176 _ hI591) ?_
          rintro _ _ ⟨g599, rfl, hI600, hF601, rfl⟩
          refine At.stn ?_
          have hF604 := Fr.tr hF595 hF601 rfl rfl
          refine At.enter rfl ?_
          refine r_aload_n rfl ?_
          refine r_iconst 0 rfl ?_
          refine r_iconst 0 rfl ?_
          refine r_callV 174 rfl [.ref 176, .int 0, .int 0] [] (Nat.le_of_ble_eq_true rfl) rfl (T_X5_readJoined_176 _ hI600 0 (by decide) 0 (by decide)) ?_
          rintro _ _ ⟨g605, rfl, hI606, hF607, rfl⟩
          refine At.stn ?_
          have hF610 := Fr.tr hF604 hF607 rfl rfl
          refine At.enter rfl ?_
          refine r_aload_n rfl ?_
          refine q_getR (Sh.ref hI606.1 kx_176 rfl) ?_
          refine q_getR (Sh.ref hI606.1 kx_177 rfl) ?_
          refine r_iload_n rfl ?_
          refine r_aload_n rfl ?_
          refine q_getR (Sh.ref hI606.1 kx_176 rfl) ?_
          obtain ⟨v611, hv611⟩ : ∃ v, gI g605 177 0 = v := ⟨_, rfl⟩
          have rv611 := RgF.at hI606.2.1 (p := 177) (b := 0) rfl
          rw [hv611] at rv611
          dsimp only at rv611
          refine q_getI (Sh.int hI606.1 kx_177 rfl) v611 hv611 ?_
          refine q_iast (Sh.arr hI606.1 ka_183) (v557.toInt) rfl (by omega) ?_
          have hI612 := HI.wA0 hI606 ka_183 (p := 183) rfl rfl (v557.toInt) (v611)
          have hF613 := Fr.wA (p := 183) (j := v557.toInt) (v := v611) hF610 rfl
          refine r_vret ?_
          exact ⟨_, rfl, hI612, hF613, rfl⟩
    · have c558_ : v557.toInt ≥ 12 := en_i_lt_f c558
      refine At.enter rfl ?_
      refine r_aload_n rfl ?_
      refine q_inlV 64 rfl [.ref 176] [] (Nat.le_of_ble_eq_true rfl) rfl ?_
      refine Ev.mk rfl rfl ⟨Nat.le_of_ble_eq_true rfl, Or.inr (q_rc hI414.1 kx_176 rfl)⟩ ?_
      show At _ none _ _ (0, [(0, .ref 176)], [], (_, _)) _
      refine At.enter rfl ?_
      refine r_aload_n rfl ?_
      obtain ⟨v614, hv614⟩ : ∃ v, gI g0 176 2 = v := ⟨_, rfl⟩
      refine q_getI (Sh.int hI414.1 kx_176 rfl) v614 ((hF415.1 176 2 (by decide)).trans hv614) ?_
      refine r_iconst (-1) rfl ?_
      refine r_ics 8 rfl (fun c615 => ?_) (fun c615 => ?_)
      · have c615_ : v614.toInt ≠ (-1) := en_i_ne_t c615
        refine At.enter rfl ?_
        refine q_vret ?_
        refine At.enter rfl ?_
        refine r_vret ?_
        exact ⟨_, rfl, hI414, hF418, rfl⟩
      · have c615_ : v614.toInt = (-1) := en_i_ne_f c615
        refine At.enter rfl ?_
        refine r_aload_n rfl ?_
        refine r_aload_n rfl ?_
        obtain ⟨v616, hv616⟩ : ∃ v, gI g0 176 4 = v := ⟨_, rfl⟩
        have rv616 := RgF.at hI0.2.1 (p := 176) (b := 4) rfl
        rw [hv616] at rv616
        dsimp only at rv616
        refine q_getI (Sh.int hI414.1 kx_176 rfl) v616 ((hF415.1 176 4 (by decide)).trans hv616) ?_
        refine q_putI (Sh.int hI414.1 kx_176 rfl) rfl ?_
        have hI617 := HI.wI0 hI414 kx_176 rfl (p := 176) (b := 2) (v := v616) rfl
        have hF618 := Fr.wI (p := 176) (b := 2) (v := v616) hF418 rfl
        refine Ar.fall 16 rfl ?_
        refine At.enter rfl ?_
        refine q_vret ?_
        refine At.enter rfl ?_
        refine r_vret ?_
        exact ⟨_, rfl, hI617, hF618, rfl⟩

def F_X5_read_176 : List (Nat × Nat) := [(176, 2), (176, 3), (176, 4), (176, 5), (176, 6), (177, 0), (177, 3), (177, 4)]
def A_X5_read_176 : List Nat := [178, 179, 180, 181, 182, 183]
set_option maxRecDepth 100000 in
set_option maxHeartbeats 4000000 in
theorem T_X5_read_176 (d : Nat) {N : Nat} {g0 : List en_E} (hI0 : HI g0) : Ev (d + 422) 63 [.ref 176] (g0, N) (fun w h' => ∃ g', h' = (g', N) ∧ HI g' ∧ Fr F_X5_read_176 A_X5_read_176 g0 g' ∧ ∃ r : Int32, w = some (.int r) ∧ (0 ≤ r.toInt ∧ r.toInt ≤ 1)) := by
  have hF0 : Fr F_X5_read_176 A_X5_read_176 g0 g0 := Fr.rf
  refine Ev.mk rfl rfl ⟨Nat.le_of_ble_eq_true rfl, Or.inr (q_rc hI0.1 kx_176 rfl)⟩ ?_
  show At _ none _ _ (0, [(0, .ref 176)], [], (_, _)) _
  refine At.enter rfl ?_
  refine r_aload_n rfl ?_
  refine r_iconst (-1) rfl ?_
  refine q_putI (Sh.int hI0.1 kx_176 rfl) rfl ?_
  have hI1541 := HI.wI0 hI0 kx_176 rfl (p := 176) (b := 2) (v := (-1)) rfl
  have hF1542 := Fr.wI (p := 176) (b := 2) (v := (-1)) hF0 rfl
  refine r_aload_n rfl ?_
  refine r_iconst 0 rfl ?_
  refine q_putI (Sh.int hI1541.1 kx_176 rfl) rfl ?_
  have hI1543 := HI.wI1 hI1541 kx_176 rfl (p := 176) (b := 5) (v := 0) rfl (by decide)
  have hF1544 := Fr.wI (p := 176) (b := 5) (v := 0) hF1542 rfl
  refine r_aload_n rfl ?_
  refine r_iconst 0 rfl ?_
  refine q_putI (Sh.int hI1543.1 kx_176 rfl) rfl ?_
  have hI1545 := HI.wI0 hI1543 kx_176 rfl (p := 176) (b := 6) (v := 0) rfl
  have hF1546 := Fr.wI (p := 176) (b := 6) (v := 0) hF1544 rfl
  refine r_aload_n rfl ?_
  refine q_getR (Sh.ref hI1545.1 kx_176 rfl) ?_
  refine q_inlV 22 rfl [.ref 177] [] (Nat.le_of_ble_eq_true rfl) rfl ?_
  refine Ev.mk rfl rfl ⟨Nat.le_of_ble_eq_true rfl, Or.inr (q_rc hI1545.1 kx_177 rfl)⟩ ?_
  show At _ none _ _ (0, [(0, .ref 177)], [], (_, _)) _
  refine At.enter rfl ?_
  refine r_aload_n rfl ?_
  refine r_iconst 0 rfl ?_
  refine q_putI (Sh.int hI1545.1 kx_177 rfl) rfl ?_
  have hI1547 := HI.wI1 hI1545 kx_177 rfl (p := 177) (b := 0) (v := 0) rfl (by decide)
  have hF1548 := Fr.wI (p := 177) (b := 0) (v := 0) hF1546 rfl
  refine r_aload_n rfl ?_
  refine r_iconst 0 rfl ?_
  refine q_putI (Sh.int hI1547.1 kx_177 rfl) rfl ?_
  have hI1549 := HI.wI1 hI1547 kx_177 rfl (p := 177) (b := 3) (v := 0) rfl (by decide)
  have hF1550 := Fr.wI (p := 177) (b := 3) (v := 0) hF1548 rfl
  refine r_aload_n rfl ?_
  refine r_iconst 0 rfl ?_
  refine q_putI (Sh.int hI1549.1 kx_177 rfl) rfl ?_
  have hI1551 := HI.wI0 hI1549 kx_177 rfl (p := 177) (b := 4) (v := 0) rfl
  have hF1552 := Fr.wI (p := 177) (b := 4) (v := 0) hF1550 rfl
  refine q_vret ?_
  refine At.enter rfl ?_
  refine r_aload_n rfl ?_
  refine r_callV 26 rfl [.ref 176] [] (Nat.le_of_ble_eq_true rfl) rfl (T_X5_step_176 _ hI1551) ?_
  rintro _ _ ⟨g1553, rfl, hI1554, hF1555, rfl⟩
  refine At.stn ?_
  have hF1558 := Fr.tr hF1552 hF1555 rfl rfl
  refine At.enter rfl ?_
  refine r_aload_n rfl ?_
  refine r_callV 30 rfl [.ref 176] [] (Nat.le_of_ble_eq_true rfl) rfl (T_X5_readClause_176 _ hI1554) ?_
  rintro _ _ ⟨g1559, rfl, hI1560, hF1561, rfl⟩
  refine At.stn ?_
  have hF1564 := Fr.tr hF1558 hF1561 rfl rfl
  refine At.enter rfl ?_
  refine r_iconst 0 rfl ?_
  refine r_istore_n ([(1, .int 0), (0, .ref 176)]) rfl ?_
  refine Ar.fall 32 rfl ?_
  have z_2258 : (0 : Int32).toInt = 0 := rfl
  refine w_loopI (fun n_ l_ g_ => ∃ x2248 : Int32, n_ = 400 - x2248.toInt ∧ HI g_ ∧ Fr F_X5_read_176 A_X5_read_176 g0 g_ ∧ en_get 0 l_ = some (.ref 176) ∧ en_get 1 l_ = some (.int x2248) ∧ (0 ≤ x2248.toInt ∧ x2248.toInt ≤ 400)) ?_ (400 - 0) ⟨0, by first | rfl | omega, hI1560, hF1564, rfl, rfl, by decide⟩
  rintro n2253 l2252 g2249 ⟨x2248, hm2259, hI2250, hF2251, e2255, e2256, r2257⟩ ih2254
  refine At.enter rfl ?_
  refine r_iload_n e2256 ?_
  refine r_sipush 400 rfl ?_
  refine r_ics 39 rfl (fun c2260 => ?_) (fun c2260 => ?_)
  · have c2260_ : x2248.toInt ≥ 400 := en_i_ge_t c2260
    refine At.enter rfl ?_
    refine r_aload_n e2255 ?_
    obtain ⟨v2261, hv2261⟩ : ∃ v, gI g2249 176 3 = v := ⟨_, rfl⟩
    refine q_getI (Sh.int hI2250.1 kx_176 rfl) v2261 hv2261 ?_
    refine r_iconst 3 rfl ?_
    refine r_ics 78 rfl (fun c2262 => ?_) (fun c2262 => ?_)
    · have c2262_ : v2261.toInt = 3 := en_i_eq_t c2262
      refine At.enter rfl ?_
      refine r_aload_n e2255 ?_
      obtain ⟨v2263, hv2263⟩ : ∃ v, gI g2249 176 2 = v := ⟨_, rfl⟩
      refine q_getI (Sh.int hI2250.1 kx_176 rfl) v2263 hv2263 ?_
      refine r_iconst (-1) rfl ?_
      refine r_ics 90 rfl (fun c2264 => ?_) (fun c2264 => ?_)
      · have c2264_ : v2263.toInt ≠ (-1) := en_i_ne_t c2264
        refine At.enter rfl ?_
        refine r_iconst 0 rfl ?_
        refine Ar.fall 95 rfl ?_
        refine At.enter rfl ?_
        refine r_iretz (by decide) ?_
        exact ⟨_, rfl, hI2250, hF2251, _, rfl, by decide⟩
      · have c2264_ : v2263.toInt = (-1) := en_i_ne_f c2264
        refine At.enter rfl ?_
        refine r_iconst 1 rfl ?_
        refine r_goto ?_
        refine At.enter rfl ?_
        refine r_iretz (by decide) ?_
        exact ⟨_, rfl, hI2250, hF2251, _, rfl, by decide⟩
    · have c2262_ : v2261.toInt ≠ 3 := en_i_eq_f c2262
      refine At.enter rfl ?_
      refine r_aload_n e2255 ?_
      refine q_inlV 82 rfl [.ref 176] [] (Nat.le_of_ble_eq_true rfl) rfl ?_
      refine Ev.mk rfl rfl ⟨Nat.le_of_ble_eq_true rfl, Or.inr (q_rc hI2250.1 kx_176 rfl)⟩ ?_
      show At _ none _ _ (0, [(0, .ref 176)], [], (_, _)) _
      refine At.enter rfl ?_
      refine r_aload_n rfl ?_
      obtain ⟨v2265, hv2265⟩ : ∃ v, gI g2249 176 2 = v := ⟨_, rfl⟩
      refine q_getI (Sh.int hI2250.1 kx_176 rfl) v2265 hv2265 ?_
      refine r_iconst (-1) rfl ?_
      refine r_ics 8 rfl (fun c2266 => ?_) (fun c2266 => ?_)
      · have c2266_ : v2265.toInt ≠ (-1) := en_i_ne_t c2266
        refine At.enter rfl ?_
        refine q_vret ?_
        refine At.enter rfl ?_
        refine r_aload_n e2255 ?_
        refine q_getI (Sh.int hI2250.1 kx_176 rfl) v2265 hv2265 ?_
        refine r_iconst (-1) rfl ?_
        refine r_ics 90 rfl (fun c2267 => ?_) (fun c2267 => ?_)
        · have c2267_ : v2265.toInt ≠ (-1) := en_i_ne_t c2267
          refine At.enter rfl ?_
          refine r_iconst 0 rfl ?_
          refine Ar.fall 95 rfl ?_
          refine At.enter rfl ?_
          refine r_iretz (by decide) ?_
          exact ⟨_, rfl, hI2250, hF2251, _, rfl, by decide⟩
        · have c2267_ : v2265.toInt = (-1) := en_i_ne_f c2267
          refine At.enter rfl ?_
          refine r_iconst 1 rfl ?_
          refine r_goto ?_
          refine At.enter rfl ?_
          refine r_iretz (by decide) ?_
          exact ⟨_, rfl, hI2250, hF2251, _, rfl, by decide⟩
      · have c2266_ : v2265.toInt = (-1) := en_i_ne_f c2266
        refine At.enter rfl ?_
        refine r_aload_n rfl ?_
        refine r_aload_n rfl ?_
        obtain ⟨v2268, hv2268⟩ : ∃ v, gI g2249 176 4 = v := ⟨_, rfl⟩
        have rv2268 := RgF.at hI2250.2.1 (p := 176) (b := 4) rfl
        rw [hv2268] at rv2268
        dsimp only at rv2268
        refine q_getI (Sh.int hI2250.1 kx_176 rfl) v2268 hv2268 ?_
        refine q_putI (Sh.int hI2250.1 kx_176 rfl) rfl ?_
        have hI2269 := HI.wI0 hI2250 kx_176 rfl (p := 176) (b := 2) (v := v2268) rfl
        have hF2270 := Fr.wI (p := 176) (b := 2) (v := v2268) hF2251 rfl
        refine Ar.fall 16 rfl ?_
        refine At.enter rfl ?_
        refine q_vret ?_
        refine At.enter rfl ?_
        refine r_aload_n e2255 ?_
        refine q_getI (Sh.int hI2269.1 kx_176 rfl) v2268 (gI_sI_eq hI2250.1 kx_176 rfl _) ?_
        refine r_iconst (-1) rfl ?_
        refine r_ics 90 rfl (fun c2271 => ?_) (fun c2271 => ?_)
        · have c2271_ : v2268.toInt ≠ (-1) := en_i_ne_t c2271
          refine At.enter rfl ?_
          refine r_iconst 0 rfl ?_
          refine Ar.fall 95 rfl ?_
          refine At.enter rfl ?_
          refine r_iretz (by decide) ?_
          exact ⟨_, rfl, hI2269, hF2270, _, rfl, by decide⟩
        · have c2271_ : v2268.toInt = (-1) := en_i_ne_f c2271
          exfalso; omega
  · have c2260_ : x2248.toInt < 400 := en_i_ge_f c2260
    refine At.enter rfl ?_
    refine r_aload_n e2255 ?_
    obtain ⟨v2272, hv2272⟩ : ∃ v, gI g2249 176 2 = v := ⟨_, rfl⟩
    refine q_getI (Sh.int hI2250.1 kx_176 rfl) v2272 hv2272 ?_
    refine r_iconst (-1) rfl ?_
    refine r_ics 47 rfl (fun c2273 => ?_) (fun c2273 => ?_)
    · have c2273_ : v2272.toInt ≠ (-1) := en_i_ne_t c2273
      refine At.enter rfl ?_
      refine r_aload_n e2255 ?_
      obtain ⟨v2274, hv2274⟩ : ∃ v, gI g2249 176 3 = v := ⟨_, rfl⟩
      refine q_getI (Sh.int hI2250.1 kx_176 rfl) v2274 hv2274 ?_
      refine r_iconst 3 rfl ?_
      refine r_ics 78 rfl (fun c2275 => ?_) (fun c2275 => ?_)
      · have c2275_ : v2274.toInt = 3 := en_i_eq_t c2275
        refine At.enter rfl ?_
        refine r_aload_n e2255 ?_
        refine q_getI (Sh.int hI2250.1 kx_176 rfl) v2272 hv2272 ?_
        refine r_iconst (-1) rfl ?_
        refine r_ics 90 rfl (fun c2276 => ?_) (fun c2276 => ?_)
        · have c2276_ : v2272.toInt ≠ (-1) := en_i_ne_t c2276
          refine At.enter rfl ?_
          refine r_iconst 0 rfl ?_
          refine Ar.fall 95 rfl ?_
          refine At.enter rfl ?_
          refine r_iretz (by decide) ?_
          exact ⟨_, rfl, hI2250, hF2251, _, rfl, by decide⟩
        · have c2276_ : v2272.toInt = (-1) := en_i_ne_f c2276
          refine At.enter rfl ?_
          refine r_iconst 1 rfl ?_
          refine r_goto ?_
          refine At.enter rfl ?_
          refine r_iretz (by decide) ?_
          exact ⟨_, rfl, hI2250, hF2251, _, rfl, by decide⟩
      · have c2275_ : v2274.toInt ≠ 3 := en_i_eq_f c2275
        refine At.enter rfl ?_
        refine r_aload_n e2255 ?_
        refine q_inlV 82 rfl [.ref 176] [] (Nat.le_of_ble_eq_true rfl) rfl ?_
        refine Ev.mk rfl rfl ⟨Nat.le_of_ble_eq_true rfl, Or.inr (q_rc hI2250.1 kx_176 rfl)⟩ ?_
        show At _ none _ _ (0, [(0, .ref 176)], [], (_, _)) _
        refine At.enter rfl ?_
        refine r_aload_n rfl ?_
        refine q_getI (Sh.int hI2250.1 kx_176 rfl) v2272 hv2272 ?_
        refine r_iconst (-1) rfl ?_
        refine r_ics 8 rfl (fun c2277 => ?_) (fun c2277 => ?_)
        · have c2277_ : v2272.toInt ≠ (-1) := en_i_ne_t c2277
          refine At.enter rfl ?_
          refine q_vret ?_
          refine At.enter rfl ?_
          refine r_aload_n e2255 ?_
          refine q_getI (Sh.int hI2250.1 kx_176 rfl) v2272 hv2272 ?_
          refine r_iconst (-1) rfl ?_
          refine r_ics 90 rfl (fun c2278 => ?_) (fun c2278 => ?_)
          · have c2278_ : v2272.toInt ≠ (-1) := en_i_ne_t c2278
            refine At.enter rfl ?_
            refine r_iconst 0 rfl ?_
            refine Ar.fall 95 rfl ?_
            refine At.enter rfl ?_
            refine r_iretz (by decide) ?_
            exact ⟨_, rfl, hI2250, hF2251, _, rfl, by decide⟩
          · have c2278_ : v2272.toInt = (-1) := en_i_ne_f c2278
            refine At.enter rfl ?_
            refine r_iconst 1 rfl ?_
            refine r_goto ?_
            refine At.enter rfl ?_
            refine r_iretz (by decide) ?_
            exact ⟨_, rfl, hI2250, hF2251, _, rfl, by decide⟩
        · have c2277_ : v2272.toInt = (-1) := en_i_ne_f c2277
          refine At.enter rfl ?_
          refine r_aload_n rfl ?_
          refine r_aload_n rfl ?_
          obtain ⟨v2279, hv2279⟩ : ∃ v, gI g2249 176 4 = v := ⟨_, rfl⟩
          have rv2279 := RgF.at hI2250.2.1 (p := 176) (b := 4) rfl
          rw [hv2279] at rv2279
          dsimp only at rv2279
          refine q_getI (Sh.int hI2250.1 kx_176 rfl) v2279 hv2279 ?_
          refine q_putI (Sh.int hI2250.1 kx_176 rfl) rfl ?_
          have hI2280 := HI.wI0 hI2250 kx_176 rfl (p := 176) (b := 2) (v := v2279) rfl
          have hF2281 := Fr.wI (p := 176) (b := 2) (v := v2279) hF2251 rfl
          refine Ar.fall 16 rfl ?_
          refine At.enter rfl ?_
          refine q_vret ?_
          refine At.enter rfl ?_
          refine r_aload_n e2255 ?_
          refine q_getI (Sh.int hI2280.1 kx_176 rfl) v2279 (gI_sI_eq hI2250.1 kx_176 rfl _) ?_
          refine r_iconst (-1) rfl ?_
          refine r_ics 90 rfl (fun c2282 => ?_) (fun c2282 => ?_)
          · have c2282_ : v2279.toInt ≠ (-1) := en_i_ne_t c2282
            refine At.enter rfl ?_
            refine r_iconst 0 rfl ?_
            refine Ar.fall 95 rfl ?_
            refine At.enter rfl ?_
            refine r_iretz (by decide) ?_
            exact ⟨_, rfl, hI2280, hF2281, _, rfl, by decide⟩
          · have c2282_ : v2279.toInt = (-1) := en_i_ne_f c2282
            exfalso; omega
    · have c2273_ : v2272.toInt = (-1) := en_i_ne_f c2273
      refine At.enter rfl ?_
      refine r_aload_n e2255 ?_
      refine r_bipush 59 rfl ?_
      refine r_callV 53 rfl [.ref 176, .int 59] [] (Nat.le_of_ble_eq_true rfl) rfl (T_X5_isSingle_176 _ hI2250 59) ?_
      rintro _ _ ⟨g2283, rfl, hI2284, hF2285, v2286, rfl, hr2287⟩
      refine At.sti ?_
      have hF2288 := Fr.tr hF2251 hF2285 rfl rfl
      refine At.enter rfl ?_
      refine r_ifs 56 rfl (fun c2289 => ?_) (fun c2289 => ?_)
      · have c2289_ : v2286.toInt = 0 := en_k_eq_t c2289
        refine At.enter rfl ?_
        refine r_aload_n e2255 ?_
        obtain ⟨v2290, hv2290⟩ : ∃ v, gI g2249 176 3 = v := ⟨_, rfl⟩
        refine q_getI (Sh.int hI2284.1 kx_176 rfl) v2290 ((hF2285.1 176 3 (by decide)).trans hv2290) ?_
        refine r_iconst 3 rfl ?_
        refine r_ics 78 rfl (fun c2291 => ?_) (fun c2291 => ?_)
        · have c2291_ : v2290.toInt = 3 := en_i_eq_t c2291
          refine At.enter rfl ?_
          refine r_aload_n e2255 ?_
          refine q_getI (Sh.int hI2284.1 kx_176 rfl) v2272 ((hF2285.1 176 2 (by decide)).trans hv2272) ?_
          refine r_iconst (-1) rfl ?_
          refine r_ics 90 rfl (fun c2292 => ?_) (fun c2292 => ?_)
          · have c2292_ : v2272.toInt ≠ (-1) := en_i_ne_t c2292
            exfalso; omega
          · have c2292_ : v2272.toInt = (-1) := en_i_ne_f c2292
            refine At.enter rfl ?_
            refine r_iconst 1 rfl ?_
            refine r_goto ?_
            refine At.enter rfl ?_
            refine r_iretz (by decide) ?_
            exact ⟨_, rfl, hI2284, hF2288, _, rfl, by decide⟩
        · have c2291_ : v2290.toInt ≠ 3 := en_i_eq_f c2291
          refine At.enter rfl ?_
          refine r_aload_n e2255 ?_
          refine q_inlV 82 rfl [.ref 176] [] (Nat.le_of_ble_eq_true rfl) rfl ?_
          refine Ev.mk rfl rfl ⟨Nat.le_of_ble_eq_true rfl, Or.inr (q_rc hI2284.1 kx_176 rfl)⟩ ?_
          show At _ none _ _ (0, [(0, .ref 176)], [], (_, _)) _
          refine At.enter rfl ?_
          refine r_aload_n rfl ?_
          refine q_getI (Sh.int hI2284.1 kx_176 rfl) v2272 ((hF2285.1 176 2 (by decide)).trans hv2272) ?_
          refine r_iconst (-1) rfl ?_
          refine r_ics 8 rfl (fun c2293 => ?_) (fun c2293 => ?_)
          · have c2293_ : v2272.toInt ≠ (-1) := en_i_ne_t c2293
            exfalso; omega
          · have c2293_ : v2272.toInt = (-1) := en_i_ne_f c2293
            refine At.enter rfl ?_
            refine r_aload_n rfl ?_
            refine r_aload_n rfl ?_
            obtain ⟨v2294, hv2294⟩ : ∃ v, gI g2249 176 4 = v := ⟨_, rfl⟩
            have rv2294 := RgF.at hI2250.2.1 (p := 176) (b := 4) rfl
            rw [hv2294] at rv2294
            dsimp only at rv2294
            refine q_getI (Sh.int hI2284.1 kx_176 rfl) v2294 ((hF2285.1 176 4 (by decide)).trans hv2294) ?_
            refine q_putI (Sh.int hI2284.1 kx_176 rfl) rfl ?_
            have hI2295 := HI.wI0 hI2284 kx_176 rfl (p := 176) (b := 2) (v := v2294) rfl
            have hF2296 := Fr.wI (p := 176) (b := 2) (v := v2294) hF2288 rfl
            refine Ar.fall 16 rfl ?_
            refine At.enter rfl ?_
            refine q_vret ?_
            refine At.enter rfl ?_
            refine r_aload_n e2255 ?_
            refine q_getI (Sh.int hI2295.1 kx_176 rfl) v2294 (gI_sI_eq hI2284.1 kx_176 rfl _) ?_
            refine r_iconst (-1) rfl ?_
            refine r_ics 90 rfl (fun c2297 => ?_) (fun c2297 => ?_)
            · have c2297_ : v2294.toInt ≠ (-1) := en_i_ne_t c2297
              refine At.enter rfl ?_
              refine r_iconst 0 rfl ?_
              refine Ar.fall 95 rfl ?_
              refine At.enter rfl ?_
              refine r_iretz (by decide) ?_
              exact ⟨_, rfl, hI2295, hF2296, _, rfl, by decide⟩
            · have c2297_ : v2294.toInt = (-1) := en_i_ne_f c2297
              exfalso; omega
      · have c2289_ : v2286.toInt ≠ 0 := en_k_eq_f c2289
        refine At.enter rfl ?_
        refine r_aload_n e2255 ?_
        refine r_callV 60 rfl [.ref 176] [] (Nat.le_of_ble_eq_true rfl) rfl (T_X5_step_176 _ hI2284) ?_
        rintro _ _ ⟨g2298, rfl, hI2299, hF2300, rfl⟩
        refine At.stn ?_
        have hF2303 := Fr.tr hF2288 hF2300 rfl rfl
        refine At.enter rfl ?_
        refine r_aload_n e2255 ?_
        refine r_callV 64 rfl [.ref 176] [] (Nat.le_of_ble_eq_true rfl) rfl (T_X5_readClause_176 _ hI2299) ?_
        rintro _ _ ⟨g2304, rfl, hI2305, hF2306, rfl⟩
        refine At.stn ?_
        have hF2309 := Fr.tr hF2303 hF2306 rfl rfl
        refine At.enter rfl ?_
        refine q_iinc e2256 (x2248.toInt + 1) rfl (by omega) (fun v2310 hv2310 => ?_)
        refine r_goto ?_
        exact ih2254 (400 - v2310.toInt) _ _ ⟨v2310, by first | rfl | omega, hI2305, hF2309, (w_p1 (by decide) (Or.inr rfl) e2255), (w_e1 _ _ _), by omega⟩ ⟨by omega, by omega⟩

def F_X10_law_0 : List (Nat × Nat) := [(0, 17), (1, 6), (7, 0), (7, 3), (7, 4), (16, 0), (16, 3), (16, 4), (23, 0), (23, 3), (23, 4), (30, 0), (30, 3), (30, 4), (37, 0), (37, 3), (37, 4), (44, 0), (44, 3), (44, 4), (51, 0), (51, 3), (51, 4), (65, 0), (65, 3), (65, 4), (74, 0), (74, 3), (74, 4), (81, 0), (81, 3), (81, 4), (88, 0), (88, 3), (88, 4), (95, 0), (95, 3), (95, 4), (102, 0), (102, 3), (102, 4), (109, 0), (109, 3), (109, 4), (122, 0), (122, 3), (122, 4), (131, 0), (131, 3), (131, 4), (138, 0), (138, 3), (138, 4), (145, 0), (145, 3), (145, 4), (152, 0), (152, 3), (152, 4), (159, 0), (159, 3), (159, 4), (166, 0), (166, 3), (166, 4), (174, 1), (176, 2), (176, 3), (176, 4), (176, 5), (176, 6), (177, 0), (177, 3), (177, 4)]
def A_X10_law_0 : List Nat := [8, 9, 10, 11, 12, 13, 17, 18, 19, 20, 21, 22, 24, 25, 26, 27, 28, 29, 31, 32, 33, 34, 35, 36, 38, 39, 40, 41, 42, 43, 45, 46, 47, 48, 49, 50, 52, 53, 54, 55, 56, 57, 66, 67, 68, 69, 70, 71, 75, 76, 77, 78, 79, 80, 82, 83, 84, 85, 86, 87, 89, 90, 91, 92, 93, 94, 96, 97, 98, 99, 100, 101, 103, 104, 105, 106, 107, 108, 110, 111, 112, 113, 114, 115, 123, 124, 125, 126, 127, 128, 132, 133, 134, 135, 136, 137, 139, 140, 141, 142, 143, 144, 146, 147, 148, 149, 150, 151, 153, 154, 155, 156, 157, 158, 160, 161, 162, 163, 164, 165, 167, 168, 169, 170, 171, 172, 178, 179, 180, 181, 182, 183, 230]
set_option maxRecDepth 100000 in
set_option maxHeartbeats 4000000 in
theorem T_X10_law_0 (d : Nat) {N : Nat} {g0 : List en_E} (hI0 : HI g0) : Ev (d + 423) 115 [.ref 0] (g0, N) (fun w h' => ∃ g', h' = (g', N) ∧ HI g' ∧ Fr F_X10_law_0 A_X10_law_0 g0 g' ∧ ∃ r : Int32, w = some (.int r) ∧ ((-6) ≤ r.toInt ∧ r.toInt ≤ 5) ∧ (gI g' 174 1).toInt = 0) := by
  have hF0 : Fr F_X10_law_0 A_X10_law_0 g0 g0 := Fr.rf
  refine Ev.mk rfl rfl ⟨Nat.le_of_ble_eq_true rfl, Or.inr (q_rc hI0.1 kx_0 rfl)⟩ ?_
  show At _ none _ _ (0, [(0, .ref 0)], [], (_, _)) _
  refine At.enter rfl ?_
  refine r_aload_n rfl ?_
  refine q_getR (Sh.ref hI0.1 kx_0 rfl) ?_
  obtain ⟨v93, hv93⟩ : ∃ v, gI g0 1 6 = v := ⟨_, rfl⟩
  have rv93 := RgF.at hI0.2.1 (p := 1) (b := 6) rfl
  rw [hv93] at rv93
  dsimp only at rv93
  refine q_getI (Sh.int hI0.1 kx_1 rfl) v93 hv93 ?_
  refine r_bipush 6 rfl ?_
  refine r_ics 12 rfl (fun c94 => ?_) (fun c94 => ?_)
  · have c94_ : v93.toInt < 6 := en_i_lt_t c94
    refine At.enter rfl ?_
    refine r_aload_n rfl ?_
    refine q_getR (Sh.ref hI0.1 kx_0 rfl) ?_
    refine r_callV 34 rfl [.ref 176] [] (Nat.le_of_ble_eq_true rfl) rfl (T_X5_read_176 _ hI0) ?_
    rintro _ _ ⟨g95, rfl, hI96, hF97, v98, rfl, hr99⟩
    refine At.sti ?_
    have hF100 := Fr.tr hF0 hF97 rfl rfl
    refine At.enter rfl ?_
    refine r_istore_n ([(1, .int v98), (0, .ref 0)]) rfl ?_
    refine r_aload_n rfl ?_
    refine q_getR (Sh.ref hI96.1 kx_0 rfl) ?_
    refine r_iconst 0 rfl ?_
    refine q_putI (Sh.int hI96.1 kx_174 rfl) rfl ?_
    have hI101 := HI.wI1 hI96 kx_174 rfl (p := 174) (b := 1) (v := 0) rfl (by decide)
    have hF102 := Fr.wI (p := 174) (b := 1) (v := 0) hF100 rfl
    refine r_iload_n rfl ?_
    refine r_ifs 47 rfl (fun c103 => ?_) (fun c103 => ?_)
    · have c103_ : v98.toInt ≠ 0 := en_k_ne_t c103
      refine At.enter rfl ?_
      refine r_aload_n rfl ?_
      refine r_aload_n rfl ?_
      refine q_getR (Sh.ref hI101.1 kx_0 rfl) ?_
      refine r_aload_n rfl ?_
      refine q_getR (Sh.ref hI101.1 kx_0 rfl) ?_
      refine q_getR (Sh.ref hI101.1 kx_176 rfl) ?_
      refine q_inlV 69 rfl [.ref 1, .ref 177] [.ref 0] (Nat.le_of_ble_eq_true rfl) rfl ?_
      refine Ev.mk rfl rfl ⟨Nat.le_of_ble_eq_true rfl, Or.inr (q_rc hI101.1 kx_1 rfl)⟩ ?_
      show At _ none _ _ (0, [(0, .ref 1), (1, .ref 177)], [], (_, _)) _
      refine At.enter rfl ?_
      refine r_aload_n rfl ?_
      refine q_getI (Sh.int hI101.1 kx_1 rfl) v93 (((gI_sI_ne (by decide)).trans (hF97.1 1 6 (by decide))).trans hv93) ?_
      refine r_bipush 6 rfl ?_
      refine r_ics 9 rfl (fun c104 => ?_) (fun c104 => ?_)
      · have c104_ : v93.toInt < 6 := en_i_lt_t c104
        refine At.enter rfl ?_
        refine r_aload_n rfl ?_
        refine r_aload_n rfl ?_
        refine q_getI (Sh.int hI101.1 kx_1 rfl) v93 (((gI_sI_ne (by decide)).trans (hF97.1 1 6 (by decide))).trans hv93) ?_
        refine r_callV 19 rfl [.ref 1, .int v93] [] (Nat.le_of_ble_eq_true rfl) rfl (T_X0_lawAt_1 _ hI101 v93) ?_
        rintro _ _ ⟨g105, rfl, hI106, hF107, v108, rfl, hr109⟩
        refine At.str ?_
        have hF110 := Fr.tr hF102 hF107 rfl rfl
        refine At.enter rfl ?_
        refine r_aload_n rfl ?_
        refine r_callV 23 rfl [.ref (v108), .ref 177] [] (Nat.le_of_ble_eq_true rfl) rfl (T_X4_become_law _ hI106 (v108) hr109 177 rfl) ?_
        rintro _ _ ⟨g111, rfl, hI112, hF113, rfl⟩
        refine At.stn ?_
        have hF116 := Fr.tr hF110 hF113 rfl rfl
        refine At.enter rfl ?_
        refine r_aload_n rfl ?_
        refine r_dup rfl ?_
        refine q_getI (Sh.int hI112.1 kx_1 rfl) v93 (((hF113.1 1 6 (by decide)).trans ((hF107.1 1 6 (by decide)).trans ((gI_sI_ne (by decide)).trans (hF97.1 1 6 (by decide))))).trans hv93) ?_
        refine r_iconst 1 rfl ?_
        refine q_iadd (v93.toInt + 1) rfl (by omega) (fun v117 hv117 => ?_)
        refine q_putI (Sh.int hI112.1 kx_1 rfl) rfl ?_
        have hI118 := HI.wI1 hI112 kx_1 rfl (p := 1) (b := 6) (v := v117) rfl (by dsimp only; omega)
        have hF119 := Fr.wI (p := 1) (b := 6) (v := v117) hF116 rfl
        refine r_aload_n rfl ?_
        refine q_getI (Sh.int hI118.1 kx_1 rfl) v117 (gI_sI_eq hI112.1 kx_1 rfl _) ?_
        refine r_iconst 1 rfl ?_
        refine q_isub (v117.toInt - 1) rfl (by omega) (fun v120 hv120 => ?_)
        refine q_ireti ?_
        refine At.enter rfl ?_
        refine q_inlV 72 rfl [.ref 0, .int v120] [] (Nat.le_of_ble_eq_true rfl) rfl ?_
        refine Ev.mk rfl rfl ⟨Nat.le_of_ble_eq_true rfl, Or.inr (q_rc hI118.1 kx_0 rfl)⟩ ?_
        show At _ none _ _ (0, [(0, .ref 0), (1, .int v120)], [], (_, _)) _
        refine At.enter rfl ?_
        refine r_aload_n rfl ?_
        refine r_iconst 0 rfl ?_
        refine q_putI (Sh.int hI118.1 kx_0 rfl) rfl ?_
        have hI121 := HI.wI0 hI118 kx_0 rfl (p := 0) (b := 17) (v := 0) rfl
        have hF122 := Fr.wI (p := 0) (b := 17) (v := 0) hF119 rfl
        refine r_iload_n rfl ?_
        refine q_ireti ?_
        refine At.enter rfl ?_
        refine r_ireti ?_
        have x123 := HI.eqI hI121 (p := 174) (b := 1) (((gI_sI_ne (by decide)).trans ((gI_sI_ne (by decide)).trans ((hF113.1 174 1 (by decide)).trans ((hF107.1 174 1 (by decide)).trans (gI_sI_eq hI96.1 kx_174 rfl _))))))
        have zv124 : (0 : Int32).toInt = 0 := rfl
        exact ⟨_, rfl, hI121, hF122, _, rfl, by omega, (by omega)⟩
      · have c104_ : v93.toInt ≥ 6 := en_i_lt_f c104
        exfalso; omega
    · have c103_ : v98.toInt = 0 := en_k_ne_f c103
      refine At.enter rfl ?_
      refine r_aload_n rfl ?_
      refine r_bipush (-6) rfl ?_
      refine r_callV 53 rfl [.ref 0, .int (-6)] [] (Nat.le_of_ble_eq_true rfl) rfl (T_X10_refused_0 _ hI101 (-6) (by decide)) ?_
      rintro _ _ ⟨g125, rfl, hI126, hF127, v128, rfl, hr129⟩
      refine At.sti ?_
      have hF130 := Fr.tr hF102 hF127 rfl rfl
      have zv131 : ((-6) : Int32).toInt = (-6) := rfl
      refine At.enter rfl ?_
      refine r_ireti ?_
      have x132 := HI.eqI hI126 (p := 174) (b := 1) (((hF127.1 174 1 (by decide)).trans (gI_sI_eq hI96.1 kx_174 rfl _)))
      have zv133 : (0 : Int32).toInt = 0 := rfl
      exact ⟨_, rfl, hI126, hF130, _, rfl, by omega, (by omega)⟩
  · have c94_ : v93.toInt ≥ 6 := en_i_lt_f c94
    refine At.enter rfl ?_
    refine r_aload_n rfl ?_
    refine q_getR (Sh.ref hI0.1 kx_0 rfl) ?_
    refine r_iconst 0 rfl ?_
    refine q_putI (Sh.int hI0.1 kx_174 rfl) rfl ?_
    have hI134 := HI.wI1 hI0 kx_174 rfl (p := 174) (b := 1) (v := 0) rfl (by decide)
    have hF135 := Fr.wI (p := 174) (b := 1) (v := 0) hF0 rfl
    refine r_aload_n rfl ?_
    refine r_bipush (-5) rfl ?_
    refine r_callV 26 rfl [.ref 0, .int (-5)] [] (Nat.le_of_ble_eq_true rfl) rfl (T_X10_refused_0 _ hI134 (-5) (by decide)) ?_
    rintro _ _ ⟨g136, rfl, hI137, hF138, v139, rfl, hr140⟩
    refine At.sti ?_
    have hF141 := Fr.tr hF135 hF138 rfl rfl
    have zv142 : ((-5) : Int32).toInt = (-5) := rfl
    refine At.enter rfl ?_
    refine r_ireti ?_
    have x143 := HI.eqI hI137 (p := 174) (b := 1) (((hF138.1 174 1 (by decide)).trans (gI_sI_eq hI0.1 kx_174 rfl _)))
    have zv144 : (0 : Int32).toInt = 0 := rfl
    exact ⟨_, rfl, hI137, hF141, _, rfl, by omega, (by omega)⟩
