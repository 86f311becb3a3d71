set_option maxRecDepth 100000 in
set_option maxHeartbeats 4000000 in
theorem S_X5_readPart_176 (n : Nat) (IHJ : QJ n) (IHP : QP n) (IHT : QT n) : QT (n + 1) := by
  intro e he N g0 hI0 a1 h_a1 hm
  obtain ⟨d, rfl⟩ : ∃ d, e = d + 4 := ⟨e - 4, by omega⟩
  have hF0 : Fr F_rd A_rd g0 g0 := Fr.rf
  refine Ev.mk rfl rfl ⟨Nat.le_of_ble_eq_true rfl, Or.inr (q_rc hI0.1 kx_176 rfl)⟩ ?_
  show At _ none _ _ (0, [(0, .ref 176), (1, .int a1)], [], (_, _)) _
  refine At.enter rfl ?_
  refine r_aload_n rfl ?_
  refine r_bipush 91 rfl ?_
  refine r_callV 6 rfl [.ref 176, .int 91] [] (Nat.le_of_ble_eq_true rfl) rfl (T_X5_isSingle_176 _ hI0 91) ?_
  rintro _ _ ⟨g347, rfl, hI348, hF349, v350, rfl, hr351⟩
  refine At.sti ?_
  have hF352 := Fr.tr hF0 hF349 rfl rfl
  refine At.enter rfl ?_
  refine r_ifs 9 rfl (fun c353 => ?_) (fun c353 => ?_)
  · have c353_ : v350.toInt = 0 := en_k_eq_t c353
    refine At.enter rfl ?_
    refine r_aload_n rfl ?_
    obtain ⟨v354, hv354⟩ : ∃ v, gI g0 176 3 = v := ⟨_, rfl⟩
    refine q_getI (Sh.int hI348.1 kx_176 rfl) v354 ((hF349.1 176 3 (by decide)).trans hv354) ?_
    refine r_iconst 1 rfl ?_
    refine r_ics 45 rfl (fun c355 => ?_) (fun c355 => ?_)
    · have c355_ : v354.toInt ≠ 1 := en_i_ne_t c355
      refine At.enter rfl ?_
      refine r_iconst 1 rfl ?_
      refine Ar.fall 50 rfl ?_
      refine At.enter rfl ?_
      refine r_istore_n ([(2, .int 1), (0, .ref 176), (1, .int a1)]) rfl ?_
      refine r_aload_n rfl ?_
      refine q_getI (Sh.int hI348.1 kx_176 rfl) v354 ((hF349.1 176 3 (by decide)).trans hv354) ?_
      refine r_iconst 1 rfl ?_
      refine r_ics 59 rfl (fun c356 => ?_) (fun c356 => ?_)
      · have c356_ : v354.toInt ≠ 1 := en_i_ne_t c356
        refine At.enter rfl ?_
        refine r_aload_n rfl ?_
        refine r_callV 70 rfl [.ref 176] [] (Nat.le_of_ble_eq_true rfl) rfl (T_X5_wordHere_176 _ hI348) ?_
        rintro _ _ ⟨g357, rfl, hI358, hF359, v360, rfl, hr361⟩
        refine At.sti ?_
        have hF362 := Fr.tr hF352 hF359 rfl rfl
        refine At.enter rfl ?_
        refine r_istore_n ([(3, .int v360), (2, .int 1), (0, .ref 176), (1, .int a1)]) rfl ?_
        refine r_iload_n rfl ?_
        refine r_iconst (-1) rfl ?_
        refine r_ics 76 rfl (fun c363 => ?_) (fun c363 => ?_)
        · have c363_ : v360.toInt = (-1) := en_i_eq_t c363
          refine At.enter rfl ?_
          refine r_aload_n rfl ?_
          refine q_inlV 96 rfl [.ref 176] [] (Nat.le_of_ble_eq_true rfl) rfl ?_
          refine Ev.mk rfl rfl ⟨Nat.le_of_ble_eq_true rfl, Or.inr (q_rc hI358.1 kx_176 rfl)⟩ ?_
          show At _ none _ _ (0, [(0, .ref 176)], [], (_, _)) _
          refine At.enter rfl ?_
          refine r_aload_n rfl ?_
          obtain ⟨v364, hv364⟩ : ∃ v, gI g0 176 2 = v := ⟨_, rfl⟩
          refine q_getI (Sh.int hI358.1 kx_176 rfl) v364 (((hF359.1 176 2 (by decide)).trans (hF349.1 176 2 (by decide))).trans hv364) ?_
          refine r_iconst (-1) rfl ?_
          refine r_ics 8 rfl (fun c365 => ?_) (fun c365 => ?_)
          · have c365_ : v364.toInt ≠ (-1) := en_i_ne_t c365
            refine At.enter rfl ?_
            refine q_vret ?_
            refine At.enter rfl ?_
            refine r_vret ?_
            exact ⟨_, rfl, hI358, hF362, rfl⟩
          · have c365_ : v364.toInt = (-1) := en_i_ne_f c365
            refine At.enter rfl ?_
            refine r_aload_n rfl ?_
            refine r_aload_n rfl ?_
            obtain ⟨v366, hv366⟩ : ∃ v, gI g0 176 4 = v := ⟨_, rfl⟩
            have rv366 := RgF.at hI0.2.1 (p := 176) (b := 4) rfl
            rw [hv366] at rv366
            dsimp only at rv366
            refine q_getI (Sh.int hI358.1 kx_176 rfl) v366 (((hF359.1 176 4 (by decide)).trans (hF349.1 176 4 (by decide))).trans hv366) ?_
            refine q_putI (Sh.int hI358.1 kx_176 rfl) rfl ?_
            have hI367 := HI.wI0 hI358 kx_176 rfl (p := 176) (b := 2) (v := v366) rfl
            have hF368 := Fr.wI (p := 176) (b := 2) (v := v366) hF362 rfl
            refine Ar.fall 16 rfl ?_
            refine At.enter rfl ?_
            refine q_vret ?_
            refine At.enter rfl ?_
            refine r_vret ?_
            exact ⟨_, rfl, hI367, hF368, rfl⟩
        · have c363_ : v360.toInt ≠ (-1) := en_i_eq_f c363
          refine At.enter rfl ?_
          refine r_iload_n rfl ?_
          refine r_sipush 1000 rfl ?_
          refine r_ics 83 rfl (fun c369 => ?_) (fun c369 => ?_)
          · have c369_ : v360.toInt > 1000 := en_i_gt_t c369
            exfalso; omega
          · have c369_ : v360.toInt ≤ 1000 := en_i_gt_f c369
            refine At.enter rfl ?_
            refine r_aload_n rfl ?_
            obtain ⟨v370, hv370⟩ : ∃ v, gI g0 176 6 = v := ⟨_, rfl⟩
            refine q_getI (Sh.int hI358.1 kx_176 rfl) v370 (((hF359.1 176 6 (by decide)).trans (hF349.1 176 6 (by decide))).trans hv370) ?_
            refine r_bipush 50 rfl ?_
            refine r_ics 92 rfl (fun c371 => ?_) (fun c371 => ?_)
            · have c371_ : v370.toInt < 50 := en_i_lt_t c371
              refine At.enter rfl ?_
              refine r_aload_n rfl ?_
              refine r_dup rfl ?_
              refine q_getI (Sh.int hI358.1 kx_176 rfl) v370 (((hF359.1 176 6 (by decide)).trans (hF349.1 176 6 (by decide))).trans hv370) ?_
              refine r_iconst 1 rfl ?_
              have bv372 := q_bnd v370
              refine q_iadd (v370.toInt + 1) rfl (by omega) (fun v373 hv373 => ?_)
              refine q_putI (Sh.int hI358.1 kx_176 rfl) rfl ?_
              have hI374 := HI.wI0 hI358 kx_176 rfl (p := 176) (b := 6) (v := v373) rfl
              have hF375 := Fr.wI (p := 176) (b := 6) (v := v373) hF362 rfl
              refine r_aload_n rfl ?_
              refine q_getR (Sh.ref hI374.1 kx_176 rfl) ?_
              refine r_iload_n rfl ?_
              refine r_iload_n rfl ?_
              refine r_callV 116 rfl [.ref 177, .int 1, .int v360] [] (Nat.le_of_ble_eq_true rfl) rfl (T_X4_add_177 _ hI374 1 v360) ?_
              rintro _ _ ⟨g376, rfl, hI377, hF378, v379, rfl, hr380⟩
              refine At.sti ?_
              have hF381 := Fr.tr hF375 hF378 rfl rfl
              refine At.enter rfl ?_
              refine r_pop rfl ?_
              refine r_aload_n rfl ?_
              refine r_callV 121 rfl [.ref 176] [] (Nat.le_of_ble_eq_true rfl) rfl (T_X5_step_176 _ hI377) ?_
              rintro _ _ ⟨g382, rfl, hI383, hF384, rfl⟩
              refine At.stn ?_
              have hF387 := Fr.tr hF381 hF384 rfl rfl
              refine At.enter rfl ?_
              refine r_vret ?_
              exact ⟨_, rfl, hI383, hF387, rfl⟩
            · have c371_ : v370.toInt ≥ 50 := en_i_lt_f c371
              refine At.enter rfl ?_
              refine r_aload_n rfl ?_
              refine q_inlV 96 rfl [.ref 176] [] (Nat.le_of_ble_eq_true rfl) rfl ?_
              refine Ev.mk rfl rfl ⟨Nat.le_of_ble_eq_true rfl, Or.inr (q_rc hI358.1 kx_176 rfl)⟩ ?_
              show At _ none _ _ (0, [(0, .ref 176)], [], (_, _)) _
              refine At.enter rfl ?_
              refine r_aload_n rfl ?_
              obtain ⟨v388, hv388⟩ : ∃ v, gI g0 176 2 = v := ⟨_, rfl⟩
              refine q_getI (Sh.int hI358.1 kx_176 rfl) v388 (((hF359.1 176 2 (by decide)).trans (hF349.1 176 2 (by decide))).trans hv388) ?_
              refine r_iconst (-1) rfl ?_
              refine r_ics 8 rfl (fun c389 => ?_) (fun c389 => ?_)
              · have c389_ : v388.toInt ≠ (-1) := en_i_ne_t c389
                refine At.enter rfl ?_
                refine q_vret ?_
                refine At.enter rfl ?_
                refine r_vret ?_
                exact ⟨_, rfl, hI358, hF362, rfl⟩
              · have c389_ : v388.toInt = (-1) := en_i_ne_f c389
                refine At.enter rfl ?_
                refine r_aload_n rfl ?_
                refine r_aload_n rfl ?_
                obtain ⟨v390, hv390⟩ : ∃ v, gI g0 176 4 = v := ⟨_, rfl⟩
                have rv390 := RgF.at hI0.2.1 (p := 176) (b := 4) rfl
                rw [hv390] at rv390
                dsimp only at rv390
                refine q_getI (Sh.int hI358.1 kx_176 rfl) v390 (((hF359.1 176 4 (by decide)).trans (hF349.1 176 4 (by decide))).trans hv390) ?_
                refine q_putI (Sh.int hI358.1 kx_176 rfl) rfl ?_
                have hI391 := HI.wI0 hI358 kx_176 rfl (p := 176) (b := 2) (v := v390) rfl
                have hF392 := Fr.wI (p := 176) (b := 2) (v := v390) hF362 rfl
                refine Ar.fall 16 rfl ?_
                refine At.enter rfl ?_
                refine q_vret ?_
                refine At.enter rfl ?_
                refine r_vret ?_
                exact ⟨_, rfl, hI391, hF392, rfl⟩
      · have c356_ : v354.toInt = 1 := en_i_ne_f c356
        refine At.enter rfl ?_
        refine r_aload_n rfl ?_
        refine r_callV 63 rfl [.ref 176] [] (Nat.le_of_ble_eq_true rfl) rfl (T_X5_numberHere_176 _ hI348) ?_
        rintro _ _ ⟨g393, rfl, hI394, hF395, v396, rfl, hr397⟩
        refine At.sti ?_
        have hF398 := Fr.tr hF352 hF395 rfl rfl
        refine At.enter rfl ?_
        refine r_goto ?_
        refine At.enter rfl ?_
        refine r_istore_n ([(3, .int v396), (2, .int 1), (0, .ref 176), (1, .int a1)]) rfl ?_
        refine r_iload_n rfl ?_
        refine r_iconst (-1) rfl ?_
        refine r_ics 76 rfl (fun c399 => ?_) (fun c399 => ?_)
        · have c399_ : v396.toInt = (-1) := en_i_eq_t c399
          refine At.enter rfl ?_
          refine r_aload_n rfl ?_
          refine q_inlV 96 rfl [.ref 176] [] (Nat.le_of_ble_eq_true rfl) rfl ?_
          refine Ev.mk rfl rfl ⟨Nat.le_of_ble_eq_true rfl, Or.inr (q_rc hI394.1 kx_176 rfl)⟩ ?_
          show At _ none _ _ (0, [(0, .ref 176)], [], (_, _)) _
          refine At.enter rfl ?_
          refine r_aload_n rfl ?_
          obtain ⟨v400, hv400⟩ : ∃ v, gI g0 176 2 = v := ⟨_, rfl⟩
          refine q_getI (Sh.int hI394.1 kx_176 rfl) v400 (((hF395.1 176 2 (by decide)).trans (hF349.1 176 2 (by decide))).trans hv400) ?_
          refine r_iconst (-1) rfl ?_
          refine r_ics 8 rfl (fun c401 => ?_) (fun c401 => ?_)
          · have c401_ : v400.toInt ≠ (-1) := en_i_ne_t c401
            refine At.enter rfl ?_
            refine q_vret ?_
            refine At.enter rfl ?_
            refine r_vret ?_
            exact ⟨_, rfl, hI394, hF398, rfl⟩
          · have c401_ : v400.toInt = (-1) := en_i_ne_f c401
            refine At.enter rfl ?_
            refine r_aload_n rfl ?_
            refine r_aload_n rfl ?_
            obtain ⟨v402, hv402⟩ : ∃ v, gI g0 176 4 = v := ⟨_, rfl⟩
            have rv402 := RgF.at hI0.2.1 (p := 176) (b := 4) rfl
            rw [hv402] at rv402
            dsimp only at rv402
            refine q_getI (Sh.int hI394.1 kx_176 rfl) v402 (((hF395.1 176 4 (by decide)).trans (hF349.1 176 4 (by decide))).trans hv402) ?_
            refine q_putI (Sh.int hI394.1 kx_176 rfl) rfl ?_
            have hI403 := HI.wI0 hI394 kx_176 rfl (p := 176) (b := 2) (v := v402) rfl
            have hF404 := Fr.wI (p := 176) (b := 2) (v := v402) hF398 rfl
            refine Ar.fall 16 rfl ?_
            refine At.enter rfl ?_
            refine q_vret ?_
            refine At.enter rfl ?_
            refine r_vret ?_
            exact ⟨_, rfl, hI403, hF404, rfl⟩
        · have c399_ : v396.toInt ≠ (-1) := en_i_eq_f c399
          refine At.enter rfl ?_
          refine r_iload_n rfl ?_
          refine r_sipush 1000 rfl ?_
          refine r_ics 83 rfl (fun c405 => ?_) (fun c405 => ?_)
          · have c405_ : v396.toInt > 1000 := en_i_gt_t c405
            refine At.enter rfl ?_
            refine r_aload_n rfl ?_
            refine q_inlV 96 rfl [.ref 176] [] (Nat.le_of_ble_eq_true rfl) rfl ?_
            refine Ev.mk rfl rfl ⟨Nat.le_of_ble_eq_true rfl, Or.inr (q_rc hI394.1 kx_176 rfl)⟩ ?_
            show At _ none _ _ (0, [(0, .ref 176)], [], (_, _)) _
            refine At.enter rfl ?_
            refine r_aload_n rfl ?_
            obtain ⟨v406, hv406⟩ : ∃ v, gI g0 176 2 = v := ⟨_, rfl⟩
            refine q_getI (Sh.int hI394.1 kx_176 rfl) v406 (((hF395.1 176 2 (by decide)).trans (hF349.1 176 2 (by decide))).trans hv406) ?_
            refine r_iconst (-1) rfl ?_
            refine r_ics 8 rfl (fun c407 => ?_) (fun c407 => ?_)
            · have c407_ : v406.toInt ≠ (-1) := en_i_ne_t c407
              refine At.enter rfl ?_
              refine q_vret ?_
              refine At.enter rfl ?_
              refine r_vret ?_
              exact ⟨_, rfl, hI394, hF398, rfl⟩
            · have c407_ : v406.toInt = (-1) := en_i_ne_f c407
              refine At.enter rfl ?_
              refine r_aload_n rfl ?_
              refine r_aload_n rfl ?_
              obtain ⟨v408, hv408⟩ : ∃ v, gI g0 176 4 = v := ⟨_, rfl⟩
              have rv408 := RgF.at hI0.2.1 (p := 176) (b := 4) rfl
              rw [hv408] at rv408
              dsimp only at rv408
              refine q_getI (Sh.int hI394.1 kx_176 rfl) v408 (((hF395.1 176 4 (by decide)).trans (hF349.1 176 4 (by decide))).trans hv408) ?_
              refine q_putI (Sh.int hI394.1 kx_176 rfl) rfl ?_
              have hI409 := HI.wI0 hI394 kx_176 rfl (p := 176) (b := 2) (v := v408) rfl
              have hF410 := Fr.wI (p := 176) (b := 2) (v := v408) hF398 rfl
              refine Ar.fall 16 rfl ?_
              refine At.enter rfl ?_
              refine q_vret ?_
              refine At.enter rfl ?_
              refine r_vret ?_
              exact ⟨_, rfl, hI409, hF410, rfl⟩
          · have c405_ : v396.toInt ≤ 1000 := en_i_gt_f c405
            refine At.enter rfl ?_
            refine r_aload_n rfl ?_
            obtain ⟨v411, hv411⟩ : ∃ v, gI g0 176 6 = v := ⟨_, rfl⟩
            refine q_getI (Sh.int hI394.1 kx_176 rfl) v411 (((hF395.1 176 6 (by decide)).trans (hF349.1 176 6 (by decide))).trans hv411) ?_
            refine r_bipush 50 rfl ?_
            refine r_ics 92 rfl (fun c412 => ?_) (fun c412 => ?_)
            · have c412_ : v411.toInt < 50 := en_i_lt_t c412
              refine At.enter rfl ?_
              refine r_aload_n rfl ?_
              refine r_dup rfl ?_
              refine q_getI (Sh.int hI394.1 kx_176 rfl) v411 (((hF395.1 176 6 (by decide)).trans (hF349.1 176 6 (by decide))).trans hv411) ?_
              refine r_iconst 1 rfl ?_
              have bv413 := q_bnd v411
              refine q_iadd (v411.toInt + 1) rfl (by omega) (fun v414 hv414 => ?_)
              refine q_putI (Sh.int hI394.1 kx_176 rfl) rfl ?_
              have hI415 := HI.wI0 hI394 kx_176 rfl (p := 176) (b := 6) (v := v414) rfl
              have hF416 := Fr.wI (p := 176) (b := 6) (v := v414) hF398 rfl
              refine r_aload_n rfl ?_
              refine q_getR (Sh.ref hI415.1 kx_176 rfl) ?_
              refine r_iload_n rfl ?_
              refine r_iload_n rfl ?_
              refine r_callV 116 rfl [.ref 177, .int 1, .int v396] [] (Nat.le_of_ble_eq_true rfl) rfl (T_X4_add_177 _ hI415 1 v396) ?_
              rintro _ _ ⟨g417, rfl, hI418, hF419, v420, rfl, hr421⟩
              refine At.sti ?_
              have hF422 := Fr.tr hF416 hF419 rfl rfl
              refine At.enter rfl ?_
              refine r_pop rfl ?_
              refine r_aload_n rfl ?_
              refine r_callV 121 rfl [.ref 176] [] (Nat.le_of_ble_eq_true rfl) rfl (T_X5_step_176 _ hI418) ?_
              rintro _ _ ⟨g423, rfl, hI424, hF425, rfl⟩
              refine At.stn ?_
              have hF428 := Fr.tr hF422 hF425 rfl rfl
              refine At.enter rfl ?_
              refine r_vret ?_
              exact ⟨_, rfl, hI424, hF428, rfl⟩
            · have c412_ : v411.toInt ≥ 50 := en_i_lt_f c412
              refine At.enter rfl ?_
              refine r_aload_n rfl ?_
              refine q_inlV 96 rfl [.ref 176] [] (Nat.le_of_ble_eq_true rfl) rfl ?_
              refine Ev.mk rfl rfl ⟨Nat.le_of_ble_eq_true rfl, Or.inr (q_rc hI394.1 kx_176 rfl)⟩ ?_
              show At _ none _ _ (0, [(0, .ref 176)], [], (_, _)) _
              refine At.enter rfl ?_
              refine r_aload_n rfl ?_
              obtain ⟨v429, hv429⟩ : ∃ v, gI g0 176 2 = v := ⟨_, rfl⟩
              refine q_getI (Sh.int hI394.1 kx_176 rfl) v429 (((hF395.1 176 2 (by decide)).trans (hF349.1 176 2 (by decide))).trans hv429) ?_
              refine r_iconst (-1) rfl ?_
              refine r_ics 8 rfl (fun c430 => ?_) (fun c430 => ?_)
              · have c430_ : v429.toInt ≠ (-1) := en_i_ne_t c430
                refine At.enter rfl ?_
                refine q_vret ?_
                refine At.enter rfl ?_
                refine r_vret ?_
                exact ⟨_, rfl, hI394, hF398, rfl⟩
              · have c430_ : v429.toInt = (-1) := en_i_ne_f c430
                refine At.enter rfl ?_
                refine r_aload_n rfl ?_
                refine r_aload_n rfl ?_
                obtain ⟨v431, hv431⟩ : ∃ v, gI g0 176 4 = v := ⟨_, rfl⟩
                have rv431 := RgF.at hI0.2.1 (p := 176) (b := 4) rfl
                rw [hv431] at rv431
                dsimp only at rv431
                refine q_getI (Sh.int hI394.1 kx_176 rfl) v431 (((hF395.1 176 4 (by decide)).trans (hF349.1 176 4 (by decide))).trans hv431) ?_
                refine q_putI (Sh.int hI394.1 kx_176 rfl) rfl ?_
                have hI432 := HI.wI0 hI394 kx_176 rfl (p := 176) (b := 2) (v := v431) rfl
                have hF433 := Fr.wI (p := 176) (b := 2) (v := v431) hF398 rfl
                refine Ar.fall 16 rfl ?_
                refine At.enter rfl ?_
                refine q_vret ?_
                refine At.enter rfl ?_
                refine r_vret ?_
                exact ⟨_, rfl, hI432, hF433, rfl⟩
    · have c355_ : v354.toInt = 1 := en_i_ne_f c355
      refine At.enter rfl ?_
      refine r_iconst 0 rfl ?_
      refine r_goto ?_
      refine At.enter rfl ?_
      refine r_istore_n ([(2, .int 0), (0, .ref 176), (1, .int a1)]) rfl ?_
      refine r_aload_n rfl ?_
      refine q_getI (Sh.int hI348.1 kx_176 rfl) v354 ((hF349.1 176 3 (by decide)).trans hv354) ?_
      refine r_iconst 1 rfl ?_
      refine r_ics 59 rfl (fun c434 => ?_) (fun c434 => ?_)
      · have c434_ : v354.toInt ≠ 1 := en_i_ne_t c434
        exfalso; omega
      · have c434_ : v354.toInt = 1 := en_i_ne_f c434
        refine At.enter rfl ?_
        refine r_aload_n rfl ?_
        refine r_callV 63 rfl [.ref 176] [] (Nat.le_of_ble_eq_true rfl) rfl (T_X5_numberHere_176 _ hI348) ?_
        rintro _ _ ⟨g435, rfl, hI436, hF437, v438, rfl, hr439⟩
        refine At.sti ?_
        have hF440 := Fr.tr hF352 hF437 rfl rfl
        refine At.enter rfl ?_
        refine r_goto ?_
        refine At.enter rfl ?_
        refine r_istore_n ([(3, .int v438), (2, .int 0), (0, .ref 176), (1, .int a1)]) rfl ?_
        refine r_iload_n rfl ?_
        refine r_iconst (-1) rfl ?_
        refine r_ics 76 rfl (fun c441 => ?_) (fun c441 => ?_)
        · have c441_ : v438.toInt = (-1) := en_i_eq_t c441
          refine At.enter rfl ?_
          refine r_aload_n rfl ?_
          refine q_inlV 96 rfl [.ref 176] [] (Nat.le_of_ble_eq_true rfl) rfl ?_
          refine Ev.mk rfl rfl ⟨Nat.le_of_ble_eq_true rfl, Or.inr (q_rc hI436.1 kx_176 rfl)⟩ ?_
          show At _ none _ _ (0, [(0, .ref 176)], [], (_, _)) _
          refine At.enter rfl ?_
          refine r_aload_n rfl ?_
          obtain ⟨v442, hv442⟩ : ∃ v, gI g0 176 2 = v := ⟨_, rfl⟩
          refine q_getI (Sh.int hI436.1 kx_176 rfl) v442 (((hF437.1 176 2 (by decide)).trans (hF349.1 176 2 (by decide))).trans hv442) ?_
          refine r_iconst (-1) rfl ?_
          refine r_ics 8 rfl (fun c443 => ?_) (fun c443 => ?_)
          · have c443_ : v442.toInt ≠ (-1) := en_i_ne_t c443
            refine At.enter rfl ?_
            refine q_vret ?_
            refine At.enter rfl ?_
            refine r_vret ?_
            exact ⟨_, rfl, hI436, hF440, rfl⟩
          · have c443_ : v442.toInt = (-1) := en_i_ne_f c443
            refine At.enter rfl ?_
            refine r_aload_n rfl ?_
            refine r_aload_n rfl ?_
            obtain ⟨v444, hv444⟩ : ∃ v, gI g0 176 4 = v := ⟨_, rfl⟩
            have rv444 := RgF.at hI0.2.1 (p := 176) (b := 4) rfl
            rw [hv444] at rv444
            dsimp only at rv444
            refine q_getI (Sh.int hI436.1 kx_176 rfl) v444 (((hF437.1 176 4 (by decide)).trans (hF349.1 176 4 (by decide))).trans hv444) ?_
            refine q_putI (Sh.int hI436.1 kx_176 rfl) rfl ?_
            have hI445 := HI.wI0 hI436 kx_176 rfl (p := 176) (b := 2) (v := v444) rfl
            have hF446 := Fr.wI (p := 176) (b := 2) (v := v444) hF440 rfl
            refine Ar.fall 16 rfl ?_
            refine At.enter rfl ?_
            refine q_vret ?_
            refine At.enter rfl ?_
            refine r_vret ?_
            exact ⟨_, rfl, hI445, hF446, rfl⟩
        · have c441_ : v438.toInt ≠ (-1) := en_i_eq_f c441
          refine At.enter rfl ?_
          refine r_iload_n rfl ?_
          refine r_sipush 1000 rfl ?_
          refine r_ics 83 rfl (fun c447 => ?_) (fun c447 => ?_)
          · have c447_ : v438.toInt > 1000 := en_i_gt_t c447
            refine At.enter rfl ?_
            refine r_aload_n rfl ?_
            refine q_inlV 96 rfl [.ref 176] [] (Nat.le_of_ble_eq_true rfl) rfl ?_
            refine Ev.mk rfl rfl ⟨Nat.le_of_ble_eq_true rfl, Or.inr (q_rc hI436.1 kx_176 rfl)⟩ ?_
            show At _ none _ _ (0, [(0, .ref 176)], [], (_, _)) _
            refine At.enter rfl ?_
            refine r_aload_n rfl ?_
            obtain ⟨v448, hv448⟩ : ∃ v, gI g0 176 2 = v := ⟨_, rfl⟩
            refine q_getI (Sh.int hI436.1 kx_176 rfl) v448 (((hF437.1 176 2 (by decide)).trans (hF349.1 176 2 (by decide))).trans hv448) ?_
            refine r_iconst (-1) rfl ?_
            refine r_ics 8 rfl (fun c449 => ?_) (fun c449 => ?_)
            · have c449_ : v448.toInt ≠ (-1) := en_i_ne_t c449
              refine At.enter rfl ?_
              refine q_vret ?_
              refine At.enter rfl ?_
              refine r_vret ?_
              exact ⟨_, rfl, hI436, hF440, rfl⟩
            · have c449_ : v448.toInt = (-1) := en_i_ne_f c449
              refine At.enter rfl ?_
              refine r_aload_n rfl ?_
              refine r_aload_n rfl ?_
              obtain ⟨v450, hv450⟩ : ∃ v, gI g0 176 4 = v := ⟨_, rfl⟩
              have rv450 := RgF.at hI0.2.1 (p := 176) (b := 4) rfl
              rw [hv450] at rv450
              dsimp only at rv450
              refine q_getI (Sh.int hI436.1 kx_176 rfl) v450 (((hF437.1 176 4 (by decide)).trans (hF349.1 176 4 (by decide))).trans hv450) ?_
              refine q_putI (Sh.int hI436.1 kx_176 rfl) rfl ?_
              have hI451 := HI.wI0 hI436 kx_176 rfl (p := 176) (b := 2) (v := v450) rfl
              have hF452 := Fr.wI (p := 176) (b := 2) (v := v450) hF440 rfl
              refine Ar.fall 16 rfl ?_
              refine At.enter rfl ?_
              refine q_vret ?_
              refine At.enter rfl ?_
              refine r_vret ?_
              exact ⟨_, rfl, hI451, hF452, rfl⟩
          · have c447_ : v438.toInt ≤ 1000 := en_i_gt_f c447
            refine At.enter rfl ?_
            refine r_aload_n rfl ?_
            obtain ⟨v453, hv453⟩ : ∃ v, gI g0 176 6 = v := ⟨_, rfl⟩
            refine q_getI (Sh.int hI436.1 kx_176 rfl) v453 (((hF437.1 176 6 (by decide)).trans (hF349.1 176 6 (by decide))).trans hv453) ?_
            refine r_bipush 50 rfl ?_
            refine r_ics 92 rfl (fun c454 => ?_) (fun c454 => ?_)
            · have c454_ : v453.toInt < 50 := en_i_lt_t c454
              refine At.enter rfl ?_
              refine r_aload_n rfl ?_
              refine r_dup rfl ?_
              refine q_getI (Sh.int hI436.1 kx_176 rfl) v453 (((hF437.1 176 6 (by decide)).trans (hF349.1 176 6 (by decide))).trans hv453) ?_
              refine r_iconst 1 rfl ?_
              have bv455 := q_bnd v453
              refine q_iadd (v453.toInt + 1) rfl (by omega) (fun v456 hv456 => ?_)
              refine q_putI (Sh.int hI436.1 kx_176 rfl) rfl ?_
              have hI457 := HI.wI0 hI436 kx_176 rfl (p := 176) (b := 6) (v := v456) rfl
              have hF458 := Fr.wI (p := 176) (b := 6) (v := v456) hF440 rfl
              refine r_aload_n rfl ?_
              refine q_getR (Sh.ref hI457.1 kx_176 rfl) ?_
              refine r_iload_n rfl ?_
              refine r_iload_n rfl ?_
              refine r_callV 116 rfl [.ref 177, .int 0, .int v438] [] (Nat.le_of_ble_eq_true rfl) rfl (T_X4_add_177 _ hI457 0 v438) ?_
              rintro _ _ ⟨g459, rfl, hI460, hF461, v462, rfl, hr463⟩
              refine At.sti ?_
              have hF464 := Fr.tr hF458 hF461 rfl rfl
              refine At.enter rfl ?_
              refine r_pop rfl ?_
              refine r_aload_n rfl ?_
              refine r_callV 121 rfl [.ref 176] [] (Nat.le_of_ble_eq_true rfl) rfl (T_X5_step_176 _ hI460) ?_
              rintro _ _ ⟨g465, rfl, hI466, hF467, rfl⟩
              refine At.stn ?_
              have hF470 := Fr.tr hF464 hF467 rfl rfl
              refine At.enter rfl ?_
              refine r_vret ?_
              exact ⟨_, rfl, hI466, hF470, rfl⟩
            · have c454_ : v453.toInt ≥ 50 := en_i_lt_f c454
              refine At.enter rfl ?_
              refine r_aload_n rfl ?_
              refine q_inlV 96 rfl [.ref 176] [] (Nat.le_of_ble_eq_true rfl) rfl ?_
              refine Ev.mk rfl rfl ⟨Nat.le_of_ble_eq_true rfl, Or.inr (q_rc hI436.1 kx_176 rfl)⟩ ?_
              show At _ none _ _ (0, [(0, .ref 176)], [], (_, _)) _
              refine At.enter rfl ?_
              refine r_aload_n rfl ?_
              obtain ⟨v471, hv471⟩ : ∃ v, gI g0 176 2 = v := ⟨_, rfl⟩
              refine q_getI (Sh.int hI436.1 kx_176 rfl) v471 (((hF437.1 176 2 (by decide)).trans (hF349.1 176 2 (by decide))).trans hv471) ?_
              refine r_iconst (-1) rfl ?_
              refine r_ics 8 rfl (fun c472 => ?_) (fun c472 => ?_)
              · have c472_ : v471.toInt ≠ (-1) := en_i_ne_t c472
                refine At.enter rfl ?_
                refine q_vret ?_
                refine At.enter rfl ?_
                refine r_vret ?_
                exact ⟨_, rfl, hI436, hF440, rfl⟩
              · have c472_ : v471.toInt = (-1) := en_i_ne_f c472
                refine At.enter rfl ?_
                refine r_aload_n rfl ?_
                refine r_aload_n rfl ?_
                obtain ⟨v473, hv473⟩ : ∃ v, gI g0 176 4 = v := ⟨_, rfl⟩
                have rv473 := RgF.at hI0.2.1 (p := 176) (b := 4) rfl
                rw [hv473] at rv473
                dsimp only at rv473
                refine q_getI (Sh.int hI436.1 kx_176 rfl) v473 (((hF437.1 176 4 (by decide)).trans (hF349.1 176 4 (by decide))).trans hv473) ?_
                refine q_putI (Sh.int hI436.1 kx_176 rfl) rfl ?_
                have hI474 := HI.wI0 hI436 kx_176 rfl (p := 176) (b := 2) (v := v473) rfl
                have hF475 := Fr.wI (p := 176) (b := 2) (v := v473) hF440 rfl
                refine Ar.fall 16 rfl ?_
                refine At.enter rfl ?_
                refine q_vret ?_
                refine At.enter rfl ?_
                refine r_vret ?_
                exact ⟨_, rfl, hI474, hF475, rfl⟩
  · have c353_ : v350.toInt ≠ 0 := en_k_eq_f c353
    refine At.enter rfl ?_
    refine r_aload_n rfl ?_
    refine r_iload_n rfl ?_
    refine q_inlV 14 rfl [.ref 176, .int a1] [] (Nat.le_of_ble_eq_true rfl) rfl ?_
    refine Ev.mk rfl rfl ⟨Nat.le_of_ble_eq_true rfl, Or.inr (q_rc hI348.1 kx_176 rfl)⟩ ?_
    show At _ none _ _ (0, [(0, .ref 176), (1, .int a1)], [], (_, _)) _
    refine At.enter rfl ?_
    refine r_iload_n rfl ?_
    refine r_bipush 8 rfl ?_
    refine r_ics 6 rfl (fun c476 => ?_) (fun c476 => ?_)
    · have c476_ : a1.toInt < 8 := en_i_lt_t c476
      refine At.enter rfl ?_
      refine r_aload_n rfl ?_
      refine r_callV 17 rfl [.ref 176] [] (Nat.le_of_ble_eq_true rfl) rfl (T_X5_step_176 _ hI348) ?_
      rintro _ _ ⟨g477, rfl, hI478, hF479, rfl⟩
      refine At.stn ?_
      have hF482 := Fr.tr hF352 hF479 rfl rfl
      refine At.enter rfl ?_
      refine q_vret ?_
      refine At.enter rfl ?_
      refine r_aload_n rfl ?_
      obtain ⟨v483, hv483⟩ : ∃ v, gI g0 176 2 = v := ⟨_, rfl⟩
      refine q_getI (Sh.int hI478.1 kx_176 rfl) v483 (((hF479.1 176 2 (by decide)).trans (hF349.1 176 2 (by decide))).trans hv483) ?_
      refine r_iconst (-1) rfl ?_
      refine r_ics 22 rfl (fun c484 => ?_) (fun c484 => ?_)
      · have c484_ : v483.toInt ≠ (-1) := en_i_ne_t c484
        refine At.enter rfl ?_
        refine r_vret ?_
        exact ⟨_, rfl, hI478, hF482, rfl⟩
      · have c484_ : v483.toInt = (-1) := en_i_ne_f c484
        refine At.enter rfl ?_
        refine r_aload_n rfl ?_
        refine r_iconst 2 rfl ?_
        refine r_iload_n rfl ?_
        refine r_iconst 1 rfl ?_
        refine q_iadd (a1.toInt + 1) rfl (by omega) (fun v485 hv485 => ?_)
        have zv486 : (2 : Int32).toInt = 2 := rfl
        refine r_callV 30 rfl [.ref 176, .int 2, .int v485] [] (Nat.le_of_ble_eq_true rfl) rfl (IHJ _ (by omega) hI478 2 (by decide) v485 (by omega) (by omega)) ?_
        rintro _ _ ⟨g487, rfl, hI488, hF489, rfl⟩
        refine At.stn ?_
        have hF492 := Fr.tr hF482 hF489 rfl rfl
        refine At.enter rfl ?_
        refine r_aload_n rfl ?_
        refine r_bipush 93 rfl ?_
        refine r_callV 36 rfl [.ref 176, .int 93] [] (Nat.le_of_ble_eq_true rfl) rfl (T_X5_expect_176 _ hI488 93) ?_
        rintro _ _ ⟨g493, rfl, hI494, hF495, rfl⟩
        refine At.stn ?_
        have hF498 := Fr.tr hF492 hF495 rfl rfl
        refine At.enter rfl ?_
        refine r_vret ?_
        exact ⟨_, rfl, hI494, hF498, rfl⟩
    · have c476_ : a1.toInt ≥ 8 := en_i_lt_f c476
      refine At.enter rfl ?_
      refine r_aload_n rfl ?_
      refine q_inlV 10 rfl [.ref 176] [] (Nat.le_of_ble_eq_true rfl) rfl ?_
      refine Ev.mk rfl rfl ⟨Nat.le_of_ble_eq_true rfl, Or.inr (q_rc hI348.1 kx_176 rfl)⟩ ?_
      show At _ none _ _ (0, [(0, .ref 176)], [], (_, _)) _
      refine At.enter rfl ?_
      refine r_aload_n rfl ?_
      obtain ⟨v499, hv499⟩ : ∃ v, gI g0 176 2 = v := ⟨_, rfl⟩
      refine q_getI (Sh.int hI348.1 kx_176 rfl) v499 ((hF349.1 176 2 (by decide)).trans hv499) ?_
      refine r_iconst (-1) rfl ?_
      refine r_ics 8 rfl (fun c500 => ?_) (fun c500 => ?_)
      · have c500_ : v499.toInt ≠ (-1) := en_i_ne_t c500
        refine At.enter rfl ?_
        refine q_vret ?_
        refine At.enter rfl ?_
        refine r_goto ?_
        refine At.enter rfl ?_
        refine q_vret ?_
        refine At.enter rfl ?_
        refine r_aload_n rfl ?_
        refine q_getI (Sh.int hI348.1 kx_176 rfl) v499 ((hF349.1 176 2 (by decide)).trans hv499) ?_
        refine r_iconst (-1) rfl ?_
        refine r_ics 22 rfl (fun c501 => ?_) (fun c501 => ?_)
        · have c501_ : v499.toInt ≠ (-1) := en_i_ne_t c501
          refine At.enter rfl ?_
          refine r_vret ?_
          exact ⟨_, rfl, hI348, hF352, rfl⟩
        · have c501_ : v499.toInt = (-1) := en_i_ne_f c501
          refine At.enter rfl ?_
          refine r_aload_n rfl ?_
          refine r_iconst 2 rfl ?_
          refine r_iload_n rfl ?_
          refine r_iconst 1 rfl ?_
          refine q_iadd (a1.toInt + 1) rfl (by omega) (fun v502 hv502 => ?_)
          have zv503 : (2 : Int32).toInt = 2 := rfl
          refine r_callV 30 rfl [.ref 176, .int 2, .int v502] [] (Nat.le_of_ble_eq_true rfl) rfl (IHJ _ (by omega) hI348 2 (by decide) v502 (by omega) (by omega)) ?_
          rintro _ _ ⟨g504, rfl, hI505, hF506, rfl⟩
          refine At.stn ?_
          have hF509 := Fr.tr hF352 hF506 rfl rfl
          refine At.enter rfl ?_
          refine r_aload_n rfl ?_
          refine r_bipush 93 rfl ?_
          refine r_callV 36 rfl [.ref 176, .int 93] [] (Nat.le_of_ble_eq_true rfl) rfl (T_X5_expect_176 _ hI505 93) ?_
          rintro _ _ ⟨g510, rfl, hI511, hF512, rfl⟩
          refine At.stn ?_
          have hF515 := Fr.tr hF509 hF512 rfl rfl
          refine At.enter rfl ?_
          refine r_vret ?_
          exact ⟨_, rfl, hI511, hF515, rfl⟩
      · have c500_ : v499.toInt = (-1) := en_i_ne_f c500
        refine At.enter rfl ?_
        refine r_aload_n rfl ?_
        refine r_aload_n rfl ?_
        obtain ⟨v516, hv516⟩ : ∃ v, gI g0 176 4 = v := ⟨_, rfl⟩
        have rv516 := RgF.at hI0.2.1 (p := 176) (b := 4) rfl
        rw [hv516] at rv516
        dsimp only at rv516
        refine q_getI (Sh.int hI348.1 kx_176 rfl) v516 ((hF349.1 176 4 (by decide)).trans hv516) ?_
        refine q_putI (Sh.int hI348.1 kx_176 rfl) rfl ?_
        have hI517 := HI.wI0 hI348 kx_176 rfl (p := 176) (b := 2) (v := v516) rfl
        have hF518 := Fr.wI (p := 176) (b := 2) (v := v516) hF352 rfl
        refine Ar.fall 16 rfl ?_
        refine At.enter rfl ?_
        refine q_vret ?_
        refine At.enter rfl ?_
        refine r_goto ?_
        refine At.enter rfl ?_
        refine q_vret ?_
        refine At.enter rfl ?_
        refine r_aload_n rfl ?_
        refine q_getI (Sh.int hI517.1 kx_176 rfl) v516 (gI_sI_eq hI348.1 kx_176 rfl _) ?_
        refine r_iconst (-1) rfl ?_
        refine r_ics 22 rfl (fun c519 => ?_) (fun c519 => ?_)
        · have c519_ : v516.toInt ≠ (-1) := en_i_ne_t c519
          refine At.enter rfl ?_
          refine r_vret ?_
          exact ⟨_, rfl, hI517, hF518, rfl⟩
        · have c519_ : v516.toInt = (-1) := en_i_ne_f c519
          exfalso; omega
