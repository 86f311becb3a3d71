set_option maxRecDepth 100000 in
set_option maxHeartbeats 4000000 in
theorem S_X5_readPart_176 (n : Nat) (IHJ : QJ n) (IHP : QP n) (IHT : QT n) : QT (n + 1) := by
  intro e he N g0 hI0 a1 h_a1 hm hT
  obtain ⟨d, rfl⟩ : ∃ d, e = d + 4 := ⟨e - 4, by omega⟩
  have hF0 : Fr F_rd A_rd g0 g0 := Fr.rf
  refine Ev.mk rfl rfl ⟨Nat.le_of_ble_eq_true rfl, Or.inr (q_rc hI0.1 kx_176 rfl)⟩ ?_
  show At _ none _ _ (0, [(0, .ref 176), (1, .int a1)], [], (_, _)) _
  refine At.enter rfl ?_
  refine r_aload_n rfl ?_
  refine r_bipush 91 rfl ?_
  refine r_callV 6 rfl [.ref 176, .int 91] [] (Nat.le_of_ble_eq_true rfl) rfl (T_X5_isSingle_176 _ hI0 91 (by decide)) ?_
  rintro _ _ ⟨g539, rfl, hI540, hF541, v542, rfl, hr543⟩
  refine At.sti ?_
  have hF544 := Fr.tr hF0 hF541 rfl rfl
  have zv545 : (91 : Int32).toInt = 91 := rfl
  have hb546 : BL (CDX g0 = 3) v542.toInt := ISX.code (c := 3) hr543.2 hT (isSC_d (by omega)) (by decide)
  refine At.enter rfl ?_
  refine r_ifs 9 rfl (fun c547 => ?_) (fun c547 => ?_)
  · have c547_ : v542.toInt = 0 := en_k_eq_t c547
    have i548 := BL.no hb546 (by omega)
    refine At.enter rfl ?_
    refine r_aload_n rfl ?_
    obtain ⟨v549, hv549⟩ : ∃ v, gI g0 176 3 = v := ⟨_, rfl⟩
    refine q_getI (Sh.int hI540.1 kx_176 rfl) v549 ((hF541.1 176 3 (by decide)).trans hv549) ?_
    refine r_iconst 1 rfl ?_
    refine r_ics 45 rfl (fun c550 => ?_) (fun c550 => ?_)
    · have c550_ : v549.toInt ≠ 1 := en_i_ne_t c550
      refine At.enter rfl ?_
      refine r_iconst 1 rfl ?_
      refine Ar.fall 50 rfl ?_
      refine At.enter rfl ?_
      refine r_istore_n ([(2, .int 1), (0, .ref 176), (1, .int a1)]) rfl ?_
      refine r_aload_n rfl ?_
      refine q_getI (Sh.int hI540.1 kx_176 rfl) v549 ((hF541.1 176 3 (by decide)).trans hv549) ?_
      refine r_iconst 1 rfl ?_
      refine r_ics 59 rfl (fun c551 => ?_) (fun c551 => ?_)
      · have c551_ : v549.toInt ≠ 1 := en_i_ne_t c551
        refine At.enter rfl ?_
        refine r_aload_n rfl ?_
        refine r_callV 70 rfl [.ref 176] [] (Nat.le_of_ble_eq_true rfl) rfl (T_X5_wordHere_176 _ hI540 (TKX.c hT ((hF541.2.1 175 (by decide))) ((hF541.1 174 1 (by decide))) ((hF541.1 176 3 (by decide))) ((hF541.1 176 4 (by decide))) ((hF541.1 176 5 (by decide))))) ?_
        rintro _ _ ⟨g552, rfl, hI553, hF554, v555, rfl, hr556⟩
        refine At.sti ?_
        have hF557 := Fr.tr hF544 hF554 rfl rfl
        have ln558 : WHX (CDX g0) v555.toInt := by have z := hr556.2; rw [CDX.c ((hF541.2.1 175 (by decide))) ((hF541.1 176 3 (by decide))) ((hF541.1 176 4 (by decide))) ((hF541.1 176 5 (by decide)))] at z; exact z
        refine At.enter rfl ?_
        refine r_istore_n ([(3, .int v555), (2, .int 1), (0, .ref 176), (1, .int a1)]) rfl ?_
        refine r_iload_n rfl ?_
        refine r_iconst (-1) rfl ?_
        refine r_ics 76 rfl (fun c559 => ?_) (fun c559 => ?_)
        · have c559_ : v555.toInt = (-1) := en_i_eq_t c559
          refine At.enter rfl ?_
          refine r_aload_n rfl ?_
          refine q_inlV 96 rfl [.ref 176] [] (Nat.le_of_ble_eq_true rfl) rfl ?_
          refine Ev.mk rfl rfl ⟨Nat.le_of_ble_eq_true rfl, Or.inr (q_rc hI553.1 kx_176 rfl)⟩ ?_
          show At _ none _ _ (0, [(0, .ref 176)], [], (_, _)) _
          refine At.enter rfl ?_
          refine r_aload_n rfl ?_
          obtain ⟨v560, hv560⟩ : ∃ v, gI g0 176 2 = v := ⟨_, rfl⟩
          refine q_getI (Sh.int hI553.1 kx_176 rfl) v560 (((hF554.1 176 2 (by decide)).trans (hF541.1 176 2 (by decide))).trans hv560) ?_
          refine r_iconst (-1) rfl ?_
          refine r_ics 8 rfl (fun c561 => ?_) (fun c561 => ?_)
          · have c561_ : v560.toInt ≠ (-1) := en_i_ne_t c561
            refine At.enter rfl ?_
            refine q_vret ?_
            refine At.enter rfl ?_
            refine r_vret ?_
            have x562 := rX.e hI553 (b := 2) ((((hF554.1 176 2 (by decide)).trans (hF541.1 176 2 (by decide))).trans hv560))
            have x563 := rX.e hI0 (b := 2) (hv560)
            obtain ⟨v564, hv564⟩ : ∃ v, gI g0 176 4 = v := ⟨_, rfl⟩
            have rv564 := RgF.at hI0.2.1 (p := 176) (b := 4) rfl
            rw [hv564] at rv564
            dsimp only at rv564
            have tv564 := congrArg Int32.toInt hv564
            have x565 := rX.e hI553 (b := 4) ((((hF554.1 176 4 (by decide)).trans (hF541.1 176 4 (by decide))).trans hv564))
            have x566 := rX.e hI0 (b := 4) (hv564)
            obtain ⟨v567, hv567⟩ : ∃ v, gI g0 176 6 = v := ⟨_, rfl⟩
            have tv567 := congrArg Int32.toInt hv567
            have x568 := rX.e hI553 (b := 6) ((((hF554.1 176 6 (by decide)).trans (hF541.1 176 6 (by decide))).trans hv567))
            have x569 := rX.e hI0 (b := 6) (hv567)
            have x570 := rX.e hI0 (b := 3) (hv549)
            have lf := ln558
            unfold WHX at lf
            have lg := CDX.lt hT (by omega)
            exact ⟨_, rfl, hI553, hF557, rfl, ⟨(TKX.c hT (((hF554.2.1 175 (by decide)).trans (hF541.2.1 175 (by decide)))) (((hF554.1 174 1 (by decide)).trans (hF541.1 174 1 (by decide)))) (((hF554.1 176 3 (by decide)).trans (hF541.1 176 3 (by decide)))) (((hF554.1 176 4 (by decide)).trans (hF541.1 176 4 (by decide)))) (((hF554.1 176 5 (by decide)).trans (hF541.1 176 5 (by decide))))), (PRG0.fail 1 (rX.c (b := 4) (((hF554.1 176 4 (by decide)).trans (hF541.1 176 4 (by decide))))) (fun _ => by omega) (fun _ => by omega) (by omega)).le (by omega), PAO.leafF (TKX.some hT).choose_spec (by omega) (by omega) (fun _ => by omega) (fun _ => by omega) (by omega)⟩⟩
          · have c561_ : v560.toInt = (-1) := en_i_ne_f c561
            refine At.enter rfl ?_
            refine r_aload_n rfl ?_
            refine r_aload_n rfl ?_
            obtain ⟨v571, hv571⟩ : ∃ v, gI g0 176 4 = v := ⟨_, rfl⟩
            have rv571 := RgF.at hI0.2.1 (p := 176) (b := 4) rfl
            rw [hv571] at rv571
            dsimp only at rv571
            refine q_getI (Sh.int hI553.1 kx_176 rfl) v571 (((hF554.1 176 4 (by decide)).trans (hF541.1 176 4 (by decide))).trans hv571) ?_
            refine q_putI (Sh.int hI553.1 kx_176 rfl) rfl ?_
            have hI572 := HI.wI0 hI553 kx_176 rfl (p := 176) (b := 2) (v := v571) rfl
            have hF573 := Fr.wI (p := 176) (b := 2) (v := v571) hF557 rfl
            refine Ar.fall 16 rfl ?_
            refine At.enter rfl ?_
            refine q_vret ?_
            refine At.enter rfl ?_
            refine r_vret ?_
            have x574 := rX.e hI572 (b := 2) ((gI_sI_eq hI553.1 kx_176 rfl _))
            have x575 := rX.e hI0 (b := 2) (hv560)
            have x576 := rX.e hI572 (b := 4) ((((gI_sI_ne (by decide)).trans ((hF554.1 176 4 (by decide)).trans (hF541.1 176 4 (by decide)))).trans hv571))
            have x577 := rX.e hI0 (b := 4) (hv571)
            obtain ⟨v578, hv578⟩ : ∃ v, gI g0 176 6 = v := ⟨_, rfl⟩
            have tv578 := congrArg Int32.toInt hv578
            have x579 := rX.e hI572 (b := 6) ((((gI_sI_ne (by decide)).trans ((hF554.1 176 6 (by decide)).trans (hF541.1 176 6 (by decide)))).trans hv578))
            have x580 := rX.e hI0 (b := 6) (hv578)
            have x581 := rX.e hI0 (b := 3) (hv549)
            have lf := ln558
            unfold WHX at lf
            have lg := CDX.lt hT (by omega)
            exact ⟨_, rfl, hI572, hF573, rfl, ⟨(TKX.c hT (((gA_sI).trans ((hF554.2.1 175 (by decide)).trans (hF541.2.1 175 (by decide))))) (((gI_sI_ne (by decide)).trans ((hF554.1 174 1 (by decide)).trans (hF541.1 174 1 (by decide))))) (((gI_sI_ne (by decide)).trans ((hF554.1 176 3 (by decide)).trans (hF541.1 176 3 (by decide))))) (((gI_sI_ne (by decide)).trans ((hF554.1 176 4 (by decide)).trans (hF541.1 176 4 (by decide))))) (((gI_sI_ne (by decide)).trans ((hF554.1 176 5 (by decide)).trans (hF541.1 176 5 (by decide)))))), (PRG0.fail 1 (rX.c (b := 4) (((gI_sI_ne (by decide)).trans ((hF554.1 176 4 (by decide)).trans (hF541.1 176 4 (by decide)))))) (fun _ => by omega) (fun _ => by omega) (by omega)).le (by omega), PAO.leafF (TKX.some hT).choose_spec (by omega) (by omega) (fun _ => by omega) (fun _ => by omega) (by omega)⟩⟩
        · have c559_ : v555.toInt ≠ (-1) := en_i_eq_f c559
          refine At.enter rfl ?_
          refine r_iload_n rfl ?_
          refine r_sipush 1000 rfl ?_
          refine r_ics 83 rfl (fun c582 => ?_) (fun c582 => ?_)
          · have c582_ : v555.toInt > 1000 := en_i_gt_t c582
            exfalso; omega
          · have c582_ : v555.toInt ≤ 1000 := en_i_gt_f c582
            refine At.enter rfl ?_
            refine r_aload_n rfl ?_
            obtain ⟨v583, hv583⟩ : ∃ v, gI g0 176 6 = v := ⟨_, rfl⟩
            refine q_getI (Sh.int hI553.1 kx_176 rfl) v583 (((hF554.1 176 6 (by decide)).trans (hF541.1 176 6 (by decide))).trans hv583) ?_
            refine r_bipush 50 rfl ?_
            refine r_ics 92 rfl (fun c584 => ?_) (fun c584 => ?_)
            · have c584_ : v583.toInt < 50 := en_i_lt_t c584
              refine At.enter rfl ?_
              refine r_aload_n rfl ?_
              refine r_dup rfl ?_
              refine q_getI (Sh.int hI553.1 kx_176 rfl) v583 (((hF554.1 176 6 (by decide)).trans (hF541.1 176 6 (by decide))).trans hv583) ?_
              refine r_iconst 1 rfl ?_
              have bv585 := q_bnd v583
              refine q_iadd (v583.toInt + 1) rfl (by omega) (fun v586 hv586 => ?_)
              refine q_putI (Sh.int hI553.1 kx_176 rfl) rfl ?_
              have hI587 := HI.wI0 hI553 kx_176 rfl (p := 176) (b := 6) (v := v586) rfl
              have hF588 := Fr.wI (p := 176) (b := 6) (v := v586) hF557 rfl
              refine r_aload_n rfl ?_
              refine q_getR (Sh.ref hI587.1 kx_176 rfl) ?_
              refine r_iload_n rfl ?_
              refine r_iload_n rfl ?_
              refine r_callV 116 rfl [.ref 177, .int 1, .int v555] [] (Nat.le_of_ble_eq_true rfl) rfl (T_X4_add_177 _ hI587 1 v555) ?_
              rintro _ _ ⟨g589, rfl, hI590, hF591, v592, rfl, hr593⟩
              refine At.sti ?_
              have hF594 := Fr.tr hF588 hF591 rfl rfl
              refine At.enter rfl ?_
              refine r_pop rfl ?_
              refine r_aload_n rfl ?_
              refine r_callV 121 rfl [.ref 176] [] (Nat.le_of_ble_eq_true rfl) rfl (T_X5_step_176 _ hI590 (TKX.c hT (((hF591.2.1 175 (by decide)).trans ((gA_sI).trans ((hF554.2.1 175 (by decide)).trans (hF541.2.1 175 (by decide)))))) (((hF591.1 174 1 (by decide)).trans ((gI_sI_ne (by decide)).trans ((hF554.1 174 1 (by decide)).trans (hF541.1 174 1 (by decide)))))) (((hF591.1 176 3 (by decide)).trans ((gI_sI_ne (by decide)).trans ((hF554.1 176 3 (by decide)).trans (hF541.1 176 3 (by decide)))))) (((hF591.1 176 4 (by decide)).trans ((gI_sI_ne (by decide)).trans ((hF554.1 176 4 (by decide)).trans (hF541.1 176 4 (by decide)))))) (((hF591.1 176 5 (by decide)).trans ((gI_sI_ne (by decide)).trans ((hF554.1 176 5 (by decide)).trans (hF541.1 176 5 (by decide))))))).1 (TKX.c hT (((hF591.2.1 175 (by decide)).trans ((gA_sI).trans ((hF554.2.1 175 (by decide)).trans (hF541.2.1 175 (by decide)))))) (((hF591.1 174 1 (by decide)).trans ((gI_sI_ne (by decide)).trans ((hF554.1 174 1 (by decide)).trans (hF541.1 174 1 (by decide)))))) (((hF591.1 176 3 (by decide)).trans ((gI_sI_ne (by decide)).trans ((hF554.1 176 3 (by decide)).trans (hF541.1 176 3 (by decide)))))) (((hF591.1 176 4 (by decide)).trans ((gI_sI_ne (by decide)).trans ((hF554.1 176 4 (by decide)).trans (hF541.1 176 4 (by decide)))))) (((hF591.1 176 5 (by decide)).trans ((gI_sI_ne (by decide)).trans ((hF554.1 176 5 (by decide)).trans (hF541.1 176 5 (by decide))))))).2.1.le.2.1) ?_
              rintro _ _ ⟨g595, rfl, hI596, hF597, rfl, hr599⟩
              refine At.stn ?_
              have hF600 := Fr.tr hF594 hF597 rfl rfl
              have tok601_ := hr599.2
              rw [TX.c (((hF591.2.1 175 (by decide)).trans ((gA_sI).trans ((hF554.2.1 175 (by decide)).trans (hF541.2.1 175 (by decide)))))), nX.c (((hF591.1 174 1 (by decide)).trans ((gI_sI_ne (by decide)).trans ((hF554.1 174 1 (by decide)).trans (hF541.1 174 1 (by decide)))))), rX.c (b := 5) (((hF591.1 176 5 (by decide)).trans ((gI_sI_ne (by decide)).trans ((hF554.1 176 5 (by decide)).trans (hF541.1 176 5 (by decide))))))] at tok601_
              have tok601 := TKX.tok hT tok601_
              have hT602 := hr599.1
              obtain ⟨v603, hv603⟩ : ∃ v, gI g0 176 4 = v := ⟨_, rfl⟩
              have rv603 := RgF.at hI0.2.1 (p := 176) (b := 4) rfl
              rw [hv603] at rv603
              dsimp only at rv603
              have tv603 := congrArg Int32.toInt hv603
              have x604 := rX.e hI590 (b := 4) ((((hF591.1 176 4 (by decide)).trans ((gI_sI_ne (by decide)).trans ((hF554.1 176 4 (by decide)).trans (hF541.1 176 4 (by decide))))).trans hv603))
              obtain ⟨v605, hv605⟩ : ∃ v, gI g595 176 4 = v := ⟨_, rfl⟩
              have rv605 := RgF.at hI596.2.1 (p := 176) (b := 4) rfl
              rw [hv605] at rv605
              dsimp only at rv605
              have tv605 := congrArg Int32.toInt hv605
              have x606 := rX.e hI596 (b := 4) (hv605)
              refine At.enter rfl ?_
              refine r_vret ?_
              obtain ⟨v607, hv607⟩ : ∃ v, gI g0 176 2 = v := ⟨_, rfl⟩
              have tv607 := congrArg Int32.toInt hv607
              have x608 := rX.e hI596 (b := 2) ((((hF597.1 176 2 (by decide)).trans ((hF591.1 176 2 (by decide)).trans ((gI_sI_ne (by decide)).trans ((hF554.1 176 2 (by decide)).trans (hF541.1 176 2 (by decide)))))).trans hv607))
              have x609 := rX.e hI0 (b := 2) (hv607)
              have x610 := rX.e hI596 (b := 4) (hv605)
              have x611 := rX.e hI0 (b := 4) (hv603)
              have x612 := rX.e hI596 (b := 6) (((hF597.1 176 6 (by decide)).trans ((hF591.1 176 6 (by decide)).trans (gI_sI_eq hI553.1 kx_176 rfl _))))
              have x613 := rX.e hI0 (b := 6) (hv583)
              have x614 := rX.e hI0 (b := 3) (hv549)
              have x615 := rX.e hI596 (b := 2) ((((hF597.1 176 2 (by decide)).trans ((hF591.1 176 2 (by decide)).trans ((gI_sI_ne (by decide)).trans ((hF554.1 176 2 (by decide)).trans (hF541.1 176 2 (by decide)))))).trans hv607))
              have x616 := rX.e hI596 (b := 4) (hv605)
              have x617 := rX.e hI596 (b := 6) (((hF597.1 176 6 (by decide)).trans ((hF591.1 176 6 (by decide)).trans (gI_sI_eq hI553.1 kx_176 rfl _))))
              have lf := ln558
              unfold WHX at lf
              have lg := CDX.lt hT (by omega)
              exact ⟨_, rfl, hI596, hF600, rfl, ⟨hT602, (PRG0.step hT tok601_ (rX.c (b := 2) (((hF597.1 176 2 (by decide)).trans ((hF591.1 176 2 (by decide)).trans ((gI_sI_ne (by decide)).trans ((hF554.1 176 2 (by decide)).trans (hF541.1 176 2 (by decide)))))))) (by omega)).le (by omega), PAO.leaf tok601 (by omega) (by omega) (by omega) (by omega)⟩⟩
            · have c584_ : v583.toInt ≥ 50 := en_i_lt_f c584
              refine At.enter rfl ?_
              refine r_aload_n rfl ?_
              refine q_inlV 96 rfl [.ref 176] [] (Nat.le_of_ble_eq_true rfl) rfl ?_
              refine Ev.mk rfl rfl ⟨Nat.le_of_ble_eq_true rfl, Or.inr (q_rc hI553.1 kx_176 rfl)⟩ ?_
              show At _ none _ _ (0, [(0, .ref 176)], [], (_, _)) _
              refine At.enter rfl ?_
              refine r_aload_n rfl ?_
              obtain ⟨v618, hv618⟩ : ∃ v, gI g0 176 2 = v := ⟨_, rfl⟩
              refine q_getI (Sh.int hI553.1 kx_176 rfl) v618 (((hF554.1 176 2 (by decide)).trans (hF541.1 176 2 (by decide))).trans hv618) ?_
              refine r_iconst (-1) rfl ?_
              refine r_ics 8 rfl (fun c619 => ?_) (fun c619 => ?_)
              · have c619_ : v618.toInt ≠ (-1) := en_i_ne_t c619
                refine At.enter rfl ?_
                refine q_vret ?_
                refine At.enter rfl ?_
                refine r_vret ?_
                have x620 := rX.e hI553 (b := 2) ((((hF554.1 176 2 (by decide)).trans (hF541.1 176 2 (by decide))).trans hv618))
                have x621 := rX.e hI0 (b := 2) (hv618)
                obtain ⟨v622, hv622⟩ : ∃ v, gI g0 176 4 = v := ⟨_, rfl⟩
                have rv622 := RgF.at hI0.2.1 (p := 176) (b := 4) rfl
                rw [hv622] at rv622
                dsimp only at rv622
                have tv622 := congrArg Int32.toInt hv622
                have x623 := rX.e hI553 (b := 4) ((((hF554.1 176 4 (by decide)).trans (hF541.1 176 4 (by decide))).trans hv622))
                have x624 := rX.e hI0 (b := 4) (hv622)
                have x625 := rX.e hI553 (b := 6) ((((hF554.1 176 6 (by decide)).trans (hF541.1 176 6 (by decide))).trans hv583))
                have x626 := rX.e hI0 (b := 6) (hv583)
                have x627 := rX.e hI0 (b := 3) (hv549)
                have lf := ln558
                unfold WHX at lf
                have lg := CDX.lt hT (by omega)
                exact ⟨_, rfl, hI553, hF557, rfl, ⟨(TKX.c hT (((hF554.2.1 175 (by decide)).trans (hF541.2.1 175 (by decide)))) (((hF554.1 174 1 (by decide)).trans (hF541.1 174 1 (by decide)))) (((hF554.1 176 3 (by decide)).trans (hF541.1 176 3 (by decide)))) (((hF554.1 176 4 (by decide)).trans (hF541.1 176 4 (by decide)))) (((hF554.1 176 5 (by decide)).trans (hF541.1 176 5 (by decide))))), (PRG0.fail 1 (rX.c (b := 4) (((hF554.1 176 4 (by decide)).trans (hF541.1 176 4 (by decide))))) (fun _ => by omega) (fun _ => by omega) (by omega)).le (by omega), PAO.leafF (TKX.some hT).choose_spec (by omega) (by omega) (fun _ => by omega) (fun _ => by omega) (by omega)⟩⟩
              · have c619_ : v618.toInt = (-1) := en_i_ne_f c619
                refine At.enter rfl ?_
                refine r_aload_n rfl ?_
                refine r_aload_n rfl ?_
                obtain ⟨v628, hv628⟩ : ∃ v, gI g0 176 4 = v := ⟨_, rfl⟩
                have rv628 := RgF.at hI0.2.1 (p := 176) (b := 4) rfl
                rw [hv628] at rv628
                dsimp only at rv628
                refine q_getI (Sh.int hI553.1 kx_176 rfl) v628 (((hF554.1 176 4 (by decide)).trans (hF541.1 176 4 (by decide))).trans hv628) ?_
                refine q_putI (Sh.int hI553.1 kx_176 rfl) rfl ?_
                have hI629 := HI.wI0 hI553 kx_176 rfl (p := 176) (b := 2) (v := v628) rfl
                have hF630 := Fr.wI (p := 176) (b := 2) (v := v628) hF557 rfl
                refine Ar.fall 16 rfl ?_
                refine At.enter rfl ?_
                refine q_vret ?_
                refine At.enter rfl ?_
                refine r_vret ?_
                have x631 := rX.e hI629 (b := 2) ((gI_sI_eq hI553.1 kx_176 rfl _))
                have x632 := rX.e hI0 (b := 2) (hv618)
                have x633 := rX.e hI629 (b := 4) ((((gI_sI_ne (by decide)).trans ((hF554.1 176 4 (by decide)).trans (hF541.1 176 4 (by decide)))).trans hv628))
                have x634 := rX.e hI0 (b := 4) (hv628)
                have x635 := rX.e hI629 (b := 6) ((((gI_sI_ne (by decide)).trans ((hF554.1 176 6 (by decide)).trans (hF541.1 176 6 (by decide)))).trans hv583))
                have x636 := rX.e hI0 (b := 6) (hv583)
                have x637 := rX.e hI0 (b := 3) (hv549)
                have lf := ln558
                unfold WHX at lf
                have lg := CDX.lt hT (by omega)
                exact ⟨_, rfl, hI629, hF630, rfl, ⟨(TKX.c hT (((gA_sI).trans ((hF554.2.1 175 (by decide)).trans (hF541.2.1 175 (by decide))))) (((gI_sI_ne (by decide)).trans ((hF554.1 174 1 (by decide)).trans (hF541.1 174 1 (by decide))))) (((gI_sI_ne (by decide)).trans ((hF554.1 176 3 (by decide)).trans (hF541.1 176 3 (by decide))))) (((gI_sI_ne (by decide)).trans ((hF554.1 176 4 (by decide)).trans (hF541.1 176 4 (by decide))))) (((gI_sI_ne (by decide)).trans ((hF554.1 176 5 (by decide)).trans (hF541.1 176 5 (by decide)))))), (PRG0.fail 1 (rX.c (b := 4) (((gI_sI_ne (by decide)).trans ((hF554.1 176 4 (by decide)).trans (hF541.1 176 4 (by decide)))))) (fun _ => by omega) (fun _ => by omega) (by omega)).le (by omega), PAO.leafF (TKX.some hT).choose_spec (by omega) (by omega) (fun _ => by omega) (fun _ => by omega) (by omega)⟩⟩
      · have c551_ : v549.toInt = 1 := en_i_ne_f c551
        refine At.enter rfl ?_
        refine r_aload_n rfl ?_
        refine r_callV 63 rfl [.ref 176] [] (Nat.le_of_ble_eq_true rfl) rfl (T_X5_numberHere_176 _ hI540 (TKX.c hT ((hF541.2.1 175 (by decide))) ((hF541.1 174 1 (by decide))) ((hF541.1 176 3 (by decide))) ((hF541.1 176 4 (by decide))) ((hF541.1 176 5 (by decide))))) ?_
        rintro _ _ ⟨g638, rfl, hI639, hF640, v641, rfl, hr642⟩
        refine At.sti ?_
        have hF643 := Fr.tr hF544 hF640 rfl rfl
        have ln644 : NHX g0 v641.toInt := (hr642.2).c (rX.c (b := 3) ((hF541.1 176 3 (by decide)))) (CDX.c ((hF541.2.1 175 (by decide))) ((hF541.1 176 3 (by decide))) ((hF541.1 176 4 (by decide))) ((hF541.1 176 5 (by decide))))
        refine At.enter rfl ?_
        refine r_goto ?_
        refine At.enter rfl ?_
        refine r_istore_n ([(3, .int v641), (2, .int 1), (0, .ref 176), (1, .int a1)]) rfl ?_
        refine r_iload_n rfl ?_
        refine r_iconst (-1) rfl ?_
        refine r_ics 76 rfl (fun c645 => ?_) (fun c645 => ?_)
        · have c645_ : v641.toInt = (-1) := en_i_eq_t c645
          refine At.enter rfl ?_
          refine r_aload_n rfl ?_
          refine q_inlV 96 rfl [.ref 176] [] (Nat.le_of_ble_eq_true rfl) rfl ?_
          refine Ev.mk rfl rfl ⟨Nat.le_of_ble_eq_true rfl, Or.inr (q_rc hI639.1 kx_176 rfl)⟩ ?_
          show At _ none _ _ (0, [(0, .ref 176)], [], (_, _)) _
          refine At.enter rfl ?_
          refine r_aload_n rfl ?_
          obtain ⟨v646, hv646⟩ : ∃ v, gI g0 176 2 = v := ⟨_, rfl⟩
          refine q_getI (Sh.int hI639.1 kx_176 rfl) v646 (((hF640.1 176 2 (by decide)).trans (hF541.1 176 2 (by decide))).trans hv646) ?_
          refine r_iconst (-1) rfl ?_
          refine r_ics 8 rfl (fun c647 => ?_) (fun c647 => ?_)
          · have c647_ : v646.toInt ≠ (-1) := en_i_ne_t c647
            refine At.enter rfl ?_
            refine q_vret ?_
            refine At.enter rfl ?_
            refine r_vret ?_
            have x648 := rX.e hI639 (b := 2) ((((hF640.1 176 2 (by decide)).trans (hF541.1 176 2 (by decide))).trans hv646))
            have x649 := rX.e hI0 (b := 2) (hv646)
            obtain ⟨v650, hv650⟩ : ∃ v, gI g0 176 4 = v := ⟨_, rfl⟩
            have rv650 := RgF.at hI0.2.1 (p := 176) (b := 4) rfl
            rw [hv650] at rv650
            dsimp only at rv650
            have tv650 := congrArg Int32.toInt hv650
            have x651 := rX.e hI639 (b := 4) ((((hF640.1 176 4 (by decide)).trans (hF541.1 176 4 (by decide))).trans hv650))
            have x652 := rX.e hI0 (b := 4) (hv650)
            obtain ⟨v653, hv653⟩ : ∃ v, gI g0 176 6 = v := ⟨_, rfl⟩
            have tv653 := congrArg Int32.toInt hv653
            have x654 := rX.e hI639 (b := 6) ((((hF640.1 176 6 (by decide)).trans (hF541.1 176 6 (by decide))).trans hv653))
            have x655 := rX.e hI0 (b := 6) (hv653)
            have x656 := rX.e hI0 (b := 3) (hv549)
            have lf := ln644 (by omega)
            exact ⟨_, rfl, hI639, hF643, rfl, ⟨(TKX.c hT (((hF640.2.1 175 (by decide)).trans (hF541.2.1 175 (by decide)))) (((hF640.1 174 1 (by decide)).trans (hF541.1 174 1 (by decide)))) (((hF640.1 176 3 (by decide)).trans (hF541.1 176 3 (by decide)))) (((hF640.1 176 4 (by decide)).trans (hF541.1 176 4 (by decide)))) (((hF640.1 176 5 (by decide)).trans (hF541.1 176 5 (by decide))))), (PRG0.fail 1 (rX.c (b := 4) (((hF640.1 176 4 (by decide)).trans (hF541.1 176 4 (by decide))))) (fun _ => by omega) (fun _ => by omega) (by omega)).le (by omega), PAO.leafF (TKX.some hT).choose_spec (by omega) (by omega) (fun _ => by omega) (fun _ => by omega) (by omega)⟩⟩
          · have c647_ : v646.toInt = (-1) := en_i_ne_f c647
            refine At.enter rfl ?_
            refine r_aload_n rfl ?_
            refine r_aload_n rfl ?_
            obtain ⟨v657, hv657⟩ : ∃ v, gI g0 176 4 = v := ⟨_, rfl⟩
            have rv657 := RgF.at hI0.2.1 (p := 176) (b := 4) rfl
            rw [hv657] at rv657
            dsimp only at rv657
            refine q_getI (Sh.int hI639.1 kx_176 rfl) v657 (((hF640.1 176 4 (by decide)).trans (hF541.1 176 4 (by decide))).trans hv657) ?_
            refine q_putI (Sh.int hI639.1 kx_176 rfl) rfl ?_
            have hI658 := HI.wI0 hI639 kx_176 rfl (p := 176) (b := 2) (v := v657) rfl
            have hF659 := Fr.wI (p := 176) (b := 2) (v := v657) hF643 rfl
            refine Ar.fall 16 rfl ?_
            refine At.enter rfl ?_
            refine q_vret ?_
            refine At.enter rfl ?_
            refine r_vret ?_
            have x660 := rX.e hI658 (b := 2) ((gI_sI_eq hI639.1 kx_176 rfl _))
            have x661 := rX.e hI0 (b := 2) (hv646)
            have x662 := rX.e hI658 (b := 4) ((((gI_sI_ne (by decide)).trans ((hF640.1 176 4 (by decide)).trans (hF541.1 176 4 (by decide)))).trans hv657))
            have x663 := rX.e hI0 (b := 4) (hv657)
            obtain ⟨v664, hv664⟩ : ∃ v, gI g0 176 6 = v := ⟨_, rfl⟩
            have tv664 := congrArg Int32.toInt hv664
            have x665 := rX.e hI658 (b := 6) ((((gI_sI_ne (by decide)).trans ((hF640.1 176 6 (by decide)).trans (hF541.1 176 6 (by decide)))).trans hv664))
            have x666 := rX.e hI0 (b := 6) (hv664)
            have x667 := rX.e hI0 (b := 3) (hv549)
            have lf := ln644 (by omega)
            exact ⟨_, rfl, hI658, hF659, rfl, ⟨(TKX.c hT (((gA_sI).trans ((hF640.2.1 175 (by decide)).trans (hF541.2.1 175 (by decide))))) (((gI_sI_ne (by decide)).trans ((hF640.1 174 1 (by decide)).trans (hF541.1 174 1 (by decide))))) (((gI_sI_ne (by decide)).trans ((hF640.1 176 3 (by decide)).trans (hF541.1 176 3 (by decide))))) (((gI_sI_ne (by decide)).trans ((hF640.1 176 4 (by decide)).trans (hF541.1 176 4 (by decide))))) (((gI_sI_ne (by decide)).trans ((hF640.1 176 5 (by decide)).trans (hF541.1 176 5 (by decide)))))), (PRG0.fail 1 (rX.c (b := 4) (((gI_sI_ne (by decide)).trans ((hF640.1 176 4 (by decide)).trans (hF541.1 176 4 (by decide)))))) (fun _ => by omega) (fun _ => by omega) (by omega)).le (by omega), PAO.leafF (TKX.some hT).choose_spec (by omega) (by omega) (fun _ => by omega) (fun _ => by omega) (by omega)⟩⟩
        · have c645_ : v641.toInt ≠ (-1) := en_i_eq_f c645
          refine At.enter rfl ?_
          refine r_iload_n rfl ?_
          refine r_sipush 1000 rfl ?_
          refine r_ics 83 rfl (fun c668 => ?_) (fun c668 => ?_)
          · have c668_ : v641.toInt > 1000 := en_i_gt_t c668
            refine At.enter rfl ?_
            refine r_aload_n rfl ?_
            refine q_inlV 96 rfl [.ref 176] [] (Nat.le_of_ble_eq_true rfl) rfl ?_
            refine Ev.mk rfl rfl ⟨Nat.le_of_ble_eq_true rfl, Or.inr (q_rc hI639.1 kx_176 rfl)⟩ ?_
            show At _ none _ _ (0, [(0, .ref 176)], [], (_, _)) _
            refine At.enter rfl ?_
            refine r_aload_n rfl ?_
            obtain ⟨v669, hv669⟩ : ∃ v, gI g0 176 2 = v := ⟨_, rfl⟩
            refine q_getI (Sh.int hI639.1 kx_176 rfl) v669 (((hF640.1 176 2 (by decide)).trans (hF541.1 176 2 (by decide))).trans hv669) ?_
            refine r_iconst (-1) rfl ?_
            refine r_ics 8 rfl (fun c670 => ?_) (fun c670 => ?_)
            · have c670_ : v669.toInt ≠ (-1) := en_i_ne_t c670
              refine At.enter rfl ?_
              refine q_vret ?_
              refine At.enter rfl ?_
              refine r_vret ?_
              have x671 := rX.e hI639 (b := 2) ((((hF640.1 176 2 (by decide)).trans (hF541.1 176 2 (by decide))).trans hv669))
              have x672 := rX.e hI0 (b := 2) (hv669)
              obtain ⟨v673, hv673⟩ : ∃ v, gI g0 176 4 = v := ⟨_, rfl⟩
              have rv673 := RgF.at hI0.2.1 (p := 176) (b := 4) rfl
              rw [hv673] at rv673
              dsimp only at rv673
              have tv673 := congrArg Int32.toInt hv673
              have x674 := rX.e hI639 (b := 4) ((((hF640.1 176 4 (by decide)).trans (hF541.1 176 4 (by decide))).trans hv673))
              have x675 := rX.e hI0 (b := 4) (hv673)
              obtain ⟨v676, hv676⟩ : ∃ v, gI g0 176 6 = v := ⟨_, rfl⟩
              have tv676 := congrArg Int32.toInt hv676
              have x677 := rX.e hI639 (b := 6) ((((hF640.1 176 6 (by decide)).trans (hF541.1 176 6 (by decide))).trans hv676))
              have x678 := rX.e hI0 (b := 6) (hv676)
              have x679 := rX.e hI0 (b := 3) (hv549)
              have lf := ln644 (by omega)
              exact ⟨_, rfl, hI639, hF643, rfl, ⟨(TKX.c hT (((hF640.2.1 175 (by decide)).trans (hF541.2.1 175 (by decide)))) (((hF640.1 174 1 (by decide)).trans (hF541.1 174 1 (by decide)))) (((hF640.1 176 3 (by decide)).trans (hF541.1 176 3 (by decide)))) (((hF640.1 176 4 (by decide)).trans (hF541.1 176 4 (by decide)))) (((hF640.1 176 5 (by decide)).trans (hF541.1 176 5 (by decide))))), (PRG0.fail 1 (rX.c (b := 4) (((hF640.1 176 4 (by decide)).trans (hF541.1 176 4 (by decide))))) (fun _ => by omega) (fun _ => by omega) (by omega)).le (by omega), PAO.leafF (TKX.some hT).choose_spec (by omega) (by omega) (fun _ => by omega) (fun _ => by omega) (by omega)⟩⟩
            · have c670_ : v669.toInt = (-1) := en_i_ne_f c670
              refine At.enter rfl ?_
              refine r_aload_n rfl ?_
              refine r_aload_n rfl ?_
              obtain ⟨v680, hv680⟩ : ∃ v, gI g0 176 4 = v := ⟨_, rfl⟩
              have rv680 := RgF.at hI0.2.1 (p := 176) (b := 4) rfl
              rw [hv680] at rv680
              dsimp only at rv680
              refine q_getI (Sh.int hI639.1 kx_176 rfl) v680 (((hF640.1 176 4 (by decide)).trans (hF541.1 176 4 (by decide))).trans hv680) ?_
              refine q_putI (Sh.int hI639.1 kx_176 rfl) rfl ?_
              have hI681 := HI.wI0 hI639 kx_176 rfl (p := 176) (b := 2) (v := v680) rfl
              have hF682 := Fr.wI (p := 176) (b := 2) (v := v680) hF643 rfl
              refine Ar.fall 16 rfl ?_
              refine At.enter rfl ?_
              refine q_vret ?_
              refine At.enter rfl ?_
              refine r_vret ?_
              have x683 := rX.e hI681 (b := 2) ((gI_sI_eq hI639.1 kx_176 rfl _))
              have x684 := rX.e hI0 (b := 2) (hv669)
              have x685 := rX.e hI681 (b := 4) ((((gI_sI_ne (by decide)).trans ((hF640.1 176 4 (by decide)).trans (hF541.1 176 4 (by decide)))).trans hv680))
              have x686 := rX.e hI0 (b := 4) (hv680)
              obtain ⟨v687, hv687⟩ : ∃ v, gI g0 176 6 = v := ⟨_, rfl⟩
              have tv687 := congrArg Int32.toInt hv687
              have x688 := rX.e hI681 (b := 6) ((((gI_sI_ne (by decide)).trans ((hF640.1 176 6 (by decide)).trans (hF541.1 176 6 (by decide)))).trans hv687))
              have x689 := rX.e hI0 (b := 6) (hv687)
              have x690 := rX.e hI0 (b := 3) (hv549)
              have lf := ln644 (by omega)
              exact ⟨_, rfl, hI681, hF682, rfl, ⟨(TKX.c hT (((gA_sI).trans ((hF640.2.1 175 (by decide)).trans (hF541.2.1 175 (by decide))))) (((gI_sI_ne (by decide)).trans ((hF640.1 174 1 (by decide)).trans (hF541.1 174 1 (by decide))))) (((gI_sI_ne (by decide)).trans ((hF640.1 176 3 (by decide)).trans (hF541.1 176 3 (by decide))))) (((gI_sI_ne (by decide)).trans ((hF640.1 176 4 (by decide)).trans (hF541.1 176 4 (by decide))))) (((gI_sI_ne (by decide)).trans ((hF640.1 176 5 (by decide)).trans (hF541.1 176 5 (by decide)))))), (PRG0.fail 1 (rX.c (b := 4) (((gI_sI_ne (by decide)).trans ((hF640.1 176 4 (by decide)).trans (hF541.1 176 4 (by decide)))))) (fun _ => by omega) (fun _ => by omega) (by omega)).le (by omega), PAO.leafF (TKX.some hT).choose_spec (by omega) (by omega) (fun _ => by omega) (fun _ => by omega) (by omega)⟩⟩
          · have c668_ : v641.toInt ≤ 1000 := en_i_gt_f c668
            refine At.enter rfl ?_
            refine r_aload_n rfl ?_
            obtain ⟨v691, hv691⟩ : ∃ v, gI g0 176 6 = v := ⟨_, rfl⟩
            refine q_getI (Sh.int hI639.1 kx_176 rfl) v691 (((hF640.1 176 6 (by decide)).trans (hF541.1 176 6 (by decide))).trans hv691) ?_
            refine r_bipush 50 rfl ?_
            refine r_ics 92 rfl (fun c692 => ?_) (fun c692 => ?_)
            · have c692_ : v691.toInt < 50 := en_i_lt_t c692
              refine At.enter rfl ?_
              refine r_aload_n rfl ?_
              refine r_dup rfl ?_
              refine q_getI (Sh.int hI639.1 kx_176 rfl) v691 (((hF640.1 176 6 (by decide)).trans (hF541.1 176 6 (by decide))).trans hv691) ?_
              refine r_iconst 1 rfl ?_
              have bv693 := q_bnd v691
              refine q_iadd (v691.toInt + 1) rfl (by omega) (fun v694 hv694 => ?_)
              refine q_putI (Sh.int hI639.1 kx_176 rfl) rfl ?_
              have hI695 := HI.wI0 hI639 kx_176 rfl (p := 176) (b := 6) (v := v694) rfl
              have hF696 := Fr.wI (p := 176) (b := 6) (v := v694) hF643 rfl
              refine r_aload_n rfl ?_
              refine q_getR (Sh.ref hI695.1 kx_176 rfl) ?_
              refine r_iload_n rfl ?_
              refine r_iload_n rfl ?_
              refine r_callV 116 rfl [.ref 177, .int 1, .int v641] [] (Nat.le_of_ble_eq_true rfl) rfl (T_X4_add_177 _ hI695 1 v641) ?_
              rintro _ _ ⟨g697, rfl, hI698, hF699, v700, rfl, hr701⟩
              refine At.sti ?_
              have hF702 := Fr.tr hF696 hF699 rfl rfl
              refine At.enter rfl ?_
              refine r_pop rfl ?_
              refine r_aload_n rfl ?_
              refine r_callV 121 rfl [.ref 176] [] (Nat.le_of_ble_eq_true rfl) rfl (T_X5_step_176 _ hI698 (TKX.c hT (((hF699.2.1 175 (by decide)).trans ((gA_sI).trans ((hF640.2.1 175 (by decide)).trans (hF541.2.1 175 (by decide)))))) (((hF699.1 174 1 (by decide)).trans ((gI_sI_ne (by decide)).trans ((hF640.1 174 1 (by decide)).trans (hF541.1 174 1 (by decide)))))) (((hF699.1 176 3 (by decide)).trans ((gI_sI_ne (by decide)).trans ((hF640.1 176 3 (by decide)).trans (hF541.1 176 3 (by decide)))))) (((hF699.1 176 4 (by decide)).trans ((gI_sI_ne (by decide)).trans ((hF640.1 176 4 (by decide)).trans (hF541.1 176 4 (by decide)))))) (((hF699.1 176 5 (by decide)).trans ((gI_sI_ne (by decide)).trans ((hF640.1 176 5 (by decide)).trans (hF541.1 176 5 (by decide))))))).1 (TKX.c hT (((hF699.2.1 175 (by decide)).trans ((gA_sI).trans ((hF640.2.1 175 (by decide)).trans (hF541.2.1 175 (by decide)))))) (((hF699.1 174 1 (by decide)).trans ((gI_sI_ne (by decide)).trans ((hF640.1 174 1 (by decide)).trans (hF541.1 174 1 (by decide)))))) (((hF699.1 176 3 (by decide)).trans ((gI_sI_ne (by decide)).trans ((hF640.1 176 3 (by decide)).trans (hF541.1 176 3 (by decide)))))) (((hF699.1 176 4 (by decide)).trans ((gI_sI_ne (by decide)).trans ((hF640.1 176 4 (by decide)).trans (hF541.1 176 4 (by decide)))))) (((hF699.1 176 5 (by decide)).trans ((gI_sI_ne (by decide)).trans ((hF640.1 176 5 (by decide)).trans (hF541.1 176 5 (by decide))))))).2.1.le.2.1) ?_
              rintro _ _ ⟨g703, rfl, hI704, hF705, rfl, hr707⟩
              refine At.stn ?_
              have hF708 := Fr.tr hF702 hF705 rfl rfl
              have tok709_ := hr707.2
              rw [TX.c (((hF699.2.1 175 (by decide)).trans ((gA_sI).trans ((hF640.2.1 175 (by decide)).trans (hF541.2.1 175 (by decide)))))), nX.c (((hF699.1 174 1 (by decide)).trans ((gI_sI_ne (by decide)).trans ((hF640.1 174 1 (by decide)).trans (hF541.1 174 1 (by decide)))))), rX.c (b := 5) (((hF699.1 176 5 (by decide)).trans ((gI_sI_ne (by decide)).trans ((hF640.1 176 5 (by decide)).trans (hF541.1 176 5 (by decide))))))] at tok709_
              have tok709 := TKX.tok hT tok709_
              have hT710 := hr707.1
              obtain ⟨v711, hv711⟩ : ∃ v, gI g0 176 4 = v := ⟨_, rfl⟩
              have rv711 := RgF.at hI0.2.1 (p := 176) (b := 4) rfl
              rw [hv711] at rv711
              dsimp only at rv711
              have tv711 := congrArg Int32.toInt hv711
              have x712 := rX.e hI698 (b := 4) ((((hF699.1 176 4 (by decide)).trans ((gI_sI_ne (by decide)).trans ((hF640.1 176 4 (by decide)).trans (hF541.1 176 4 (by decide))))).trans hv711))
              obtain ⟨v713, hv713⟩ : ∃ v, gI g703 176 4 = v := ⟨_, rfl⟩
              have rv713 := RgF.at hI704.2.1 (p := 176) (b := 4) rfl
              rw [hv713] at rv713
              dsimp only at rv713
              have tv713 := congrArg Int32.toInt hv713
              have x714 := rX.e hI704 (b := 4) (hv713)
              refine At.enter rfl ?_
              refine r_vret ?_
              obtain ⟨v715, hv715⟩ : ∃ v, gI g0 176 2 = v := ⟨_, rfl⟩
              have tv715 := congrArg Int32.toInt hv715
              have x716 := rX.e hI704 (b := 2) ((((hF705.1 176 2 (by decide)).trans ((hF699.1 176 2 (by decide)).trans ((gI_sI_ne (by decide)).trans ((hF640.1 176 2 (by decide)).trans (hF541.1 176 2 (by decide)))))).trans hv715))
              have x717 := rX.e hI0 (b := 2) (hv715)
              have x718 := rX.e hI704 (b := 4) (hv713)
              have x719 := rX.e hI0 (b := 4) (hv711)
              have x720 := rX.e hI704 (b := 6) (((hF705.1 176 6 (by decide)).trans ((hF699.1 176 6 (by decide)).trans (gI_sI_eq hI639.1 kx_176 rfl _))))
              have x721 := rX.e hI0 (b := 6) (hv691)
              have x722 := rX.e hI0 (b := 3) (hv549)
              have x723 := rX.e hI704 (b := 2) ((((hF705.1 176 2 (by decide)).trans ((hF699.1 176 2 (by decide)).trans ((gI_sI_ne (by decide)).trans ((hF640.1 176 2 (by decide)).trans (hF541.1 176 2 (by decide)))))).trans hv715))
              have x724 := rX.e hI704 (b := 4) (hv713)
              have x725 := rX.e hI704 (b := 6) (((hF705.1 176 6 (by decide)).trans ((hF699.1 176 6 (by decide)).trans (gI_sI_eq hI639.1 kx_176 rfl _))))
              have lf := ln644 (by omega)
              exact ⟨_, rfl, hI704, hF708, rfl, ⟨hT710, (PRG0.step hT tok709_ (rX.c (b := 2) (((hF705.1 176 2 (by decide)).trans ((hF699.1 176 2 (by decide)).trans ((gI_sI_ne (by decide)).trans ((hF640.1 176 2 (by decide)).trans (hF541.1 176 2 (by decide)))))))) (by omega)).le (by omega), PAO.leaf tok709 (by omega) (by omega) (by omega) (by omega)⟩⟩
            · have c692_ : v691.toInt ≥ 50 := en_i_lt_f c692
              refine At.enter rfl ?_
              refine r_aload_n rfl ?_
              refine q_inlV 96 rfl [.ref 176] [] (Nat.le_of_ble_eq_true rfl) rfl ?_
              refine Ev.mk rfl rfl ⟨Nat.le_of_ble_eq_true rfl, Or.inr (q_rc hI639.1 kx_176 rfl)⟩ ?_
              show At _ none _ _ (0, [(0, .ref 176)], [], (_, _)) _
              refine At.enter rfl ?_
              refine r_aload_n rfl ?_
              obtain ⟨v726, hv726⟩ : ∃ v, gI g0 176 2 = v := ⟨_, rfl⟩
              refine q_getI (Sh.int hI639.1 kx_176 rfl) v726 (((hF640.1 176 2 (by decide)).trans (hF541.1 176 2 (by decide))).trans hv726) ?_
              refine r_iconst (-1) rfl ?_
              refine r_ics 8 rfl (fun c727 => ?_) (fun c727 => ?_)
              · have c727_ : v726.toInt ≠ (-1) := en_i_ne_t c727
                refine At.enter rfl ?_
                refine q_vret ?_
                refine At.enter rfl ?_
                refine r_vret ?_
                have x728 := rX.e hI639 (b := 2) ((((hF640.1 176 2 (by decide)).trans (hF541.1 176 2 (by decide))).trans hv726))
                have x729 := rX.e hI0 (b := 2) (hv726)
                obtain ⟨v730, hv730⟩ : ∃ v, gI g0 176 4 = v := ⟨_, rfl⟩
                have rv730 := RgF.at hI0.2.1 (p := 176) (b := 4) rfl
                rw [hv730] at rv730
                dsimp only at rv730
                have tv730 := congrArg Int32.toInt hv730
                have x731 := rX.e hI639 (b := 4) ((((hF640.1 176 4 (by decide)).trans (hF541.1 176 4 (by decide))).trans hv730))
                have x732 := rX.e hI0 (b := 4) (hv730)
                have x733 := rX.e hI639 (b := 6) ((((hF640.1 176 6 (by decide)).trans (hF541.1 176 6 (by decide))).trans hv691))
                have x734 := rX.e hI0 (b := 6) (hv691)
                have x735 := rX.e hI0 (b := 3) (hv549)
                have lf := ln644 (by omega)
                exact ⟨_, rfl, hI639, hF643, rfl, ⟨(TKX.c hT (((hF640.2.1 175 (by decide)).trans (hF541.2.1 175 (by decide)))) (((hF640.1 174 1 (by decide)).trans (hF541.1 174 1 (by decide)))) (((hF640.1 176 3 (by decide)).trans (hF541.1 176 3 (by decide)))) (((hF640.1 176 4 (by decide)).trans (hF541.1 176 4 (by decide)))) (((hF640.1 176 5 (by decide)).trans (hF541.1 176 5 (by decide))))), (PRG0.fail 1 (rX.c (b := 4) (((hF640.1 176 4 (by decide)).trans (hF541.1 176 4 (by decide))))) (fun _ => by omega) (fun _ => by omega) (by omega)).le (by omega), PAO.leafF (TKX.some hT).choose_spec (by omega) (by omega) (fun _ => by omega) (fun _ => by omega) (by omega)⟩⟩
              · have c727_ : v726.toInt = (-1) := en_i_ne_f c727
                refine At.enter rfl ?_
                refine r_aload_n rfl ?_
                refine r_aload_n rfl ?_
                obtain ⟨v736, hv736⟩ : ∃ v, gI g0 176 4 = v := ⟨_, rfl⟩
                have rv736 := RgF.at hI0.2.1 (p := 176) (b := 4) rfl
                rw [hv736] at rv736
                dsimp only at rv736
                refine q_getI (Sh.int hI639.1 kx_176 rfl) v736 (((hF640.1 176 4 (by decide)).trans (hF541.1 176 4 (by decide))).trans hv736) ?_
                refine q_putI (Sh.int hI639.1 kx_176 rfl) rfl ?_
                have hI737 := HI.wI0 hI639 kx_176 rfl (p := 176) (b := 2) (v := v736) rfl
                have hF738 := Fr.wI (p := 176) (b := 2) (v := v736) hF643 rfl
                refine Ar.fall 16 rfl ?_
                refine At.enter rfl ?_
                refine q_vret ?_
                refine At.enter rfl ?_
                refine r_vret ?_
                have x739 := rX.e hI737 (b := 2) ((gI_sI_eq hI639.1 kx_176 rfl _))
                have x740 := rX.e hI0 (b := 2) (hv726)
                have x741 := rX.e hI737 (b := 4) ((((gI_sI_ne (by decide)).trans ((hF640.1 176 4 (by decide)).trans (hF541.1 176 4 (by decide)))).trans hv736))
                have x742 := rX.e hI0 (b := 4) (hv736)
                have x743 := rX.e hI737 (b := 6) ((((gI_sI_ne (by decide)).trans ((hF640.1 176 6 (by decide)).trans (hF541.1 176 6 (by decide)))).trans hv691))
                have x744 := rX.e hI0 (b := 6) (hv691)
                have x745 := rX.e hI0 (b := 3) (hv549)
                have lf := ln644 (by omega)
                exact ⟨_, rfl, hI737, hF738, rfl, ⟨(TKX.c hT (((gA_sI).trans ((hF640.2.1 175 (by decide)).trans (hF541.2.1 175 (by decide))))) (((gI_sI_ne (by decide)).trans ((hF640.1 174 1 (by decide)).trans (hF541.1 174 1 (by decide))))) (((gI_sI_ne (by decide)).trans ((hF640.1 176 3 (by decide)).trans (hF541.1 176 3 (by decide))))) (((gI_sI_ne (by decide)).trans ((hF640.1 176 4 (by decide)).trans (hF541.1 176 4 (by decide))))) (((gI_sI_ne (by decide)).trans ((hF640.1 176 5 (by decide)).trans (hF541.1 176 5 (by decide)))))), (PRG0.fail 1 (rX.c (b := 4) (((gI_sI_ne (by decide)).trans ((hF640.1 176 4 (by decide)).trans (hF541.1 176 4 (by decide)))))) (fun _ => by omega) (fun _ => by omega) (by omega)).le (by omega), PAO.leafF (TKX.some hT).choose_spec (by omega) (by omega) (fun _ => by omega) (fun _ => by omega) (by omega)⟩⟩
    · have c550_ : v549.toInt = 1 := en_i_ne_f c550
      refine At.enter rfl ?_
      refine r_iconst 0 rfl ?_
      refine r_goto ?_
      refine At.enter rfl ?_
      refine r_istore_n ([(2, .int 0), (0, .ref 176), (1, .int a1)]) rfl ?_
      refine r_aload_n rfl ?_
      refine q_getI (Sh.int hI540.1 kx_176 rfl) v549 ((hF541.1 176 3 (by decide)).trans hv549) ?_
      refine r_iconst 1 rfl ?_
      refine r_ics 59 rfl (fun c746 => ?_) (fun c746 => ?_)
      · have c746_ : v549.toInt ≠ 1 := en_i_ne_t c746
        exfalso; omega
      · have c746_ : v549.toInt = 1 := en_i_ne_f c746
        refine At.enter rfl ?_
        refine r_aload_n rfl ?_
        refine r_callV 63 rfl [.ref 176] [] (Nat.le_of_ble_eq_true rfl) rfl (T_X5_numberHere_176 _ hI540 (TKX.c hT ((hF541.2.1 175 (by decide))) ((hF541.1 174 1 (by decide))) ((hF541.1 176 3 (by decide))) ((hF541.1 176 4 (by decide))) ((hF541.1 176 5 (by decide))))) ?_
        rintro _ _ ⟨g747, rfl, hI748, hF749, v750, rfl, hr751⟩
        refine At.sti ?_
        have hF752 := Fr.tr hF544 hF749 rfl rfl
        have ln753 : NHX g0 v750.toInt := (hr751.2).c (rX.c (b := 3) ((hF541.1 176 3 (by decide)))) (CDX.c ((hF541.2.1 175 (by decide))) ((hF541.1 176 3 (by decide))) ((hF541.1 176 4 (by decide))) ((hF541.1 176 5 (by decide))))
        refine At.enter rfl ?_
        refine r_goto ?_
        refine At.enter rfl ?_
        refine r_istore_n ([(3, .int v750), (2, .int 0), (0, .ref 176), (1, .int a1)]) rfl ?_
        refine r_iload_n rfl ?_
        refine r_iconst (-1) rfl ?_
        refine r_ics 76 rfl (fun c754 => ?_) (fun c754 => ?_)
        · have c754_ : v750.toInt = (-1) := en_i_eq_t c754
          refine At.enter rfl ?_
          refine r_aload_n rfl ?_
          refine q_inlV 96 rfl [.ref 176] [] (Nat.le_of_ble_eq_true rfl) rfl ?_
          refine Ev.mk rfl rfl ⟨Nat.le_of_ble_eq_true rfl, Or.inr (q_rc hI748.1 kx_176 rfl)⟩ ?_
          show At _ none _ _ (0, [(0, .ref 176)], [], (_, _)) _
          refine At.enter rfl ?_
          refine r_aload_n rfl ?_
          obtain ⟨v755, hv755⟩ : ∃ v, gI g0 176 2 = v := ⟨_, rfl⟩
          refine q_getI (Sh.int hI748.1 kx_176 rfl) v755 (((hF749.1 176 2 (by decide)).trans (hF541.1 176 2 (by decide))).trans hv755) ?_
          refine r_iconst (-1) rfl ?_
          refine r_ics 8 rfl (fun c756 => ?_) (fun c756 => ?_)
          · have c756_ : v755.toInt ≠ (-1) := en_i_ne_t c756
            refine At.enter rfl ?_
            refine q_vret ?_
            refine At.enter rfl ?_
            refine r_vret ?_
            have x757 := rX.e hI748 (b := 2) ((((hF749.1 176 2 (by decide)).trans (hF541.1 176 2 (by decide))).trans hv755))
            have x758 := rX.e hI0 (b := 2) (hv755)
            obtain ⟨v759, hv759⟩ : ∃ v, gI g0 176 4 = v := ⟨_, rfl⟩
            have rv759 := RgF.at hI0.2.1 (p := 176) (b := 4) rfl
            rw [hv759] at rv759
            dsimp only at rv759
            have tv759 := congrArg Int32.toInt hv759
            have x760 := rX.e hI748 (b := 4) ((((hF749.1 176 4 (by decide)).trans (hF541.1 176 4 (by decide))).trans hv759))
            have x761 := rX.e hI0 (b := 4) (hv759)
            obtain ⟨v762, hv762⟩ : ∃ v, gI g0 176 6 = v := ⟨_, rfl⟩
            have tv762 := congrArg Int32.toInt hv762
            have x763 := rX.e hI748 (b := 6) ((((hF749.1 176 6 (by decide)).trans (hF541.1 176 6 (by decide))).trans hv762))
            have x764 := rX.e hI0 (b := 6) (hv762)
            have x765 := rX.e hI0 (b := 3) (hv549)
            have lf := ln753 (by omega)
            exact ⟨_, rfl, hI748, hF752, rfl, ⟨(TKX.c hT (((hF749.2.1 175 (by decide)).trans (hF541.2.1 175 (by decide)))) (((hF749.1 174 1 (by decide)).trans (hF541.1 174 1 (by decide)))) (((hF749.1 176 3 (by decide)).trans (hF541.1 176 3 (by decide)))) (((hF749.1 176 4 (by decide)).trans (hF541.1 176 4 (by decide)))) (((hF749.1 176 5 (by decide)).trans (hF541.1 176 5 (by decide))))), (PRG0.fail 1 (rX.c (b := 4) (((hF749.1 176 4 (by decide)).trans (hF541.1 176 4 (by decide))))) (fun _ => by omega) (fun _ => by omega) (by omega)).le (by omega), PAO.leafF (TKX.some hT).choose_spec (by omega) (by omega) (fun _ => by omega) (fun _ => by omega) (by omega)⟩⟩
          · have c756_ : v755.toInt = (-1) := en_i_ne_f c756
            refine At.enter rfl ?_
            refine r_aload_n rfl ?_
            refine r_aload_n rfl ?_
            obtain ⟨v766, hv766⟩ : ∃ v, gI g0 176 4 = v := ⟨_, rfl⟩
            have rv766 := RgF.at hI0.2.1 (p := 176) (b := 4) rfl
            rw [hv766] at rv766
            dsimp only at rv766
            refine q_getI (Sh.int hI748.1 kx_176 rfl) v766 (((hF749.1 176 4 (by decide)).trans (hF541.1 176 4 (by decide))).trans hv766) ?_
            refine q_putI (Sh.int hI748.1 kx_176 rfl) rfl ?_
            have hI767 := HI.wI0 hI748 kx_176 rfl (p := 176) (b := 2) (v := v766) rfl
            have hF768 := Fr.wI (p := 176) (b := 2) (v := v766) hF752 rfl
            refine Ar.fall 16 rfl ?_
            refine At.enter rfl ?_
            refine q_vret ?_
            refine At.enter rfl ?_
            refine r_vret ?_
            have x769 := rX.e hI767 (b := 2) ((gI_sI_eq hI748.1 kx_176 rfl _))
            have x770 := rX.e hI0 (b := 2) (hv755)
            have x771 := rX.e hI767 (b := 4) ((((gI_sI_ne (by decide)).trans ((hF749.1 176 4 (by decide)).trans (hF541.1 176 4 (by decide)))).trans hv766))
            have x772 := rX.e hI0 (b := 4) (hv766)
            obtain ⟨v773, hv773⟩ : ∃ v, gI g0 176 6 = v := ⟨_, rfl⟩
            have tv773 := congrArg Int32.toInt hv773
            have x774 := rX.e hI767 (b := 6) ((((gI_sI_ne (by decide)).trans ((hF749.1 176 6 (by decide)).trans (hF541.1 176 6 (by decide)))).trans hv773))
            have x775 := rX.e hI0 (b := 6) (hv773)
            have x776 := rX.e hI0 (b := 3) (hv549)
            have lf := ln753 (by omega)
            exact ⟨_, rfl, hI767, hF768, rfl, ⟨(TKX.c hT (((gA_sI).trans ((hF749.2.1 175 (by decide)).trans (hF541.2.1 175 (by decide))))) (((gI_sI_ne (by decide)).trans ((hF749.1 174 1 (by decide)).trans (hF541.1 174 1 (by decide))))) (((gI_sI_ne (by decide)).trans ((hF749.1 176 3 (by decide)).trans (hF541.1 176 3 (by decide))))) (((gI_sI_ne (by decide)).trans ((hF749.1 176 4 (by decide)).trans (hF541.1 176 4 (by decide))))) (((gI_sI_ne (by decide)).trans ((hF749.1 176 5 (by decide)).trans (hF541.1 176 5 (by decide)))))), (PRG0.fail 1 (rX.c (b := 4) (((gI_sI_ne (by decide)).trans ((hF749.1 176 4 (by decide)).trans (hF541.1 176 4 (by decide)))))) (fun _ => by omega) (fun _ => by omega) (by omega)).le (by omega), PAO.leafF (TKX.some hT).choose_spec (by omega) (by omega) (fun _ => by omega) (fun _ => by omega) (by omega)⟩⟩
        · have c754_ : v750.toInt ≠ (-1) := en_i_eq_f c754
          refine At.enter rfl ?_
          refine r_iload_n rfl ?_
          refine r_sipush 1000 rfl ?_
          refine r_ics 83 rfl (fun c777 => ?_) (fun c777 => ?_)
          · have c777_ : v750.toInt > 1000 := en_i_gt_t c777
            refine At.enter rfl ?_
            refine r_aload_n rfl ?_
            refine q_inlV 96 rfl [.ref 176] [] (Nat.le_of_ble_eq_true rfl) rfl ?_
            refine Ev.mk rfl rfl ⟨Nat.le_of_ble_eq_true rfl, Or.inr (q_rc hI748.1 kx_176 rfl)⟩ ?_
            show At _ none _ _ (0, [(0, .ref 176)], [], (_, _)) _
            refine At.enter rfl ?_
            refine r_aload_n rfl ?_
            obtain ⟨v778, hv778⟩ : ∃ v, gI g0 176 2 = v := ⟨_, rfl⟩
            refine q_getI (Sh.int hI748.1 kx_176 rfl) v778 (((hF749.1 176 2 (by decide)).trans (hF541.1 176 2 (by decide))).trans hv778) ?_
            refine r_iconst (-1) rfl ?_
            refine r_ics 8 rfl (fun c779 => ?_) (fun c779 => ?_)
            · have c779_ : v778.toInt ≠ (-1) := en_i_ne_t c779
              refine At.enter rfl ?_
              refine q_vret ?_
              refine At.enter rfl ?_
              refine r_vret ?_
              have x780 := rX.e hI748 (b := 2) ((((hF749.1 176 2 (by decide)).trans (hF541.1 176 2 (by decide))).trans hv778))
              have x781 := rX.e hI0 (b := 2) (hv778)
              obtain ⟨v782, hv782⟩ : ∃ v, gI g0 176 4 = v := ⟨_, rfl⟩
              have rv782 := RgF.at hI0.2.1 (p := 176) (b := 4) rfl
              rw [hv782] at rv782
              dsimp only at rv782
              have tv782 := congrArg Int32.toInt hv782
              have x783 := rX.e hI748 (b := 4) ((((hF749.1 176 4 (by decide)).trans (hF541.1 176 4 (by decide))).trans hv782))
              have x784 := rX.e hI0 (b := 4) (hv782)
              obtain ⟨v785, hv785⟩ : ∃ v, gI g0 176 6 = v := ⟨_, rfl⟩
              have tv785 := congrArg Int32.toInt hv785
              have x786 := rX.e hI748 (b := 6) ((((hF749.1 176 6 (by decide)).trans (hF541.1 176 6 (by decide))).trans hv785))
              have x787 := rX.e hI0 (b := 6) (hv785)
              have x788 := rX.e hI0 (b := 3) (hv549)
              have lf := ln753 (by omega)
              exact ⟨_, rfl, hI748, hF752, rfl, ⟨(TKX.c hT (((hF749.2.1 175 (by decide)).trans (hF541.2.1 175 (by decide)))) (((hF749.1 174 1 (by decide)).trans (hF541.1 174 1 (by decide)))) (((hF749.1 176 3 (by decide)).trans (hF541.1 176 3 (by decide)))) (((hF749.1 176 4 (by decide)).trans (hF541.1 176 4 (by decide)))) (((hF749.1 176 5 (by decide)).trans (hF541.1 176 5 (by decide))))), (PRG0.fail 1 (rX.c (b := 4) (((hF749.1 176 4 (by decide)).trans (hF541.1 176 4 (by decide))))) (fun _ => by omega) (fun _ => by omega) (by omega)).le (by omega), PAO.leafF (TKX.some hT).choose_spec (by omega) (by omega) (fun _ => by omega) (fun _ => by omega) (by omega)⟩⟩
            · have c779_ : v778.toInt = (-1) := en_i_ne_f c779
              refine At.enter rfl ?_
              refine r_aload_n rfl ?_
              refine r_aload_n rfl ?_
              obtain ⟨v789, hv789⟩ : ∃ v, gI g0 176 4 = v := ⟨_, rfl⟩
              have rv789 := RgF.at hI0.2.1 (p := 176) (b := 4) rfl
              rw [hv789] at rv789
              dsimp only at rv789
              refine q_getI (Sh.int hI748.1 kx_176 rfl) v789 (((hF749.1 176 4 (by decide)).trans (hF541.1 176 4 (by decide))).trans hv789) ?_
              refine q_putI (Sh.int hI748.1 kx_176 rfl) rfl ?_
              have hI790 := HI.wI0 hI748 kx_176 rfl (p := 176) (b := 2) (v := v789) rfl
              have hF791 := Fr.wI (p := 176) (b := 2) (v := v789) hF752 rfl
              refine Ar.fall 16 rfl ?_
              refine At.enter rfl ?_
              refine q_vret ?_
              refine At.enter rfl ?_
              refine r_vret ?_
              have x792 := rX.e hI790 (b := 2) ((gI_sI_eq hI748.1 kx_176 rfl _))
              have x793 := rX.e hI0 (b := 2) (hv778)
              have x794 := rX.e hI790 (b := 4) ((((gI_sI_ne (by decide)).trans ((hF749.1 176 4 (by decide)).trans (hF541.1 176 4 (by decide)))).trans hv789))
              have x795 := rX.e hI0 (b := 4) (hv789)
              obtain ⟨v796, hv796⟩ : ∃ v, gI g0 176 6 = v := ⟨_, rfl⟩
              have tv796 := congrArg Int32.toInt hv796
              have x797 := rX.e hI790 (b := 6) ((((gI_sI_ne (by decide)).trans ((hF749.1 176 6 (by decide)).trans (hF541.1 176 6 (by decide)))).trans hv796))
              have x798 := rX.e hI0 (b := 6) (hv796)
              have x799 := rX.e hI0 (b := 3) (hv549)
              have lf := ln753 (by omega)
              exact ⟨_, rfl, hI790, hF791, rfl, ⟨(TKX.c hT (((gA_sI).trans ((hF749.2.1 175 (by decide)).trans (hF541.2.1 175 (by decide))))) (((gI_sI_ne (by decide)).trans ((hF749.1 174 1 (by decide)).trans (hF541.1 174 1 (by decide))))) (((gI_sI_ne (by decide)).trans ((hF749.1 176 3 (by decide)).trans (hF541.1 176 3 (by decide))))) (((gI_sI_ne (by decide)).trans ((hF749.1 176 4 (by decide)).trans (hF541.1 176 4 (by decide))))) (((gI_sI_ne (by decide)).trans ((hF749.1 176 5 (by decide)).trans (hF541.1 176 5 (by decide)))))), (PRG0.fail 1 (rX.c (b := 4) (((gI_sI_ne (by decide)).trans ((hF749.1 176 4 (by decide)).trans (hF541.1 176 4 (by decide)))))) (fun _ => by omega) (fun _ => by omega) (by omega)).le (by omega), PAO.leafF (TKX.some hT).choose_spec (by omega) (by omega) (fun _ => by omega) (fun _ => by omega) (by omega)⟩⟩
          · have c777_ : v750.toInt ≤ 1000 := en_i_gt_f c777
            refine At.enter rfl ?_
            refine r_aload_n rfl ?_
            obtain ⟨v800, hv800⟩ : ∃ v, gI g0 176 6 = v := ⟨_, rfl⟩
            refine q_getI (Sh.int hI748.1 kx_176 rfl) v800 (((hF749.1 176 6 (by decide)).trans (hF541.1 176 6 (by decide))).trans hv800) ?_
            refine r_bipush 50 rfl ?_
            refine r_ics 92 rfl (fun c801 => ?_) (fun c801 => ?_)
            · have c801_ : v800.toInt < 50 := en_i_lt_t c801
              refine At.enter rfl ?_
              refine r_aload_n rfl ?_
              refine r_dup rfl ?_
              refine q_getI (Sh.int hI748.1 kx_176 rfl) v800 (((hF749.1 176 6 (by decide)).trans (hF541.1 176 6 (by decide))).trans hv800) ?_
              refine r_iconst 1 rfl ?_
              have bv802 := q_bnd v800
              refine q_iadd (v800.toInt + 1) rfl (by omega) (fun v803 hv803 => ?_)
              refine q_putI (Sh.int hI748.1 kx_176 rfl) rfl ?_
              have hI804 := HI.wI0 hI748 kx_176 rfl (p := 176) (b := 6) (v := v803) rfl
              have hF805 := Fr.wI (p := 176) (b := 6) (v := v803) hF752 rfl
              refine r_aload_n rfl ?_
              refine q_getR (Sh.ref hI804.1 kx_176 rfl) ?_
              refine r_iload_n rfl ?_
              refine r_iload_n rfl ?_
              refine r_callV 116 rfl [.ref 177, .int 0, .int v750] [] (Nat.le_of_ble_eq_true rfl) rfl (T_X4_add_177 _ hI804 0 v750) ?_
              rintro _ _ ⟨g806, rfl, hI807, hF808, v809, rfl, hr810⟩
              refine At.sti ?_
              have hF811 := Fr.tr hF805 hF808 rfl rfl
              refine At.enter rfl ?_
              refine r_pop rfl ?_
              refine r_aload_n rfl ?_
              refine r_callV 121 rfl [.ref 176] [] (Nat.le_of_ble_eq_true rfl) rfl (T_X5_step_176 _ hI807 (TKX.c hT (((hF808.2.1 175 (by decide)).trans ((gA_sI).trans ((hF749.2.1 175 (by decide)).trans (hF541.2.1 175 (by decide)))))) (((hF808.1 174 1 (by decide)).trans ((gI_sI_ne (by decide)).trans ((hF749.1 174 1 (by decide)).trans (hF541.1 174 1 (by decide)))))) (((hF808.1 176 3 (by decide)).trans ((gI_sI_ne (by decide)).trans ((hF749.1 176 3 (by decide)).trans (hF541.1 176 3 (by decide)))))) (((hF808.1 176 4 (by decide)).trans ((gI_sI_ne (by decide)).trans ((hF749.1 176 4 (by decide)).trans (hF541.1 176 4 (by decide)))))) (((hF808.1 176 5 (by decide)).trans ((gI_sI_ne (by decide)).trans ((hF749.1 176 5 (by decide)).trans (hF541.1 176 5 (by decide))))))).1 (TKX.c hT (((hF808.2.1 175 (by decide)).trans ((gA_sI).trans ((hF749.2.1 175 (by decide)).trans (hF541.2.1 175 (by decide)))))) (((hF808.1 174 1 (by decide)).trans ((gI_sI_ne (by decide)).trans ((hF749.1 174 1 (by decide)).trans (hF541.1 174 1 (by decide)))))) (((hF808.1 176 3 (by decide)).trans ((gI_sI_ne (by decide)).trans ((hF749.1 176 3 (by decide)).trans (hF541.1 176 3 (by decide)))))) (((hF808.1 176 4 (by decide)).trans ((gI_sI_ne (by decide)).trans ((hF749.1 176 4 (by decide)).trans (hF541.1 176 4 (by decide)))))) (((hF808.1 176 5 (by decide)).trans ((gI_sI_ne (by decide)).trans ((hF749.1 176 5 (by decide)).trans (hF541.1 176 5 (by decide))))))).2.1.le.2.1) ?_
              rintro _ _ ⟨g812, rfl, hI813, hF814, rfl, hr816⟩
              refine At.stn ?_
              have hF817 := Fr.tr hF811 hF814 rfl rfl
              have tok818_ := hr816.2
              rw [TX.c (((hF808.2.1 175 (by decide)).trans ((gA_sI).trans ((hF749.2.1 175 (by decide)).trans (hF541.2.1 175 (by decide)))))), nX.c (((hF808.1 174 1 (by decide)).trans ((gI_sI_ne (by decide)).trans ((hF749.1 174 1 (by decide)).trans (hF541.1 174 1 (by decide)))))), rX.c (b := 5) (((hF808.1 176 5 (by decide)).trans ((gI_sI_ne (by decide)).trans ((hF749.1 176 5 (by decide)).trans (hF541.1 176 5 (by decide))))))] at tok818_
              have tok818 := TKX.tok hT tok818_
              have hT819 := hr816.1
              obtain ⟨v820, hv820⟩ : ∃ v, gI g0 176 4 = v := ⟨_, rfl⟩
              have rv820 := RgF.at hI0.2.1 (p := 176) (b := 4) rfl
              rw [hv820] at rv820
              dsimp only at rv820
              have tv820 := congrArg Int32.toInt hv820
              have x821 := rX.e hI807 (b := 4) ((((hF808.1 176 4 (by decide)).trans ((gI_sI_ne (by decide)).trans ((hF749.1 176 4 (by decide)).trans (hF541.1 176 4 (by decide))))).trans hv820))
              obtain ⟨v822, hv822⟩ : ∃ v, gI g812 176 4 = v := ⟨_, rfl⟩
              have rv822 := RgF.at hI813.2.1 (p := 176) (b := 4) rfl
              rw [hv822] at rv822
              dsimp only at rv822
              have tv822 := congrArg Int32.toInt hv822
              have x823 := rX.e hI813 (b := 4) (hv822)
              refine At.enter rfl ?_
              refine r_vret ?_
              obtain ⟨v824, hv824⟩ : ∃ v, gI g0 176 2 = v := ⟨_, rfl⟩
              have tv824 := congrArg Int32.toInt hv824
              have x825 := rX.e hI813 (b := 2) ((((hF814.1 176 2 (by decide)).trans ((hF808.1 176 2 (by decide)).trans ((gI_sI_ne (by decide)).trans ((hF749.1 176 2 (by decide)).trans (hF541.1 176 2 (by decide)))))).trans hv824))
              have x826 := rX.e hI0 (b := 2) (hv824)
              have x827 := rX.e hI813 (b := 4) (hv822)
              have x828 := rX.e hI0 (b := 4) (hv820)
              have x829 := rX.e hI813 (b := 6) (((hF814.1 176 6 (by decide)).trans ((hF808.1 176 6 (by decide)).trans (gI_sI_eq hI748.1 kx_176 rfl _))))
              have x830 := rX.e hI0 (b := 6) (hv800)
              have x831 := rX.e hI0 (b := 3) (hv549)
              have x832 := rX.e hI813 (b := 2) ((((hF814.1 176 2 (by decide)).trans ((hF808.1 176 2 (by decide)).trans ((gI_sI_ne (by decide)).trans ((hF749.1 176 2 (by decide)).trans (hF541.1 176 2 (by decide)))))).trans hv824))
              have x833 := rX.e hI813 (b := 4) (hv822)
              have x834 := rX.e hI813 (b := 6) (((hF814.1 176 6 (by decide)).trans ((hF808.1 176 6 (by decide)).trans (gI_sI_eq hI748.1 kx_176 rfl _))))
              have lf := ln753 (by omega)
              exact ⟨_, rfl, hI813, hF817, rfl, ⟨hT819, (PRG0.step hT tok818_ (rX.c (b := 2) (((hF814.1 176 2 (by decide)).trans ((hF808.1 176 2 (by decide)).trans ((gI_sI_ne (by decide)).trans ((hF749.1 176 2 (by decide)).trans (hF541.1 176 2 (by decide)))))))) (by omega)).le (by omega), PAO.leaf tok818 (by omega) (by omega) (by omega) (by omega)⟩⟩
            · have c801_ : v800.toInt ≥ 50 := en_i_lt_f c801
              refine At.enter rfl ?_
              refine r_aload_n rfl ?_
              refine q_inlV 96 rfl [.ref 176] [] (Nat.le_of_ble_eq_true rfl) rfl ?_
              refine Ev.mk rfl rfl ⟨Nat.le_of_ble_eq_true rfl, Or.inr (q_rc hI748.1 kx_176 rfl)⟩ ?_
              show At _ none _ _ (0, [(0, .ref 176)], [], (_, _)) _
              refine At.enter rfl ?_
              refine r_aload_n rfl ?_
              obtain ⟨v835, hv835⟩ : ∃ v, gI g0 176 2 = v := ⟨_, rfl⟩
              refine q_getI (Sh.int hI748.1 kx_176 rfl) v835 (((hF749.1 176 2 (by decide)).trans (hF541.1 176 2 (by decide))).trans hv835) ?_
              refine r_iconst (-1) rfl ?_
              refine r_ics 8 rfl (fun c836 => ?_) (fun c836 => ?_)
              · have c836_ : v835.toInt ≠ (-1) := en_i_ne_t c836
                refine At.enter rfl ?_
                refine q_vret ?_
                refine At.enter rfl ?_
                refine r_vret ?_
                have x837 := rX.e hI748 (b := 2) ((((hF749.1 176 2 (by decide)).trans (hF541.1 176 2 (by decide))).trans hv835))
                have x838 := rX.e hI0 (b := 2) (hv835)
                obtain ⟨v839, hv839⟩ : ∃ v, gI g0 176 4 = v := ⟨_, rfl⟩
                have rv839 := RgF.at hI0.2.1 (p := 176) (b := 4) rfl
                rw [hv839] at rv839
                dsimp only at rv839
                have tv839 := congrArg Int32.toInt hv839
                have x840 := rX.e hI748 (b := 4) ((((hF749.1 176 4 (by decide)).trans (hF541.1 176 4 (by decide))).trans hv839))
                have x841 := rX.e hI0 (b := 4) (hv839)
                have x842 := rX.e hI748 (b := 6) ((((hF749.1 176 6 (by decide)).trans (hF541.1 176 6 (by decide))).trans hv800))
                have x843 := rX.e hI0 (b := 6) (hv800)
                have x844 := rX.e hI0 (b := 3) (hv549)
                have lf := ln753 (by omega)
                exact ⟨_, rfl, hI748, hF752, rfl, ⟨(TKX.c hT (((hF749.2.1 175 (by decide)).trans (hF541.2.1 175 (by decide)))) (((hF749.1 174 1 (by decide)).trans (hF541.1 174 1 (by decide)))) (((hF749.1 176 3 (by decide)).trans (hF541.1 176 3 (by decide)))) (((hF749.1 176 4 (by decide)).trans (hF541.1 176 4 (by decide)))) (((hF749.1 176 5 (by decide)).trans (hF541.1 176 5 (by decide))))), (PRG0.fail 1 (rX.c (b := 4) (((hF749.1 176 4 (by decide)).trans (hF541.1 176 4 (by decide))))) (fun _ => by omega) (fun _ => by omega) (by omega)).le (by omega), PAO.leafF (TKX.some hT).choose_spec (by omega) (by omega) (fun _ => by omega) (fun _ => by omega) (by omega)⟩⟩
              · have c836_ : v835.toInt = (-1) := en_i_ne_f c836
                refine At.enter rfl ?_
                refine r_aload_n rfl ?_
                refine r_aload_n rfl ?_
                obtain ⟨v845, hv845⟩ : ∃ v, gI g0 176 4 = v := ⟨_, rfl⟩
                have rv845 := RgF.at hI0.2.1 (p := 176) (b := 4) rfl
                rw [hv845] at rv845
                dsimp only at rv845
                refine q_getI (Sh.int hI748.1 kx_176 rfl) v845 (((hF749.1 176 4 (by decide)).trans (hF541.1 176 4 (by decide))).trans hv845) ?_
                refine q_putI (Sh.int hI748.1 kx_176 rfl) rfl ?_
                have hI846 := HI.wI0 hI748 kx_176 rfl (p := 176) (b := 2) (v := v845) rfl
                have hF847 := Fr.wI (p := 176) (b := 2) (v := v845) hF752 rfl
                refine Ar.fall 16 rfl ?_
                refine At.enter rfl ?_
                refine q_vret ?_
                refine At.enter rfl ?_
                refine r_vret ?_
                have x848 := rX.e hI846 (b := 2) ((gI_sI_eq hI748.1 kx_176 rfl _))
                have x849 := rX.e hI0 (b := 2) (hv835)
                have x850 := rX.e hI846 (b := 4) ((((gI_sI_ne (by decide)).trans ((hF749.1 176 4 (by decide)).trans (hF541.1 176 4 (by decide)))).trans hv845))
                have x851 := rX.e hI0 (b := 4) (hv845)
                have x852 := rX.e hI846 (b := 6) ((((gI_sI_ne (by decide)).trans ((hF749.1 176 6 (by decide)).trans (hF541.1 176 6 (by decide)))).trans hv800))
                have x853 := rX.e hI0 (b := 6) (hv800)
                have x854 := rX.e hI0 (b := 3) (hv549)
                have lf := ln753 (by omega)
                exact ⟨_, rfl, hI846, hF847, rfl, ⟨(TKX.c hT (((gA_sI).trans ((hF749.2.1 175 (by decide)).trans (hF541.2.1 175 (by decide))))) (((gI_sI_ne (by decide)).trans ((hF749.1 174 1 (by decide)).trans (hF541.1 174 1 (by decide))))) (((gI_sI_ne (by decide)).trans ((hF749.1 176 3 (by decide)).trans (hF541.1 176 3 (by decide))))) (((gI_sI_ne (by decide)).trans ((hF749.1 176 4 (by decide)).trans (hF541.1 176 4 (by decide))))) (((gI_sI_ne (by decide)).trans ((hF749.1 176 5 (by decide)).trans (hF541.1 176 5 (by decide)))))), (PRG0.fail 1 (rX.c (b := 4) (((gI_sI_ne (by decide)).trans ((hF749.1 176 4 (by decide)).trans (hF541.1 176 4 (by decide)))))) (fun _ => by omega) (fun _ => by omega) (by omega)).le (by omega), PAO.leafF (TKX.some hT).choose_spec (by omega) (by omega) (fun _ => by omega) (fun _ => by omega) (by omega)⟩⟩
  · have c547_ : v542.toInt ≠ 0 := en_k_eq_f c547
    have i855 := BL.yes hb546 (by omega)
    refine At.enter rfl ?_
    refine r_aload_n rfl ?_
    refine r_iload_n rfl ?_
    refine q_inlV 14 rfl [.ref 176, .int a1] [] (Nat.le_of_ble_eq_true rfl) rfl ?_
    refine Ev.mk rfl rfl ⟨Nat.le_of_ble_eq_true rfl, Or.inr (q_rc hI540.1 kx_176 rfl)⟩ ?_
    show At _ none _ _ (0, [(0, .ref 176), (1, .int a1)], [], (_, _)) _
    refine At.enter rfl ?_
    refine r_iload_n rfl ?_
    refine r_bipush 8 rfl ?_
    refine r_ics 6 rfl (fun c856 => ?_) (fun c856 => ?_)
    · have c856_ : a1.toInt < 8 := en_i_lt_t c856
      refine At.enter rfl ?_
      refine r_aload_n rfl ?_
      refine r_callV 17 rfl [.ref 176] [] (Nat.le_of_ble_eq_true rfl) rfl (T_X5_step_176 _ hI540 (TKX.c hT ((hF541.2.1 175 (by decide))) ((hF541.1 174 1 (by decide))) ((hF541.1 176 3 (by decide))) ((hF541.1 176 4 (by decide))) ((hF541.1 176 5 (by decide)))).1 (TKX.c hT ((hF541.2.1 175 (by decide))) ((hF541.1 174 1 (by decide))) ((hF541.1 176 3 (by decide))) ((hF541.1 176 4 (by decide))) ((hF541.1 176 5 (by decide)))).2.1.le.2.1) ?_
      rintro _ _ ⟨g857, rfl, hI858, hF859, rfl, hr861⟩
      refine At.stn ?_
      have hF862 := Fr.tr hF544 hF859 rfl rfl
      have tok863_ := hr861.2
      rw [TX.c ((hF541.2.1 175 (by decide))), nX.c ((hF541.1 174 1 (by decide))), rX.c (b := 5) ((hF541.1 176 5 (by decide)))] at tok863_
      have tok863 := TKX.tok hT tok863_
      have hT864 := hr861.1
      obtain ⟨v865, hv865⟩ : ∃ v, gI g0 176 4 = v := ⟨_, rfl⟩
      have rv865 := RgF.at hI0.2.1 (p := 176) (b := 4) rfl
      rw [hv865] at rv865
      dsimp only at rv865
      have tv865 := congrArg Int32.toInt hv865
      have x866 := rX.e hI540 (b := 4) (((hF541.1 176 4 (by decide)).trans hv865))
      obtain ⟨v867, hv867⟩ : ∃ v, gI g857 176 4 = v := ⟨_, rfl⟩
      have rv867 := RgF.at hI858.2.1 (p := 176) (b := 4) rfl
      rw [hv867] at rv867
      dsimp only at rv867
      have tv867 := congrArg Int32.toInt hv867
      have x868 := rX.e hI858 (b := 4) (hv867)
      refine At.enter rfl ?_
      refine q_vret ?_
      refine At.enter rfl ?_
      refine r_aload_n rfl ?_
      obtain ⟨v869, hv869⟩ : ∃ v, gI g0 176 2 = v := ⟨_, rfl⟩
      refine q_getI (Sh.int hI858.1 kx_176 rfl) v869 (((hF859.1 176 2 (by decide)).trans (hF541.1 176 2 (by decide))).trans hv869) ?_
      refine r_iconst (-1) rfl ?_
      refine r_ics 22 rfl (fun c870 => ?_) (fun c870 => ?_)
      · have c870_ : v869.toInt ≠ (-1) := en_i_ne_t c870
        refine At.enter rfl ?_
        refine r_vret ?_
        have x871 := rX.e hI858 (b := 2) ((((hF859.1 176 2 (by decide)).trans (hF541.1 176 2 (by decide))).trans hv869))
        have x872 := rX.e hI0 (b := 2) (hv869)
        have x873 := rX.e hI858 (b := 4) (hv867)
        have x874 := rX.e hI0 (b := 4) (hv865)
        obtain ⟨v875, hv875⟩ : ∃ v, gI g0 176 6 = v := ⟨_, rfl⟩
        have tv875 := congrArg Int32.toInt hv875
        have x876 := rX.e hI858 (b := 6) ((((hF859.1 176 6 (by decide)).trans (hF541.1 176 6 (by decide))).trans hv875))
        have x877 := rX.e hI0 (b := 6) (hv875)
        obtain ⟨v878, hv878⟩ : ∃ v, gI g0 176 3 = v := ⟨_, rfl⟩
        have tv878 := congrArg Int32.toInt hv878
        have x879 := rX.e hI0 (b := 3) (hv878)
        have x880 := rX.e hI858 (b := 2) ((((hF859.1 176 2 (by decide)).trans (hF541.1 176 2 (by decide))).trans hv869))
        have x881 := rX.e hI858 (b := 4) (hv867)
        have x882 := rX.e hI858 (b := 6) ((((hF859.1 176 6 (by decide)).trans (hF541.1 176 6 (by decide))).trans hv875))
        exact ⟨_, rfl, hI858, hF862, rfl, ⟨hT864, (PRG0.step hT tok863_ (rX.c (b := 2) (((hF859.1 176 2 (by decide)).trans (hF541.1 176 2 (by decide))))) (by omega)).le (by omega), PAO.bad tok863 (rX.c (b := 2) (((hF859.1 176 2 (by decide)).trans (hF541.1 176 2 (by decide))))) (by omega) rfl⟩⟩
      · have c870_ : v869.toInt = (-1) := en_i_ne_f c870
        refine At.enter rfl ?_
        refine r_aload_n rfl ?_
        refine r_iconst 2 rfl ?_
        refine r_iload_n rfl ?_
        refine r_iconst 1 rfl ?_
        refine q_iadd (a1.toInt + 1) rfl (by omega) (fun v883 hv883 => ?_)
        have zv884 : (2 : Int32).toInt = 2 := rfl
        refine r_callV 30 rfl [.ref 176, .int 2, .int v883] [] (Nat.le_of_ble_eq_true rfl) rfl (IHJ _ (by omega) hI858 2 (by decide) v883 (by omega) (by omega) hT864) ?_
        rintro _ _ ⟨g885, rfl, hI886, hF887, rfl, hr889⟩
        refine At.stn ?_
        have hF890 := Fr.tr hF862 hF887 rfl rfl
        have zv891 : (2 : Int32).toInt = 2 := rfl
        have x896 := rX.e hI858 (b := 2) ((((hF859.1 176 2 (by decide)).trans (hF541.1 176 2 (by decide))).trans hv869))
        have x897 := rX.e hI858 (b := 4) (hv867)
        obtain ⟨o892, o893, o894, o895⟩ := hr889
        have o898 := OPD.tc o894 (((hF859.2.1 175 (by decide)).trans (hF541.2.1 175 (by decide)))) (((hF859.1 174 1 (by decide)).trans (hF541.1 174 1 (by decide))))
        obtain ⟨v899, hv899⟩ : ∃ v, gI g885 176 2 = v := ⟨_, rfl⟩
        have tv899 := congrArg Int32.toInt hv899
        have x900 := rX.e hI886 (b := 2) (hv899)
        obtain ⟨v901, hv901⟩ : ∃ v, gI g885 176 4 = v := ⟨_, rfl⟩
        have rv901 := RgF.at hI886.2.1 (p := 176) (b := 4) rfl
        rw [hv901] at rv901
        dsimp only at rv901
        have tv901 := congrArg Int32.toInt hv901
        have x902 := rX.e hI886 (b := 4) (hv901)
        refine At.enter rfl ?_
        refine r_aload_n rfl ?_
        refine r_bipush 93 rfl ?_
        refine q_inlV 36 rfl [.ref 176, .int 93] [] (Nat.le_of_ble_eq_true rfl) rfl ?_
        refine Ev.mk rfl rfl ⟨Nat.le_of_ble_eq_true rfl, Or.inr (q_rc hI886.1 kx_176 rfl)⟩ ?_
        show At _ none _ _ (0, [(0, .ref 176), (1, .int 93)], [], (_, _)) _
        refine At.enter rfl ?_
        refine r_aload_n rfl ?_
        refine r_iload_n rfl ?_
        refine r_callV 5 rfl [.ref 176, .int 93] [] (Nat.le_of_ble_eq_true rfl) rfl (T_X5_isSingle_176 _ hI886 93 (by decide)) ?_
        rintro _ _ ⟨g903, rfl, hI904, hF905, v906, rfl, hr907⟩
        refine At.sti ?_
        have hF908 := Fr.tr hF890 hF905 rfl rfl
        have zv909 : (93 : Int32).toInt = 93 := rfl
        have hb910 : BL (CDX g885 = 6) v906.toInt := ISX.code (c := 6) hr907.2 o892 (isSC_d (by omega)) (by decide)
        refine At.enter rfl ?_
        refine r_ifs 8 rfl (fun c911 => ?_) (fun c911 => ?_)
        · have c911_ : v906.toInt = 0 := en_k_eq_t c911
          have i912 := BL.no hb910 (by omega)
          refine At.enter rfl ?_
          refine r_aload_n rfl ?_
          refine q_inlV 19 rfl [.ref 176] [] (Nat.le_of_ble_eq_true rfl) rfl ?_
          refine Ev.mk rfl rfl ⟨Nat.le_of_ble_eq_true rfl, Or.inr (q_rc hI904.1 kx_176 rfl)⟩ ?_
          show At _ none _ _ (0, [(0, .ref 176)], [], (_, _)) _
          refine At.enter rfl ?_
          refine r_aload_n rfl ?_
          refine q_getI (Sh.int hI904.1 kx_176 rfl) v899 ((hF905.1 176 2 (by decide)).trans hv899) ?_
          refine r_iconst (-1) rfl ?_
          refine r_ics 8 rfl (fun c913 => ?_) (fun c913 => ?_)
          · have c913_ : v899.toInt ≠ (-1) := en_i_ne_t c913
            refine At.enter rfl ?_
            refine q_vret ?_
            refine At.enter rfl ?_
            refine q_vret ?_
            refine At.enter rfl ?_
            refine r_vret ?_
            have x914 := rX.e hI904 (b := 2) (((hF905.1 176 2 (by decide)).trans hv899))
            have x915 := rX.e hI0 (b := 2) (hv869)
            have x916 := rX.e hI904 (b := 4) (((hF905.1 176 4 (by decide)).trans hv901))
            have x917 := rX.e hI0 (b := 4) (hv865)
            obtain ⟨v918, hv918⟩ : ∃ v, gI g885 176 6 = v := ⟨_, rfl⟩
            have tv918 := congrArg Int32.toInt hv918
            have x919 := rX.e hI904 (b := 6) (((hF905.1 176 6 (by decide)).trans hv918))
            obtain ⟨v920, hv920⟩ : ∃ v, gI g0 176 6 = v := ⟨_, rfl⟩
            have tv920 := congrArg Int32.toInt hv920
            have x921 := rX.e hI0 (b := 6) (hv920)
            obtain ⟨v922, hv922⟩ : ∃ v, gI g0 176 3 = v := ⟨_, rfl⟩
            have tv922 := congrArg Int32.toInt hv922
            have x923 := rX.e hI0 (b := 3) (hv922)
            have x924 := rX.e hI858 (b := 2) ((((hF859.1 176 2 (by decide)).trans (hF541.1 176 2 (by decide))).trans hv869))
            have x925 := rX.e hI858 (b := 4) (hv867)
            have x926 := rX.e hI858 (b := 6) ((((hF859.1 176 6 (by decide)).trans (hF541.1 176 6 (by decide))).trans hv920))
            have x927 := rX.e hI886 (b := 2) (hv899)
            have x928 := rX.e hI886 (b := 4) (hv901)
            have x929 := rX.e hI886 (b := 6) (hv918)
            exact ⟨_, rfl, hI904, hF908, rfl, ⟨(TKX.c o892 ((hF905.2.1 175 (by decide))) ((hF905.1 174 1 (by decide))) ((hF905.1 176 3 (by decide))) ((hF905.1 176 4 (by decide))) ((hF905.1 176 5 (by decide)))), ((PRG0.tr ((PRG0.tr (PRG0.step hT tok863_ (rX.c (b := 2) (((hF859.1 176 2 (by decide)).trans (hF541.1 176 2 (by decide))))) (by omega)) (o893))) (PRG0.fail 1 (rX.c (b := 4) ((hF905.1 176 4 (by decide)))) (fun _ => by omega) (fun _ => by omega) (by omega)))).le (by omega), PAO.sqF tok863 (by omega) (by omega) (rX.c (b := 2) (((hF859.1 176 2 (by decide)).trans (hF541.1 176 2 (by decide))))) (rX.c (b := 6) (((hF859.1 176 6 (by decide)).trans (hF541.1 176 6 (by decide))))) (OPD.cast o898 rfl (by omega)) (TKX.someC o892 (((hF887.2.1 175 (by decide)).trans ((hF859.2.1 175 (by decide)).trans (hF541.2.1 175 (by decide))))) (((hF887.1 174 1 (by decide)).trans ((hF859.1 174 1 (by decide)).trans (hF541.1 174 1 (by decide)))))).choose_spec o895 (by omega) (fun _ => by omega) (fun _ => by omega) (by omega)⟩⟩
          · have c913_ : v899.toInt = (-1) := en_i_ne_f c913
            refine At.enter rfl ?_
            refine r_aload_n rfl ?_
            refine r_aload_n rfl ?_
            refine q_getI (Sh.int hI904.1 kx_176 rfl) v901 ((hF905.1 176 4 (by decide)).trans hv901) ?_
            refine q_putI (Sh.int hI904.1 kx_176 rfl) rfl ?_
            have hI930 := HI.wI0 hI904 kx_176 rfl (p := 176) (b := 2) (v := v901) rfl
            have hF931 := Fr.wI (p := 176) (b := 2) (v := v901) hF908 rfl
            refine Ar.fall 16 rfl ?_
            refine At.enter rfl ?_
            refine q_vret ?_
            refine At.enter rfl ?_
            refine q_vret ?_
            refine At.enter rfl ?_
            refine r_vret ?_
            have x932 := rX.e hI930 (b := 2) ((gI_sI_eq hI904.1 kx_176 rfl _))
            have x933 := rX.e hI0 (b := 2) (hv869)
            have x934 := rX.e hI930 (b := 4) ((((gI_sI_ne (by decide)).trans (hF905.1 176 4 (by decide))).trans hv901))
            have x935 := rX.e hI0 (b := 4) (hv865)
            obtain ⟨v936, hv936⟩ : ∃ v, gI g885 176 6 = v := ⟨_, rfl⟩
            have tv936 := congrArg Int32.toInt hv936
            have x937 := rX.e hI930 (b := 6) ((((gI_sI_ne (by decide)).trans (hF905.1 176 6 (by decide))).trans hv936))
            obtain ⟨v938, hv938⟩ : ∃ v, gI g0 176 6 = v := ⟨_, rfl⟩
            have tv938 := congrArg Int32.toInt hv938
            have x939 := rX.e hI0 (b := 6) (hv938)
            obtain ⟨v940, hv940⟩ : ∃ v, gI g0 176 3 = v := ⟨_, rfl⟩
            have tv940 := congrArg Int32.toInt hv940
            have x941 := rX.e hI0 (b := 3) (hv940)
            have x942 := rX.e hI858 (b := 2) ((((hF859.1 176 2 (by decide)).trans (hF541.1 176 2 (by decide))).trans hv869))
            have x943 := rX.e hI858 (b := 4) (hv867)
            have x944 := rX.e hI858 (b := 6) ((((hF859.1 176 6 (by decide)).trans (hF541.1 176 6 (by decide))).trans hv938))
            have x945 := rX.e hI886 (b := 2) (hv899)
            have x946 := rX.e hI886 (b := 4) (hv901)
            have x947 := rX.e hI886 (b := 6) (hv936)
            exact ⟨_, rfl, hI930, hF931, rfl, ⟨(TKX.c o892 (((gA_sI).trans (hF905.2.1 175 (by decide)))) (((gI_sI_ne (by decide)).trans (hF905.1 174 1 (by decide)))) (((gI_sI_ne (by decide)).trans (hF905.1 176 3 (by decide)))) (((gI_sI_ne (by decide)).trans (hF905.1 176 4 (by decide)))) (((gI_sI_ne (by decide)).trans (hF905.1 176 5 (by decide))))), ((PRG0.tr ((PRG0.tr (PRG0.step hT tok863_ (rX.c (b := 2) (((hF859.1 176 2 (by decide)).trans (hF541.1 176 2 (by decide))))) (by omega)) (o893))) (PRG0.fail 1 (rX.c (b := 4) (((gI_sI_ne (by decide)).trans (hF905.1 176 4 (by decide))))) (fun _ => by omega) (fun _ => by omega) (by omega)))).le (by omega), PAO.sqF tok863 (by omega) (by omega) (rX.c (b := 2) (((hF859.1 176 2 (by decide)).trans (hF541.1 176 2 (by decide))))) (rX.c (b := 6) (((hF859.1 176 6 (by decide)).trans (hF541.1 176 6 (by decide))))) (OPD.cast o898 rfl (by omega)) (TKX.someC o892 (((hF887.2.1 175 (by decide)).trans ((hF859.2.1 175 (by decide)).trans (hF541.2.1 175 (by decide))))) (((hF887.1 174 1 (by decide)).trans ((hF859.1 174 1 (by decide)).trans (hF541.1 174 1 (by decide)))))).choose_spec o895 (by omega) (fun _ => by omega) (fun _ => by omega) (by omega)⟩⟩
        · have c911_ : v906.toInt ≠ 0 := en_k_eq_f c911
          have i948 := BL.yes hb910 (by omega)
          refine At.enter rfl ?_
          refine r_aload_n rfl ?_
          refine r_callV 12 rfl [.ref 176] [] (Nat.le_of_ble_eq_true rfl) rfl (T_X5_step_176 _ hI904 (TKX.c o892 ((hF905.2.1 175 (by decide))) ((hF905.1 174 1 (by decide))) ((hF905.1 176 3 (by decide))) ((hF905.1 176 4 (by decide))) ((hF905.1 176 5 (by decide)))).1 (TKX.c o892 ((hF905.2.1 175 (by decide))) ((hF905.1 174 1 (by decide))) ((hF905.1 176 3 (by decide))) ((hF905.1 176 4 (by decide))) ((hF905.1 176 5 (by decide)))).2.1.le.2.1) ?_
          rintro _ _ ⟨g949, rfl, hI950, hF951, rfl, hr953⟩
          refine At.stn ?_
          have hF954 := Fr.tr hF908 hF951 rfl rfl
          have tok955_ := hr953.2
          rw [TX.c ((hF905.2.1 175 (by decide))), nX.c ((hF905.1 174 1 (by decide))), rX.c (b := 5) ((hF905.1 176 5 (by decide)))] at tok955_
          have tok955 := TKX.tok o892 tok955_
          rw [TX.c (((hF887.2.1 175 (by decide)).trans ((hF859.2.1 175 (by decide)).trans (hF541.2.1 175 (by decide))))), nX.c (((hF887.1 174 1 (by decide)).trans ((hF859.1 174 1 (by decide)).trans (hF541.1 174 1 (by decide)))))] at tok955
          have hT956 := hr953.1
          have x957 := rX.e hI904 (b := 4) (((hF905.1 176 4 (by decide)).trans hv901))
          obtain ⟨v958, hv958⟩ : ∃ v, gI g949 176 4 = v := ⟨_, rfl⟩
          have rv958 := RgF.at hI950.2.1 (p := 176) (b := 4) rfl
          rw [hv958] at rv958
          dsimp only at rv958
          have tv958 := congrArg Int32.toInt hv958
          have x959 := rX.e hI950 (b := 4) (hv958)
          refine At.enter rfl ?_
          refine r_goto ?_
          refine At.enter rfl ?_
          refine q_vret ?_
          refine At.enter rfl ?_
          refine r_vret ?_
          have x960 := rX.e hI950 (b := 2) ((((hF951.1 176 2 (by decide)).trans (hF905.1 176 2 (by decide))).trans hv899))
          have x961 := rX.e hI0 (b := 2) (hv869)
          have x962 := rX.e hI950 (b := 4) (hv958)
          have x963 := rX.e hI0 (b := 4) (hv865)
          obtain ⟨v964, hv964⟩ : ∃ v, gI g885 176 6 = v := ⟨_, rfl⟩
          have tv964 := congrArg Int32.toInt hv964
          have x965 := rX.e hI950 (b := 6) ((((hF951.1 176 6 (by decide)).trans (hF905.1 176 6 (by decide))).trans hv964))
          obtain ⟨v966, hv966⟩ : ∃ v, gI g0 176 6 = v := ⟨_, rfl⟩
          have tv966 := congrArg Int32.toInt hv966
          have x967 := rX.e hI0 (b := 6) (hv966)
          obtain ⟨v968, hv968⟩ : ∃ v, gI g0 176 3 = v := ⟨_, rfl⟩
          have tv968 := congrArg Int32.toInt hv968
          have x969 := rX.e hI0 (b := 3) (hv968)
          have x970 := rX.e hI858 (b := 2) ((((hF859.1 176 2 (by decide)).trans (hF541.1 176 2 (by decide))).trans hv869))
          have x971 := rX.e hI858 (b := 4) (hv867)
          have x972 := rX.e hI858 (b := 6) ((((hF859.1 176 6 (by decide)).trans (hF541.1 176 6 (by decide))).trans hv966))
          have x973 := rX.e hI886 (b := 2) (hv899)
          have x974 := rX.e hI886 (b := 4) (hv901)
          have x975 := rX.e hI886 (b := 6) (hv964)
          have x976 := rX.e hI950 (b := 2) ((((hF951.1 176 2 (by decide)).trans (hF905.1 176 2 (by decide))).trans hv899))
          have x977 := rX.e hI950 (b := 4) (hv958)
          have x978 := rX.e hI950 (b := 6) ((((hF951.1 176 6 (by decide)).trans (hF905.1 176 6 (by decide))).trans hv964))
          exact ⟨_, rfl, hI950, hF954, rfl, ⟨hT956, ((PRG0.tr ((PRG0.tr (PRG0.step hT tok863_ (rX.c (b := 2) (((hF859.1 176 2 (by decide)).trans (hF541.1 176 2 (by decide))))) (by omega)) (o893))) (PRG0.step o892 tok955_ (rX.c (b := 2) (((hF951.1 176 2 (by decide)).trans (hF905.1 176 2 (by decide))))) (by omega)))).le (by omega), PAO.sq tok863 (by omega) (by omega) (rX.c (b := 2) (((hF859.1 176 2 (by decide)).trans (hF541.1 176 2 (by decide))))) (rX.c (b := 6) (((hF859.1 176 6 (by decide)).trans (hF541.1 176 6 (by decide))))) (OPD.cast o898 rfl (by omega)) tok955 (by omega) (rX.c (b := 2) (((hF951.1 176 2 (by decide)).trans (hF905.1 176 2 (by decide))))) (rX.c (b := 6) (((hF951.1 176 6 (by decide)).trans (hF905.1 176 6 (by decide)))))⟩⟩
    · have c856_ : a1.toInt ≥ 8 := en_i_lt_f c856
      refine At.enter rfl ?_
      refine r_aload_n rfl ?_
      refine q_inlV 10 rfl [.ref 176] [] (Nat.le_of_ble_eq_true rfl) rfl ?_
      refine Ev.mk rfl rfl ⟨Nat.le_of_ble_eq_true rfl, Or.inr (q_rc hI540.1 kx_176 rfl)⟩ ?_
      show At _ none _ _ (0, [(0, .ref 176)], [], (_, _)) _
      refine At.enter rfl ?_
      refine r_aload_n rfl ?_
      obtain ⟨v979, hv979⟩ : ∃ v, gI g0 176 2 = v := ⟨_, rfl⟩
      refine q_getI (Sh.int hI540.1 kx_176 rfl) v979 ((hF541.1 176 2 (by decide)).trans hv979) ?_
      refine r_iconst (-1) rfl ?_
      refine r_ics 8 rfl (fun c980 => ?_) (fun c980 => ?_)
      · have c980_ : v979.toInt ≠ (-1) := en_i_ne_t c980
        refine At.enter rfl ?_
        refine q_vret ?_
        refine At.enter rfl ?_
        refine r_goto ?_
        refine At.enter rfl ?_
        refine q_vret ?_
        refine At.enter rfl ?_
        refine r_aload_n rfl ?_
        refine q_getI (Sh.int hI540.1 kx_176 rfl) v979 ((hF541.1 176 2 (by decide)).trans hv979) ?_
        refine r_iconst (-1) rfl ?_
        refine r_ics 22 rfl (fun c981 => ?_) (fun c981 => ?_)
        · have c981_ : v979.toInt ≠ (-1) := en_i_ne_t c981
          refine At.enter rfl ?_
          refine r_vret ?_
          have x982 := rX.e hI540 (b := 2) (((hF541.1 176 2 (by decide)).trans hv979))
          have x983 := rX.e hI0 (b := 2) (hv979)
          obtain ⟨v984, hv984⟩ : ∃ v, gI g0 176 4 = v := ⟨_, rfl⟩
          have rv984 := RgF.at hI0.2.1 (p := 176) (b := 4) rfl
          rw [hv984] at rv984
          dsimp only at rv984
          have tv984 := congrArg Int32.toInt hv984
          have x985 := rX.e hI540 (b := 4) (((hF541.1 176 4 (by decide)).trans hv984))
          have x986 := rX.e hI0 (b := 4) (hv984)
          obtain ⟨v987, hv987⟩ : ∃ v, gI g0 176 6 = v := ⟨_, rfl⟩
          have tv987 := congrArg Int32.toInt hv987
          have x988 := rX.e hI540 (b := 6) (((hF541.1 176 6 (by decide)).trans hv987))
          have x989 := rX.e hI0 (b := 6) (hv987)
          obtain ⟨v990, hv990⟩ : ∃ v, gI g0 176 3 = v := ⟨_, rfl⟩
          have tv990 := congrArg Int32.toInt hv990
          have x991 := rX.e hI0 (b := 3) (hv990)
          exact ⟨_, rfl, hI540, hF544, rfl, ⟨(TKX.c hT ((hF541.2.1 175 (by decide))) ((hF541.1 174 1 (by decide))) ((hF541.1 176 3 (by decide))) ((hF541.1 176 4 (by decide))) ((hF541.1 176 5 (by decide)))), (PRG0.fail 1 (rX.c (b := 4) ((hF541.1 176 4 (by decide)))) (fun _ => by omega) (fun _ => by omega) (by omega)).le (by omega), PAO.deep (TKX.some hT).choose_spec (by omega) (by omega) (fun _ => by omega) (fun _ => by omega) (by omega)⟩⟩
        · have c981_ : v979.toInt = (-1) := en_i_ne_f c981
          refine At.enter rfl ?_
          refine r_aload_n rfl ?_
          refine r_iconst 2 rfl ?_
          refine r_iload_n rfl ?_
          refine r_iconst 1 rfl ?_
          refine q_iadd (a1.toInt + 1) rfl (by omega) (fun v992 hv992 => ?_)
          have zv993 : (2 : Int32).toInt = 2 := rfl
          refine r_callV 30 rfl [.ref 176, .int 2, .int v992] [] (Nat.le_of_ble_eq_true rfl) rfl (IHJ _ (by omega) hI540 2 (by decide) v992 (by omega) (by omega) (TKX.c hT ((hF541.2.1 175 (by decide))) ((hF541.1 174 1 (by decide))) ((hF541.1 176 3 (by decide))) ((hF541.1 176 4 (by decide))) ((hF541.1 176 5 (by decide))))) ?_
          rintro _ _ ⟨g994, rfl, hI995, hF996, rfl, hr998⟩
          refine At.stn ?_
          have hF999 := Fr.tr hF544 hF996 rfl rfl
          have zv1000 : (2 : Int32).toInt = 2 := rfl
          have x1005 := rX.e hI540 (b := 2) (((hF541.1 176 2 (by decide)).trans hv979))
          obtain ⟨v1006, hv1006⟩ : ∃ v, gI g0 176 4 = v := ⟨_, rfl⟩
          have rv1006 := RgF.at hI0.2.1 (p := 176) (b := 4) rfl
          rw [hv1006] at rv1006
          dsimp only at rv1006
          have tv1006 := congrArg Int32.toInt hv1006
          have x1007 := rX.e hI540 (b := 4) (((hF541.1 176 4 (by decide)).trans hv1006))
          obtain ⟨o1001, o1002, o1003, o1004⟩ := hr998
          have o1008 := OPD.tc o1003 ((hF541.2.1 175 (by decide))) ((hF541.1 174 1 (by decide)))
          have o1009 := PRG0.fr o1002 (rX.c (b := 2) ((hF541.1 176 2 (by decide)))) (rX.c (b := 4) ((hF541.1 176 4 (by decide))))
          have o1010 := OPD.fr o1008 (rX.c (b := 2) ((hF541.1 176 2 (by decide)))) (rX.c (b := 4) ((hF541.1 176 4 (by decide)))) (rX.c (b := 6) ((hF541.1 176 6 (by decide))))
          obtain ⟨v1011, hv1011⟩ : ∃ v, gI g994 176 2 = v := ⟨_, rfl⟩
          have tv1011 := congrArg Int32.toInt hv1011
          have x1012 := rX.e hI995 (b := 2) (hv1011)
          obtain ⟨v1013, hv1013⟩ : ∃ v, gI g994 176 4 = v := ⟨_, rfl⟩
          have rv1013 := RgF.at hI995.2.1 (p := 176) (b := 4) rfl
          rw [hv1013] at rv1013
          dsimp only at rv1013
          have tv1013 := congrArg Int32.toInt hv1013
          have x1014 := rX.e hI995 (b := 4) (hv1013)
          refine At.enter rfl ?_
          refine r_aload_n rfl ?_
          refine r_bipush 93 rfl ?_
          refine q_inlV 36 rfl [.ref 176, .int 93] [] (Nat.le_of_ble_eq_true rfl) rfl ?_
          refine Ev.mk rfl rfl ⟨Nat.le_of_ble_eq_true rfl, Or.inr (q_rc hI995.1 kx_176 rfl)⟩ ?_
          show At _ none _ _ (0, [(0, .ref 176), (1, .int 93)], [], (_, _)) _
          refine At.enter rfl ?_
          refine r_aload_n rfl ?_
          refine r_iload_n rfl ?_
          refine r_callV 5 rfl [.ref 176, .int 93] [] (Nat.le_of_ble_eq_true rfl) rfl (T_X5_isSingle_176 _ hI995 93 (by decide)) ?_
          rintro _ _ ⟨g1015, rfl, hI1016, hF1017, v1018, rfl, hr1019⟩
          refine At.sti ?_
          have hF1020 := Fr.tr hF999 hF1017 rfl rfl
          have zv1021 : (93 : Int32).toInt = 93 := rfl
          have hb1022 : BL (CDX g994 = 6) v1018.toInt := ISX.code (c := 6) hr1019.2 o1001 (isSC_d (by omega)) (by decide)
          refine At.enter rfl ?_
          refine r_ifs 8 rfl (fun c1023 => ?_) (fun c1023 => ?_)
          · have c1023_ : v1018.toInt = 0 := en_k_eq_t c1023
            have i1024 := BL.no hb1022 (by omega)
            refine At.enter rfl ?_
            refine r_aload_n rfl ?_
            refine q_inlV 19 rfl [.ref 176] [] (Nat.le_of_ble_eq_true rfl) rfl ?_
            refine Ev.mk rfl rfl ⟨Nat.le_of_ble_eq_true rfl, Or.inr (q_rc hI1016.1 kx_176 rfl)⟩ ?_
            show At _ none _ _ (0, [(0, .ref 176)], [], (_, _)) _
            refine At.enter rfl ?_
            refine r_aload_n rfl ?_
            refine q_getI (Sh.int hI1016.1 kx_176 rfl) v1011 ((hF1017.1 176 2 (by decide)).trans hv1011) ?_
            refine r_iconst (-1) rfl ?_
            refine r_ics 8 rfl (fun c1025 => ?_) (fun c1025 => ?_)
            · have c1025_ : v1011.toInt ≠ (-1) := en_i_ne_t c1025
              refine At.enter rfl ?_
              refine q_vret ?_
              refine At.enter rfl ?_
              refine q_vret ?_
              refine At.enter rfl ?_
              refine r_vret ?_
              have x1026 := rX.e hI1016 (b := 2) (((hF1017.1 176 2 (by decide)).trans hv1011))
              have x1027 := rX.e hI0 (b := 2) (hv979)
              have x1028 := rX.e hI1016 (b := 4) (((hF1017.1 176 4 (by decide)).trans hv1013))
              have x1029 := rX.e hI0 (b := 4) (hv1006)
              obtain ⟨v1030, hv1030⟩ : ∃ v, gI g994 176 6 = v := ⟨_, rfl⟩
              have tv1030 := congrArg Int32.toInt hv1030
              have x1031 := rX.e hI1016 (b := 6) (((hF1017.1 176 6 (by decide)).trans hv1030))
              obtain ⟨v1032, hv1032⟩ : ∃ v, gI g0 176 6 = v := ⟨_, rfl⟩
              have tv1032 := congrArg Int32.toInt hv1032
              have x1033 := rX.e hI0 (b := 6) (hv1032)
              obtain ⟨v1034, hv1034⟩ : ∃ v, gI g0 176 3 = v := ⟨_, rfl⟩
              have tv1034 := congrArg Int32.toInt hv1034
              have x1035 := rX.e hI0 (b := 3) (hv1034)
              have x1036 := rX.e hI995 (b := 2) (hv1011)
              have x1037 := rX.e hI995 (b := 4) (hv1013)
              have x1038 := rX.e hI995 (b := 6) (hv1030)
              exact ⟨_, rfl, hI1016, hF1020, rfl, (False.elim (by omega))⟩
            · have c1025_ : v1011.toInt = (-1) := en_i_ne_f c1025
              refine At.enter rfl ?_
              refine r_aload_n rfl ?_
              refine r_aload_n rfl ?_
              refine q_getI (Sh.int hI1016.1 kx_176 rfl) v1013 ((hF1017.1 176 4 (by decide)).trans hv1013) ?_
              refine q_putI (Sh.int hI1016.1 kx_176 rfl) rfl ?_
              have hI1039 := HI.wI0 hI1016 kx_176 rfl (p := 176) (b := 2) (v := v1013) rfl
              have hF1040 := Fr.wI (p := 176) (b := 2) (v := v1013) hF1020 rfl
              refine Ar.fall 16 rfl ?_
              refine At.enter rfl ?_
              refine q_vret ?_
              refine At.enter rfl ?_
              refine q_vret ?_
              refine At.enter rfl ?_
              refine r_vret ?_
              have x1041 := rX.e hI1039 (b := 2) ((gI_sI_eq hI1016.1 kx_176 rfl _))
              have x1042 := rX.e hI0 (b := 2) (hv979)
              have x1043 := rX.e hI1039 (b := 4) ((((gI_sI_ne (by decide)).trans (hF1017.1 176 4 (by decide))).trans hv1013))
              have x1044 := rX.e hI0 (b := 4) (hv1006)
              obtain ⟨v1045, hv1045⟩ : ∃ v, gI g994 176 6 = v := ⟨_, rfl⟩
              have tv1045 := congrArg Int32.toInt hv1045
              have x1046 := rX.e hI1039 (b := 6) ((((gI_sI_ne (by decide)).trans (hF1017.1 176 6 (by decide))).trans hv1045))
              obtain ⟨v1047, hv1047⟩ : ∃ v, gI g0 176 6 = v := ⟨_, rfl⟩
              have tv1047 := congrArg Int32.toInt hv1047
              have x1048 := rX.e hI0 (b := 6) (hv1047)
              obtain ⟨v1049, hv1049⟩ : ∃ v, gI g0 176 3 = v := ⟨_, rfl⟩
              have tv1049 := congrArg Int32.toInt hv1049
              have x1050 := rX.e hI0 (b := 3) (hv1049)
              have x1051 := rX.e hI995 (b := 2) (hv1011)
              have x1052 := rX.e hI995 (b := 4) (hv1013)
              have x1053 := rX.e hI995 (b := 6) (hv1045)
              exact ⟨_, rfl, hI1039, hF1040, rfl, (False.elim (by omega))⟩
          · have c1023_ : v1018.toInt ≠ 0 := en_k_eq_f c1023
            have i1054 := BL.yes hb1022 (by omega)
            refine At.enter rfl ?_
            refine r_aload_n rfl ?_
            refine r_callV 12 rfl [.ref 176] [] (Nat.le_of_ble_eq_true rfl) rfl (T_X5_step_176 _ hI1016 (TKX.c o1001 ((hF1017.2.1 175 (by decide))) ((hF1017.1 174 1 (by decide))) ((hF1017.1 176 3 (by decide))) ((hF1017.1 176 4 (by decide))) ((hF1017.1 176 5 (by decide)))).1 (TKX.c o1001 ((hF1017.2.1 175 (by decide))) ((hF1017.1 174 1 (by decide))) ((hF1017.1 176 3 (by decide))) ((hF1017.1 176 4 (by decide))) ((hF1017.1 176 5 (by decide)))).2.1.le.2.1) ?_
            rintro _ _ ⟨g1055, rfl, hI1056, hF1057, rfl, hr1059⟩
            refine At.stn ?_
            have hF1060 := Fr.tr hF1020 hF1057 rfl rfl
            have tok1061_ := hr1059.2
            rw [TX.c ((hF1017.2.1 175 (by decide))), nX.c ((hF1017.1 174 1 (by decide))), rX.c (b := 5) ((hF1017.1 176 5 (by decide)))] at tok1061_
            have tok1061 := TKX.tok o1001 tok1061_
            rw [TX.c (((hF996.2.1 175 (by decide)).trans (hF541.2.1 175 (by decide)))), nX.c (((hF996.1 174 1 (by decide)).trans (hF541.1 174 1 (by decide))))] at tok1061
            have hT1062 := hr1059.1
            have x1063 := rX.e hI1016 (b := 4) (((hF1017.1 176 4 (by decide)).trans hv1013))
            obtain ⟨v1064, hv1064⟩ : ∃ v, gI g1055 176 4 = v := ⟨_, rfl⟩
            have rv1064 := RgF.at hI1056.2.1 (p := 176) (b := 4) rfl
            rw [hv1064] at rv1064
            dsimp only at rv1064
            have tv1064 := congrArg Int32.toInt hv1064
            have x1065 := rX.e hI1056 (b := 4) (hv1064)
            refine At.enter rfl ?_
            refine r_goto ?_
            refine At.enter rfl ?_
            refine q_vret ?_
            refine At.enter rfl ?_
            refine r_vret ?_
            have x1066 := rX.e hI1056 (b := 2) ((((hF1057.1 176 2 (by decide)).trans (hF1017.1 176 2 (by decide))).trans hv1011))
            have x1067 := rX.e hI0 (b := 2) (hv979)
            have x1068 := rX.e hI1056 (b := 4) (hv1064)
            have x1069 := rX.e hI0 (b := 4) (hv1006)
            obtain ⟨v1070, hv1070⟩ : ∃ v, gI g994 176 6 = v := ⟨_, rfl⟩
            have tv1070 := congrArg Int32.toInt hv1070
            have x1071 := rX.e hI1056 (b := 6) ((((hF1057.1 176 6 (by decide)).trans (hF1017.1 176 6 (by decide))).trans hv1070))
            obtain ⟨v1072, hv1072⟩ : ∃ v, gI g0 176 6 = v := ⟨_, rfl⟩
            have tv1072 := congrArg Int32.toInt hv1072
            have x1073 := rX.e hI0 (b := 6) (hv1072)
            obtain ⟨v1074, hv1074⟩ : ∃ v, gI g0 176 3 = v := ⟨_, rfl⟩
            have tv1074 := congrArg Int32.toInt hv1074
            have x1075 := rX.e hI0 (b := 3) (hv1074)
            have x1076 := rX.e hI995 (b := 2) (hv1011)
            have x1077 := rX.e hI995 (b := 4) (hv1013)
            have x1078 := rX.e hI995 (b := 6) (hv1070)
            have x1079 := rX.e hI1056 (b := 2) ((((hF1057.1 176 2 (by decide)).trans (hF1017.1 176 2 (by decide))).trans hv1011))
            have x1080 := rX.e hI1056 (b := 4) (hv1064)
            have x1081 := rX.e hI1056 (b := 6) ((((hF1057.1 176 6 (by decide)).trans (hF1017.1 176 6 (by decide))).trans hv1070))
            exact ⟨_, rfl, hI1056, hF1060, rfl, (False.elim (by omega))⟩
      · have c980_ : v979.toInt = (-1) := en_i_ne_f c980
        refine At.enter rfl ?_
        refine r_aload_n rfl ?_
        refine r_aload_n rfl ?_
        obtain ⟨v1082, hv1082⟩ : ∃ v, gI g0 176 4 = v := ⟨_, rfl⟩
        have rv1082 := RgF.at hI0.2.1 (p := 176) (b := 4) rfl
        rw [hv1082] at rv1082
        dsimp only at rv1082
        refine q_getI (Sh.int hI540.1 kx_176 rfl) v1082 ((hF541.1 176 4 (by decide)).trans hv1082) ?_
        refine q_putI (Sh.int hI540.1 kx_176 rfl) rfl ?_
        have hI1083 := HI.wI0 hI540 kx_176 rfl (p := 176) (b := 2) (v := v1082) rfl
        have hF1084 := Fr.wI (p := 176) (b := 2) (v := v1082) hF544 rfl
        refine Ar.fall 16 rfl ?_
        refine At.enter rfl ?_
        refine q_vret ?_
        refine At.enter rfl ?_
        refine r_goto ?_
        refine At.enter rfl ?_
        refine q_vret ?_
        refine At.enter rfl ?_
        refine r_aload_n rfl ?_
        refine q_getI (Sh.int hI1083.1 kx_176 rfl) v1082 (gI_sI_eq hI540.1 kx_176 rfl _) ?_
        refine r_iconst (-1) rfl ?_
        refine r_ics 22 rfl (fun c1085 => ?_) (fun c1085 => ?_)
        · have c1085_ : v1082.toInt ≠ (-1) := en_i_ne_t c1085
          refine At.enter rfl ?_
          refine r_vret ?_
          have x1086 := rX.e hI1083 (b := 2) ((gI_sI_eq hI540.1 kx_176 rfl _))
          have x1087 := rX.e hI0 (b := 2) (hv979)
          have x1088 := rX.e hI1083 (b := 4) ((((gI_sI_ne (by decide)).trans (hF541.1 176 4 (by decide))).trans hv1082))
          have x1089 := rX.e hI0 (b := 4) (hv1082)
          obtain ⟨v1090, hv1090⟩ : ∃ v, gI g0 176 6 = v := ⟨_, rfl⟩
          have tv1090 := congrArg Int32.toInt hv1090
          have x1091 := rX.e hI1083 (b := 6) ((((gI_sI_ne (by decide)).trans (hF541.1 176 6 (by decide))).trans hv1090))
          have x1092 := rX.e hI0 (b := 6) (hv1090)
          obtain ⟨v1093, hv1093⟩ : ∃ v, gI g0 176 3 = v := ⟨_, rfl⟩
          have tv1093 := congrArg Int32.toInt hv1093
          have x1094 := rX.e hI0 (b := 3) (hv1093)
          exact ⟨_, rfl, hI1083, hF1084, rfl, ⟨(TKX.c hT (((gA_sI).trans (hF541.2.1 175 (by decide)))) (((gI_sI_ne (by decide)).trans (hF541.1 174 1 (by decide)))) (((gI_sI_ne (by decide)).trans (hF541.1 176 3 (by decide)))) (((gI_sI_ne (by decide)).trans (hF541.1 176 4 (by decide)))) (((gI_sI_ne (by decide)).trans (hF541.1 176 5 (by decide))))), (PRG0.fail 1 (rX.c (b := 4) (((gI_sI_ne (by decide)).trans (hF541.1 176 4 (by decide))))) (fun _ => by omega) (fun _ => by omega) (by omega)).le (by omega), PAO.deep (TKX.some hT).choose_spec (by omega) (by omega) (fun _ => by omega) (fun _ => by omega) (by omega)⟩⟩
        · have c1085_ : v1082.toInt = (-1) := en_i_ne_f c1085
          exfalso; omega
