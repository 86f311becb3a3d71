set_option maxRecDepth 100000 in
set_option maxHeartbeats 4000000 in
theorem S_X5_readPart_176 (n : Nat) (IHJ : QJ n) (IHP : QP n) (IHT : QT n) : QT (n + 1) := by
  intro e he N g0 hI0 a1 h_a1 hm hT
  obtain ⟨d, rfl⟩ : ∃ d, e = d + 4 := ⟨e - 4, by omega⟩
  have hF0 : Fr F_rd A_rd g0 g0 := Fr.rf
  refine Ev.mk rfl rfl ⟨Nat.le_of_ble_eq_true rfl, Or.inr (q_rc hI0.1 kx_176 rfl)⟩ ?_
  show At _ none _ _ (0, [(0, .ref 176), (1, .int a1)], [], (_, _)) _
  refine At.enter rfl ?_
  refine r_aload_n rfl ?_
  refine r_bipush 91 rfl ?_
  refine r_callV 6 rfl [.ref 176, .int 91] [] (Nat.le_of_ble_eq_true rfl) rfl (T_X5_isSingle_176 _ hI0 91 (by decide)) ?_
  rintro _ _ ⟨g549, rfl, hI550, hF551, v552, rfl, hr553⟩
  refine At.sti ?_
  have hF554 := Fr.tr hF0 hF551 rfl rfl
  have zv555 : (91 : Int32).toInt = 91 := rfl
  have hb556 : BL (CDX g0 = 3) v552.toInt := ISX.code (c := 3) hr553.2 hT (isSC_d (by omega)) (by decide)
  refine At.enter rfl ?_
  refine r_ifs 9 rfl (fun c557 => ?_) (fun c557 => ?_)
  · have c557_ : v552.toInt = 0 := en_k_eq_t c557
    have i558 := BL.no hb556 (by omega)
    refine At.enter rfl ?_
    refine r_aload_n rfl ?_
    obtain ⟨v559, hv559⟩ : ∃ v, gI g0 176 3 = v := ⟨_, rfl⟩
    refine q_getI (Sh.int hI550.1 kx_176 rfl) v559 ((hF551.1 176 3 (by decide)).trans hv559) ?_
    refine r_iconst 1 rfl ?_
    refine r_ics 45 rfl (fun c560 => ?_) (fun c560 => ?_)
    · have c560_ : v559.toInt ≠ 1 := en_i_ne_t c560
      refine At.enter rfl ?_
      refine r_iconst 1 rfl ?_
      refine Ar.fall 50 rfl ?_
      refine At.enter rfl ?_
      refine r_istore_n ([(2, .int 1), (0, .ref 176), (1, .int a1)]) rfl ?_
      refine r_aload_n rfl ?_
      refine q_getI (Sh.int hI550.1 kx_176 rfl) v559 ((hF551.1 176 3 (by decide)).trans hv559) ?_
      refine r_iconst 1 rfl ?_
      refine r_ics 59 rfl (fun c561 => ?_) (fun c561 => ?_)
      · have c561_ : v559.toInt ≠ 1 := en_i_ne_t c561
        refine At.enter rfl ?_
        refine r_aload_n rfl ?_
        refine r_callV 70 rfl [.ref 176] [] (Nat.le_of_ble_eq_true rfl) rfl (T_X5_wordHere_176 _ hI550 (TKX.c hT ((hF551.2.1 175 (by decide))) ((hF551.1 174 1 (by decide))) ((hF551.1 176 3 (by decide))) ((hF551.1 176 4 (by decide))) ((hF551.1 176 5 (by decide))))) ?_
        rintro _ _ ⟨g562, rfl, hI563, hF564, v565, rfl, hr566⟩
        refine At.sti ?_
        have hF567 := Fr.tr hF554 hF564 rfl rfl
        have ln568 : WHX (CDX g0) v565.toInt := by have z := hr566.2; rw [CDX.c ((hF551.2.1 175 (by decide))) ((hF551.1 176 3 (by decide))) ((hF551.1 176 4 (by decide))) ((hF551.1 176 5 (by decide)))] at z; exact z
        refine At.enter rfl ?_
        refine r_istore_n ([(3, .int v565), (2, .int 1), (0, .ref 176), (1, .int a1)]) rfl ?_
        refine r_iload_n rfl ?_
        refine r_iconst (-1) rfl ?_
        refine r_ics 76 rfl (fun c569 => ?_) (fun c569 => ?_)
        · have c569_ : v565.toInt = (-1) := en_i_eq_t c569
          refine At.enter rfl ?_
          refine r_aload_n rfl ?_
          refine q_inlV 96 rfl [.ref 176] [] (Nat.le_of_ble_eq_true rfl) rfl ?_
          refine Ev.mk rfl rfl ⟨Nat.le_of_ble_eq_true rfl, Or.inr (q_rc hI563.1 kx_176 rfl)⟩ ?_
          show At _ none _ _ (0, [(0, .ref 176)], [], (_, _)) _
          refine At.enter rfl ?_
          refine r_aload_n rfl ?_
          obtain ⟨v570, hv570⟩ : ∃ v, gI g0 176 2 = v := ⟨_, rfl⟩
          refine q_getI (Sh.int hI563.1 kx_176 rfl) v570 (((hF564.1 176 2 (by decide)).trans (hF551.1 176 2 (by decide))).trans hv570) ?_
          refine r_iconst (-1) rfl ?_
          refine r_ics 8 rfl (fun c571 => ?_) (fun c571 => ?_)
          · have c571_ : v570.toInt ≠ (-1) := en_i_ne_t c571
            refine At.enter rfl ?_
            refine q_vret ?_
            refine At.enter rfl ?_
            refine r_vret ?_
            have x572 := rX.e hI563 (b := 2) ((((hF564.1 176 2 (by decide)).trans (hF551.1 176 2 (by decide))).trans hv570))
            have x573 := rX.e hI0 (b := 2) (hv570)
            obtain ⟨v574, hv574⟩ : ∃ v, gI g0 176 4 = v := ⟨_, rfl⟩
            have rv574 := RgF.at hI0.2.1 (p := 176) (b := 4) rfl
            rw [hv574] at rv574
            dsimp only at rv574
            have tv574 := congrArg Int32.toInt hv574
            have x575 := rX.e hI563 (b := 4) ((((hF564.1 176 4 (by decide)).trans (hF551.1 176 4 (by decide))).trans hv574))
            have x576 := rX.e hI0 (b := 4) (hv574)
            obtain ⟨v577, hv577⟩ : ∃ v, gI g0 176 6 = v := ⟨_, rfl⟩
            have tv577 := congrArg Int32.toInt hv577
            have x578 := rX.e hI563 (b := 6) ((((hF564.1 176 6 (by decide)).trans (hF551.1 176 6 (by decide))).trans hv577))
            have x579 := rX.e hI0 (b := 6) (hv577)
            have x580 := rX.e hI0 (b := 3) (hv559)
            have lf := ln568
            unfold WHX at lf
            have lg := CDX.lt hT (by omega)
            exact ⟨_, rfl, hI563, hF567, rfl, ⟨⟨(TKX.c hT (((hF564.2.1 175 (by decide)).trans (hF551.2.1 175 (by decide)))) (((hF564.1 174 1 (by decide)).trans (hF551.1 174 1 (by decide)))) (((hF564.1 176 3 (by decide)).trans (hF551.1 176 3 (by decide)))) (((hF564.1 176 4 (by decide)).trans (hF551.1 176 4 (by decide)))) (((hF564.1 176 5 (by decide)).trans (hF551.1 176 5 (by decide))))), (PRG0.fail 1 (rX.c (b := 4) (((hF564.1 176 4 (by decide)).trans (hF551.1 176 4 (by decide))))) (fun _ => by omega) (fun _ => by omega) (by omega)).le (by omega), PAO.leafF (TKX.some hT).choose_spec (by omega) (by omega) (fun _ => by omega) (fun _ => by omega) (by omega)⟩, (fun hz => absurd hz (by omega))⟩⟩
          · have c571_ : v570.toInt = (-1) := en_i_ne_f c571
            refine At.enter rfl ?_
            refine r_aload_n rfl ?_
            refine r_aload_n rfl ?_
            obtain ⟨v581, hv581⟩ : ∃ v, gI g0 176 4 = v := ⟨_, rfl⟩
            have rv581 := RgF.at hI0.2.1 (p := 176) (b := 4) rfl
            rw [hv581] at rv581
            dsimp only at rv581
            refine q_getI (Sh.int hI563.1 kx_176 rfl) v581 (((hF564.1 176 4 (by decide)).trans (hF551.1 176 4 (by decide))).trans hv581) ?_
            refine q_putI (Sh.int hI563.1 kx_176 rfl) rfl ?_
            have hI582 := HI.wI0 hI563 kx_176 rfl (p := 176) (b := 2) (v := v581) rfl
            have hF583 := Fr.wI (p := 176) (b := 2) (v := v581) hF567 rfl
            refine Ar.fall 16 rfl ?_
            refine At.enter rfl ?_
            refine q_vret ?_
            refine At.enter rfl ?_
            refine r_vret ?_
            have x584 := rX.e hI582 (b := 2) ((gI_sI_eq hI563.1 kx_176 rfl _))
            have x585 := rX.e hI0 (b := 2) (hv570)
            have x586 := rX.e hI582 (b := 4) ((((gI_sI_ne (by decide)).trans ((hF564.1 176 4 (by decide)).trans (hF551.1 176 4 (by decide)))).trans hv581))
            have x587 := rX.e hI0 (b := 4) (hv581)
            obtain ⟨v588, hv588⟩ : ∃ v, gI g0 176 6 = v := ⟨_, rfl⟩
            have tv588 := congrArg Int32.toInt hv588
            have x589 := rX.e hI582 (b := 6) ((((gI_sI_ne (by decide)).trans ((hF564.1 176 6 (by decide)).trans (hF551.1 176 6 (by decide)))).trans hv588))
            have x590 := rX.e hI0 (b := 6) (hv588)
            have x591 := rX.e hI0 (b := 3) (hv559)
            have lf := ln568
            unfold WHX at lf
            have lg := CDX.lt hT (by omega)
            exact ⟨_, rfl, hI582, hF583, rfl, ⟨⟨(TKX.c hT (((gA_sI).trans ((hF564.2.1 175 (by decide)).trans (hF551.2.1 175 (by decide))))) (((gI_sI_ne (by decide)).trans ((hF564.1 174 1 (by decide)).trans (hF551.1 174 1 (by decide))))) (((gI_sI_ne (by decide)).trans ((hF564.1 176 3 (by decide)).trans (hF551.1 176 3 (by decide))))) (((gI_sI_ne (by decide)).trans ((hF564.1 176 4 (by decide)).trans (hF551.1 176 4 (by decide))))) (((gI_sI_ne (by decide)).trans ((hF564.1 176 5 (by decide)).trans (hF551.1 176 5 (by decide)))))), (PRG0.fail 1 (rX.c (b := 4) (((gI_sI_ne (by decide)).trans ((hF564.1 176 4 (by decide)).trans (hF551.1 176 4 (by decide)))))) (fun _ => by omega) (fun _ => by omega) (by omega)).le (by omega), PAO.leafF (TKX.some hT).choose_spec (by omega) (by omega) (fun _ => by omega) (fun _ => by omega) (by omega)⟩, (fun hz => absurd hz (by omega))⟩⟩
        · have c569_ : v565.toInt ≠ (-1) := en_i_eq_f c569
          refine At.enter rfl ?_
          refine r_iload_n rfl ?_
          refine r_sipush 1000 rfl ?_
          refine r_ics 83 rfl (fun c592 => ?_) (fun c592 => ?_)
          · have c592_ : v565.toInt > 1000 := en_i_gt_t c592
            exfalso; omega
          · have c592_ : v565.toInt ≤ 1000 := en_i_gt_f c592
            refine At.enter rfl ?_
            refine r_aload_n rfl ?_
            obtain ⟨v593, hv593⟩ : ∃ v, gI g0 176 6 = v := ⟨_, rfl⟩
            refine q_getI (Sh.int hI563.1 kx_176 rfl) v593 (((hF564.1 176 6 (by decide)).trans (hF551.1 176 6 (by decide))).trans hv593) ?_
            refine r_bipush 50 rfl ?_
            refine r_ics 92 rfl (fun c594 => ?_) (fun c594 => ?_)
            · have c594_ : v593.toInt < 50 := en_i_lt_t c594
              refine At.enter rfl ?_
              refine r_aload_n rfl ?_
              refine r_dup rfl ?_
              refine q_getI (Sh.int hI563.1 kx_176 rfl) v593 (((hF564.1 176 6 (by decide)).trans (hF551.1 176 6 (by decide))).trans hv593) ?_
              refine r_iconst 1 rfl ?_
              have bv595 := q_bnd v593
              refine q_iadd (v593.toInt + 1) rfl (by omega) (fun v596 hv596 => ?_)
              refine q_putI (Sh.int hI563.1 kx_176 rfl) rfl ?_
              have hI597 := HI.wI0 hI563 kx_176 rfl (p := 176) (b := 6) (v := v596) rfl
              have hF598 := Fr.wI (p := 176) (b := 6) (v := v596) hF567 rfl
              refine r_aload_n rfl ?_
              refine q_getR (Sh.ref hI597.1 kx_176 rfl) ?_
              refine r_iload_n rfl ?_
              refine r_iload_n rfl ?_
              refine r_callV 116 rfl [.ref 177, .int 1, .int v565] [] (Nat.le_of_ble_eq_true rfl) rfl (T_X4_add_177 _ hI597 1 v565) ?_
              rintro _ _ ⟨g599, rfl, hI600, hF601, v602, rfl, hr603⟩
              refine At.sti ?_
              have hF604 := Fr.tr hF598 hF601 rfl rfl
              have zv605 : (1 : Int32).toInt = 1 := rfl
              refine At.enter rfl ?_
              refine r_pop rfl ?_
              refine r_aload_n rfl ?_
              refine r_callV 121 rfl [.ref 176] [] (Nat.le_of_ble_eq_true rfl) rfl (T_X5_step_176 _ hI600 (TKX.c hT (((hF601.2.1 175 (by decide)).trans ((gA_sI).trans ((hF564.2.1 175 (by decide)).trans (hF551.2.1 175 (by decide)))))) (((hF601.1 174 1 (by decide)).trans ((gI_sI_ne (by decide)).trans ((hF564.1 174 1 (by decide)).trans (hF551.1 174 1 (by decide)))))) (((hF601.1 176 3 (by decide)).trans ((gI_sI_ne (by decide)).trans ((hF564.1 176 3 (by decide)).trans (hF551.1 176 3 (by decide)))))) (((hF601.1 176 4 (by decide)).trans ((gI_sI_ne (by decide)).trans ((hF564.1 176 4 (by decide)).trans (hF551.1 176 4 (by decide)))))) (((hF601.1 176 5 (by decide)).trans ((gI_sI_ne (by decide)).trans ((hF564.1 176 5 (by decide)).trans (hF551.1 176 5 (by decide))))))).1 (TKX.c hT (((hF601.2.1 175 (by decide)).trans ((gA_sI).trans ((hF564.2.1 175 (by decide)).trans (hF551.2.1 175 (by decide)))))) (((hF601.1 174 1 (by decide)).trans ((gI_sI_ne (by decide)).trans ((hF564.1 174 1 (by decide)).trans (hF551.1 174 1 (by decide)))))) (((hF601.1 176 3 (by decide)).trans ((gI_sI_ne (by decide)).trans ((hF564.1 176 3 (by decide)).trans (hF551.1 176 3 (by decide)))))) (((hF601.1 176 4 (by decide)).trans ((gI_sI_ne (by decide)).trans ((hF564.1 176 4 (by decide)).trans (hF551.1 176 4 (by decide)))))) (((hF601.1 176 5 (by decide)).trans ((gI_sI_ne (by decide)).trans ((hF564.1 176 5 (by decide)).trans (hF551.1 176 5 (by decide))))))).2.1.le.2.1) ?_
              rintro _ _ ⟨g606, rfl, hI607, hF608, rfl, hr610⟩
              refine At.stn ?_
              have hF611 := Fr.tr hF604 hF608 rfl rfl
              have tok612_ := hr610.2
              rw [TX.c (((hF601.2.1 175 (by decide)).trans ((gA_sI).trans ((hF564.2.1 175 (by decide)).trans (hF551.2.1 175 (by decide)))))), nX.c (((hF601.1 174 1 (by decide)).trans ((gI_sI_ne (by decide)).trans ((hF564.1 174 1 (by decide)).trans (hF551.1 174 1 (by decide)))))), rX.c (b := 5) (((hF601.1 176 5 (by decide)).trans ((gI_sI_ne (by decide)).trans ((hF564.1 176 5 (by decide)).trans (hF551.1 176 5 (by decide))))))] at tok612_
              have tok612 := TKX.tok hT tok612_
              have hT613 := hr610.1
              obtain ⟨v614, hv614⟩ : ∃ v, gI g0 176 4 = v := ⟨_, rfl⟩
              have rv614 := RgF.at hI0.2.1 (p := 176) (b := 4) rfl
              rw [hv614] at rv614
              dsimp only at rv614
              have tv614 := congrArg Int32.toInt hv614
              have x615 := rX.e hI600 (b := 4) ((((hF601.1 176 4 (by decide)).trans ((gI_sI_ne (by decide)).trans ((hF564.1 176 4 (by decide)).trans (hF551.1 176 4 (by decide))))).trans hv614))
              obtain ⟨v616, hv616⟩ : ∃ v, gI g606 176 4 = v := ⟨_, rfl⟩
              have rv616 := RgF.at hI607.2.1 (p := 176) (b := 4) rfl
              rw [hv616] at rv616
              dsimp only at rv616
              have tv616 := congrArg Int32.toInt hv616
              have x617 := rX.e hI607 (b := 4) (hv616)
              refine At.enter rfl ?_
              refine r_vret ?_
              obtain ⟨v618, hv618⟩ : ∃ v, gI g0 176 2 = v := ⟨_, rfl⟩
              have tv618 := congrArg Int32.toInt hv618
              have x619 := rX.e hI607 (b := 2) ((((hF608.1 176 2 (by decide)).trans ((hF601.1 176 2 (by decide)).trans ((gI_sI_ne (by decide)).trans ((hF564.1 176 2 (by decide)).trans (hF551.1 176 2 (by decide)))))).trans hv618))
              have x620 := rX.e hI0 (b := 2) (hv618)
              have x621 := rX.e hI607 (b := 4) (hv616)
              have x622 := rX.e hI0 (b := 4) (hv614)
              have x623 := rX.e hI607 (b := 6) (((hF608.1 176 6 (by decide)).trans ((hF601.1 176 6 (by decide)).trans (gI_sI_eq hI563.1 kx_176 rfl _))))
              have x624 := rX.e hI0 (b := 6) (hv593)
              have x625 := rX.e hI0 (b := 3) (hv559)
              have x626 := rX.e hI607 (b := 2) ((((hF608.1 176 2 (by decide)).trans ((hF601.1 176 2 (by decide)).trans ((gI_sI_ne (by decide)).trans ((hF564.1 176 2 (by decide)).trans (hF551.1 176 2 (by decide)))))).trans hv618))
              have x627 := rX.e hI607 (b := 4) (hv616)
              have x628 := rX.e hI607 (b := 6) (((hF608.1 176 6 (by decide)).trans ((hF601.1 176 6 (by decide)).trans (gI_sI_eq hI563.1 kx_176 rfl _))))
              have lf := ln568
              unfold WHX at lf
              have lg := CDX.lt hT (by omega)
              have e400 := fun hz => CDX.end_ hT hz
              exact ⟨_, rfl, hI607, hF611, rfl, ⟨⟨hT613, (PRG0.step hT tok612_ (rX.c (b := 2) (((hF608.1 176 2 (by decide)).trans ((hF601.1 176 2 (by decide)).trans ((gI_sI_ne (by decide)).trans ((hF564.1 176 2 (by decide)).trans (hF551.1 176 2 (by decide)))))))) (by omega)).le (by omega), PAO.leaf tok612 (by omega) (by omega) (by omega) (by omega)⟩, (by first | exact (fun hz => absurd hz (by omega)) | exact PAG.leaf tok612 (TOK_lt tok612 (by omega)) (by first | exact Or.inl ⟨by omega, by omega, by omega, by omega⟩ | exact Or.inr ⟨by omega, by omega, by omega⟩) (fun _ hl => ADP.l (ADP.fr hr603.2 (SCX.mk (((gA_sI).trans ((hF564.2.1 178 (by decide)).trans (hF551.2.1 178 (by decide))))) (((gA_sI).trans ((hF564.2.1 179 (by decide)).trans (hF551.2.1 179 (by decide))))) (((gI_sI_ne (by decide)).trans ((hF564.1 177 0 (by decide)).trans (hF551.1 177 0 (by decide)))))) (SCX.mk ((hF608.2.1 178 (by decide))) ((hF608.2.1 179 (by decide))) ((hF608.1 177 0 (by decide))))) hl) (by omega) (show rX _ 6 = rX g0 6 + 1 from by omega))⟩⟩
            · have c594_ : v593.toInt ≥ 50 := en_i_lt_f c594
              refine At.enter rfl ?_
              refine r_aload_n rfl ?_
              refine q_inlV 96 rfl [.ref 176] [] (Nat.le_of_ble_eq_true rfl) rfl ?_
              refine Ev.mk rfl rfl ⟨Nat.le_of_ble_eq_true rfl, Or.inr (q_rc hI563.1 kx_176 rfl)⟩ ?_
              show At _ none _ _ (0, [(0, .ref 176)], [], (_, _)) _
              refine At.enter rfl ?_
              refine r_aload_n rfl ?_
              obtain ⟨v629, hv629⟩ : ∃ v, gI g0 176 2 = v := ⟨_, rfl⟩
              refine q_getI (Sh.int hI563.1 kx_176 rfl) v629 (((hF564.1 176 2 (by decide)).trans (hF551.1 176 2 (by decide))).trans hv629) ?_
              refine r_iconst (-1) rfl ?_
              refine r_ics 8 rfl (fun c630 => ?_) (fun c630 => ?_)
              · have c630_ : v629.toInt ≠ (-1) := en_i_ne_t c630
                refine At.enter rfl ?_
                refine q_vret ?_
                refine At.enter rfl ?_
                refine r_vret ?_
                have x631 := rX.e hI563 (b := 2) ((((hF564.1 176 2 (by decide)).trans (hF551.1 176 2 (by decide))).trans hv629))
                have x632 := rX.e hI0 (b := 2) (hv629)
                obtain ⟨v633, hv633⟩ : ∃ v, gI g0 176 4 = v := ⟨_, rfl⟩
                have rv633 := RgF.at hI0.2.1 (p := 176) (b := 4) rfl
                rw [hv633] at rv633
                dsimp only at rv633
                have tv633 := congrArg Int32.toInt hv633
                have x634 := rX.e hI563 (b := 4) ((((hF564.1 176 4 (by decide)).trans (hF551.1 176 4 (by decide))).trans hv633))
                have x635 := rX.e hI0 (b := 4) (hv633)
                have x636 := rX.e hI563 (b := 6) ((((hF564.1 176 6 (by decide)).trans (hF551.1 176 6 (by decide))).trans hv593))
                have x637 := rX.e hI0 (b := 6) (hv593)
                have x638 := rX.e hI0 (b := 3) (hv559)
                have lf := ln568
                unfold WHX at lf
                have lg := CDX.lt hT (by omega)
                exact ⟨_, rfl, hI563, hF567, rfl, ⟨⟨(TKX.c hT (((hF564.2.1 175 (by decide)).trans (hF551.2.1 175 (by decide)))) (((hF564.1 174 1 (by decide)).trans (hF551.1 174 1 (by decide)))) (((hF564.1 176 3 (by decide)).trans (hF551.1 176 3 (by decide)))) (((hF564.1 176 4 (by decide)).trans (hF551.1 176 4 (by decide)))) (((hF564.1 176 5 (by decide)).trans (hF551.1 176 5 (by decide))))), (PRG0.fail 1 (rX.c (b := 4) (((hF564.1 176 4 (by decide)).trans (hF551.1 176 4 (by decide))))) (fun _ => by omega) (fun _ => by omega) (by omega)).le (by omega), PAO.leafF (TKX.some hT).choose_spec (by omega) (by omega) (fun _ => by omega) (fun _ => by omega) (by omega)⟩, (fun hz => absurd hz (by omega))⟩⟩
              · have c630_ : v629.toInt = (-1) := en_i_ne_f c630
                refine At.enter rfl ?_
                refine r_aload_n rfl ?_
                refine r_aload_n rfl ?_
                obtain ⟨v639, hv639⟩ : ∃ v, gI g0 176 4 = v := ⟨_, rfl⟩
                have rv639 := RgF.at hI0.2.1 (p := 176) (b := 4) rfl
                rw [hv639] at rv639
                dsimp only at rv639
                refine q_getI (Sh.int hI563.1 kx_176 rfl) v639 (((hF564.1 176 4 (by decide)).trans (hF551.1 176 4 (by decide))).trans hv639) ?_
                refine q_putI (Sh.int hI563.1 kx_176 rfl) rfl ?_
                have hI640 := HI.wI0 hI563 kx_176 rfl (p := 176) (b := 2) (v := v639) rfl
                have hF641 := Fr.wI (p := 176) (b := 2) (v := v639) hF567 rfl
                refine Ar.fall 16 rfl ?_
                refine At.enter rfl ?_
                refine q_vret ?_
                refine At.enter rfl ?_
                refine r_vret ?_
                have x642 := rX.e hI640 (b := 2) ((gI_sI_eq hI563.1 kx_176 rfl _))
                have x643 := rX.e hI0 (b := 2) (hv629)
                have x644 := rX.e hI640 (b := 4) ((((gI_sI_ne (by decide)).trans ((hF564.1 176 4 (by decide)).trans (hF551.1 176 4 (by decide)))).trans hv639))
                have x645 := rX.e hI0 (b := 4) (hv639)
                have x646 := rX.e hI640 (b := 6) ((((gI_sI_ne (by decide)).trans ((hF564.1 176 6 (by decide)).trans (hF551.1 176 6 (by decide)))).trans hv593))
                have x647 := rX.e hI0 (b := 6) (hv593)
                have x648 := rX.e hI0 (b := 3) (hv559)
                have lf := ln568
                unfold WHX at lf
                have lg := CDX.lt hT (by omega)
                exact ⟨_, rfl, hI640, hF641, rfl, ⟨⟨(TKX.c hT (((gA_sI).trans ((hF564.2.1 175 (by decide)).trans (hF551.2.1 175 (by decide))))) (((gI_sI_ne (by decide)).trans ((hF564.1 174 1 (by decide)).trans (hF551.1 174 1 (by decide))))) (((gI_sI_ne (by decide)).trans ((hF564.1 176 3 (by decide)).trans (hF551.1 176 3 (by decide))))) (((gI_sI_ne (by decide)).trans ((hF564.1 176 4 (by decide)).trans (hF551.1 176 4 (by decide))))) (((gI_sI_ne (by decide)).trans ((hF564.1 176 5 (by decide)).trans (hF551.1 176 5 (by decide)))))), (PRG0.fail 1 (rX.c (b := 4) (((gI_sI_ne (by decide)).trans ((hF564.1 176 4 (by decide)).trans (hF551.1 176 4 (by decide)))))) (fun _ => by omega) (fun _ => by omega) (by omega)).le (by omega), PAO.leafF (TKX.some hT).choose_spec (by omega) (by omega) (fun _ => by omega) (fun _ => by omega) (by omega)⟩, (fun hz => absurd hz (by omega))⟩⟩
      · have c561_ : v559.toInt = 1 := en_i_ne_f c561
        refine At.enter rfl ?_
        refine r_aload_n rfl ?_
        refine r_callV 63 rfl [.ref 176] [] (Nat.le_of_ble_eq_true rfl) rfl (T_X5_numberHere_176 _ hI550 (TKX.c hT ((hF551.2.1 175 (by decide))) ((hF551.1 174 1 (by decide))) ((hF551.1 176 3 (by decide))) ((hF551.1 176 4 (by decide))) ((hF551.1 176 5 (by decide))))) ?_
        rintro _ _ ⟨g649, rfl, hI650, hF651, v652, rfl, hr653⟩
        refine At.sti ?_
        have hF654 := Fr.tr hF554 hF651 rfl rfl
        have ln655 : NHX g0 v652.toInt := (hr653.2).c (rX.c (b := 3) ((hF551.1 176 3 (by decide)))) (CDX.c ((hF551.2.1 175 (by decide))) ((hF551.1 176 3 (by decide))) ((hF551.1 176 4 (by decide))) ((hF551.1 176 5 (by decide))))
        refine At.enter rfl ?_
        refine r_goto ?_
        refine At.enter rfl ?_
        refine r_istore_n ([(3, .int v652), (2, .int 1), (0, .ref 176), (1, .int a1)]) rfl ?_
        refine r_iload_n rfl ?_
        refine r_iconst (-1) rfl ?_
        refine r_ics 76 rfl (fun c656 => ?_) (fun c656 => ?_)
        · have c656_ : v652.toInt = (-1) := en_i_eq_t c656
          refine At.enter rfl ?_
          refine r_aload_n rfl ?_
          refine q_inlV 96 rfl [.ref 176] [] (Nat.le_of_ble_eq_true rfl) rfl ?_
          refine Ev.mk rfl rfl ⟨Nat.le_of_ble_eq_true rfl, Or.inr (q_rc hI650.1 kx_176 rfl)⟩ ?_
          show At _ none _ _ (0, [(0, .ref 176)], [], (_, _)) _
          refine At.enter rfl ?_
          refine r_aload_n rfl ?_
          obtain ⟨v657, hv657⟩ : ∃ v, gI g0 176 2 = v := ⟨_, rfl⟩
          refine q_getI (Sh.int hI650.1 kx_176 rfl) v657 (((hF651.1 176 2 (by decide)).trans (hF551.1 176 2 (by decide))).trans hv657) ?_
          refine r_iconst (-1) rfl ?_
          refine r_ics 8 rfl (fun c658 => ?_) (fun c658 => ?_)
          · have c658_ : v657.toInt ≠ (-1) := en_i_ne_t c658
            refine At.enter rfl ?_
            refine q_vret ?_
            refine At.enter rfl ?_
            refine r_vret ?_
            have x659 := rX.e hI650 (b := 2) ((((hF651.1 176 2 (by decide)).trans (hF551.1 176 2 (by decide))).trans hv657))
            have x660 := rX.e hI0 (b := 2) (hv657)
            obtain ⟨v661, hv661⟩ : ∃ v, gI g0 176 4 = v := ⟨_, rfl⟩
            have rv661 := RgF.at hI0.2.1 (p := 176) (b := 4) rfl
            rw [hv661] at rv661
            dsimp only at rv661
            have tv661 := congrArg Int32.toInt hv661
            have x662 := rX.e hI650 (b := 4) ((((hF651.1 176 4 (by decide)).trans (hF551.1 176 4 (by decide))).trans hv661))
            have x663 := rX.e hI0 (b := 4) (hv661)
            obtain ⟨v664, hv664⟩ : ∃ v, gI g0 176 6 = v := ⟨_, rfl⟩
            have tv664 := congrArg Int32.toInt hv664
            have x665 := rX.e hI650 (b := 6) ((((hF651.1 176 6 (by decide)).trans (hF551.1 176 6 (by decide))).trans hv664))
            have x666 := rX.e hI0 (b := 6) (hv664)
            have x667 := rX.e hI0 (b := 3) (hv559)
            have lf := ln655 (by omega)
            exact ⟨_, rfl, hI650, hF654, rfl, ⟨⟨(TKX.c hT (((hF651.2.1 175 (by decide)).trans (hF551.2.1 175 (by decide)))) (((hF651.1 174 1 (by decide)).trans (hF551.1 174 1 (by decide)))) (((hF651.1 176 3 (by decide)).trans (hF551.1 176 3 (by decide)))) (((hF651.1 176 4 (by decide)).trans (hF551.1 176 4 (by decide)))) (((hF651.1 176 5 (by decide)).trans (hF551.1 176 5 (by decide))))), (PRG0.fail 1 (rX.c (b := 4) (((hF651.1 176 4 (by decide)).trans (hF551.1 176 4 (by decide))))) (fun _ => by omega) (fun _ => by omega) (by omega)).le (by omega), PAO.leafF (TKX.some hT).choose_spec (by omega) (by omega) (fun _ => by omega) (fun _ => by omega) (by omega)⟩, (fun hz => absurd hz (by omega))⟩⟩
          · have c658_ : v657.toInt = (-1) := en_i_ne_f c658
            refine At.enter rfl ?_
            refine r_aload_n rfl ?_
            refine r_aload_n rfl ?_
            obtain ⟨v668, hv668⟩ : ∃ v, gI g0 176 4 = v := ⟨_, rfl⟩
            have rv668 := RgF.at hI0.2.1 (p := 176) (b := 4) rfl
            rw [hv668] at rv668
            dsimp only at rv668
            refine q_getI (Sh.int hI650.1 kx_176 rfl) v668 (((hF651.1 176 4 (by decide)).trans (hF551.1 176 4 (by decide))).trans hv668) ?_
            refine q_putI (Sh.int hI650.1 kx_176 rfl) rfl ?_
            have hI669 := HI.wI0 hI650 kx_176 rfl (p := 176) (b := 2) (v := v668) rfl
            have hF670 := Fr.wI (p := 176) (b := 2) (v := v668) hF654 rfl
            refine Ar.fall 16 rfl ?_
            refine At.enter rfl ?_
            refine q_vret ?_
            refine At.enter rfl ?_
            refine r_vret ?_
            have x671 := rX.e hI669 (b := 2) ((gI_sI_eq hI650.1 kx_176 rfl _))
            have x672 := rX.e hI0 (b := 2) (hv657)
            have x673 := rX.e hI669 (b := 4) ((((gI_sI_ne (by decide)).trans ((hF651.1 176 4 (by decide)).trans (hF551.1 176 4 (by decide)))).trans hv668))
            have x674 := rX.e hI0 (b := 4) (hv668)
            obtain ⟨v675, hv675⟩ : ∃ v, gI g0 176 6 = v := ⟨_, rfl⟩
            have tv675 := congrArg Int32.toInt hv675
            have x676 := rX.e hI669 (b := 6) ((((gI_sI_ne (by decide)).trans ((hF651.1 176 6 (by decide)).trans (hF551.1 176 6 (by decide)))).trans hv675))
            have x677 := rX.e hI0 (b := 6) (hv675)
            have x678 := rX.e hI0 (b := 3) (hv559)
            have lf := ln655 (by omega)
            exact ⟨_, rfl, hI669, hF670, rfl, ⟨⟨(TKX.c hT (((gA_sI).trans ((hF651.2.1 175 (by decide)).trans (hF551.2.1 175 (by decide))))) (((gI_sI_ne (by decide)).trans ((hF651.1 174 1 (by decide)).trans (hF551.1 174 1 (by decide))))) (((gI_sI_ne (by decide)).trans ((hF651.1 176 3 (by decide)).trans (hF551.1 176 3 (by decide))))) (((gI_sI_ne (by decide)).trans ((hF651.1 176 4 (by decide)).trans (hF551.1 176 4 (by decide))))) (((gI_sI_ne (by decide)).trans ((hF651.1 176 5 (by decide)).trans (hF551.1 176 5 (by decide)))))), (PRG0.fail 1 (rX.c (b := 4) (((gI_sI_ne (by decide)).trans ((hF651.1 176 4 (by decide)).trans (hF551.1 176 4 (by decide)))))) (fun _ => by omega) (fun _ => by omega) (by omega)).le (by omega), PAO.leafF (TKX.some hT).choose_spec (by omega) (by omega) (fun _ => by omega) (fun _ => by omega) (by omega)⟩, (fun hz => absurd hz (by omega))⟩⟩
        · have c656_ : v652.toInt ≠ (-1) := en_i_eq_f c656
          refine At.enter rfl ?_
          refine r_iload_n rfl ?_
          refine r_sipush 1000 rfl ?_
          refine r_ics 83 rfl (fun c679 => ?_) (fun c679 => ?_)
          · have c679_ : v652.toInt > 1000 := en_i_gt_t c679
            refine At.enter rfl ?_
            refine r_aload_n rfl ?_
            refine q_inlV 96 rfl [.ref 176] [] (Nat.le_of_ble_eq_true rfl) rfl ?_
            refine Ev.mk rfl rfl ⟨Nat.le_of_ble_eq_true rfl, Or.inr (q_rc hI650.1 kx_176 rfl)⟩ ?_
            show At _ none _ _ (0, [(0, .ref 176)], [], (_, _)) _
            refine At.enter rfl ?_
            refine r_aload_n rfl ?_
            obtain ⟨v680, hv680⟩ : ∃ v, gI g0 176 2 = v := ⟨_, rfl⟩
            refine q_getI (Sh.int hI650.1 kx_176 rfl) v680 (((hF651.1 176 2 (by decide)).trans (hF551.1 176 2 (by decide))).trans hv680) ?_
            refine r_iconst (-1) rfl ?_
            refine r_ics 8 rfl (fun c681 => ?_) (fun c681 => ?_)
            · have c681_ : v680.toInt ≠ (-1) := en_i_ne_t c681
              refine At.enter rfl ?_
              refine q_vret ?_
              refine At.enter rfl ?_
              refine r_vret ?_
              have x682 := rX.e hI650 (b := 2) ((((hF651.1 176 2 (by decide)).trans (hF551.1 176 2 (by decide))).trans hv680))
              have x683 := rX.e hI0 (b := 2) (hv680)
              obtain ⟨v684, hv684⟩ : ∃ v, gI g0 176 4 = v := ⟨_, rfl⟩
              have rv684 := RgF.at hI0.2.1 (p := 176) (b := 4) rfl
              rw [hv684] at rv684
              dsimp only at rv684
              have tv684 := congrArg Int32.toInt hv684
              have x685 := rX.e hI650 (b := 4) ((((hF651.1 176 4 (by decide)).trans (hF551.1 176 4 (by decide))).trans hv684))
              have x686 := rX.e hI0 (b := 4) (hv684)
              obtain ⟨v687, hv687⟩ : ∃ v, gI g0 176 6 = v := ⟨_, rfl⟩
              have tv687 := congrArg Int32.toInt hv687
              have x688 := rX.e hI650 (b := 6) ((((hF651.1 176 6 (by decide)).trans (hF551.1 176 6 (by decide))).trans hv687))
              have x689 := rX.e hI0 (b := 6) (hv687)
              have x690 := rX.e hI0 (b := 3) (hv559)
              have lf := ln655 (by omega)
              exact ⟨_, rfl, hI650, hF654, rfl, ⟨⟨(TKX.c hT (((hF651.2.1 175 (by decide)).trans (hF551.2.1 175 (by decide)))) (((hF651.1 174 1 (by decide)).trans (hF551.1 174 1 (by decide)))) (((hF651.1 176 3 (by decide)).trans (hF551.1 176 3 (by decide)))) (((hF651.1 176 4 (by decide)).trans (hF551.1 176 4 (by decide)))) (((hF651.1 176 5 (by decide)).trans (hF551.1 176 5 (by decide))))), (PRG0.fail 1 (rX.c (b := 4) (((hF651.1 176 4 (by decide)).trans (hF551.1 176 4 (by decide))))) (fun _ => by omega) (fun _ => by omega) (by omega)).le (by omega), PAO.leafF (TKX.some hT).choose_spec (by omega) (by omega) (fun _ => by omega) (fun _ => by omega) (by omega)⟩, (fun hz => absurd hz (by omega))⟩⟩
            · have c681_ : v680.toInt = (-1) := en_i_ne_f c681
              refine At.enter rfl ?_
              refine r_aload_n rfl ?_
              refine r_aload_n rfl ?_
              obtain ⟨v691, hv691⟩ : ∃ v, gI g0 176 4 = v := ⟨_, rfl⟩
              have rv691 := RgF.at hI0.2.1 (p := 176) (b := 4) rfl
              rw [hv691] at rv691
              dsimp only at rv691
              refine q_getI (Sh.int hI650.1 kx_176 rfl) v691 (((hF651.1 176 4 (by decide)).trans (hF551.1 176 4 (by decide))).trans hv691) ?_
              refine q_putI (Sh.int hI650.1 kx_176 rfl) rfl ?_
              have hI692 := HI.wI0 hI650 kx_176 rfl (p := 176) (b := 2) (v := v691) rfl
              have hF693 := Fr.wI (p := 176) (b := 2) (v := v691) hF654 rfl
              refine Ar.fall 16 rfl ?_
              refine At.enter rfl ?_
              refine q_vret ?_
              refine At.enter rfl ?_
              refine r_vret ?_
              have x694 := rX.e hI692 (b := 2) ((gI_sI_eq hI650.1 kx_176 rfl _))
              have x695 := rX.e hI0 (b := 2) (hv680)
              have x696 := rX.e hI692 (b := 4) ((((gI_sI_ne (by decide)).trans ((hF651.1 176 4 (by decide)).trans (hF551.1 176 4 (by decide)))).trans hv691))
              have x697 := rX.e hI0 (b := 4) (hv691)
              obtain ⟨v698, hv698⟩ : ∃ v, gI g0 176 6 = v := ⟨_, rfl⟩
              have tv698 := congrArg Int32.toInt hv698
              have x699 := rX.e hI692 (b := 6) ((((gI_sI_ne (by decide)).trans ((hF651.1 176 6 (by decide)).trans (hF551.1 176 6 (by decide)))).trans hv698))
              have x700 := rX.e hI0 (b := 6) (hv698)
              have x701 := rX.e hI0 (b := 3) (hv559)
              have lf := ln655 (by omega)
              exact ⟨_, rfl, hI692, hF693, rfl, ⟨⟨(TKX.c hT (((gA_sI).trans ((hF651.2.1 175 (by decide)).trans (hF551.2.1 175 (by decide))))) (((gI_sI_ne (by decide)).trans ((hF651.1 174 1 (by decide)).trans (hF551.1 174 1 (by decide))))) (((gI_sI_ne (by decide)).trans ((hF651.1 176 3 (by decide)).trans (hF551.1 176 3 (by decide))))) (((gI_sI_ne (by decide)).trans ((hF651.1 176 4 (by decide)).trans (hF551.1 176 4 (by decide))))) (((gI_sI_ne (by decide)).trans ((hF651.1 176 5 (by decide)).trans (hF551.1 176 5 (by decide)))))), (PRG0.fail 1 (rX.c (b := 4) (((gI_sI_ne (by decide)).trans ((hF651.1 176 4 (by decide)).trans (hF551.1 176 4 (by decide)))))) (fun _ => by omega) (fun _ => by omega) (by omega)).le (by omega), PAO.leafF (TKX.some hT).choose_spec (by omega) (by omega) (fun _ => by omega) (fun _ => by omega) (by omega)⟩, (fun hz => absurd hz (by omega))⟩⟩
          · have c679_ : v652.toInt ≤ 1000 := en_i_gt_f c679
            refine At.enter rfl ?_
            refine r_aload_n rfl ?_
            obtain ⟨v702, hv702⟩ : ∃ v, gI g0 176 6 = v := ⟨_, rfl⟩
            refine q_getI (Sh.int hI650.1 kx_176 rfl) v702 (((hF651.1 176 6 (by decide)).trans (hF551.1 176 6 (by decide))).trans hv702) ?_
            refine r_bipush 50 rfl ?_
            refine r_ics 92 rfl (fun c703 => ?_) (fun c703 => ?_)
            · have c703_ : v702.toInt < 50 := en_i_lt_t c703
              refine At.enter rfl ?_
              refine r_aload_n rfl ?_
              refine r_dup rfl ?_
              refine q_getI (Sh.int hI650.1 kx_176 rfl) v702 (((hF651.1 176 6 (by decide)).trans (hF551.1 176 6 (by decide))).trans hv702) ?_
              refine r_iconst 1 rfl ?_
              have bv704 := q_bnd v702
              refine q_iadd (v702.toInt + 1) rfl (by omega) (fun v705 hv705 => ?_)
              refine q_putI (Sh.int hI650.1 kx_176 rfl) rfl ?_
              have hI706 := HI.wI0 hI650 kx_176 rfl (p := 176) (b := 6) (v := v705) rfl
              have hF707 := Fr.wI (p := 176) (b := 6) (v := v705) hF654 rfl
              refine r_aload_n rfl ?_
              refine q_getR (Sh.ref hI706.1 kx_176 rfl) ?_
              refine r_iload_n rfl ?_
              refine r_iload_n rfl ?_
              refine r_callV 116 rfl [.ref 177, .int 1, .int v652] [] (Nat.le_of_ble_eq_true rfl) rfl (T_X4_add_177 _ hI706 1 v652) ?_
              rintro _ _ ⟨g708, rfl, hI709, hF710, v711, rfl, hr712⟩
              refine At.sti ?_
              have hF713 := Fr.tr hF707 hF710 rfl rfl
              have zv714 : (1 : Int32).toInt = 1 := rfl
              refine At.enter rfl ?_
              refine r_pop rfl ?_
              refine r_aload_n rfl ?_
              refine r_callV 121 rfl [.ref 176] [] (Nat.le_of_ble_eq_true rfl) rfl (T_X5_step_176 _ hI709 (TKX.c hT (((hF710.2.1 175 (by decide)).trans ((gA_sI).trans ((hF651.2.1 175 (by decide)).trans (hF551.2.1 175 (by decide)))))) (((hF710.1 174 1 (by decide)).trans ((gI_sI_ne (by decide)).trans ((hF651.1 174 1 (by decide)).trans (hF551.1 174 1 (by decide)))))) (((hF710.1 176 3 (by decide)).trans ((gI_sI_ne (by decide)).trans ((hF651.1 176 3 (by decide)).trans (hF551.1 176 3 (by decide)))))) (((hF710.1 176 4 (by decide)).trans ((gI_sI_ne (by decide)).trans ((hF651.1 176 4 (by decide)).trans (hF551.1 176 4 (by decide)))))) (((hF710.1 176 5 (by decide)).trans ((gI_sI_ne (by decide)).trans ((hF651.1 176 5 (by decide)).trans (hF551.1 176 5 (by decide))))))).1 (TKX.c hT (((hF710.2.1 175 (by decide)).trans ((gA_sI).trans ((hF651.2.1 175 (by decide)).trans (hF551.2.1 175 (by decide)))))) (((hF710.1 174 1 (by decide)).trans ((gI_sI_ne (by decide)).trans ((hF651.1 174 1 (by decide)).trans (hF551.1 174 1 (by decide)))))) (((hF710.1 176 3 (by decide)).trans ((gI_sI_ne (by decide)).trans ((hF651.1 176 3 (by decide)).trans (hF551.1 176 3 (by decide)))))) (((hF710.1 176 4 (by decide)).trans ((gI_sI_ne (by decide)).trans ((hF651.1 176 4 (by decide)).trans (hF551.1 176 4 (by decide)))))) (((hF710.1 176 5 (by decide)).trans ((gI_sI_ne (by decide)).trans ((hF651.1 176 5 (by decide)).trans (hF551.1 176 5 (by decide))))))).2.1.le.2.1) ?_
              rintro _ _ ⟨g715, rfl, hI716, hF717, rfl, hr719⟩
              refine At.stn ?_
              have hF720 := Fr.tr hF713 hF717 rfl rfl
              have tok721_ := hr719.2
              rw [TX.c (((hF710.2.1 175 (by decide)).trans ((gA_sI).trans ((hF651.2.1 175 (by decide)).trans (hF551.2.1 175 (by decide)))))), nX.c (((hF710.1 174 1 (by decide)).trans ((gI_sI_ne (by decide)).trans ((hF651.1 174 1 (by decide)).trans (hF551.1 174 1 (by decide)))))), rX.c (b := 5) (((hF710.1 176 5 (by decide)).trans ((gI_sI_ne (by decide)).trans ((hF651.1 176 5 (by decide)).trans (hF551.1 176 5 (by decide))))))] at tok721_
              have tok721 := TKX.tok hT tok721_
              have hT722 := hr719.1
              obtain ⟨v723, hv723⟩ : ∃ v, gI g0 176 4 = v := ⟨_, rfl⟩
              have rv723 := RgF.at hI0.2.1 (p := 176) (b := 4) rfl
              rw [hv723] at rv723
              dsimp only at rv723
              have tv723 := congrArg Int32.toInt hv723
              have x724 := rX.e hI709 (b := 4) ((((hF710.1 176 4 (by decide)).trans ((gI_sI_ne (by decide)).trans ((hF651.1 176 4 (by decide)).trans (hF551.1 176 4 (by decide))))).trans hv723))
              obtain ⟨v725, hv725⟩ : ∃ v, gI g715 176 4 = v := ⟨_, rfl⟩
              have rv725 := RgF.at hI716.2.1 (p := 176) (b := 4) rfl
              rw [hv725] at rv725
              dsimp only at rv725
              have tv725 := congrArg Int32.toInt hv725
              have x726 := rX.e hI716 (b := 4) (hv725)
              refine At.enter rfl ?_
              refine r_vret ?_
              obtain ⟨v727, hv727⟩ : ∃ v, gI g0 176 2 = v := ⟨_, rfl⟩
              have tv727 := congrArg Int32.toInt hv727
              have x728 := rX.e hI716 (b := 2) ((((hF717.1 176 2 (by decide)).trans ((hF710.1 176 2 (by decide)).trans ((gI_sI_ne (by decide)).trans ((hF651.1 176 2 (by decide)).trans (hF551.1 176 2 (by decide)))))).trans hv727))
              have x729 := rX.e hI0 (b := 2) (hv727)
              have x730 := rX.e hI716 (b := 4) (hv725)
              have x731 := rX.e hI0 (b := 4) (hv723)
              have x732 := rX.e hI716 (b := 6) (((hF717.1 176 6 (by decide)).trans ((hF710.1 176 6 (by decide)).trans (gI_sI_eq hI650.1 kx_176 rfl _))))
              have x733 := rX.e hI0 (b := 6) (hv702)
              have x734 := rX.e hI0 (b := 3) (hv559)
              have x735 := rX.e hI716 (b := 2) ((((hF717.1 176 2 (by decide)).trans ((hF710.1 176 2 (by decide)).trans ((gI_sI_ne (by decide)).trans ((hF651.1 176 2 (by decide)).trans (hF551.1 176 2 (by decide)))))).trans hv727))
              have x736 := rX.e hI716 (b := 4) (hv725)
              have x737 := rX.e hI716 (b := 6) (((hF717.1 176 6 (by decide)).trans ((hF710.1 176 6 (by decide)).trans (gI_sI_eq hI650.1 kx_176 rfl _))))
              have lf := ln655 (by omega)
              have e400 := fun hz => CDX.end_ hT hz
              exact ⟨_, rfl, hI716, hF720, rfl, ⟨⟨hT722, (PRG0.step hT tok721_ (rX.c (b := 2) (((hF717.1 176 2 (by decide)).trans ((hF710.1 176 2 (by decide)).trans ((gI_sI_ne (by decide)).trans ((hF651.1 176 2 (by decide)).trans (hF551.1 176 2 (by decide)))))))) (by omega)).le (by omega), PAO.leaf tok721 (by omega) (by omega) (by omega) (by omega)⟩, (by first | exact (fun hz => absurd hz (by omega)) | exact PAG.leaf tok721 (TOK_lt tok721 (by omega)) (by first | exact Or.inl ⟨by omega, by omega, by omega, by omega⟩ | exact Or.inr ⟨by omega, by omega, by omega⟩) (fun _ hl => ADP.l (ADP.fr hr712.2 (SCX.mk (((gA_sI).trans ((hF651.2.1 178 (by decide)).trans (hF551.2.1 178 (by decide))))) (((gA_sI).trans ((hF651.2.1 179 (by decide)).trans (hF551.2.1 179 (by decide))))) (((gI_sI_ne (by decide)).trans ((hF651.1 177 0 (by decide)).trans (hF551.1 177 0 (by decide)))))) (SCX.mk ((hF717.2.1 178 (by decide))) ((hF717.2.1 179 (by decide))) ((hF717.1 177 0 (by decide))))) hl) (by omega) (show rX _ 6 = rX g0 6 + 1 from by omega))⟩⟩
            · have c703_ : v702.toInt ≥ 50 := en_i_lt_f c703
              refine At.enter rfl ?_
              refine r_aload_n rfl ?_
              refine q_inlV 96 rfl [.ref 176] [] (Nat.le_of_ble_eq_true rfl) rfl ?_
              refine Ev.mk rfl rfl ⟨Nat.le_of_ble_eq_true rfl, Or.inr (q_rc hI650.1 kx_176 rfl)⟩ ?_
              show At _ none _ _ (0, [(0, .ref 176)], [], (_, _)) _
              refine At.enter rfl ?_
              refine r_aload_n rfl ?_
              obtain ⟨v738, hv738⟩ : ∃ v, gI g0 176 2 = v := ⟨_, rfl⟩
              refine q_getI (Sh.int hI650.1 kx_176 rfl) v738 (((hF651.1 176 2 (by decide)).trans (hF551.1 176 2 (by decide))).trans hv738) ?_
              refine r_iconst (-1) rfl ?_
              refine r_ics 8 rfl (fun c739 => ?_) (fun c739 => ?_)
              · have c739_ : v738.toInt ≠ (-1) := en_i_ne_t c739
                refine At.enter rfl ?_
                refine q_vret ?_
                refine At.enter rfl ?_
                refine r_vret ?_
                have x740 := rX.e hI650 (b := 2) ((((hF651.1 176 2 (by decide)).trans (hF551.1 176 2 (by decide))).trans hv738))
                have x741 := rX.e hI0 (b := 2) (hv738)
                obtain ⟨v742, hv742⟩ : ∃ v, gI g0 176 4 = v := ⟨_, rfl⟩
                have rv742 := RgF.at hI0.2.1 (p := 176) (b := 4) rfl
                rw [hv742] at rv742
                dsimp only at rv742
                have tv742 := congrArg Int32.toInt hv742
                have x743 := rX.e hI650 (b := 4) ((((hF651.1 176 4 (by decide)).trans (hF551.1 176 4 (by decide))).trans hv742))
                have x744 := rX.e hI0 (b := 4) (hv742)
                have x745 := rX.e hI650 (b := 6) ((((hF651.1 176 6 (by decide)).trans (hF551.1 176 6 (by decide))).trans hv702))
                have x746 := rX.e hI0 (b := 6) (hv702)
                have x747 := rX.e hI0 (b := 3) (hv559)
                have lf := ln655 (by omega)
                exact ⟨_, rfl, hI650, hF654, rfl, ⟨⟨(TKX.c hT (((hF651.2.1 175 (by decide)).trans (hF551.2.1 175 (by decide)))) (((hF651.1 174 1 (by decide)).trans (hF551.1 174 1 (by decide)))) (((hF651.1 176 3 (by decide)).trans (hF551.1 176 3 (by decide)))) (((hF651.1 176 4 (by decide)).trans (hF551.1 176 4 (by decide)))) (((hF651.1 176 5 (by decide)).trans (hF551.1 176 5 (by decide))))), (PRG0.fail 1 (rX.c (b := 4) (((hF651.1 176 4 (by decide)).trans (hF551.1 176 4 (by decide))))) (fun _ => by omega) (fun _ => by omega) (by omega)).le (by omega), PAO.leafF (TKX.some hT).choose_spec (by omega) (by omega) (fun _ => by omega) (fun _ => by omega) (by omega)⟩, (fun hz => absurd hz (by omega))⟩⟩
              · have c739_ : v738.toInt = (-1) := en_i_ne_f c739
                refine At.enter rfl ?_
                refine r_aload_n rfl ?_
                refine r_aload_n rfl ?_
                obtain ⟨v748, hv748⟩ : ∃ v, gI g0 176 4 = v := ⟨_, rfl⟩
                have rv748 := RgF.at hI0.2.1 (p := 176) (b := 4) rfl
                rw [hv748] at rv748
                dsimp only at rv748
                refine q_getI (Sh.int hI650.1 kx_176 rfl) v748 (((hF651.1 176 4 (by decide)).trans (hF551.1 176 4 (by decide))).trans hv748) ?_
                refine q_putI (Sh.int hI650.1 kx_176 rfl) rfl ?_
                have hI749 := HI.wI0 hI650 kx_176 rfl (p := 176) (b := 2) (v := v748) rfl
                have hF750 := Fr.wI (p := 176) (b := 2) (v := v748) hF654 rfl
                refine Ar.fall 16 rfl ?_
                refine At.enter rfl ?_
                refine q_vret ?_
                refine At.enter rfl ?_
                refine r_vret ?_
                have x751 := rX.e hI749 (b := 2) ((gI_sI_eq hI650.1 kx_176 rfl _))
                have x752 := rX.e hI0 (b := 2) (hv738)
                have x753 := rX.e hI749 (b := 4) ((((gI_sI_ne (by decide)).trans ((hF651.1 176 4 (by decide)).trans (hF551.1 176 4 (by decide)))).trans hv748))
                have x754 := rX.e hI0 (b := 4) (hv748)
                have x755 := rX.e hI749 (b := 6) ((((gI_sI_ne (by decide)).trans ((hF651.1 176 6 (by decide)).trans (hF551.1 176 6 (by decide)))).trans hv702))
                have x756 := rX.e hI0 (b := 6) (hv702)
                have x757 := rX.e hI0 (b := 3) (hv559)
                have lf := ln655 (by omega)
                exact ⟨_, rfl, hI749, hF750, rfl, ⟨⟨(TKX.c hT (((gA_sI).trans ((hF651.2.1 175 (by decide)).trans (hF551.2.1 175 (by decide))))) (((gI_sI_ne (by decide)).trans ((hF651.1 174 1 (by decide)).trans (hF551.1 174 1 (by decide))))) (((gI_sI_ne (by decide)).trans ((hF651.1 176 3 (by decide)).trans (hF551.1 176 3 (by decide))))) (((gI_sI_ne (by decide)).trans ((hF651.1 176 4 (by decide)).trans (hF551.1 176 4 (by decide))))) (((gI_sI_ne (by decide)).trans ((hF651.1 176 5 (by decide)).trans (hF551.1 176 5 (by decide)))))), (PRG0.fail 1 (rX.c (b := 4) (((gI_sI_ne (by decide)).trans ((hF651.1 176 4 (by decide)).trans (hF551.1 176 4 (by decide)))))) (fun _ => by omega) (fun _ => by omega) (by omega)).le (by omega), PAO.leafF (TKX.some hT).choose_spec (by omega) (by omega) (fun _ => by omega) (fun _ => by omega) (by omega)⟩, (fun hz => absurd hz (by omega))⟩⟩
    · have c560_ : v559.toInt = 1 := en_i_ne_f c560
      refine At.enter rfl ?_
      refine r_iconst 0 rfl ?_
      refine r_goto ?_
      refine At.enter rfl ?_
      refine r_istore_n ([(2, .int 0), (0, .ref 176), (1, .int a1)]) rfl ?_
      refine r_aload_n rfl ?_
      refine q_getI (Sh.int hI550.1 kx_176 rfl) v559 ((hF551.1 176 3 (by decide)).trans hv559) ?_
      refine r_iconst 1 rfl ?_
      refine r_ics 59 rfl (fun c758 => ?_) (fun c758 => ?_)
      · have c758_ : v559.toInt ≠ 1 := en_i_ne_t c758
        exfalso; omega
      · have c758_ : v559.toInt = 1 := en_i_ne_f c758
        refine At.enter rfl ?_
        refine r_aload_n rfl ?_
        refine r_callV 63 rfl [.ref 176] [] (Nat.le_of_ble_eq_true rfl) rfl (T_X5_numberHere_176 _ hI550 (TKX.c hT ((hF551.2.1 175 (by decide))) ((hF551.1 174 1 (by decide))) ((hF551.1 176 3 (by decide))) ((hF551.1 176 4 (by decide))) ((hF551.1 176 5 (by decide))))) ?_
        rintro _ _ ⟨g759, rfl, hI760, hF761, v762, rfl, hr763⟩
        refine At.sti ?_
        have hF764 := Fr.tr hF554 hF761 rfl rfl
        have ln765 : NHX g0 v762.toInt := (hr763.2).c (rX.c (b := 3) ((hF551.1 176 3 (by decide)))) (CDX.c ((hF551.2.1 175 (by decide))) ((hF551.1 176 3 (by decide))) ((hF551.1 176 4 (by decide))) ((hF551.1 176 5 (by decide))))
        refine At.enter rfl ?_
        refine r_goto ?_
        refine At.enter rfl ?_
        refine r_istore_n ([(3, .int v762), (2, .int 0), (0, .ref 176), (1, .int a1)]) rfl ?_
        refine r_iload_n rfl ?_
        refine r_iconst (-1) rfl ?_
        refine r_ics 76 rfl (fun c766 => ?_) (fun c766 => ?_)
        · have c766_ : v762.toInt = (-1) := en_i_eq_t c766
          refine At.enter rfl ?_
          refine r_aload_n rfl ?_
          refine q_inlV 96 rfl [.ref 176] [] (Nat.le_of_ble_eq_true rfl) rfl ?_
          refine Ev.mk rfl rfl ⟨Nat.le_of_ble_eq_true rfl, Or.inr (q_rc hI760.1 kx_176 rfl)⟩ ?_
          show At _ none _ _ (0, [(0, .ref 176)], [], (_, _)) _
          refine At.enter rfl ?_
          refine r_aload_n rfl ?_
          obtain ⟨v767, hv767⟩ : ∃ v, gI g0 176 2 = v := ⟨_, rfl⟩
          refine q_getI (Sh.int hI760.1 kx_176 rfl) v767 (((hF761.1 176 2 (by decide)).trans (hF551.1 176 2 (by decide))).trans hv767) ?_
          refine r_iconst (-1) rfl ?_
          refine r_ics 8 rfl (fun c768 => ?_) (fun c768 => ?_)
          · have c768_ : v767.toInt ≠ (-1) := en_i_ne_t c768
            refine At.enter rfl ?_
            refine q_vret ?_
            refine At.enter rfl ?_
            refine r_vret ?_
            have x769 := rX.e hI760 (b := 2) ((((hF761.1 176 2 (by decide)).trans (hF551.1 176 2 (by decide))).trans hv767))
            have x770 := rX.e hI0 (b := 2) (hv767)
            obtain ⟨v771, hv771⟩ : ∃ v, gI g0 176 4 = v := ⟨_, rfl⟩
            have rv771 := RgF.at hI0.2.1 (p := 176) (b := 4) rfl
            rw [hv771] at rv771
            dsimp only at rv771
            have tv771 := congrArg Int32.toInt hv771
            have x772 := rX.e hI760 (b := 4) ((((hF761.1 176 4 (by decide)).trans (hF551.1 176 4 (by decide))).trans hv771))
            have x773 := rX.e hI0 (b := 4) (hv771)
            obtain ⟨v774, hv774⟩ : ∃ v, gI g0 176 6 = v := ⟨_, rfl⟩
            have tv774 := congrArg Int32.toInt hv774
            have x775 := rX.e hI760 (b := 6) ((((hF761.1 176 6 (by decide)).trans (hF551.1 176 6 (by decide))).trans hv774))
            have x776 := rX.e hI0 (b := 6) (hv774)
            have x777 := rX.e hI0 (b := 3) (hv559)
            have lf := ln765 (by omega)
            exact ⟨_, rfl, hI760, hF764, rfl, ⟨⟨(TKX.c hT (((hF761.2.1 175 (by decide)).trans (hF551.2.1 175 (by decide)))) (((hF761.1 174 1 (by decide)).trans (hF551.1 174 1 (by decide)))) (((hF761.1 176 3 (by decide)).trans (hF551.1 176 3 (by decide)))) (((hF761.1 176 4 (by decide)).trans (hF551.1 176 4 (by decide)))) (((hF761.1 176 5 (by decide)).trans (hF551.1 176 5 (by decide))))), (PRG0.fail 1 (rX.c (b := 4) (((hF761.1 176 4 (by decide)).trans (hF551.1 176 4 (by decide))))) (fun _ => by omega) (fun _ => by omega) (by omega)).le (by omega), PAO.leafF (TKX.some hT).choose_spec (by omega) (by omega) (fun _ => by omega) (fun _ => by omega) (by omega)⟩, (fun hz => absurd hz (by omega))⟩⟩
          · have c768_ : v767.toInt = (-1) := en_i_ne_f c768
            refine At.enter rfl ?_
            refine r_aload_n rfl ?_
            refine r_aload_n rfl ?_
            obtain ⟨v778, hv778⟩ : ∃ v, gI g0 176 4 = v := ⟨_, rfl⟩
            have rv778 := RgF.at hI0.2.1 (p := 176) (b := 4) rfl
            rw [hv778] at rv778
            dsimp only at rv778
            refine q_getI (Sh.int hI760.1 kx_176 rfl) v778 (((hF761.1 176 4 (by decide)).trans (hF551.1 176 4 (by decide))).trans hv778) ?_
            refine q_putI (Sh.int hI760.1 kx_176 rfl) rfl ?_
            have hI779 := HI.wI0 hI760 kx_176 rfl (p := 176) (b := 2) (v := v778) rfl
            have hF780 := Fr.wI (p := 176) (b := 2) (v := v778) hF764 rfl
            refine Ar.fall 16 rfl ?_
            refine At.enter rfl ?_
            refine q_vret ?_
            refine At.enter rfl ?_
            refine r_vret ?_
            have x781 := rX.e hI779 (b := 2) ((gI_sI_eq hI760.1 kx_176 rfl _))
            have x782 := rX.e hI0 (b := 2) (hv767)
            have x783 := rX.e hI779 (b := 4) ((((gI_sI_ne (by decide)).trans ((hF761.1 176 4 (by decide)).trans (hF551.1 176 4 (by decide)))).trans hv778))
            have x784 := rX.e hI0 (b := 4) (hv778)
            obtain ⟨v785, hv785⟩ : ∃ v, gI g0 176 6 = v := ⟨_, rfl⟩
            have tv785 := congrArg Int32.toInt hv785
            have x786 := rX.e hI779 (b := 6) ((((gI_sI_ne (by decide)).trans ((hF761.1 176 6 (by decide)).trans (hF551.1 176 6 (by decide)))).trans hv785))
            have x787 := rX.e hI0 (b := 6) (hv785)
            have x788 := rX.e hI0 (b := 3) (hv559)
            have lf := ln765 (by omega)
            exact ⟨_, rfl, hI779, hF780, rfl, ⟨⟨(TKX.c hT (((gA_sI).trans ((hF761.2.1 175 (by decide)).trans (hF551.2.1 175 (by decide))))) (((gI_sI_ne (by decide)).trans ((hF761.1 174 1 (by decide)).trans (hF551.1 174 1 (by decide))))) (((gI_sI_ne (by decide)).trans ((hF761.1 176 3 (by decide)).trans (hF551.1 176 3 (by decide))))) (((gI_sI_ne (by decide)).trans ((hF761.1 176 4 (by decide)).trans (hF551.1 176 4 (by decide))))) (((gI_sI_ne (by decide)).trans ((hF761.1 176 5 (by decide)).trans (hF551.1 176 5 (by decide)))))), (PRG0.fail 1 (rX.c (b := 4) (((gI_sI_ne (by decide)).trans ((hF761.1 176 4 (by decide)).trans (hF551.1 176 4 (by decide)))))) (fun _ => by omega) (fun _ => by omega) (by omega)).le (by omega), PAO.leafF (TKX.some hT).choose_spec (by omega) (by omega) (fun _ => by omega) (fun _ => by omega) (by omega)⟩, (fun hz => absurd hz (by omega))⟩⟩
        · have c766_ : v762.toInt ≠ (-1) := en_i_eq_f c766
          refine At.enter rfl ?_
          refine r_iload_n rfl ?_
          refine r_sipush 1000 rfl ?_
          refine r_ics 83 rfl (fun c789 => ?_) (fun c789 => ?_)
          · have c789_ : v762.toInt > 1000 := en_i_gt_t c789
            refine At.enter rfl ?_
            refine r_aload_n rfl ?_
            refine q_inlV 96 rfl [.ref 176] [] (Nat.le_of_ble_eq_true rfl) rfl ?_
            refine Ev.mk rfl rfl ⟨Nat.le_of_ble_eq_true rfl, Or.inr (q_rc hI760.1 kx_176 rfl)⟩ ?_
            show At _ none _ _ (0, [(0, .ref 176)], [], (_, _)) _
            refine At.enter rfl ?_
            refine r_aload_n rfl ?_
            obtain ⟨v790, hv790⟩ : ∃ v, gI g0 176 2 = v := ⟨_, rfl⟩
            refine q_getI (Sh.int hI760.1 kx_176 rfl) v790 (((hF761.1 176 2 (by decide)).trans (hF551.1 176 2 (by decide))).trans hv790) ?_
            refine r_iconst (-1) rfl ?_
            refine r_ics 8 rfl (fun c791 => ?_) (fun c791 => ?_)
            · have c791_ : v790.toInt ≠ (-1) := en_i_ne_t c791
              refine At.enter rfl ?_
              refine q_vret ?_
              refine At.enter rfl ?_
              refine r_vret ?_
              have x792 := rX.e hI760 (b := 2) ((((hF761.1 176 2 (by decide)).trans (hF551.1 176 2 (by decide))).trans hv790))
              have x793 := rX.e hI0 (b := 2) (hv790)
              obtain ⟨v794, hv794⟩ : ∃ v, gI g0 176 4 = v := ⟨_, rfl⟩
              have rv794 := RgF.at hI0.2.1 (p := 176) (b := 4) rfl
              rw [hv794] at rv794
              dsimp only at rv794
              have tv794 := congrArg Int32.toInt hv794
              have x795 := rX.e hI760 (b := 4) ((((hF761.1 176 4 (by decide)).trans (hF551.1 176 4 (by decide))).trans hv794))
              have x796 := rX.e hI0 (b := 4) (hv794)
              obtain ⟨v797, hv797⟩ : ∃ v, gI g0 176 6 = v := ⟨_, rfl⟩
              have tv797 := congrArg Int32.toInt hv797
              have x798 := rX.e hI760 (b := 6) ((((hF761.1 176 6 (by decide)).trans (hF551.1 176 6 (by decide))).trans hv797))
              have x799 := rX.e hI0 (b := 6) (hv797)
              have x800 := rX.e hI0 (b := 3) (hv559)
              have lf := ln765 (by omega)
              exact ⟨_, rfl, hI760, hF764, rfl, ⟨⟨(TKX.c hT (((hF761.2.1 175 (by decide)).trans (hF551.2.1 175 (by decide)))) (((hF761.1 174 1 (by decide)).trans (hF551.1 174 1 (by decide)))) (((hF761.1 176 3 (by decide)).trans (hF551.1 176 3 (by decide)))) (((hF761.1 176 4 (by decide)).trans (hF551.1 176 4 (by decide)))) (((hF761.1 176 5 (by decide)).trans (hF551.1 176 5 (by decide))))), (PRG0.fail 1 (rX.c (b := 4) (((hF761.1 176 4 (by decide)).trans (hF551.1 176 4 (by decide))))) (fun _ => by omega) (fun _ => by omega) (by omega)).le (by omega), PAO.leafF (TKX.some hT).choose_spec (by omega) (by omega) (fun _ => by omega) (fun _ => by omega) (by omega)⟩, (fun hz => absurd hz (by omega))⟩⟩
            · have c791_ : v790.toInt = (-1) := en_i_ne_f c791
              refine At.enter rfl ?_
              refine r_aload_n rfl ?_
              refine r_aload_n rfl ?_
              obtain ⟨v801, hv801⟩ : ∃ v, gI g0 176 4 = v := ⟨_, rfl⟩
              have rv801 := RgF.at hI0.2.1 (p := 176) (b := 4) rfl
              rw [hv801] at rv801
              dsimp only at rv801
              refine q_getI (Sh.int hI760.1 kx_176 rfl) v801 (((hF761.1 176 4 (by decide)).trans (hF551.1 176 4 (by decide))).trans hv801) ?_
              refine q_putI (Sh.int hI760.1 kx_176 rfl) rfl ?_
              have hI802 := HI.wI0 hI760 kx_176 rfl (p := 176) (b := 2) (v := v801) rfl
              have hF803 := Fr.wI (p := 176) (b := 2) (v := v801) hF764 rfl
              refine Ar.fall 16 rfl ?_
              refine At.enter rfl ?_
              refine q_vret ?_
              refine At.enter rfl ?_
              refine r_vret ?_
              have x804 := rX.e hI802 (b := 2) ((gI_sI_eq hI760.1 kx_176 rfl _))
              have x805 := rX.e hI0 (b := 2) (hv790)
              have x806 := rX.e hI802 (b := 4) ((((gI_sI_ne (by decide)).trans ((hF761.1 176 4 (by decide)).trans (hF551.1 176 4 (by decide)))).trans hv801))
              have x807 := rX.e hI0 (b := 4) (hv801)
              obtain ⟨v808, hv808⟩ : ∃ v, gI g0 176 6 = v := ⟨_, rfl⟩
              have tv808 := congrArg Int32.toInt hv808
              have x809 := rX.e hI802 (b := 6) ((((gI_sI_ne (by decide)).trans ((hF761.1 176 6 (by decide)).trans (hF551.1 176 6 (by decide)))).trans hv808))
              have x810 := rX.e hI0 (b := 6) (hv808)
              have x811 := rX.e hI0 (b := 3) (hv559)
              have lf := ln765 (by omega)
              exact ⟨_, rfl, hI802, hF803, rfl, ⟨⟨(TKX.c hT (((gA_sI).trans ((hF761.2.1 175 (by decide)).trans (hF551.2.1 175 (by decide))))) (((gI_sI_ne (by decide)).trans ((hF761.1 174 1 (by decide)).trans (hF551.1 174 1 (by decide))))) (((gI_sI_ne (by decide)).trans ((hF761.1 176 3 (by decide)).trans (hF551.1 176 3 (by decide))))) (((gI_sI_ne (by decide)).trans ((hF761.1 176 4 (by decide)).trans (hF551.1 176 4 (by decide))))) (((gI_sI_ne (by decide)).trans ((hF761.1 176 5 (by decide)).trans (hF551.1 176 5 (by decide)))))), (PRG0.fail 1 (rX.c (b := 4) (((gI_sI_ne (by decide)).trans ((hF761.1 176 4 (by decide)).trans (hF551.1 176 4 (by decide)))))) (fun _ => by omega) (fun _ => by omega) (by omega)).le (by omega), PAO.leafF (TKX.some hT).choose_spec (by omega) (by omega) (fun _ => by omega) (fun _ => by omega) (by omega)⟩, (fun hz => absurd hz (by omega))⟩⟩
          · have c789_ : v762.toInt ≤ 1000 := en_i_gt_f c789
            refine At.enter rfl ?_
            refine r_aload_n rfl ?_
            obtain ⟨v812, hv812⟩ : ∃ v, gI g0 176 6 = v := ⟨_, rfl⟩
            refine q_getI (Sh.int hI760.1 kx_176 rfl) v812 (((hF761.1 176 6 (by decide)).trans (hF551.1 176 6 (by decide))).trans hv812) ?_
            refine r_bipush 50 rfl ?_
            refine r_ics 92 rfl (fun c813 => ?_) (fun c813 => ?_)
            · have c813_ : v812.toInt < 50 := en_i_lt_t c813
              refine At.enter rfl ?_
              refine r_aload_n rfl ?_
              refine r_dup rfl ?_
              refine q_getI (Sh.int hI760.1 kx_176 rfl) v812 (((hF761.1 176 6 (by decide)).trans (hF551.1 176 6 (by decide))).trans hv812) ?_
              refine r_iconst 1 rfl ?_
              have bv814 := q_bnd v812
              refine q_iadd (v812.toInt + 1) rfl (by omega) (fun v815 hv815 => ?_)
              refine q_putI (Sh.int hI760.1 kx_176 rfl) rfl ?_
              have hI816 := HI.wI0 hI760 kx_176 rfl (p := 176) (b := 6) (v := v815) rfl
              have hF817 := Fr.wI (p := 176) (b := 6) (v := v815) hF764 rfl
              refine r_aload_n rfl ?_
              refine q_getR (Sh.ref hI816.1 kx_176 rfl) ?_
              refine r_iload_n rfl ?_
              refine r_iload_n rfl ?_
              refine r_callV 116 rfl [.ref 177, .int 0, .int v762] [] (Nat.le_of_ble_eq_true rfl) rfl (T_X4_add_177 _ hI816 0 v762) ?_
              rintro _ _ ⟨g818, rfl, hI819, hF820, v821, rfl, hr822⟩
              refine At.sti ?_
              have hF823 := Fr.tr hF817 hF820 rfl rfl
              have zv824 : (0 : Int32).toInt = 0 := rfl
              refine At.enter rfl ?_
              refine r_pop rfl ?_
              refine r_aload_n rfl ?_
              refine r_callV 121 rfl [.ref 176] [] (Nat.le_of_ble_eq_true rfl) rfl (T_X5_step_176 _ hI819 (TKX.c hT (((hF820.2.1 175 (by decide)).trans ((gA_sI).trans ((hF761.2.1 175 (by decide)).trans (hF551.2.1 175 (by decide)))))) (((hF820.1 174 1 (by decide)).trans ((gI_sI_ne (by decide)).trans ((hF761.1 174 1 (by decide)).trans (hF551.1 174 1 (by decide)))))) (((hF820.1 176 3 (by decide)).trans ((gI_sI_ne (by decide)).trans ((hF761.1 176 3 (by decide)).trans (hF551.1 176 3 (by decide)))))) (((hF820.1 176 4 (by decide)).trans ((gI_sI_ne (by decide)).trans ((hF761.1 176 4 (by decide)).trans (hF551.1 176 4 (by decide)))))) (((hF820.1 176 5 (by decide)).trans ((gI_sI_ne (by decide)).trans ((hF761.1 176 5 (by decide)).trans (hF551.1 176 5 (by decide))))))).1 (TKX.c hT (((hF820.2.1 175 (by decide)).trans ((gA_sI).trans ((hF761.2.1 175 (by decide)).trans (hF551.2.1 175 (by decide)))))) (((hF820.1 174 1 (by decide)).trans ((gI_sI_ne (by decide)).trans ((hF761.1 174 1 (by decide)).trans (hF551.1 174 1 (by decide)))))) (((hF820.1 176 3 (by decide)).trans ((gI_sI_ne (by decide)).trans ((hF761.1 176 3 (by decide)).trans (hF551.1 176 3 (by decide)))))) (((hF820.1 176 4 (by decide)).trans ((gI_sI_ne (by decide)).trans ((hF761.1 176 4 (by decide)).trans (hF551.1 176 4 (by decide)))))) (((hF820.1 176 5 (by decide)).trans ((gI_sI_ne (by decide)).trans ((hF761.1 176 5 (by decide)).trans (hF551.1 176 5 (by decide))))))).2.1.le.2.1) ?_
              rintro _ _ ⟨g825, rfl, hI826, hF827, rfl, hr829⟩
              refine At.stn ?_
              have hF830 := Fr.tr hF823 hF827 rfl rfl
              have tok831_ := hr829.2
              rw [TX.c (((hF820.2.1 175 (by decide)).trans ((gA_sI).trans ((hF761.2.1 175 (by decide)).trans (hF551.2.1 175 (by decide)))))), nX.c (((hF820.1 174 1 (by decide)).trans ((gI_sI_ne (by decide)).trans ((hF761.1 174 1 (by decide)).trans (hF551.1 174 1 (by decide)))))), rX.c (b := 5) (((hF820.1 176 5 (by decide)).trans ((gI_sI_ne (by decide)).trans ((hF761.1 176 5 (by decide)).trans (hF551.1 176 5 (by decide))))))] at tok831_
              have tok831 := TKX.tok hT tok831_
              have hT832 := hr829.1
              obtain ⟨v833, hv833⟩ : ∃ v, gI g0 176 4 = v := ⟨_, rfl⟩
              have rv833 := RgF.at hI0.2.1 (p := 176) (b := 4) rfl
              rw [hv833] at rv833
              dsimp only at rv833
              have tv833 := congrArg Int32.toInt hv833
              have x834 := rX.e hI819 (b := 4) ((((hF820.1 176 4 (by decide)).trans ((gI_sI_ne (by decide)).trans ((hF761.1 176 4 (by decide)).trans (hF551.1 176 4 (by decide))))).trans hv833))
              obtain ⟨v835, hv835⟩ : ∃ v, gI g825 176 4 = v := ⟨_, rfl⟩
              have rv835 := RgF.at hI826.2.1 (p := 176) (b := 4) rfl
              rw [hv835] at rv835
              dsimp only at rv835
              have tv835 := congrArg Int32.toInt hv835
              have x836 := rX.e hI826 (b := 4) (hv835)
              refine At.enter rfl ?_
              refine r_vret ?_
              obtain ⟨v837, hv837⟩ : ∃ v, gI g0 176 2 = v := ⟨_, rfl⟩
              have tv837 := congrArg Int32.toInt hv837
              have x838 := rX.e hI826 (b := 2) ((((hF827.1 176 2 (by decide)).trans ((hF820.1 176 2 (by decide)).trans ((gI_sI_ne (by decide)).trans ((hF761.1 176 2 (by decide)).trans (hF551.1 176 2 (by decide)))))).trans hv837))
              have x839 := rX.e hI0 (b := 2) (hv837)
              have x840 := rX.e hI826 (b := 4) (hv835)
              have x841 := rX.e hI0 (b := 4) (hv833)
              have x842 := rX.e hI826 (b := 6) (((hF827.1 176 6 (by decide)).trans ((hF820.1 176 6 (by decide)).trans (gI_sI_eq hI760.1 kx_176 rfl _))))
              have x843 := rX.e hI0 (b := 6) (hv812)
              have x844 := rX.e hI0 (b := 3) (hv559)
              have x845 := rX.e hI826 (b := 2) ((((hF827.1 176 2 (by decide)).trans ((hF820.1 176 2 (by decide)).trans ((gI_sI_ne (by decide)).trans ((hF761.1 176 2 (by decide)).trans (hF551.1 176 2 (by decide)))))).trans hv837))
              have x846 := rX.e hI826 (b := 4) (hv835)
              have x847 := rX.e hI826 (b := 6) (((hF827.1 176 6 (by decide)).trans ((hF820.1 176 6 (by decide)).trans (gI_sI_eq hI760.1 kx_176 rfl _))))
              have lf := ln765 (by omega)
              have e400 := fun hz => CDX.end_ hT hz
              exact ⟨_, rfl, hI826, hF830, rfl, ⟨⟨hT832, (PRG0.step hT tok831_ (rX.c (b := 2) (((hF827.1 176 2 (by decide)).trans ((hF820.1 176 2 (by decide)).trans ((gI_sI_ne (by decide)).trans ((hF761.1 176 2 (by decide)).trans (hF551.1 176 2 (by decide)))))))) (by omega)).le (by omega), PAO.leaf tok831 (by omega) (by omega) (by omega) (by omega)⟩, (by first | exact (fun hz => absurd hz (by omega)) | exact PAG.leaf tok831 (TOK_lt tok831 (by omega)) (by first | exact Or.inl ⟨by omega, by omega, by omega, by omega⟩ | exact Or.inr ⟨by omega, by omega, by omega⟩) (fun _ hl => ADP.l (ADP.fr hr822.2 (SCX.mk (((gA_sI).trans ((hF761.2.1 178 (by decide)).trans (hF551.2.1 178 (by decide))))) (((gA_sI).trans ((hF761.2.1 179 (by decide)).trans (hF551.2.1 179 (by decide))))) (((gI_sI_ne (by decide)).trans ((hF761.1 177 0 (by decide)).trans (hF551.1 177 0 (by decide)))))) (SCX.mk ((hF827.2.1 178 (by decide))) ((hF827.2.1 179 (by decide))) ((hF827.1 177 0 (by decide))))) hl) (by omega) (show rX _ 6 = rX g0 6 + 1 from by omega))⟩⟩
            · have c813_ : v812.toInt ≥ 50 := en_i_lt_f c813
              refine At.enter rfl ?_
              refine r_aload_n rfl ?_
              refine q_inlV 96 rfl [.ref 176] [] (Nat.le_of_ble_eq_true rfl) rfl ?_
              refine Ev.mk rfl rfl ⟨Nat.le_of_ble_eq_true rfl, Or.inr (q_rc hI760.1 kx_176 rfl)⟩ ?_
              show At _ none _ _ (0, [(0, .ref 176)], [], (_, _)) _
              refine At.enter rfl ?_
              refine r_aload_n rfl ?_
              obtain ⟨v848, hv848⟩ : ∃ v, gI g0 176 2 = v := ⟨_, rfl⟩
              refine q_getI (Sh.int hI760.1 kx_176 rfl) v848 (((hF761.1 176 2 (by decide)).trans (hF551.1 176 2 (by decide))).trans hv848) ?_
              refine r_iconst (-1) rfl ?_
              refine r_ics 8 rfl (fun c849 => ?_) (fun c849 => ?_)
              · have c849_ : v848.toInt ≠ (-1) := en_i_ne_t c849
                refine At.enter rfl ?_
                refine q_vret ?_
                refine At.enter rfl ?_
                refine r_vret ?_
                have x850 := rX.e hI760 (b := 2) ((((hF761.1 176 2 (by decide)).trans (hF551.1 176 2 (by decide))).trans hv848))
                have x851 := rX.e hI0 (b := 2) (hv848)
                obtain ⟨v852, hv852⟩ : ∃ v, gI g0 176 4 = v := ⟨_, rfl⟩
                have rv852 := RgF.at hI0.2.1 (p := 176) (b := 4) rfl
                rw [hv852] at rv852
                dsimp only at rv852
                have tv852 := congrArg Int32.toInt hv852
                have x853 := rX.e hI760 (b := 4) ((((hF761.1 176 4 (by decide)).trans (hF551.1 176 4 (by decide))).trans hv852))
                have x854 := rX.e hI0 (b := 4) (hv852)
                have x855 := rX.e hI760 (b := 6) ((((hF761.1 176 6 (by decide)).trans (hF551.1 176 6 (by decide))).trans hv812))
                have x856 := rX.e hI0 (b := 6) (hv812)
                have x857 := rX.e hI0 (b := 3) (hv559)
                have lf := ln765 (by omega)
                exact ⟨_, rfl, hI760, hF764, rfl, ⟨⟨(TKX.c hT (((hF761.2.1 175 (by decide)).trans (hF551.2.1 175 (by decide)))) (((hF761.1 174 1 (by decide)).trans (hF551.1 174 1 (by decide)))) (((hF761.1 176 3 (by decide)).trans (hF551.1 176 3 (by decide)))) (((hF761.1 176 4 (by decide)).trans (hF551.1 176 4 (by decide)))) (((hF761.1 176 5 (by decide)).trans (hF551.1 176 5 (by decide))))), (PRG0.fail 1 (rX.c (b := 4) (((hF761.1 176 4 (by decide)).trans (hF551.1 176 4 (by decide))))) (fun _ => by omega) (fun _ => by omega) (by omega)).le (by omega), PAO.leafF (TKX.some hT).choose_spec (by omega) (by omega) (fun _ => by omega) (fun _ => by omega) (by omega)⟩, (fun hz => absurd hz (by omega))⟩⟩
              · have c849_ : v848.toInt = (-1) := en_i_ne_f c849
                refine At.enter rfl ?_
                refine r_aload_n rfl ?_
                refine r_aload_n rfl ?_
                obtain ⟨v858, hv858⟩ : ∃ v, gI g0 176 4 = v := ⟨_, rfl⟩
                have rv858 := RgF.at hI0.2.1 (p := 176) (b := 4) rfl
                rw [hv858] at rv858
                dsimp only at rv858
                refine q_getI (Sh.int hI760.1 kx_176 rfl) v858 (((hF761.1 176 4 (by decide)).trans (hF551.1 176 4 (by decide))).trans hv858) ?_
                refine q_putI (Sh.int hI760.1 kx_176 rfl) rfl ?_
                have hI859 := HI.wI0 hI760 kx_176 rfl (p := 176) (b := 2) (v := v858) rfl
                have hF860 := Fr.wI (p := 176) (b := 2) (v := v858) hF764 rfl
                refine Ar.fall 16 rfl ?_
                refine At.enter rfl ?_
                refine q_vret ?_
                refine At.enter rfl ?_
                refine r_vret ?_
                have x861 := rX.e hI859 (b := 2) ((gI_sI_eq hI760.1 kx_176 rfl _))
                have x862 := rX.e hI0 (b := 2) (hv848)
                have x863 := rX.e hI859 (b := 4) ((((gI_sI_ne (by decide)).trans ((hF761.1 176 4 (by decide)).trans (hF551.1 176 4 (by decide)))).trans hv858))
                have x864 := rX.e hI0 (b := 4) (hv858)
                have x865 := rX.e hI859 (b := 6) ((((gI_sI_ne (by decide)).trans ((hF761.1 176 6 (by decide)).trans (hF551.1 176 6 (by decide)))).trans hv812))
                have x866 := rX.e hI0 (b := 6) (hv812)
                have x867 := rX.e hI0 (b := 3) (hv559)
                have lf := ln765 (by omega)
                exact ⟨_, rfl, hI859, hF860, rfl, ⟨⟨(TKX.c hT (((gA_sI).trans ((hF761.2.1 175 (by decide)).trans (hF551.2.1 175 (by decide))))) (((gI_sI_ne (by decide)).trans ((hF761.1 174 1 (by decide)).trans (hF551.1 174 1 (by decide))))) (((gI_sI_ne (by decide)).trans ((hF761.1 176 3 (by decide)).trans (hF551.1 176 3 (by decide))))) (((gI_sI_ne (by decide)).trans ((hF761.1 176 4 (by decide)).trans (hF551.1 176 4 (by decide))))) (((gI_sI_ne (by decide)).trans ((hF761.1 176 5 (by decide)).trans (hF551.1 176 5 (by decide)))))), (PRG0.fail 1 (rX.c (b := 4) (((gI_sI_ne (by decide)).trans ((hF761.1 176 4 (by decide)).trans (hF551.1 176 4 (by decide)))))) (fun _ => by omega) (fun _ => by omega) (by omega)).le (by omega), PAO.leafF (TKX.some hT).choose_spec (by omega) (by omega) (fun _ => by omega) (fun _ => by omega) (by omega)⟩, (fun hz => absurd hz (by omega))⟩⟩
  · have c557_ : v552.toInt ≠ 0 := en_k_eq_f c557
    have i868 := BL.yes hb556 (by omega)
    refine At.enter rfl ?_
    refine r_aload_n rfl ?_
    refine r_iload_n rfl ?_
    refine q_inlV 14 rfl [.ref 176, .int a1] [] (Nat.le_of_ble_eq_true rfl) rfl ?_
    refine Ev.mk rfl rfl ⟨Nat.le_of_ble_eq_true rfl, Or.inr (q_rc hI550.1 kx_176 rfl)⟩ ?_
    show At _ none _ _ (0, [(0, .ref 176), (1, .int a1)], [], (_, _)) _
    refine At.enter rfl ?_
    refine r_iload_n rfl ?_
    refine r_bipush 8 rfl ?_
    refine r_ics 6 rfl (fun c869 => ?_) (fun c869 => ?_)
    · have c869_ : a1.toInt < 8 := en_i_lt_t c869
      refine At.enter rfl ?_
      refine r_aload_n rfl ?_
      refine r_callV 17 rfl [.ref 176] [] (Nat.le_of_ble_eq_true rfl) rfl (T_X5_step_176 _ hI550 (TKX.c hT ((hF551.2.1 175 (by decide))) ((hF551.1 174 1 (by decide))) ((hF551.1 176 3 (by decide))) ((hF551.1 176 4 (by decide))) ((hF551.1 176 5 (by decide)))).1 (TKX.c hT ((hF551.2.1 175 (by decide))) ((hF551.1 174 1 (by decide))) ((hF551.1 176 3 (by decide))) ((hF551.1 176 4 (by decide))) ((hF551.1 176 5 (by decide)))).2.1.le.2.1) ?_
      rintro _ _ ⟨g870, rfl, hI871, hF872, rfl, hr874⟩
      refine At.stn ?_
      have hF875 := Fr.tr hF554 hF872 rfl rfl
      have tok876_ := hr874.2
      rw [TX.c ((hF551.2.1 175 (by decide))), nX.c ((hF551.1 174 1 (by decide))), rX.c (b := 5) ((hF551.1 176 5 (by decide)))] at tok876_
      have tok876 := TKX.tok hT tok876_
      have hT877 := hr874.1
      obtain ⟨v878, hv878⟩ : ∃ v, gI g0 176 4 = v := ⟨_, rfl⟩
      have rv878 := RgF.at hI0.2.1 (p := 176) (b := 4) rfl
      rw [hv878] at rv878
      dsimp only at rv878
      have tv878 := congrArg Int32.toInt hv878
      have x879 := rX.e hI550 (b := 4) (((hF551.1 176 4 (by decide)).trans hv878))
      obtain ⟨v880, hv880⟩ : ∃ v, gI g870 176 4 = v := ⟨_, rfl⟩
      have rv880 := RgF.at hI871.2.1 (p := 176) (b := 4) rfl
      rw [hv880] at rv880
      dsimp only at rv880
      have tv880 := congrArg Int32.toInt hv880
      have x881 := rX.e hI871 (b := 4) (hv880)
      refine At.enter rfl ?_
      refine q_vret ?_
      refine At.enter rfl ?_
      refine r_aload_n rfl ?_
      obtain ⟨v882, hv882⟩ : ∃ v, gI g0 176 2 = v := ⟨_, rfl⟩
      refine q_getI (Sh.int hI871.1 kx_176 rfl) v882 (((hF872.1 176 2 (by decide)).trans (hF551.1 176 2 (by decide))).trans hv882) ?_
      refine r_iconst (-1) rfl ?_
      refine r_ics 22 rfl (fun c883 => ?_) (fun c883 => ?_)
      · have c883_ : v882.toInt ≠ (-1) := en_i_ne_t c883
        refine At.enter rfl ?_
        refine r_vret ?_
        have x884 := rX.e hI871 (b := 2) ((((hF872.1 176 2 (by decide)).trans (hF551.1 176 2 (by decide))).trans hv882))
        have x885 := rX.e hI0 (b := 2) (hv882)
        have x886 := rX.e hI871 (b := 4) (hv880)
        have x887 := rX.e hI0 (b := 4) (hv878)
        obtain ⟨v888, hv888⟩ : ∃ v, gI g0 176 6 = v := ⟨_, rfl⟩
        have tv888 := congrArg Int32.toInt hv888
        have x889 := rX.e hI871 (b := 6) ((((hF872.1 176 6 (by decide)).trans (hF551.1 176 6 (by decide))).trans hv888))
        have x890 := rX.e hI0 (b := 6) (hv888)
        obtain ⟨v891, hv891⟩ : ∃ v, gI g0 176 3 = v := ⟨_, rfl⟩
        have tv891 := congrArg Int32.toInt hv891
        have x892 := rX.e hI0 (b := 3) (hv891)
        have x893 := rX.e hI871 (b := 2) ((((hF872.1 176 2 (by decide)).trans (hF551.1 176 2 (by decide))).trans hv882))
        have x894 := rX.e hI871 (b := 4) (hv880)
        have x895 := rX.e hI871 (b := 6) ((((hF872.1 176 6 (by decide)).trans (hF551.1 176 6 (by decide))).trans hv888))
        exact ⟨_, rfl, hI871, hF875, rfl, ⟨⟨hT877, (PRG0.step hT tok876_ (rX.c (b := 2) (((hF872.1 176 2 (by decide)).trans (hF551.1 176 2 (by decide))))) (by omega)).le (by omega), PAO.bad tok876 (rX.c (b := 2) (((hF872.1 176 2 (by decide)).trans (hF551.1 176 2 (by decide))))) (by omega) rfl⟩, (fun hz => absurd hz (by omega))⟩⟩
      · have c883_ : v882.toInt = (-1) := en_i_ne_f c883
        refine At.enter rfl ?_
        refine r_aload_n rfl ?_
        refine r_iconst 2 rfl ?_
        refine r_iload_n rfl ?_
        refine r_iconst 1 rfl ?_
        refine q_iadd (a1.toInt + 1) rfl (by omega) (fun v896 hv896 => ?_)
        have zv897 : (2 : Int32).toInt = 2 := rfl
        refine r_callV 30 rfl [.ref 176, .int 2, .int v896] [] (Nat.le_of_ble_eq_true rfl) rfl (IHJ _ (by omega) hI871 2 (by decide) v896 (by omega) (by omega) hT877) ?_
        rintro _ _ ⟨g898, rfl, hI899, hF900, rfl, hr902⟩
        refine At.stn ?_
        have hF903 := Fr.tr hF875 hF900 rfl rfl
        have zv904 : (2 : Int32).toInt = 2 := rfl
        have x909 := rX.e hI871 (b := 2) ((((hF872.1 176 2 (by decide)).trans (hF551.1 176 2 (by decide))).trans hv882))
        have x910 := rX.e hI871 (b := 4) (hv880)
        obtain ⟨o905, o906, o907, o908⟩ := hr902.1
        have gx911 := hr902.2
        rw [TX.ci hI871 (((hF872.2.1 175 (by decide)).trans (hF551.2.1 175 (by decide)))), nX.ci hI871 (((hF872.1 174 1 (by decide)).trans (hF551.1 174 1 (by decide))))] at gx911
        have o912 := OPD.tc o907 (((hF872.2.1 175 (by decide)).trans (hF551.2.1 175 (by decide)))) (((hF872.1 174 1 (by decide)).trans (hF551.1 174 1 (by decide))))
        obtain ⟨v913, hv913⟩ : ∃ v, gI g898 176 2 = v := ⟨_, rfl⟩
        have tv913 := congrArg Int32.toInt hv913
        have x914 := rX.e hI899 (b := 2) (hv913)
        obtain ⟨v915, hv915⟩ : ∃ v, gI g898 176 4 = v := ⟨_, rfl⟩
        have rv915 := RgF.at hI899.2.1 (p := 176) (b := 4) rfl
        rw [hv915] at rv915
        dsimp only at rv915
        have tv915 := congrArg Int32.toInt hv915
        have x916 := rX.e hI899 (b := 4) (hv915)
        refine At.enter rfl ?_
        refine r_aload_n rfl ?_
        refine r_bipush 93 rfl ?_
        refine q_inlV 36 rfl [.ref 176, .int 93] [] (Nat.le_of_ble_eq_true rfl) rfl ?_
        refine Ev.mk rfl rfl ⟨Nat.le_of_ble_eq_true rfl, Or.inr (q_rc hI899.1 kx_176 rfl)⟩ ?_
        show At _ none _ _ (0, [(0, .ref 176), (1, .int 93)], [], (_, _)) _
        refine At.enter rfl ?_
        refine r_aload_n rfl ?_
        refine r_iload_n rfl ?_
        refine r_callV 5 rfl [.ref 176, .int 93] [] (Nat.le_of_ble_eq_true rfl) rfl (T_X5_isSingle_176 _ hI899 93 (by decide)) ?_
        rintro _ _ ⟨g917, rfl, hI918, hF919, v920, rfl, hr921⟩
        refine At.sti ?_
        have hF922 := Fr.tr hF903 hF919 rfl rfl
        have zv923 : (93 : Int32).toInt = 93 := rfl
        have hb924 : BL (CDX g898 = 6) v920.toInt := ISX.code (c := 6) hr921.2 o905 (isSC_d (by omega)) (by decide)
        refine At.enter rfl ?_
        refine r_ifs 8 rfl (fun c925 => ?_) (fun c925 => ?_)
        · have c925_ : v920.toInt = 0 := en_k_eq_t c925
          have i926 := BL.no hb924 (by omega)
          refine At.enter rfl ?_
          refine r_aload_n rfl ?_
          refine q_inlV 19 rfl [.ref 176] [] (Nat.le_of_ble_eq_true rfl) rfl ?_
          refine Ev.mk rfl rfl ⟨Nat.le_of_ble_eq_true rfl, Or.inr (q_rc hI918.1 kx_176 rfl)⟩ ?_
          show At _ none _ _ (0, [(0, .ref 176)], [], (_, _)) _
          refine At.enter rfl ?_
          refine r_aload_n rfl ?_
          refine q_getI (Sh.int hI918.1 kx_176 rfl) v913 ((hF919.1 176 2 (by decide)).trans hv913) ?_
          refine r_iconst (-1) rfl ?_
          refine r_ics 8 rfl (fun c927 => ?_) (fun c927 => ?_)
          · have c927_ : v913.toInt ≠ (-1) := en_i_ne_t c927
            refine At.enter rfl ?_
            refine q_vret ?_
            refine At.enter rfl ?_
            refine q_vret ?_
            refine At.enter rfl ?_
            refine r_vret ?_
            have x928 := rX.e hI918 (b := 2) (((hF919.1 176 2 (by decide)).trans hv913))
            have x929 := rX.e hI0 (b := 2) (hv882)
            have x930 := rX.e hI918 (b := 4) (((hF919.1 176 4 (by decide)).trans hv915))
            have x931 := rX.e hI0 (b := 4) (hv878)
            obtain ⟨v932, hv932⟩ : ∃ v, gI g898 176 6 = v := ⟨_, rfl⟩
            have tv932 := congrArg Int32.toInt hv932
            have x933 := rX.e hI918 (b := 6) (((hF919.1 176 6 (by decide)).trans hv932))
            obtain ⟨v934, hv934⟩ : ∃ v, gI g0 176 6 = v := ⟨_, rfl⟩
            have tv934 := congrArg Int32.toInt hv934
            have x935 := rX.e hI0 (b := 6) (hv934)
            obtain ⟨v936, hv936⟩ : ∃ v, gI g0 176 3 = v := ⟨_, rfl⟩
            have tv936 := congrArg Int32.toInt hv936
            have x937 := rX.e hI0 (b := 3) (hv936)
            have x938 := rX.e hI871 (b := 2) ((((hF872.1 176 2 (by decide)).trans (hF551.1 176 2 (by decide))).trans hv882))
            have x939 := rX.e hI871 (b := 4) (hv880)
            have x940 := rX.e hI871 (b := 6) ((((hF872.1 176 6 (by decide)).trans (hF551.1 176 6 (by decide))).trans hv934))
            have x941 := rX.e hI899 (b := 2) (hv913)
            have x942 := rX.e hI899 (b := 4) (hv915)
            have x943 := rX.e hI899 (b := 6) (hv932)
            have pr944 : _ ∧ _ ∧ _ := o906
            exact ⟨_, rfl, hI918, hF922, rfl, ⟨⟨(TKX.c o905 ((hF919.2.1 175 (by decide))) ((hF919.1 174 1 (by decide))) ((hF919.1 176 3 (by decide))) ((hF919.1 176 4 (by decide))) ((hF919.1 176 5 (by decide)))), ((PRG0.tr ((PRG0.tr (PRG0.step hT tok876_ (rX.c (b := 2) (((hF872.1 176 2 (by decide)).trans (hF551.1 176 2 (by decide))))) (by omega)) (o906))) (PRG0.fail 1 (rX.c (b := 4) ((hF919.1 176 4 (by decide)))) (fun _ => by omega) (fun _ => by omega) (by omega)))).le (by omega), PAO.sqF tok876 (by omega) (by omega) (rX.c (b := 2) (((hF872.1 176 2 (by decide)).trans (hF551.1 176 2 (by decide))))) (rX.c (b := 6) (((hF872.1 176 6 (by decide)).trans (hF551.1 176 6 (by decide))))) (OPD.cast o912 rfl (by omega)) (TKX.someC o905 (((hF900.2.1 175 (by decide)).trans ((hF872.2.1 175 (by decide)).trans (hF551.2.1 175 (by decide))))) (((hF900.1 174 1 (by decide)).trans ((hF872.1 174 1 (by decide)).trans (hF551.1 174 1 (by decide)))))).choose_spec o908 (by omega) (fun _ => by omega) (fun _ => by omega) (by omega)⟩, (fun hz => absurd hz (by omega))⟩⟩
          · have c927_ : v913.toInt = (-1) := en_i_ne_f c927
            refine At.enter rfl ?_
            refine r_aload_n rfl ?_
            refine r_aload_n rfl ?_
            refine q_getI (Sh.int hI918.1 kx_176 rfl) v915 ((hF919.1 176 4 (by decide)).trans hv915) ?_
            refine q_putI (Sh.int hI918.1 kx_176 rfl) rfl ?_
            have hI945 := HI.wI0 hI918 kx_176 rfl (p := 176) (b := 2) (v := v915) rfl
            have hF946 := Fr.wI (p := 176) (b := 2) (v := v915) hF922 rfl
            refine Ar.fall 16 rfl ?_
            refine At.enter rfl ?_
            refine q_vret ?_
            refine At.enter rfl ?_
            refine q_vret ?_
            refine At.enter rfl ?_
            refine r_vret ?_
            have x947 := rX.e hI945 (b := 2) ((gI_sI_eq hI918.1 kx_176 rfl _))
            have x948 := rX.e hI0 (b := 2) (hv882)
            have x949 := rX.e hI945 (b := 4) ((((gI_sI_ne (by decide)).trans (hF919.1 176 4 (by decide))).trans hv915))
            have x950 := rX.e hI0 (b := 4) (hv878)
            obtain ⟨v951, hv951⟩ : ∃ v, gI g898 176 6 = v := ⟨_, rfl⟩
            have tv951 := congrArg Int32.toInt hv951
            have x952 := rX.e hI945 (b := 6) ((((gI_sI_ne (by decide)).trans (hF919.1 176 6 (by decide))).trans hv951))
            obtain ⟨v953, hv953⟩ : ∃ v, gI g0 176 6 = v := ⟨_, rfl⟩
            have tv953 := congrArg Int32.toInt hv953
            have x954 := rX.e hI0 (b := 6) (hv953)
            obtain ⟨v955, hv955⟩ : ∃ v, gI g0 176 3 = v := ⟨_, rfl⟩
            have tv955 := congrArg Int32.toInt hv955
            have x956 := rX.e hI0 (b := 3) (hv955)
            have x957 := rX.e hI871 (b := 2) ((((hF872.1 176 2 (by decide)).trans (hF551.1 176 2 (by decide))).trans hv882))
            have x958 := rX.e hI871 (b := 4) (hv880)
            have x959 := rX.e hI871 (b := 6) ((((hF872.1 176 6 (by decide)).trans (hF551.1 176 6 (by decide))).trans hv953))
            have x960 := rX.e hI899 (b := 2) (hv913)
            have x961 := rX.e hI899 (b := 4) (hv915)
            have x962 := rX.e hI899 (b := 6) (hv951)
            have pr963 : _ ∧ _ ∧ _ := o906
            exact ⟨_, rfl, hI945, hF946, rfl, ⟨⟨(TKX.c o905 (((gA_sI).trans (hF919.2.1 175 (by decide)))) (((gI_sI_ne (by decide)).trans (hF919.1 174 1 (by decide)))) (((gI_sI_ne (by decide)).trans (hF919.1 176 3 (by decide)))) (((gI_sI_ne (by decide)).trans (hF919.1 176 4 (by decide)))) (((gI_sI_ne (by decide)).trans (hF919.1 176 5 (by decide))))), ((PRG0.tr ((PRG0.tr (PRG0.step hT tok876_ (rX.c (b := 2) (((hF872.1 176 2 (by decide)).trans (hF551.1 176 2 (by decide))))) (by omega)) (o906))) (PRG0.fail 1 (rX.c (b := 4) (((gI_sI_ne (by decide)).trans (hF919.1 176 4 (by decide))))) (fun _ => by omega) (fun _ => by omega) (by omega)))).le (by omega), PAO.sqF tok876 (by omega) (by omega) (rX.c (b := 2) (((hF872.1 176 2 (by decide)).trans (hF551.1 176 2 (by decide))))) (rX.c (b := 6) (((hF872.1 176 6 (by decide)).trans (hF551.1 176 6 (by decide))))) (OPD.cast o912 rfl (by omega)) (TKX.someC o905 (((hF900.2.1 175 (by decide)).trans ((hF872.2.1 175 (by decide)).trans (hF551.2.1 175 (by decide))))) (((hF900.1 174 1 (by decide)).trans ((hF872.1 174 1 (by decide)).trans (hF551.1 174 1 (by decide)))))).choose_spec o908 (by omega) (fun _ => by omega) (fun _ => by omega) (by omega)⟩, (fun hz => absurd hz (by omega))⟩⟩
        · have c925_ : v920.toInt ≠ 0 := en_k_eq_f c925
          have i964 := BL.yes hb924 (by omega)
          refine At.enter rfl ?_
          refine r_aload_n rfl ?_
          refine r_callV 12 rfl [.ref 176] [] (Nat.le_of_ble_eq_true rfl) rfl (T_X5_step_176 _ hI918 (TKX.c o905 ((hF919.2.1 175 (by decide))) ((hF919.1 174 1 (by decide))) ((hF919.1 176 3 (by decide))) ((hF919.1 176 4 (by decide))) ((hF919.1 176 5 (by decide)))).1 (TKX.c o905 ((hF919.2.1 175 (by decide))) ((hF919.1 174 1 (by decide))) ((hF919.1 176 3 (by decide))) ((hF919.1 176 4 (by decide))) ((hF919.1 176 5 (by decide)))).2.1.le.2.1) ?_
          rintro _ _ ⟨g965, rfl, hI966, hF967, rfl, hr969⟩
          refine At.stn ?_
          have hF970 := Fr.tr hF922 hF967 rfl rfl
          have tok971_ := hr969.2
          rw [TX.c ((hF919.2.1 175 (by decide))), nX.c ((hF919.1 174 1 (by decide))), rX.c (b := 5) ((hF919.1 176 5 (by decide)))] at tok971_
          have tok971 := TKX.tok o905 tok971_
          rw [TX.c (((hF900.2.1 175 (by decide)).trans ((hF872.2.1 175 (by decide)).trans (hF551.2.1 175 (by decide))))), nX.c (((hF900.1 174 1 (by decide)).trans ((hF872.1 174 1 (by decide)).trans (hF551.1 174 1 (by decide)))))] at tok971
          have hT972 := hr969.1
          have x973 := rX.e hI918 (b := 4) (((hF919.1 176 4 (by decide)).trans hv915))
          obtain ⟨v974, hv974⟩ : ∃ v, gI g965 176 4 = v := ⟨_, rfl⟩
          have rv974 := RgF.at hI966.2.1 (p := 176) (b := 4) rfl
          rw [hv974] at rv974
          dsimp only at rv974
          have tv974 := congrArg Int32.toInt hv974
          have x975 := rX.e hI966 (b := 4) (hv974)
          refine At.enter rfl ?_
          refine r_goto ?_
          refine At.enter rfl ?_
          refine q_vret ?_
          refine At.enter rfl ?_
          refine r_vret ?_
          have x976 := rX.e hI966 (b := 2) ((((hF967.1 176 2 (by decide)).trans (hF919.1 176 2 (by decide))).trans hv913))
          have x977 := rX.e hI0 (b := 2) (hv882)
          have x978 := rX.e hI966 (b := 4) (hv974)
          have x979 := rX.e hI0 (b := 4) (hv878)
          obtain ⟨v980, hv980⟩ : ∃ v, gI g898 176 6 = v := ⟨_, rfl⟩
          have tv980 := congrArg Int32.toInt hv980
          have x981 := rX.e hI966 (b := 6) ((((hF967.1 176 6 (by decide)).trans (hF919.1 176 6 (by decide))).trans hv980))
          obtain ⟨v982, hv982⟩ : ∃ v, gI g0 176 6 = v := ⟨_, rfl⟩
          have tv982 := congrArg Int32.toInt hv982
          have x983 := rX.e hI0 (b := 6) (hv982)
          obtain ⟨v984, hv984⟩ : ∃ v, gI g0 176 3 = v := ⟨_, rfl⟩
          have tv984 := congrArg Int32.toInt hv984
          have x985 := rX.e hI0 (b := 3) (hv984)
          have x986 := rX.e hI871 (b := 2) ((((hF872.1 176 2 (by decide)).trans (hF551.1 176 2 (by decide))).trans hv882))
          have x987 := rX.e hI871 (b := 4) (hv880)
          have x988 := rX.e hI871 (b := 6) ((((hF872.1 176 6 (by decide)).trans (hF551.1 176 6 (by decide))).trans hv982))
          have x989 := rX.e hI899 (b := 2) (hv913)
          have x990 := rX.e hI899 (b := 4) (hv915)
          have x991 := rX.e hI899 (b := 6) (hv980)
          have x992 := rX.e hI966 (b := 2) ((((hF967.1 176 2 (by decide)).trans (hF919.1 176 2 (by decide))).trans hv913))
          have x993 := rX.e hI966 (b := 4) (hv974)
          have x994 := rX.e hI966 (b := 6) ((((hF967.1 176 6 (by decide)).trans (hF919.1 176 6 (by decide))).trans hv980))
          have pr995 : _ ∧ _ ∧ _ := o906
          have x996 := rX.e hI871 (b := 2) ((((hF872.1 176 2 (by decide)).trans (hF551.1 176 2 (by decide))).trans hv882))
          have x997 := rX.e hI871 (b := 4) (hv880)
          have x998 := rX.e hI899 (b := 2) (hv913)
          have x999 := rX.e hI899 (b := 4) (hv915)
          have x1000 := rX.e hI966 (b := 2) ((((hF967.1 176 2 (by decide)).trans (hF919.1 176 2 (by decide))).trans hv913))
          have x1001 := rX.e hI966 (b := 4) (hv974)
          exact ⟨_, rfl, hI966, hF970, rfl, ⟨⟨hT972, ((PRG0.tr ((PRG0.tr (PRG0.step hT tok876_ (rX.c (b := 2) (((hF872.1 176 2 (by decide)).trans (hF551.1 176 2 (by decide))))) (by omega)) (o906))) (PRG0.step o905 tok971_ (rX.c (b := 2) (((hF967.1 176 2 (by decide)).trans (hF919.1 176 2 (by decide))))) (by omega)))).le (by omega), PAO.sq tok876 (by omega) (by omega) (rX.c (b := 2) (((hF872.1 176 2 (by decide)).trans (hF551.1 176 2 (by decide))))) (rX.c (b := 6) (((hF872.1 176 6 (by decide)).trans (hF551.1 176 6 (by decide))))) (OPD.cast o912 rfl (by omega)) tok971 (by omega) (rX.c (b := 2) (((hF967.1 176 2 (by decide)).trans (hF919.1 176 2 (by decide))))) (rX.c (b := 6) (((hF967.1 176 6 (by decide)).trans (hF919.1 176 6 (by decide)))))⟩, (by first | exact (fun hz => absurd hz (by omega)) | exact (PAG.sq tok876 (by omega) (TOK_lt tok876 (by omega)) (SCX.x (SCX.mk (((hF872.2.1 178 (by decide)).trans (hF551.2.1 178 (by decide)))) (((hF872.2.1 179 (by decide)).trans (hF551.2.1 179 (by decide)))) (((hF872.1 177 0 (by decide)).trans (hF551.1 177 0 (by decide))))) (rX.c (b := 6) (((hF872.1 176 6 (by decide)).trans (hF551.1 176 6 (by decide)))))) (GPX.k gx911 (by decide) (by decide) (by decide) (by decide)) tok971 (by omega) (TOK_lt tok971 (by omega)) (SCX.x (SCX.mk (((hF967.2.1 178 (by decide)).trans (hF919.2.1 178 (by decide)))) (((hF967.2.1 179 (by decide)).trans (hF919.2.1 179 (by decide)))) (((hF967.1 177 0 (by decide)).trans (hF919.1 177 0 (by decide))))) (rX.c (b := 6) (((hF967.1 176 6 (by decide)).trans (hF919.1 176 6 (by decide)))))) (fun z => by omega)))⟩⟩
    · have c869_ : a1.toInt ≥ 8 := en_i_lt_f c869
      refine At.enter rfl ?_
      refine r_aload_n rfl ?_
      refine q_inlV 10 rfl [.ref 176] [] (Nat.le_of_ble_eq_true rfl) rfl ?_
      refine Ev.mk rfl rfl ⟨Nat.le_of_ble_eq_true rfl, Or.inr (q_rc hI550.1 kx_176 rfl)⟩ ?_
      show At _ none _ _ (0, [(0, .ref 176)], [], (_, _)) _
      refine At.enter rfl ?_
      refine r_aload_n rfl ?_
      obtain ⟨v1002, hv1002⟩ : ∃ v, gI g0 176 2 = v := ⟨_, rfl⟩
      refine q_getI (Sh.int hI550.1 kx_176 rfl) v1002 ((hF551.1 176 2 (by decide)).trans hv1002) ?_
      refine r_iconst (-1) rfl ?_
      refine r_ics 8 rfl (fun c1003 => ?_) (fun c1003 => ?_)
      · have c1003_ : v1002.toInt ≠ (-1) := en_i_ne_t c1003
        refine At.enter rfl ?_
        refine q_vret ?_
        refine At.enter rfl ?_
        refine r_goto ?_
        refine At.enter rfl ?_
        refine q_vret ?_
        refine At.enter rfl ?_
        refine r_aload_n rfl ?_
        refine q_getI (Sh.int hI550.1 kx_176 rfl) v1002 ((hF551.1 176 2 (by decide)).trans hv1002) ?_
        refine r_iconst (-1) rfl ?_
        refine r_ics 22 rfl (fun c1004 => ?_) (fun c1004 => ?_)
        · have c1004_ : v1002.toInt ≠ (-1) := en_i_ne_t c1004
          refine At.enter rfl ?_
          refine r_vret ?_
          have x1005 := rX.e hI550 (b := 2) (((hF551.1 176 2 (by decide)).trans hv1002))
          have x1006 := rX.e hI0 (b := 2) (hv1002)
          obtain ⟨v1007, hv1007⟩ : ∃ v, gI g0 176 4 = v := ⟨_, rfl⟩
          have rv1007 := RgF.at hI0.2.1 (p := 176) (b := 4) rfl
          rw [hv1007] at rv1007
          dsimp only at rv1007
          have tv1007 := congrArg Int32.toInt hv1007
          have x1008 := rX.e hI550 (b := 4) (((hF551.1 176 4 (by decide)).trans hv1007))
          have x1009 := rX.e hI0 (b := 4) (hv1007)
          obtain ⟨v1010, hv1010⟩ : ∃ v, gI g0 176 6 = v := ⟨_, rfl⟩
          have tv1010 := congrArg Int32.toInt hv1010
          have x1011 := rX.e hI550 (b := 6) (((hF551.1 176 6 (by decide)).trans hv1010))
          have x1012 := rX.e hI0 (b := 6) (hv1010)
          obtain ⟨v1013, hv1013⟩ : ∃ v, gI g0 176 3 = v := ⟨_, rfl⟩
          have tv1013 := congrArg Int32.toInt hv1013
          have x1014 := rX.e hI0 (b := 3) (hv1013)
          exact ⟨_, rfl, hI550, hF554, rfl, ⟨⟨(TKX.c hT ((hF551.2.1 175 (by decide))) ((hF551.1 174 1 (by decide))) ((hF551.1 176 3 (by decide))) ((hF551.1 176 4 (by decide))) ((hF551.1 176 5 (by decide)))), (PRG0.fail 1 (rX.c (b := 4) ((hF551.1 176 4 (by decide)))) (fun _ => by omega) (fun _ => by omega) (by omega)).le (by omega), PAO.deep (TKX.some hT).choose_spec (by omega) (by omega) (fun _ => by omega) (fun _ => by omega) (by omega)⟩, (fun hz => absurd hz (by omega))⟩⟩
        · have c1004_ : v1002.toInt = (-1) := en_i_ne_f c1004
          refine At.enter rfl ?_
          refine r_aload_n rfl ?_
          refine r_iconst 2 rfl ?_
          refine r_iload_n rfl ?_
          refine r_iconst 1 rfl ?_
          refine q_iadd (a1.toInt + 1) rfl (by omega) (fun v1015 hv1015 => ?_)
          have zv1016 : (2 : Int32).toInt = 2 := rfl
          refine r_callV 30 rfl [.ref 176, .int 2, .int v1015] [] (Nat.le_of_ble_eq_true rfl) rfl (IHJ _ (by omega) hI550 2 (by decide) v1015 (by omega) (by omega) (TKX.c hT ((hF551.2.1 175 (by decide))) ((hF551.1 174 1 (by decide))) ((hF551.1 176 3 (by decide))) ((hF551.1 176 4 (by decide))) ((hF551.1 176 5 (by decide))))) ?_
          rintro _ _ ⟨g1017, rfl, hI1018, hF1019, rfl, hr1021⟩
          refine At.stn ?_
          have hF1022 := Fr.tr hF554 hF1019 rfl rfl
          have zv1023 : (2 : Int32).toInt = 2 := rfl
          have x1028 := rX.e hI550 (b := 2) (((hF551.1 176 2 (by decide)).trans hv1002))
          obtain ⟨v1029, hv1029⟩ : ∃ v, gI g0 176 4 = v := ⟨_, rfl⟩
          have rv1029 := RgF.at hI0.2.1 (p := 176) (b := 4) rfl
          rw [hv1029] at rv1029
          dsimp only at rv1029
          have tv1029 := congrArg Int32.toInt hv1029
          have x1030 := rX.e hI550 (b := 4) (((hF551.1 176 4 (by decide)).trans hv1029))
          obtain ⟨o1024, o1025, o1026, o1027⟩ := hr1021.1
          have gx1031 := GPX.fr hr1021.2 ((hF551.2.1 178 (by decide))) ((hF551.2.1 179 (by decide))) ((hF551.1 177 0 (by decide))) (rX.c (b := 4) ((hF551.1 176 4 (by decide)))) (rX.c (b := 6) ((hF551.1 176 6 (by decide))))
          rw [TX.ci hI550 ((hF551.2.1 175 (by decide))), nX.ci hI550 ((hF551.1 174 1 (by decide)))] at gx1031
          have o1032 := OPD.tc o1026 ((hF551.2.1 175 (by decide))) ((hF551.1 174 1 (by decide)))
          have o1033 := PRG0.fr o1025 (rX.c (b := 2) ((hF551.1 176 2 (by decide)))) (rX.c (b := 4) ((hF551.1 176 4 (by decide))))
          have o1034 := OPD.fr o1032 (rX.c (b := 2) ((hF551.1 176 2 (by decide)))) (rX.c (b := 4) ((hF551.1 176 4 (by decide)))) (rX.c (b := 6) ((hF551.1 176 6 (by decide))))
          obtain ⟨v1035, hv1035⟩ : ∃ v, gI g1017 176 2 = v := ⟨_, rfl⟩
          have tv1035 := congrArg Int32.toInt hv1035
          have x1036 := rX.e hI1018 (b := 2) (hv1035)
          obtain ⟨v1037, hv1037⟩ : ∃ v, gI g1017 176 4 = v := ⟨_, rfl⟩
          have rv1037 := RgF.at hI1018.2.1 (p := 176) (b := 4) rfl
          rw [hv1037] at rv1037
          dsimp only at rv1037
          have tv1037 := congrArg Int32.toInt hv1037
          have x1038 := rX.e hI1018 (b := 4) (hv1037)
          refine At.enter rfl ?_
          refine r_aload_n rfl ?_
          refine r_bipush 93 rfl ?_
          refine q_inlV 36 rfl [.ref 176, .int 93] [] (Nat.le_of_ble_eq_true rfl) rfl ?_
          refine Ev.mk rfl rfl ⟨Nat.le_of_ble_eq_true rfl, Or.inr (q_rc hI1018.1 kx_176 rfl)⟩ ?_
          show At _ none _ _ (0, [(0, .ref 176), (1, .int 93)], [], (_, _)) _
          refine At.enter rfl ?_
          refine r_aload_n rfl ?_
          refine r_iload_n rfl ?_
          refine r_callV 5 rfl [.ref 176, .int 93] [] (Nat.le_of_ble_eq_true rfl) rfl (T_X5_isSingle_176 _ hI1018 93 (by decide)) ?_
          rintro _ _ ⟨g1039, rfl, hI1040, hF1041, v1042, rfl, hr1043⟩
          refine At.sti ?_
          have hF1044 := Fr.tr hF1022 hF1041 rfl rfl
          have zv1045 : (93 : Int32).toInt = 93 := rfl
          have hb1046 : BL (CDX g1017 = 6) v1042.toInt := ISX.code (c := 6) hr1043.2 o1024 (isSC_d (by omega)) (by decide)
          refine At.enter rfl ?_
          refine r_ifs 8 rfl (fun c1047 => ?_) (fun c1047 => ?_)
          · have c1047_ : v1042.toInt = 0 := en_k_eq_t c1047
            have i1048 := BL.no hb1046 (by omega)
            refine At.enter rfl ?_
            refine r_aload_n rfl ?_
            refine q_inlV 19 rfl [.ref 176] [] (Nat.le_of_ble_eq_true rfl) rfl ?_
            refine Ev.mk rfl rfl ⟨Nat.le_of_ble_eq_true rfl, Or.inr (q_rc hI1040.1 kx_176 rfl)⟩ ?_
            show At _ none _ _ (0, [(0, .ref 176)], [], (_, _)) _
            refine At.enter rfl ?_
            refine r_aload_n rfl ?_
            refine q_getI (Sh.int hI1040.1 kx_176 rfl) v1035 ((hF1041.1 176 2 (by decide)).trans hv1035) ?_
            refine r_iconst (-1) rfl ?_
            refine r_ics 8 rfl (fun c1049 => ?_) (fun c1049 => ?_)
            · have c1049_ : v1035.toInt ≠ (-1) := en_i_ne_t c1049
              refine At.enter rfl ?_
              refine q_vret ?_
              refine At.enter rfl ?_
              refine q_vret ?_
              refine At.enter rfl ?_
              refine r_vret ?_
              have x1050 := rX.e hI1040 (b := 2) (((hF1041.1 176 2 (by decide)).trans hv1035))
              have x1051 := rX.e hI0 (b := 2) (hv1002)
              have x1052 := rX.e hI1040 (b := 4) (((hF1041.1 176 4 (by decide)).trans hv1037))
              have x1053 := rX.e hI0 (b := 4) (hv1029)
              obtain ⟨v1054, hv1054⟩ : ∃ v, gI g1017 176 6 = v := ⟨_, rfl⟩
              have tv1054 := congrArg Int32.toInt hv1054
              have x1055 := rX.e hI1040 (b := 6) (((hF1041.1 176 6 (by decide)).trans hv1054))
              obtain ⟨v1056, hv1056⟩ : ∃ v, gI g0 176 6 = v := ⟨_, rfl⟩
              have tv1056 := congrArg Int32.toInt hv1056
              have x1057 := rX.e hI0 (b := 6) (hv1056)
              obtain ⟨v1058, hv1058⟩ : ∃ v, gI g0 176 3 = v := ⟨_, rfl⟩
              have tv1058 := congrArg Int32.toInt hv1058
              have x1059 := rX.e hI0 (b := 3) (hv1058)
              have x1060 := rX.e hI1018 (b := 2) (hv1035)
              have x1061 := rX.e hI1018 (b := 4) (hv1037)
              have x1062 := rX.e hI1018 (b := 6) (hv1054)
              have pr1063 : _ ∧ _ ∧ _ := o1033
              exact ⟨_, rfl, hI1040, hF1044, rfl, ⟨(False.elim (by omega)), (fun hz => absurd hz (by omega))⟩⟩
            · have c1049_ : v1035.toInt = (-1) := en_i_ne_f c1049
              refine At.enter rfl ?_
              refine r_aload_n rfl ?_
              refine r_aload_n rfl ?_
              refine q_getI (Sh.int hI1040.1 kx_176 rfl) v1037 ((hF1041.1 176 4 (by decide)).trans hv1037) ?_
              refine q_putI (Sh.int hI1040.1 kx_176 rfl) rfl ?_
              have hI1064 := HI.wI0 hI1040 kx_176 rfl (p := 176) (b := 2) (v := v1037) rfl
              have hF1065 := Fr.wI (p := 176) (b := 2) (v := v1037) hF1044 rfl
              refine Ar.fall 16 rfl ?_
              refine At.enter rfl ?_
              refine q_vret ?_
              refine At.enter rfl ?_
              refine q_vret ?_
              refine At.enter rfl ?_
              refine r_vret ?_
              have x1066 := rX.e hI1064 (b := 2) ((gI_sI_eq hI1040.1 kx_176 rfl _))
              have x1067 := rX.e hI0 (b := 2) (hv1002)
              have x1068 := rX.e hI1064 (b := 4) ((((gI_sI_ne (by decide)).trans (hF1041.1 176 4 (by decide))).trans hv1037))
              have x1069 := rX.e hI0 (b := 4) (hv1029)
              obtain ⟨v1070, hv1070⟩ : ∃ v, gI g1017 176 6 = v := ⟨_, rfl⟩
              have tv1070 := congrArg Int32.toInt hv1070
              have x1071 := rX.e hI1064 (b := 6) ((((gI_sI_ne (by decide)).trans (hF1041.1 176 6 (by decide))).trans hv1070))
              obtain ⟨v1072, hv1072⟩ : ∃ v, gI g0 176 6 = v := ⟨_, rfl⟩
              have tv1072 := congrArg Int32.toInt hv1072
              have x1073 := rX.e hI0 (b := 6) (hv1072)
              obtain ⟨v1074, hv1074⟩ : ∃ v, gI g0 176 3 = v := ⟨_, rfl⟩
              have tv1074 := congrArg Int32.toInt hv1074
              have x1075 := rX.e hI0 (b := 3) (hv1074)
              have x1076 := rX.e hI1018 (b := 2) (hv1035)
              have x1077 := rX.e hI1018 (b := 4) (hv1037)
              have x1078 := rX.e hI1018 (b := 6) (hv1070)
              have pr1079 : _ ∧ _ ∧ _ := o1033
              exact ⟨_, rfl, hI1064, hF1065, rfl, ⟨(False.elim (by omega)), (fun hz => absurd hz (by omega))⟩⟩
          · have c1047_ : v1042.toInt ≠ 0 := en_k_eq_f c1047
            have i1080 := BL.yes hb1046 (by omega)
            refine At.enter rfl ?_
            refine r_aload_n rfl ?_
            refine r_callV 12 rfl [.ref 176] [] (Nat.le_of_ble_eq_true rfl) rfl (T_X5_step_176 _ hI1040 (TKX.c o1024 ((hF1041.2.1 175 (by decide))) ((hF1041.1 174 1 (by decide))) ((hF1041.1 176 3 (by decide))) ((hF1041.1 176 4 (by decide))) ((hF1041.1 176 5 (by decide)))).1 (TKX.c o1024 ((hF1041.2.1 175 (by decide))) ((hF1041.1 174 1 (by decide))) ((hF1041.1 176 3 (by decide))) ((hF1041.1 176 4 (by decide))) ((hF1041.1 176 5 (by decide)))).2.1.le.2.1) ?_
            rintro _ _ ⟨g1081, rfl, hI1082, hF1083, rfl, hr1085⟩
            refine At.stn ?_
            have hF1086 := Fr.tr hF1044 hF1083 rfl rfl
            have tok1087_ := hr1085.2
            rw [TX.c ((hF1041.2.1 175 (by decide))), nX.c ((hF1041.1 174 1 (by decide))), rX.c (b := 5) ((hF1041.1 176 5 (by decide)))] at tok1087_
            have tok1087 := TKX.tok o1024 tok1087_
            rw [TX.c (((hF1019.2.1 175 (by decide)).trans (hF551.2.1 175 (by decide)))), nX.c (((hF1019.1 174 1 (by decide)).trans (hF551.1 174 1 (by decide))))] at tok1087
            have hT1088 := hr1085.1
            have x1089 := rX.e hI1040 (b := 4) (((hF1041.1 176 4 (by decide)).trans hv1037))
            obtain ⟨v1090, hv1090⟩ : ∃ v, gI g1081 176 4 = v := ⟨_, rfl⟩
            have rv1090 := RgF.at hI1082.2.1 (p := 176) (b := 4) rfl
            rw [hv1090] at rv1090
            dsimp only at rv1090
            have tv1090 := congrArg Int32.toInt hv1090
            have x1091 := rX.e hI1082 (b := 4) (hv1090)
            refine At.enter rfl ?_
            refine r_goto ?_
            refine At.enter rfl ?_
            refine q_vret ?_
            refine At.enter rfl ?_
            refine r_vret ?_
            have x1092 := rX.e hI1082 (b := 2) ((((hF1083.1 176 2 (by decide)).trans (hF1041.1 176 2 (by decide))).trans hv1035))
            have x1093 := rX.e hI0 (b := 2) (hv1002)
            have x1094 := rX.e hI1082 (b := 4) (hv1090)
            have x1095 := rX.e hI0 (b := 4) (hv1029)
            obtain ⟨v1096, hv1096⟩ : ∃ v, gI g1017 176 6 = v := ⟨_, rfl⟩
            have tv1096 := congrArg Int32.toInt hv1096
            have x1097 := rX.e hI1082 (b := 6) ((((hF1083.1 176 6 (by decide)).trans (hF1041.1 176 6 (by decide))).trans hv1096))
            obtain ⟨v1098, hv1098⟩ : ∃ v, gI g0 176 6 = v := ⟨_, rfl⟩
            have tv1098 := congrArg Int32.toInt hv1098
            have x1099 := rX.e hI0 (b := 6) (hv1098)
            obtain ⟨v1100, hv1100⟩ : ∃ v, gI g0 176 3 = v := ⟨_, rfl⟩
            have tv1100 := congrArg Int32.toInt hv1100
            have x1101 := rX.e hI0 (b := 3) (hv1100)
            have x1102 := rX.e hI1018 (b := 2) (hv1035)
            have x1103 := rX.e hI1018 (b := 4) (hv1037)
            have x1104 := rX.e hI1018 (b := 6) (hv1096)
            have x1105 := rX.e hI1082 (b := 2) ((((hF1083.1 176 2 (by decide)).trans (hF1041.1 176 2 (by decide))).trans hv1035))
            have x1106 := rX.e hI1082 (b := 4) (hv1090)
            have x1107 := rX.e hI1082 (b := 6) ((((hF1083.1 176 6 (by decide)).trans (hF1041.1 176 6 (by decide))).trans hv1096))
            have pr1108 : _ ∧ _ ∧ _ := o1033
            exact ⟨_, rfl, hI1082, hF1086, rfl, ⟨(False.elim (by omega)), (fun hz => absurd hz (by omega))⟩⟩
      · have c1003_ : v1002.toInt = (-1) := en_i_ne_f c1003
        refine At.enter rfl ?_
        refine r_aload_n rfl ?_
        refine r_aload_n rfl ?_
        obtain ⟨v1109, hv1109⟩ : ∃ v, gI g0 176 4 = v := ⟨_, rfl⟩
        have rv1109 := RgF.at hI0.2.1 (p := 176) (b := 4) rfl
        rw [hv1109] at rv1109
        dsimp only at rv1109
        refine q_getI (Sh.int hI550.1 kx_176 rfl) v1109 ((hF551.1 176 4 (by decide)).trans hv1109) ?_
        refine q_putI (Sh.int hI550.1 kx_176 rfl) rfl ?_
        have hI1110 := HI.wI0 hI550 kx_176 rfl (p := 176) (b := 2) (v := v1109) rfl
        have hF1111 := Fr.wI (p := 176) (b := 2) (v := v1109) hF554 rfl
        refine Ar.fall 16 rfl ?_
        refine At.enter rfl ?_
        refine q_vret ?_
        refine At.enter rfl ?_
        refine r_goto ?_
        refine At.enter rfl ?_
        refine q_vret ?_
        refine At.enter rfl ?_
        refine r_aload_n rfl ?_
        refine q_getI (Sh.int hI1110.1 kx_176 rfl) v1109 (gI_sI_eq hI550.1 kx_176 rfl _) ?_
        refine r_iconst (-1) rfl ?_
        refine r_ics 22 rfl (fun c1112 => ?_) (fun c1112 => ?_)
        · have c1112_ : v1109.toInt ≠ (-1) := en_i_ne_t c1112
          refine At.enter rfl ?_
          refine r_vret ?_
          have x1113 := rX.e hI1110 (b := 2) ((gI_sI_eq hI550.1 kx_176 rfl _))
          have x1114 := rX.e hI0 (b := 2) (hv1002)
          have x1115 := rX.e hI1110 (b := 4) ((((gI_sI_ne (by decide)).trans (hF551.1 176 4 (by decide))).trans hv1109))
          have x1116 := rX.e hI0 (b := 4) (hv1109)
          obtain ⟨v1117, hv1117⟩ : ∃ v, gI g0 176 6 = v := ⟨_, rfl⟩
          have tv1117 := congrArg Int32.toInt hv1117
          have x1118 := rX.e hI1110 (b := 6) ((((gI_sI_ne (by decide)).trans (hF551.1 176 6 (by decide))).trans hv1117))
          have x1119 := rX.e hI0 (b := 6) (hv1117)
          obtain ⟨v1120, hv1120⟩ : ∃ v, gI g0 176 3 = v := ⟨_, rfl⟩
          have tv1120 := congrArg Int32.toInt hv1120
          have x1121 := rX.e hI0 (b := 3) (hv1120)
          exact ⟨_, rfl, hI1110, hF1111, rfl, ⟨⟨(TKX.c hT (((gA_sI).trans (hF551.2.1 175 (by decide)))) (((gI_sI_ne (by decide)).trans (hF551.1 174 1 (by decide)))) (((gI_sI_ne (by decide)).trans (hF551.1 176 3 (by decide)))) (((gI_sI_ne (by decide)).trans (hF551.1 176 4 (by decide)))) (((gI_sI_ne (by decide)).trans (hF551.1 176 5 (by decide))))), (PRG0.fail 1 (rX.c (b := 4) (((gI_sI_ne (by decide)).trans (hF551.1 176 4 (by decide))))) (fun _ => by omega) (fun _ => by omega) (by omega)).le (by omega), PAO.deep (TKX.some hT).choose_spec (by omega) (by omega) (fun _ => by omega) (fun _ => by omega) (by omega)⟩, (fun hz => absurd hz (by omega))⟩⟩
        · have c1112_ : v1109.toInt = (-1) := en_i_ne_f c1112
          exfalso; omega
