def F_X11_readPlain_231 : List (Nat × Nat) := [(231, 9), (231, 10), (231, 11), (231, 12), (231, 13), (231, 14), (231, 17), (231, 20), (231, 23), (231, 24)]
def A_X11_readPlain_231 : List Nat := [238, 239, 240, 241]
theorem ma_X11_isWord_231_236 : memA A_X11_isWord_231 236 = false := by decide
theorem mf_X11_isWord_231_231_8 : memF F_X11_isWord_231 231 8 = false := by decide
theorem mf_X11_isWord_231_231_12 : memF F_X11_isWord_231 231 12 = false := by decide
theorem mf_X11_isWord_231_231_14 : memF F_X11_isWord_231 231 14 = false := by decide
theorem mf_X11_isWord_231_231_17 : memF F_X11_isWord_231 231 17 = false := by decide
theorem mf_X11_isWord_231_231_23 : memF F_X11_isWord_231 231 23 = false := by decide
theorem ma_X11_isWord_231_238 : memA A_X11_isWord_231 238 = false := by decide
theorem ma_X11_isWord_231_239 : memA A_X11_isWord_231 239 = false := by decide
theorem ma_X11_isWord_231_240 : memA A_X11_isWord_231 240 = false := by decide
theorem ma_X11_isWord_231_241 : memA A_X11_isWord_231 241 = false := by decide
theorem mf_X11_readPart_231_231_8 : memF F_X11_readPart_231 231 8 = false := by decide
theorem mf_X11_readPart_231_231_15 : memF F_X11_readPart_231 231 15 = false := by decide
theorem mf_X11_isWord_231_231_15 : memF F_X11_isWord_231 231 15 = false := by decide
theorem mf_X11_isWord_231_231_13 : memF F_X11_isWord_231 231 13 = false := by decide
theorem mf_X11_isWord_231_231_20 : memF F_X11_isWord_231 231 20 = false := by decide
theorem mf_X11_isWord_231_231_24 : memF F_X11_isWord_231 231 24 = false := by decide
theorem mf_X11_next_231_231_17 : memF F_X11_next_231 231 17 = false := by decide
theorem mf_X11_next_231_231_23 : memF F_X11_next_231 231 23 = false := by decide
theorem ma_X11_next_231_238 : memA A_X11_next_231 238 = false := by decide
theorem ma_X11_next_231_239 : memA A_X11_next_231 239 = false := by decide
theorem ma_X11_next_231_240 : memA A_X11_next_231 240 = false := by decide
theorem ma_X11_next_231_241 : memA A_X11_next_231 241 = false := by decide
theorem mf_X11_next_231_231_15 : memF F_X11_next_231 231 15 = false := by decide
theorem mf_X11_next_231_231_20 : memF F_X11_next_231 231 20 = false := by decide
theorem mf_X11_next_231_231_24 : memF F_X11_next_231 231 24 = false := by decide
set_option maxRecDepth 100000 in
set_option maxHeartbeats 4000000 in
theorem T_X11_readPlain_231 (d : Nat) {N : Nat} {g0 : List en_E} (hI0 : HI g0) (b : Int) (o0 : Int → Int) (a0 : Int → Int) (h1 : ((gI g0 231 9).toInt ≤ (gI g0 231 10).toInt ∧ (gI g0 231 10).toInt ≤ (gI g0 231 8).toInt ∧ 0 ≤ (gI g0 231 11).toInt ∧ (gI g0 231 11).toInt ≤ 3 * ((gI g0 231 10).toInt - (gI g0 231 9).toInt))) (h2 : (gI g0 231 14).toInt = 0) (h3 : (gI g0 231 17).toInt + (gI g0 231 23).toInt ≤ (gI g0 231 9).toInt) (hW : W26 g0) (hP : PT g0 b 0 o0 a0) (hK : TKM g0) : Ev (d + 6) 205 [.ref 231] (g0, N) (fun w h' => ∃ g', h' = (g', N) ∧ HI g' ∧ Fr F_X11_readPlain_231 A_X11_readPlain_231 g0 g' ∧ ∃ r : Int32, w = some (.int r) ∧ (0 ≤ r.toInt ∧ r.toInt ≤ 3) ∧ ((gI g' 231 9).toInt ≤ (gI g' 231 10).toInt ∧ (gI g' 231 10).toInt ≤ (gI g' 231 8).toInt ∧ 0 ≤ (gI g' 231 11).toInt ∧ (gI g' 231 11).toInt ≤ 3 * ((gI g' 231 10).toInt - (gI g' 231 9).toInt) ∧ W26 g' ∧ (gI g' 231 17).toInt + (gI g' 231 23).toInt ≤ 400 ∧ (gI g0 231 9).toInt ≤ (gI g' 231 9).toInt ∧ TURN g' b r.toInt o0 a0 ∧ PRG (gI g' 231 14).toInt (gI g0 231 9).toInt (gI g' 231 9).toInt r.toInt 4 ∧ TKM g' ∧ MTP g0 g' 0 r.toInt (fun _ => True) ∧ MGT g0 g' 0 r.toInt (fun _ => True))) := by
  have hF0 : Fr F_X11_readPlain_231 A_X11_readPlain_231 g0 g0 := Fr.rf
  obtain ⟨v1, hv1⟩ : ∃ v, gI g0 231 8 = v := ⟨_, rfl⟩
  have rv1 := RgF.at hI0.2.1 (p := 231) (b := 8) rfl
  rw [hv1] at rv1
  dsimp only at rv1
  have tv1 := congrArg Int32.toInt hv1
  obtain ⟨v2, hv2⟩ : ∃ v, gI g0 231 9 = v := ⟨_, rfl⟩
  have rv2 := RgF.at hI0.2.1 (p := 231) (b := 9) rfl
  rw [hv2] at rv2
  dsimp only at rv2
  have tv2 := congrArg Int32.toInt hv2
  obtain ⟨v3, hv3⟩ : ∃ v, gI g0 231 10 = v := ⟨_, rfl⟩
  have rv3 := RgF.at hI0.2.1 (p := 231) (b := 10) rfl
  rw [hv3] at rv3
  dsimp only at rv3
  have tv3 := congrArg Int32.toInt hv3
  obtain ⟨v4, hv4⟩ : ∃ v, gI g0 231 11 = v := ⟨_, rfl⟩
  have tv4 := congrArg Int32.toInt hv4
  obtain ⟨v5, hv5⟩ : ∃ v, gJ g0 231 12 = v := ⟨_, rfl⟩
  have tv5 := congrArg Int64.toInt hv5
  obtain ⟨v6, hv6⟩ : ∃ v, gI g0 231 14 = v := ⟨_, rfl⟩
  have tv6 := congrArg Int32.toInt hv6
  obtain ⟨v7, hv7⟩ : ∃ v, gI g0 231 17 = v := ⟨_, rfl⟩
  have rv7 := RgF.at hI0.2.1 (p := 231) (b := 17) rfl
  rw [hv7] at rv7
  dsimp only at rv7
  have tv7 := congrArg Int32.toInt hv7
  obtain ⟨v8, hv8⟩ : ∃ v, gI g0 231 23 = v := ⟨_, rfl⟩
  have rv8 := RgF.at hI0.2.1 (p := 231) (b := 23) rfl
  rw [hv8] at rv8
  dsimp only at rv8
  have tv8 := congrArg Int32.toInt hv8
  refine Ev.mk rfl rfl ⟨Nat.le_of_ble_eq_true rfl, Or.inr (q_rc hI0.1 kx_231 rfl)⟩ ?_
  show At _ none _ _ (0, [(0, .ref 231)], [], (_, _)) _
  refine At.enter rfl ?_
  refine r_aload_n rfl ?_
  refine r_ldc2 14836 rfl ?_
  have zv568 : (14836 : Int64).toInt = 14836 := rfl
  refine r_callV 7 rfl [.ref 231, .long 14836] [] (Nat.le_of_ble_eq_true rfl) rfl (T_X11_isWord_231 _ hI0 14836 (by omega)) ?_
  rintro _ _ ⟨g569, rfl, hI570, hF571, v572, rfl, hr573⟩
  refine At.sti ?_
  have hF574 := Fr.tr hF0 hF571 rfl rfl
  have x579 := HI.eqI hI570 (p := 231) (b := 9) (((hF571.1 231 9 mf_X11_isWord_231_231_9).trans hv2))
  have x580 := HI.eqI hI570 (p := 231) (b := 10) (((hF571.1 231 10 mf_X11_isWord_231_231_10).trans hv3))
  have x581 := HI.eqI hI570 (p := 231) (b := 11) (((hF571.1 231 11 mf_X11_isWord_231_231_11).trans hv4))
  obtain ⟨c585, c582, isw583, ib584⟩ := hr573
  have hb586 : BL (CDM g0 = 1) v572.toInt := ISM.word (c := 1) ib584 hK (isWC_d (by omega)) (by decide +kernel) (by decide)
  refine At.enter rfl ?_
  refine r_ifs 10 rfl (fun c587 => ?_) (fun c587 => ?_)
  · have c587_ : v572.toInt = 0 := en_k_eq_t c587
    have i588 := BL.no hb586 (by omega)
    refine At.enter rfl ?_
    refine r_aload_n rfl ?_
    refine r_bipush 40 rfl ?_
    have zv590 : (40 : Int32).toInt = 40 := rfl
    refine r_callV 29 rfl [.ref 231, .int 40] [] (Nat.le_of_ble_eq_true rfl) rfl (T_X11_isSign_231 _ hI570 40 (by omega)) ?_
    rintro _ _ ⟨g591, rfl, hI592, hF593, v594, rfl, hr595⟩
    refine At.sti ?_
    have hF596 := Fr.tr hF574 hF593 rfl rfl
    have x599 := HI.eqI hI592 (p := 231) (b := 11) ((((hF593.1 231 11 mf_X11_isSign_231_231_11).trans (hF571.1 231 11 mf_X11_isWord_231_231_11)).trans hv4))
    have hb600 : BL (CDM g0 = 2) v594.toInt := by have z := ISM.sign (c := 2) hr595.2.2 (TKM.c hK ((hF571.2.1 236 ma_X11_isWord_231_236)) ((hF571.1 231 8 mf_X11_isWord_231_231_8)) ((hF571.1 231 9 mf_X11_isWord_231_231_9)) ((hF571.1 231 10 mf_X11_isWord_231_231_10)) ((hF571.1 231 11 mf_X11_isWord_231_231_11)) ((hF571.2.2 231 12 mf_X11_isWord_231_231_12))) (isSC_d (by omega)) (by decide +kernel); rw [CDM.c ((hF571.2.1 236 ma_X11_isWord_231_236)) ((hF571.1 231 9 mf_X11_isWord_231_231_9)) ((hF571.1 231 10 mf_X11_isWord_231_231_10)) ((hF571.1 231 11 mf_X11_isWord_231_231_11))] at z; exact z
    refine At.enter rfl ?_
    refine r_ifs 32 rfl (fun c601 => ?_) (fun c601 => ?_)
    · have c601_ : v594.toInt = 0 := en_k_eq_t c601
      have i602 := BL.no hb600 (by omega)
      refine At.enter rfl ?_
      refine r_aload_n rfl ?_
      have x603 := HI.eqI hI592 (p := 231) (b := 8) ((((hF593.1 231 8 mf_X11_isSign_231_231_8).trans (hF571.1 231 8 mf_X11_isWord_231_231_8)).trans hv1))
      have x604 := HI.eqI hI592 (p := 231) (b := 9) ((((hF593.1 231 9 mf_X11_isSign_231_231_9).trans (hF571.1 231 9 mf_X11_isWord_231_231_9)).trans hv2))
      have x605 := HI.eqI hI592 (p := 231) (b := 10) ((((hF593.1 231 10 mf_X11_isSign_231_231_10).trans (hF571.1 231 10 mf_X11_isWord_231_231_10)).trans hv3))
      have x607 := HI.eqJ hI592 (b := 12) ((((hF593.2.2 231 12 mf_X11_isSign_231_231_12).trans (hF571.2.2 231 12 mf_X11_isWord_231_231_12)).trans hv5))
      have x608 := HI.eqI hI592 (p := 231) (b := 14) ((((hF593.1 231 14 mf_X11_isSign_231_231_14).trans (hF571.1 231 14 mf_X11_isWord_231_231_14)).trans hv6))
      have x609 := HI.eqI hI592 (p := 231) (b := 17) ((((hF593.1 231 17 mf_X11_isSign_231_231_17).trans (hF571.1 231 17 mf_X11_isWord_231_231_17)).trans hv7))
      have x610 := HI.eqI hI592 (p := 231) (b := 23) ((((hF593.1 231 23 mf_X11_isSign_231_231_23).trans (hF571.1 231 23 mf_X11_isWord_231_231_23)).trans hv8))
      have w26611 := W26.cong hW hI592 (((hF593.1 231 9 mf_X11_isSign_231_231_9).trans (hF571.1 231 9 mf_X11_isWord_231_231_9))) (((hF593.1 231 10 mf_X11_isSign_231_231_10).trans (hF571.1 231 10 mf_X11_isWord_231_231_10))) (((hF593.1 231 11 mf_X11_isSign_231_231_11).trans (hF571.1 231 11 mf_X11_isWord_231_231_11))) (((hF593.2.2 231 12 mf_X11_isSign_231_231_12).trans (hF571.2.2 231 12 mf_X11_isWord_231_231_12)))
      refine r_callV 44 rfl [.ref 231] [] (Nat.le_of_ble_eq_true rfl) rfl (T_X11_readPart_231 _ hI592 b o0 a0 (by refine ⟨?_, ?_, ?_, ?_⟩ <;> omega) (by omega) (by omega) w26611 (PT.of01 (PT.cong hP hI592 (((hF593.2.1 238 ma_X11_isSign_231_238).trans (hF571.2.1 238 ma_X11_isWord_231_238))) (((hF593.2.1 239 ma_X11_isSign_231_239).trans (hF571.2.1 239 ma_X11_isWord_231_239))) (((hF593.2.1 240 ma_X11_isSign_231_240).trans (hF571.2.1 240 ma_X11_isWord_231_240))) (((hF593.2.1 241 ma_X11_isSign_231_241).trans (hF571.2.1 241 ma_X11_isWord_231_241))) (((hF593.1 231 17 mf_X11_isSign_231_231_17).trans (hF571.1 231 17 mf_X11_isWord_231_231_17))) (((hF593.1 231 23 mf_X11_isSign_231_231_23).trans (hF571.1 231 23 mf_X11_isWord_231_231_23))))) (TKM.c hK (((hF593.2.1 236 ma_X11_isSign_231_236).trans (hF571.2.1 236 ma_X11_isWord_231_236))) (((hF593.1 231 8 mf_X11_isSign_231_231_8).trans (hF571.1 231 8 mf_X11_isWord_231_231_8))) (((hF593.1 231 9 mf_X11_isSign_231_231_9).trans (hF571.1 231 9 mf_X11_isWord_231_231_9))) (((hF593.1 231 10 mf_X11_isSign_231_231_10).trans (hF571.1 231 10 mf_X11_isWord_231_231_10))) (((hF593.1 231 11 mf_X11_isSign_231_231_11).trans (hF571.1 231 11 mf_X11_isWord_231_231_11))) (((hF593.2.2 231 12 mf_X11_isSign_231_231_12).trans (hF571.2.2 231 12 mf_X11_isWord_231_231_12))))) ?_
      rintro _ _ ⟨g612, rfl, hI613, hF614, v615, rfl, hr616⟩
      refine At.sti ?_
      have hF617 := Fr.tr hF596 hF614 rfl rfl
      have x619 := HI.eqI hI613 (p := 231) (b := 8) ((((hF614.1 231 8 mf_X11_readPart_231_231_8).trans ((hF593.1 231 8 mf_X11_isSign_231_231_8).trans (hF571.1 231 8 mf_X11_isWord_231_231_8))).trans hv1))
      obtain ⟨v620, hv620⟩ : ∃ v, gI g612 231 9 = v := ⟨_, rfl⟩
      have rv620 := RgF.at hI613.2.1 (p := 231) (b := 9) rfl
      rw [hv620] at rv620
      dsimp only at rv620
      have tv620 := congrArg Int32.toInt hv620
      obtain ⟨v622, hv622⟩ : ∃ v, gI g612 231 10 = v := ⟨_, rfl⟩
      have rv622 := RgF.at hI613.2.1 (p := 231) (b := 10) rfl
      rw [hv622] at rv622
      dsimp only at rv622
      have tv622 := congrArg Int32.toInt hv622
      obtain ⟨v624, hv624⟩ : ∃ v, gI g612 231 11 = v := ⟨_, rfl⟩
      have tv624 := congrArg Int32.toInt hv624
      obtain ⟨v626, hv626⟩ : ∃ v, gJ g612 231 12 = v := ⟨_, rfl⟩
      have x627 := HI.eqJ hI613 (b := 12) (hv626)
      obtain ⟨v628, hv628⟩ : ∃ v, gI g612 231 14 = v := ⟨_, rfl⟩
      have tv628 := congrArg Int32.toInt hv628
      obtain ⟨v630, hv630⟩ : ∃ v, gI g612 231 17 = v := ⟨_, rfl⟩
      have rv630 := RgF.at hI613.2.1 (p := 231) (b := 17) rfl
      rw [hv630] at rv630
      dsimp only at rv630
      have tv630 := congrArg Int32.toInt hv630
      obtain ⟨v632, hv632⟩ : ∃ v, gI g612 231 23 = v := ⟨_, rfl⟩
      have rv632 := RgF.at hI613.2.1 (p := 231) (b := 23) rfl
      rw [hv632] at rv632
      dsimp only at rv632
      have tv632 := congrArg Int32.toInt hv632
      obtain ⟨c634, c635, c636, c637, c638, c639, c640, c641, c642, c643⟩ := hr616.2
      refine At.enter rfl ?_
      refine r_ireti ?_
      obtain ⟨v655, hv655⟩ : ∃ v, gI g612 231 13 = v := ⟨_, rfl⟩
      have tv655 := congrArg Int32.toInt hv655
      obtain ⟨v658, hv658⟩ : ∃ v, gI g0 231 15 = v := ⟨_, rfl⟩
      have rv658 := RgF.at hI0.2.1 (p := 231) (b := 15) rfl
      rw [hv658] at rv658
      dsimp only at rv658
      have tv658 := congrArg Int32.toInt hv658
      have x659 := HI.eqI hI613 (p := 231) (b := 15) ((((hF614.1 231 15 mf_X11_readPart_231_231_15).trans ((hF593.1 231 15 mf_X11_isSign_231_231_15).trans (hF571.1 231 15 mf_X11_isWord_231_231_15))).trans hv658))
      obtain ⟨v660, hv660⟩ : ∃ v, gI g612 231 20 = v := ⟨_, rfl⟩
      have tv660 := congrArg Int32.toInt hv660
      obtain ⟨v663, hv663⟩ : ∃ v, gI g612 231 24 = v := ⟨_, rfl⟩
      have tv663 := congrArg Int32.toInt hv663
      obtain ⟨v666, hv666⟩ : ∃ v, gI g0 231 13 = v := ⟨_, rfl⟩
      have tv666 := congrArg Int32.toInt hv666
      obtain ⟨v670, hv670⟩ : ∃ v, gI g0 231 20 = v := ⟨_, rfl⟩
      have tv670 := congrArg Int32.toInt hv670
      obtain ⟨v673, hv673⟩ : ∃ v, gI g0 231 24 = v := ⟨_, rfl⟩
      have tv673 := congrArg Int32.toInt hv673
      first | (clear x579 x580 x581 hr573 hr595 c587_ c601_ zv590; exact ⟨_, rfl, hI613, hF617, _, rfl, by omega, ⟨by omega, by omega, by omega, by omega, c638, by omega, by omega, c641, (fun hbad => by have y := c642 hbad; omega), c643.1, (fun c0 b hC h => (MTP.fr c643.2.1 (((hF593.2.1 236 ma_X11_isSign_231_236).trans (hF571.2.1 236 ma_X11_isWord_231_236))) (((hF593.1 231 8 mf_X11_isSign_231_231_8).trans (hF571.1 231 8 mf_X11_isWord_231_231_8))) (((hF593.2.1 240 ma_X11_isSign_231_240).trans (hF571.2.1 240 ma_X11_isWord_231_240))) (((hF593.1 231 9 mf_X11_isSign_231_231_9).trans (hF571.1 231 9 mf_X11_isWord_231_231_9))) (((hF593.1 231 13 mf_X11_isSign_231_231_13).trans (hF571.1 231 13 mf_X11_isWord_231_231_13))) (((hF593.1 231 14 mf_X11_isSign_231_231_14).trans (hF571.1 231 14 mf_X11_isWord_231_231_14))) (((hF593.1 231 15 mf_X11_isSign_231_231_15).trans (hF571.1 231 15 mf_X11_isWord_231_231_15))) (((hF593.1 231 20 mf_X11_isSign_231_231_20).trans (hF571.1 231 20 mf_X11_isWord_231_231_20))) (((hF593.1 231 23 mf_X11_isSign_231_231_23).trans (hF571.1 231 23 mf_X11_isWord_231_231_23))) (((hF593.1 231 24 mf_X11_isSign_231_231_24).trans (hF571.1 231 24 mf_X11_isWord_231_231_24)))) c0 b trivial (M.plain h (TKM.some hK).choose_spec (by omega) (by omega))), (fun h14 c0 b K hC h => (MGT_fr c643.2.2 (((hF593.2.1 236 ma_X11_isSign_231_236).trans (hF571.2.1 236 ma_X11_isWord_231_236))) (((hF593.1 231 8 mf_X11_isSign_231_231_8).trans (hF571.1 231 8 mf_X11_isWord_231_231_8))) (((hF593.2.1 240 ma_X11_isSign_231_240).trans (hF571.2.1 240 ma_X11_isWord_231_240))) (((hF593.2.1 241 ma_X11_isSign_231_241).trans (hF571.2.1 241 ma_X11_isWord_231_241))) (((hF593.1 231 23 mf_X11_isSign_231_231_23).trans (hF571.1 231 23 mf_X11_isWord_231_231_23))) (SMG_mk (((hF593.2.1 238 ma_X11_isSign_231_238).trans (hF571.2.1 238 ma_X11_isWord_231_238))) (((hF593.2.1 239 ma_X11_isSign_231_239).trans (hF571.2.1 239 ma_X11_isWord_231_239))) (((hF593.1 231 17 mf_X11_isSign_231_231_17).trans (hF571.1 231 17 mf_X11_isWord_231_231_17)))) (pI.c (((hF593.1 231 9 mf_X11_isSign_231_231_9).trans (hF571.1 231 9 mf_X11_isWord_231_231_9))))) h14 c0 b K trivial (MG_plain h (TKM.some hK).choose_spec (by omega) (by omega)))⟩⟩) | exact ⟨_, rfl, hI613, hF617, _, rfl, by omega, ⟨by omega, by omega, by omega, by omega, c638, by omega, by omega, c641, (fun hbad => by have y := c642 hbad; omega), c643.1, (fun c0 b hC h => (MTP.fr c643.2.1 (((hF593.2.1 236 ma_X11_isSign_231_236).trans (hF571.2.1 236 ma_X11_isWord_231_236))) (((hF593.1 231 8 mf_X11_isSign_231_231_8).trans (hF571.1 231 8 mf_X11_isWord_231_231_8))) (((hF593.2.1 240 ma_X11_isSign_231_240).trans (hF571.2.1 240 ma_X11_isWord_231_240))) (((hF593.1 231 9 mf_X11_isSign_231_231_9).trans (hF571.1 231 9 mf_X11_isWord_231_231_9))) (((hF593.1 231 13 mf_X11_isSign_231_231_13).trans (hF571.1 231 13 mf_X11_isWord_231_231_13))) (((hF593.1 231 14 mf_X11_isSign_231_231_14).trans (hF571.1 231 14 mf_X11_isWord_231_231_14))) (((hF593.1 231 15 mf_X11_isSign_231_231_15).trans (hF571.1 231 15 mf_X11_isWord_231_231_15))) (((hF593.1 231 20 mf_X11_isSign_231_231_20).trans (hF571.1 231 20 mf_X11_isWord_231_231_20))) (((hF593.1 231 23 mf_X11_isSign_231_231_23).trans (hF571.1 231 23 mf_X11_isWord_231_231_23))) (((hF593.1 231 24 mf_X11_isSign_231_231_24).trans (hF571.1 231 24 mf_X11_isWord_231_231_24)))) c0 b trivial (M.plain h (TKM.some hK).choose_spec (by omega) (by omega))), (fun h14 c0 b K hC h => (MGT_fr c643.2.2 (((hF593.2.1 236 ma_X11_isSign_231_236).trans (hF571.2.1 236 ma_X11_isWord_231_236))) (((hF593.1 231 8 mf_X11_isSign_231_231_8).trans (hF571.1 231 8 mf_X11_isWord_231_231_8))) (((hF593.2.1 240 ma_X11_isSign_231_240).trans (hF571.2.1 240 ma_X11_isWord_231_240))) (((hF593.2.1 241 ma_X11_isSign_231_241).trans (hF571.2.1 241 ma_X11_isWord_231_241))) (((hF593.1 231 23 mf_X11_isSign_231_231_23).trans (hF571.1 231 23 mf_X11_isWord_231_231_23))) (SMG_mk (((hF593.2.1 238 ma_X11_isSign_231_238).trans (hF571.2.1 238 ma_X11_isWord_231_238))) (((hF593.2.1 239 ma_X11_isSign_231_239).trans (hF571.2.1 239 ma_X11_isWord_231_239))) (((hF593.1 231 17 mf_X11_isSign_231_231_17).trans (hF571.1 231 17 mf_X11_isWord_231_231_17)))) (pI.c (((hF593.1 231 9 mf_X11_isSign_231_231_9).trans (hF571.1 231 9 mf_X11_isWord_231_231_9))))) h14 c0 b K trivial (MG_plain h (TKM.some hK).choose_spec (by omega) (by omega)))⟩⟩
    · have c601_ : v594.toInt ≠ 0 := en_k_eq_f c601
      have i675 := BL.yes hb600 (by omega)
      refine At.enter rfl ?_
      refine r_aload_n rfl ?_
      refine r_bipush 30 rfl ?_
      refine q_inlV 38 rfl [.ref 231, .int 30] [] (Nat.le_of_ble_eq_true rfl) rfl ?_
      refine Ev.mk rfl rfl ⟨Nat.le_of_ble_eq_true rfl, Or.inr (q_rc hI592.1 kx_231 rfl)⟩ ?_
      show At _ none _ _ (0, [(0, .ref 231), (1, .int 30)], [], (_, _)) _
      refine At.enter rfl ?_
      refine r_aload_n rfl ?_
      refine r_aload_n rfl ?_
      obtain ⟨v676, hv676⟩ : ∃ v, gI g0 231 24 = v := ⟨_, rfl⟩
      refine q_getI (Sh.int hI592.1 kx_231 rfl) v676 (((hF593.1 231 24 mf_X11_isSign_231_231_24).trans (hF571.1 231 24 mf_X11_isWord_231_231_24)).trans hv676) ?_
      refine r_bipush 8 rfl ?_
      refine r_ics 10 rfl (fun c677 => ?_) (fun c677 => ?_)
      · have c677_ : v676.toInt ≥ 8 := en_i_ge_t c677
        refine At.enter rfl ?_
        refine r_iconst 0 rfl ?_
        refine Ar.fall 15 rfl ?_
        refine At.enter rfl ?_
        have x678 := HI.eqI hI592 (p := 231) (b := 8) ((((hF593.1 231 8 mf_X11_isSign_231_231_8).trans (hF571.1 231 8 mf_X11_isWord_231_231_8)).trans hv1))
        have x679 := HI.eqI hI592 (p := 231) (b := 9) ((((hF593.1 231 9 mf_X11_isSign_231_231_9).trans (hF571.1 231 9 mf_X11_isWord_231_231_9)).trans hv2))
        have x680 := HI.eqI hI592 (p := 231) (b := 10) ((((hF593.1 231 10 mf_X11_isSign_231_231_10).trans (hF571.1 231 10 mf_X11_isWord_231_231_10)).trans hv3))
        have w26682 := W26.cong hW hI592 (((hF593.1 231 9 mf_X11_isSign_231_231_9).trans (hF571.1 231 9 mf_X11_isWord_231_231_9))) (((hF593.1 231 10 mf_X11_isSign_231_231_10).trans (hF571.1 231 10 mf_X11_isWord_231_231_10))) (((hF593.1 231 11 mf_X11_isSign_231_231_11).trans (hF571.1 231 11 mf_X11_isWord_231_231_11))) (((hF593.2.2 231 12 mf_X11_isSign_231_231_12).trans (hF571.2.2 231 12 mf_X11_isWord_231_231_12)))
        have zv683 : (0 : Int32).toInt = 0 := rfl
        refine r_callV 18 rfl [.ref 231, .int 0] [] (Nat.le_of_ble_eq_true rfl) rfl (T_X11_must_231 _ hI592 0 (by decide) (by refine ⟨?_, ?_, ?_, ?_⟩ <;> omega) w26682 (TKM.c hK (((hF593.2.1 236 ma_X11_isSign_231_236).trans (hF571.2.1 236 ma_X11_isWord_231_236))) (((hF593.1 231 8 mf_X11_isSign_231_231_8).trans (hF571.1 231 8 mf_X11_isWord_231_231_8))) (((hF593.1 231 9 mf_X11_isSign_231_231_9).trans (hF571.1 231 9 mf_X11_isWord_231_231_9))) (((hF593.1 231 10 mf_X11_isSign_231_231_10).trans (hF571.1 231 10 mf_X11_isWord_231_231_10))) (((hF593.1 231 11 mf_X11_isSign_231_231_11).trans (hF571.1 231 11 mf_X11_isWord_231_231_11))) (((hF593.2.2 231 12 mf_X11_isSign_231_231_12).trans (hF571.2.2 231 12 mf_X11_isWord_231_231_12))))) ?_
        rintro _ _ ⟨g684, rfl, hI685, hF686, rfl, hr688⟩
        refine At.stn ?_
        have hF689 := Fr.tr hF596 hF686 rfl rfl
        have x695 := HI.eqI hI592 (p := 231) (b := 14) ((((hF593.1 231 14 mf_X11_isSign_231_231_14).trans (hF571.1 231 14 mf_X11_isWord_231_231_14)).trans hv6))
        have x696 := HI.eqI hI685 (p := 231) (b := 8) ((((hF686.1 231 8 mf_X11_must_231_231_8).trans ((hF593.1 231 8 mf_X11_isSign_231_231_8).trans (hF571.1 231 8 mf_X11_isWord_231_231_8))).trans hv1))
        obtain ⟨v697, hv697⟩ : ∃ v, gI g684 231 9 = v := ⟨_, rfl⟩
        have rv697 := RgF.at hI685.2.1 (p := 231) (b := 9) rfl
        rw [hv697] at rv697
        dsimp only at rv697
        have tv697 := congrArg Int32.toInt hv697
        obtain ⟨v699, hv699⟩ : ∃ v, gI g684 231 10 = v := ⟨_, rfl⟩
        have rv699 := RgF.at hI685.2.1 (p := 231) (b := 10) rfl
        rw [hv699] at rv699
        dsimp only at rv699
        have tv699 := congrArg Int32.toInt hv699
        obtain ⟨v701, hv701⟩ : ∃ v, gI g684 231 11 = v := ⟨_, rfl⟩
        have tv701 := congrArg Int32.toInt hv701
        obtain ⟨v703, hv703⟩ : ∃ v, gI g684 231 14 = v := ⟨_, rfl⟩
        have tv703 := congrArg Int32.toInt hv703
        obtain ⟨c705, c706, c707, c708, c709, c710, c711, c712⟩ := hr688
        obtain ⟨v713, hv713⟩ : ∃ v, gI g0 231 13 = v := ⟨_, rfl⟩
        have tv713 := congrArg Int32.toInt hv713
        have x714 := HI.eqI hI592 (p := 231) (b := 13) ((((hF593.1 231 13 mf_X11_isSign_231_231_13).trans (hF571.1 231 13 mf_X11_isWord_231_231_13)).trans hv713))
        obtain ⟨v716, hv716⟩ : ∃ v, gI g684 231 13 = v := ⟨_, rfl⟩
        have tv716 := congrArg Int32.toInt hv716
        unfold MUSTP at c712
        rw [TM.c (((hF593.2.1 236 ma_X11_isSign_231_236).trans (hF571.2.1 236 ma_X11_isWord_231_236))), nM.c (((hF593.1 231 8 mf_X11_isSign_231_231_8).trans (hF571.1 231 8 mf_X11_isWord_231_231_8))), pI.c (b := 14) (((hF593.1 231 14 mf_X11_isSign_231_231_14).trans (hF571.1 231 14 mf_X11_isWord_231_231_14))), pI.c (b := 13) (((hF593.1 231 13 mf_X11_isSign_231_231_13).trans (hF571.1 231 13 mf_X11_isWord_231_231_13))), pI.c (b := 10) (((hF593.1 231 10 mf_X11_isSign_231_231_10).trans (hF571.1 231 10 mf_X11_isWord_231_231_10))), pI.c (b := 9) (((hF593.1 231 9 mf_X11_isSign_231_231_9).trans (hF571.1 231 9 mf_X11_isWord_231_231_9)))] at c712
        have mu718 : MUSTP g0 g684 0 := c712
        clear c712
        have hK719 := mu718.1
        refine At.enter rfl ?_
        refine r_aload_n rfl ?_
        refine q_getI (Sh.int hI685.1 kx_231 rfl) v703 hv703 ?_
        refine r_ifs 25 rfl (fun c720 => ?_) (fun c720 => ?_)
        · have c720_ : v703.toInt ≠ 0 := en_k_ne_t c720
          clear c711
          obtain ⟨i721, i722⟩ := MUSTP.y mu718 (by omega) (by omega)
          refine At.enter rfl ?_
          refine q_vret ?_
          refine At.enter rfl ?_
          refine r_iconst 0 rfl ?_
          refine r_ireti ?_
          obtain ⟨v727, hv727⟩ : ∃ v, gJ g684 231 12 = v := ⟨_, rfl⟩
          have x728 := HI.eqJ hI685 (b := 12) (hv727)
          have x730 := HI.eqI hI685 (p := 231) (b := 17) ((((hF686.1 231 17 mf_X11_must_231_231_17).trans ((hF593.1 231 17 mf_X11_isSign_231_231_17).trans (hF571.1 231 17 mf_X11_isWord_231_231_17))).trans hv7))
          have x731 := HI.eqI hI685 (p := 231) (b := 23) ((((hF686.1 231 23 mf_X11_must_231_231_23).trans ((hF593.1 231 23 mf_X11_isSign_231_231_23).trans (hF571.1 231 23 mf_X11_isWord_231_231_23))).trans hv8))
          have pg734 := PG.cong (hP.1 (by decide)) hI685 (((hF686.2.1 238 ma_X11_must_231_238).trans ((hF593.2.1 238 ma_X11_isSign_231_238).trans (hF571.2.1 238 ma_X11_isWord_231_238)))) (((hF686.2.1 239 ma_X11_must_231_239).trans ((hF593.2.1 239 ma_X11_isSign_231_239).trans (hF571.2.1 239 ma_X11_isWord_231_239)))) (((hF686.2.1 240 ma_X11_must_231_240).trans ((hF593.2.1 240 ma_X11_isSign_231_240).trans (hF571.2.1 240 ma_X11_isWord_231_240)))) (((hF686.2.1 241 ma_X11_must_231_241).trans ((hF593.2.1 241 ma_X11_isSign_231_241).trans (hF571.2.1 241 ma_X11_isWord_231_241)))) (((hF686.1 231 17 mf_X11_must_231_231_17).trans ((hF593.1 231 17 mf_X11_isSign_231_231_17).trans (hF571.1 231 17 mf_X11_isWord_231_231_17)))) (((hF686.1 231 23 mf_X11_must_231_231_23).trans ((hF593.1 231 23 mf_X11_isSign_231_231_23).trans (hF571.1 231 23 mf_X11_isWord_231_231_23))))
          have nsq735 := NSQ.cong (hP.2.2.1 (by decide) (by decide)) hI685 (((hF686.2.1 240 ma_X11_must_231_240).trans ((hF593.2.1 240 ma_X11_isSign_231_240).trans (hF571.2.1 240 ma_X11_isWord_231_240)))) (((hF686.1 231 23 mf_X11_must_231_231_23).trans ((hF593.1 231 23 mf_X11_isSign_231_231_23).trans (hF571.1 231 23 mf_X11_isWord_231_231_23))))
          obtain ⟨v739, hv739⟩ : ∃ v, gI g0 231 15 = v := ⟨_, rfl⟩
          have rv739 := RgF.at hI0.2.1 (p := 231) (b := 15) rfl
          rw [hv739] at rv739
          dsimp only at rv739
          have tv739 := congrArg Int32.toInt hv739
          have x740 := HI.eqI hI685 (p := 231) (b := 15) ((((hF686.1 231 15 mf_X11_must_231_231_15).trans ((hF593.1 231 15 mf_X11_isSign_231_231_15).trans (hF571.1 231 15 mf_X11_isWord_231_231_15))).trans hv739))
          obtain ⟨v741, hv741⟩ : ∃ v, gI g0 231 20 = v := ⟨_, rfl⟩
          have tv741 := congrArg Int32.toInt hv741
          have x742 := HI.eqI hI685 (p := 231) (b := 20) ((((hF686.1 231 20 mf_X11_must_231_231_20).trans ((hF593.1 231 20 mf_X11_isSign_231_231_20).trans (hF571.1 231 20 mf_X11_isWord_231_231_20))).trans hv741))
          have x744 := HI.eqI hI685 (p := 231) (b := 24) ((((hF686.1 231 24 mf_X11_must_231_231_24).trans ((hF593.1 231 24 mf_X11_isSign_231_231_24).trans (hF571.1 231 24 mf_X11_isWord_231_231_24))).trans hv676))
          have x751 := HI.eqI hI0 (p := 231) (b := 24) (hv676)
          have mf752 := mu718.2.2.1 (show (gI g0 231 14).toInt = 0 from by omega) (by omega)
          have y753 : (gI _ 231 14).toInt ≠ 0 := mf752.1
          have y754 : (gI _ 231 13).toInt = (gI g0 231 9).toInt := mf752.2
          first | (clear x579 x580 x581 hr573 hr595 c587_ zv590; exact ⟨_, rfl, hI685, hF689, _, rfl, by decide, ⟨by omega, by omega, by omega, by omega, c710, by omega, by omega, (fun hbad => ⟨by omega, (PT.mk (fun _ => pg734) (fun h => by first | exact absurd h (by decide) | (exfalso; omega)) (fun _ _ => nsq735) (fun h => by first | exact absurd h (by decide) | (exfalso; omega)))⟩), (fun hbad => by omega), hK719, (fun c0 b hC h => M.rndF h (TKM.some hK).choose_spec (by omega) (show 8 ≤ (gI g0 231 24).toInt from by omega) (fun _ => ⟨show (gI _ 231 14).toInt ≠ 0 from by omega, show (gI _ 231 13).toInt = (gI g0 231 9).toInt from by omega⟩) (fun z => absurd (show (gI g0 231 14).toInt = 0 from (by first | exact h2 | omega)) z) _), (fun h14 c0 b K hC h => absurd (show (gI _ 231 14).toInt = 0 from h14) (by omega))⟩⟩) | exact ⟨_, rfl, hI685, hF689, _, rfl, by decide, ⟨by omega, by omega, by omega, by omega, c710, by omega, by omega, (fun hbad => ⟨by omega, (PT.mk (fun _ => pg734) (fun h => by first | exact absurd h (by decide) | (exfalso; omega)) (fun _ _ => nsq735) (fun h => by first | exact absurd h (by decide) | (exfalso; omega)))⟩), (fun hbad => by omega), hK719, (fun c0 b hC h => M.rndF h (TKM.some hK).choose_spec (by omega) (show 8 ≤ (gI g0 231 24).toInt from by omega) (fun _ => ⟨show (gI _ 231 14).toInt ≠ 0 from by omega, show (gI _ 231 13).toInt = (gI g0 231 9).toInt from by omega⟩) (fun z => absurd (show (gI g0 231 14).toInt = 0 from (by first | exact h2 | omega)) z) _), (fun h14 c0 b K hC h => absurd (show (gI _ 231 14).toInt = 0 from h14) (by omega))⟩⟩
        · have c720_ : v703.toInt = 0 := en_k_ne_f c720
          obtain ⟨i755, i756, i757⟩ := c711 (by omega)
          obtain ⟨i758, i759⟩ := MUSTP.z mu718 (by omega) (by omega)
          refine At.enter rfl ?_
          refine r_aload_n rfl ?_
          refine r_dup rfl ?_
          refine q_getI (Sh.int hI685.1 kx_231 rfl) v676 (((hF686.1 231 24 mf_X11_must_231_231_24).trans ((hF593.1 231 24 mf_X11_isSign_231_231_24).trans (hF571.1 231 24 mf_X11_isWord_231_231_24))).trans hv676) ?_
          refine r_iconst 1 rfl ?_
          refine q_iaddO (fun v760 _ => ?_)
          refine q_putI (Sh.int hI685.1 kx_231 rfl) rfl ?_
          have hI761 := HI.wI0 hI685 kx_231 rfl (p := 231) (b := 24) (v := v760) rfl
          have hF762 := Fr.wI (p := 231) (b := 24) (v := v760) hF689 rfl
          refine r_aload_n rfl ?_
          refine r_iload_n rfl ?_
          refine r_iconst 0 rfl ?_
          have x763 := HI.eqI hI761 (p := 231) (b := 23) ((((gI_sI_ne (by decide)).trans ((hF686.1 231 23 mf_X11_must_231_231_23).trans ((hF593.1 231 23 mf_X11_isSign_231_231_23).trans (hF571.1 231 23 mf_X11_isWord_231_231_23)))).trans hv8))
          have zv764 : (30 : Int32).toInt = 30 := rfl
          refine r_callV 41 rfl [.ref 231, .int 30, .int 0] [] (Nat.le_of_ble_eq_true rfl) rfl (T_X11_push_231 _ hI761 30 (by decide) 0 (by decide) (by omega)) ?_
          rintro _ _ ⟨g766, rfl, hI767, hF768, rfl, hr770⟩
          refine At.stn ?_
          have hF771 := Fr.tr hF762 hF768 rfl rfl
          have x774 := HI.eqI hI761 (p := 231) (b := 17) ((((gI_sI_ne (by decide)).trans ((hF686.1 231 17 mf_X11_must_231_231_17).trans ((hF593.1 231 17 mf_X11_isSign_231_231_17).trans (hF571.1 231 17 mf_X11_isWord_231_231_17)))).trans hv7))
          have x776 := HI.eqI hI767 (p := 231) (b := 17) ((((hF768.1 231 17 mf_X11_push_231_231_17).trans ((gI_sI_ne (by decide)).trans ((hF686.1 231 17 mf_X11_must_231_231_17).trans ((hF593.1 231 17 mf_X11_isSign_231_231_17).trans (hF571.1 231 17 mf_X11_isWord_231_231_17))))).trans hv7))
          obtain ⟨v777, hv777⟩ : ∃ v, gI g766 231 23 = v := ⟨_, rfl⟩
          have rv777 := RgF.at hI767.2.1 (p := 231) (b := 23) rfl
          rw [hv777] at rv777
          dsimp only at rv777
          have tv777 := congrArg Int32.toInt hv777
          have y779 : (gI _ 231 23).toInt = (gI _ 231 23).toInt + 1 := hr770.1
          have pg780 := PG.cong (hP.1 (by decide)) hI761 (((gA_sI).trans ((hF686.2.1 238 ma_X11_must_231_238).trans ((hF593.2.1 238 ma_X11_isSign_231_238).trans (hF571.2.1 238 ma_X11_isWord_231_238))))) (((gA_sI).trans ((hF686.2.1 239 ma_X11_must_231_239).trans ((hF593.2.1 239 ma_X11_isSign_231_239).trans (hF571.2.1 239 ma_X11_isWord_231_239))))) (((gA_sI).trans ((hF686.2.1 240 ma_X11_must_231_240).trans ((hF593.2.1 240 ma_X11_isSign_231_240).trans (hF571.2.1 240 ma_X11_isWord_231_240))))) (((gA_sI).trans ((hF686.2.1 241 ma_X11_must_231_241).trans ((hF593.2.1 241 ma_X11_isSign_231_241).trans (hF571.2.1 241 ma_X11_isWord_231_241))))) (((gI_sI_ne (by decide)).trans ((hF686.1 231 17 mf_X11_must_231_231_17).trans ((hF593.1 231 17 mf_X11_isSign_231_231_17).trans (hF571.1 231 17 mf_X11_isWord_231_231_17))))) (((gI_sI_ne (by decide)).trans ((hF686.1 231 23 mf_X11_must_231_231_23).trans ((hF593.1 231 23 mf_X11_isSign_231_231_23).trans (hF571.1 231 23 mf_X11_isWord_231_231_23)))))
          have nsq782 := NSQ.cong (hP.2.2.1 (by decide) (by decide)) hI761 (((gA_sI).trans ((hF686.2.1 240 ma_X11_must_231_240).trans ((hF593.2.1 240 ma_X11_isSign_231_240).trans (hF571.2.1 240 ma_X11_isWord_231_240))))) (((gI_sI_ne (by decide)).trans ((hF686.1 231 23 mf_X11_must_231_231_23).trans ((hF593.1 231 23 mf_X11_isSign_231_231_23).trans (hF571.1 231 23 mf_X11_isWord_231_231_23)))))
          have pg781 := PG.push (e' := 0) pg780 hr770 (hF768.2.1 238 ma_X11_push_231_238) (hF768.2.1 239 ma_X11_push_231_239) (hF768.1 231 17 mf_X11_push_231_231_17) ⟨by omega, by omega⟩ (Or.inr nsq782) (by omega) (by omega)
          have nsq783 := NSQ.push nsq782 hr770 (by omega)
          refine At.enter rfl ?_
          refine q_vret ?_
          refine At.enter rfl ?_
          refine r_iconst 0 rfl ?_
          refine r_ireti ?_
          have x784 := HI.eqI hI767 (p := 231) (b := 8) ((((hF768.1 231 8 mf_X11_push_231_231_8).trans ((gI_sI_ne (by decide)).trans ((hF686.1 231 8 mf_X11_must_231_231_8).trans ((hF593.1 231 8 mf_X11_isSign_231_231_8).trans (hF571.1 231 8 mf_X11_isWord_231_231_8))))).trans hv1))
          have x785 := HI.eqI hI767 (p := 231) (b := 9) ((((hF768.1 231 9 mf_X11_push_231_231_9).trans (gI_sI_ne (by decide))).trans hv697))
          have x786 := HI.eqI hI767 (p := 231) (b := 10) ((((hF768.1 231 10 mf_X11_push_231_231_10).trans (gI_sI_ne (by decide))).trans hv699))
          have x787 := HI.eqI hI767 (p := 231) (b := 11) ((((hF768.1 231 11 mf_X11_push_231_231_11).trans (gI_sI_ne (by decide))).trans hv701))
          obtain ⟨v788, hv788⟩ : ∃ v, gJ g684 231 12 = v := ⟨_, rfl⟩
          have x789 := HI.eqJ hI767 (b := 12) ((((hF768.2.2 231 12 mf_X11_push_231_231_12).trans (gJ_sI_ne (by decide))).trans hv788))
          have x790 := HI.eqI hI767 (p := 231) (b := 14) ((((hF768.1 231 14 mf_X11_push_231_231_14).trans (gI_sI_ne (by decide))).trans hv703))
          have w26795 := W26.cong c710 hI767 (((hF768.1 231 9 mf_X11_push_231_231_9).trans (gI_sI_ne (by decide)))) (((hF768.1 231 10 mf_X11_push_231_231_10).trans (gI_sI_ne (by decide)))) (((hF768.1 231 11 mf_X11_push_231_231_11).trans (gI_sI_ne (by decide)))) (((hF768.2.2 231 12 mf_X11_push_231_231_12).trans (gJ_sI_ne (by decide))))
          have x797 := HI.eqI hI767 (p := 231) (b := 13) ((((hF768.1 231 13 mf_X11_push_231_231_13).trans (gI_sI_ne (by decide))).trans hv716))
          obtain ⟨v799, hv799⟩ : ∃ v, gI g0 231 15 = v := ⟨_, rfl⟩
          have rv799 := RgF.at hI0.2.1 (p := 231) (b := 15) rfl
          rw [hv799] at rv799
          dsimp only at rv799
          have tv799 := congrArg Int32.toInt hv799
          have x800 := HI.eqI hI767 (p := 231) (b := 15) ((((hF768.1 231 15 mf_X11_push_231_231_15).trans ((gI_sI_ne (by decide)).trans ((hF686.1 231 15 mf_X11_must_231_231_15).trans ((hF593.1 231 15 mf_X11_isSign_231_231_15).trans (hF571.1 231 15 mf_X11_isWord_231_231_15))))).trans hv799))
          obtain ⟨v801, hv801⟩ : ∃ v, gI g0 231 20 = v := ⟨_, rfl⟩
          have tv801 := congrArg Int32.toInt hv801
          have x802 := HI.eqI hI767 (p := 231) (b := 20) ((((hF768.1 231 20 mf_X11_push_231_231_20).trans ((gI_sI_ne (by decide)).trans ((hF686.1 231 20 mf_X11_must_231_231_20).trans ((hF593.1 231 20 mf_X11_isSign_231_231_20).trans (hF571.1 231 20 mf_X11_isWord_231_231_20))))).trans hv801))
          have x804 := HI.eqI hI767 (p := 231) (b := 24) (((hF768.1 231 24 mf_X11_push_231_231_24).trans (gI_sI_eq hI685.1 kx_231 rfl _)))
          have x811 := HI.eqI hI0 (p := 231) (b := 24) (hv676)
          have y816 : (gI g684 231 13).toInt = (gI g0 231 13).toInt := (mu718.2.1 (show (gI g0 231 14).toInt = 0 from by omega) (by omega)).2.1
          first | (clear x579 x580 x581 hr573 hr595 c587_ zv590; exact ⟨_, rfl, hI767, hF771, _, rfl, by decide, ⟨by omega, by omega, by omega, by omega, w26795, by omega, by omega, (fun hbad => ⟨by omega, (PT.mk (fun _ => pg781) (fun h => by first | exact absurd h (by decide) | (exfalso; omega)) (fun _ _ => nsq783) (fun h => by first | exact absurd h (by decide) | (exfalso; omega)))⟩), (fun hbad => by omega), (TKM.c hK719 (((hF768.2.1 236 ma_X11_push_231_236).trans (gA_sI))) (((hF768.1 231 8 mf_X11_push_231_231_8).trans (gI_sI_ne (by decide)))) (((hF768.1 231 9 mf_X11_push_231_231_9).trans (gI_sI_ne (by decide)))) (((hF768.1 231 10 mf_X11_push_231_231_10).trans (gI_sI_ne (by decide)))) (((hF768.1 231 11 mf_X11_push_231_231_11).trans (gI_sI_ne (by decide)))) (((hF768.2.2 231 12 mf_X11_push_231_231_12).trans (gJ_sI_ne (by decide))))), (fun c0 b hC h => M.rnd h (by rw [pI.c (((hF768.1 231 9 mf_X11_push_231_231_9).trans (gI_sI_ne (by decide))))]; exact (MUSTP.tok hK mu718 (by omega) (by omega))) (by omega) (show (gI g0 231 24).toInt < 8 from by omega) (PUSH.fr2 hr770 (((gA_sI).trans ((hF686.2.1 240 ma_X11_must_231_240).trans ((hF593.2.1 240 ma_X11_isSign_231_240).trans (hF571.2.1 240 ma_X11_isWord_231_240))))) (((gA_sI).trans ((hF686.2.1 241 ma_X11_must_231_241).trans ((hF593.2.1 241 ma_X11_isSign_231_241).trans (hF571.2.1 241 ma_X11_isWord_231_241))))) (((gI_sI_ne (by decide)).trans ((hF686.1 231 23 mf_X11_must_231_231_23).trans ((hF593.1 231 23 mf_X11_isSign_231_231_23).trans (hF571.1 231 23 mf_X11_isWord_231_231_23))))) rfl rfl rfl) rfl (show (gI _ 231 24).toInt = (gI g0 231 24).toInt + 1 from by omega) (show (gI _ 231 20).toInt = (gI g0 231 20).toInt from (by first | exact x802.trans tv801.symm | omega)) (show (gI _ 231 15).toInt = (gI g0 231 15).toInt from (by first | exact x800.trans tv799.symm | omega)) (fun _ => ⟨show (gI _ 231 14).toInt = 0 from by omega, show (gI _ 231 13).toInt = (gI g0 231 13).toInt from by omega⟩) (fun z => absurd (show (gI g0 231 14).toInt = 0 from (by first | exact h2 | omega)) z)), (fun h14 c0 b K hC h => MG_rnd h (by rw [pI.c (((hF768.1 231 9 mf_X11_push_231_231_9).trans (gI_sI_ne (by decide))))]; exact (MUSTP.tok hK mu718 (by omega) (by omega))) (by omega) (PUSH.fr2 hr770 (((gA_sI).trans ((hF686.2.1 240 ma_X11_must_231_240).trans ((hF593.2.1 240 ma_X11_isSign_231_240).trans (hF571.2.1 240 ma_X11_isWord_231_240))))) (((gA_sI).trans ((hF686.2.1 241 ma_X11_must_231_241).trans ((hF593.2.1 241 ma_X11_isSign_231_241).trans (hF571.2.1 241 ma_X11_isWord_231_241))))) (((gI_sI_ne (by decide)).trans ((hF686.1 231 23 mf_X11_must_231_231_23).trans ((hF593.1 231 23 mf_X11_isSign_231_231_23).trans (hF571.1 231 23 mf_X11_isWord_231_231_23))))) rfl rfl rfl) rfl rfl (SMG_mk (((hF768.2.1 238 ma_X11_push_231_238).trans ((gA_sI).trans ((hF686.2.1 238 ma_X11_must_231_238).trans ((hF593.2.1 238 ma_X11_isSign_231_238).trans (hF571.2.1 238 ma_X11_isWord_231_238)))))) (((hF768.2.1 239 ma_X11_push_231_239).trans ((gA_sI).trans ((hF686.2.1 239 ma_X11_must_231_239).trans ((hF593.2.1 239 ma_X11_isSign_231_239).trans (hF571.2.1 239 ma_X11_isWord_231_239)))))) (((hF768.1 231 17 mf_X11_push_231_231_17).trans ((gI_sI_ne (by decide)).trans ((hF686.1 231 17 mf_X11_must_231_231_17).trans ((hF593.1 231 17 mf_X11_isSign_231_231_17).trans (hF571.1 231 17 mf_X11_isWord_231_231_17))))))))⟩⟩) | exact ⟨_, rfl, hI767, hF771, _, rfl, by decide, ⟨by omega, by omega, by omega, by omega, w26795, by omega, by omega, (fun hbad => ⟨by omega, (PT.mk (fun _ => pg781) (fun h => by first | exact absurd h (by decide) | (exfalso; omega)) (fun _ _ => nsq783) (fun h => by first | exact absurd h (by decide) | (exfalso; omega)))⟩), (fun hbad => by omega), (TKM.c hK719 (((hF768.2.1 236 ma_X11_push_231_236).trans (gA_sI))) (((hF768.1 231 8 mf_X11_push_231_231_8).trans (gI_sI_ne (by decide)))) (((hF768.1 231 9 mf_X11_push_231_231_9).trans (gI_sI_ne (by decide)))) (((hF768.1 231 10 mf_X11_push_231_231_10).trans (gI_sI_ne (by decide)))) (((hF768.1 231 11 mf_X11_push_231_231_11).trans (gI_sI_ne (by decide)))) (((hF768.2.2 231 12 mf_X11_push_231_231_12).trans (gJ_sI_ne (by decide))))), (fun c0 b hC h => M.rnd h (by rw [pI.c (((hF768.1 231 9 mf_X11_push_231_231_9).trans (gI_sI_ne (by decide))))]; exact (MUSTP.tok hK mu718 (by omega) (by omega))) (by omega) (show (gI g0 231 24).toInt < 8 from by omega) (PUSH.fr2 hr770 (((gA_sI).trans ((hF686.2.1 240 ma_X11_must_231_240).trans ((hF593.2.1 240 ma_X11_isSign_231_240).trans (hF571.2.1 240 ma_X11_isWord_231_240))))) (((gA_sI).trans ((hF686.2.1 241 ma_X11_must_231_241).trans ((hF593.2.1 241 ma_X11_isSign_231_241).trans (hF571.2.1 241 ma_X11_isWord_231_241))))) (((gI_sI_ne (by decide)).trans ((hF686.1 231 23 mf_X11_must_231_231_23).trans ((hF593.1 231 23 mf_X11_isSign_231_231_23).trans (hF571.1 231 23 mf_X11_isWord_231_231_23))))) rfl rfl rfl) rfl (show (gI _ 231 24).toInt = (gI g0 231 24).toInt + 1 from by omega) (show (gI _ 231 20).toInt = (gI g0 231 20).toInt from (by first | exact x802.trans tv801.symm | omega)) (show (gI _ 231 15).toInt = (gI g0 231 15).toInt from (by first | exact x800.trans tv799.symm | omega)) (fun _ => ⟨show (gI _ 231 14).toInt = 0 from by omega, show (gI _ 231 13).toInt = (gI g0 231 13).toInt from by omega⟩) (fun z => absurd (show (gI g0 231 14).toInt = 0 from (by first | exact h2 | omega)) z)), (fun h14 c0 b K hC h => MG_rnd h (by rw [pI.c (((hF768.1 231 9 mf_X11_push_231_231_9).trans (gI_sI_ne (by decide))))]; exact (MUSTP.tok hK mu718 (by omega) (by omega))) (by omega) (PUSH.fr2 hr770 (((gA_sI).trans ((hF686.2.1 240 ma_X11_must_231_240).trans ((hF593.2.1 240 ma_X11_isSign_231_240).trans (hF571.2.1 240 ma_X11_isWord_231_240))))) (((gA_sI).trans ((hF686.2.1 241 ma_X11_must_231_241).trans ((hF593.2.1 241 ma_X11_isSign_231_241).trans (hF571.2.1 241 ma_X11_isWord_231_241))))) (((gI_sI_ne (by decide)).trans ((hF686.1 231 23 mf_X11_must_231_231_23).trans ((hF593.1 231 23 mf_X11_isSign_231_231_23).trans (hF571.1 231 23 mf_X11_isWord_231_231_23))))) rfl rfl rfl) rfl rfl (SMG_mk (((hF768.2.1 238 ma_X11_push_231_238).trans ((gA_sI).trans ((hF686.2.1 238 ma_X11_must_231_238).trans ((hF593.2.1 238 ma_X11_isSign_231_238).trans (hF571.2.1 238 ma_X11_isWord_231_238)))))) (((hF768.2.1 239 ma_X11_push_231_239).trans ((gA_sI).trans ((hF686.2.1 239 ma_X11_must_231_239).trans ((hF593.2.1 239 ma_X11_isSign_231_239).trans (hF571.2.1 239 ma_X11_isWord_231_239)))))) (((hF768.1 231 17 mf_X11_push_231_231_17).trans ((gI_sI_ne (by decide)).trans ((hF686.1 231 17 mf_X11_must_231_231_17).trans ((hF593.1 231 17 mf_X11_isSign_231_231_17).trans (hF571.1 231 17 mf_X11_isWord_231_231_17))))))))⟩⟩
      · have c677_ : v676.toInt < 8 := en_i_ge_f c677
        refine At.enter rfl ?_
        refine r_iconst 1 rfl ?_
        refine r_goto ?_
        refine At.enter rfl ?_
        have x817 := HI.eqI hI592 (p := 231) (b := 8) ((((hF593.1 231 8 mf_X11_isSign_231_231_8).trans (hF571.1 231 8 mf_X11_isWord_231_231_8)).trans hv1))
        have x818 := HI.eqI hI592 (p := 231) (b := 9) ((((hF593.1 231 9 mf_X11_isSign_231_231_9).trans (hF571.1 231 9 mf_X11_isWord_231_231_9)).trans hv2))
        have x819 := HI.eqI hI592 (p := 231) (b := 10) ((((hF593.1 231 10 mf_X11_isSign_231_231_10).trans (hF571.1 231 10 mf_X11_isWord_231_231_10)).trans hv3))
        have w26821 := W26.cong hW hI592 (((hF593.1 231 9 mf_X11_isSign_231_231_9).trans (hF571.1 231 9 mf_X11_isWord_231_231_9))) (((hF593.1 231 10 mf_X11_isSign_231_231_10).trans (hF571.1 231 10 mf_X11_isWord_231_231_10))) (((hF593.1 231 11 mf_X11_isSign_231_231_11).trans (hF571.1 231 11 mf_X11_isWord_231_231_11))) (((hF593.2.2 231 12 mf_X11_isSign_231_231_12).trans (hF571.2.2 231 12 mf_X11_isWord_231_231_12)))
        have zv822 : (1 : Int32).toInt = 1 := rfl
        refine r_callV 18 rfl [.ref 231, .int 1] [] (Nat.le_of_ble_eq_true rfl) rfl (T_X11_must_231 _ hI592 1 (by decide) (by refine ⟨?_, ?_, ?_, ?_⟩ <;> omega) w26821 (TKM.c hK (((hF593.2.1 236 ma_X11_isSign_231_236).trans (hF571.2.1 236 ma_X11_isWord_231_236))) (((hF593.1 231 8 mf_X11_isSign_231_231_8).trans (hF571.1 231 8 mf_X11_isWord_231_231_8))) (((hF593.1 231 9 mf_X11_isSign_231_231_9).trans (hF571.1 231 9 mf_X11_isWord_231_231_9))) (((hF593.1 231 10 mf_X11_isSign_231_231_10).trans (hF571.1 231 10 mf_X11_isWord_231_231_10))) (((hF593.1 231 11 mf_X11_isSign_231_231_11).trans (hF571.1 231 11 mf_X11_isWord_231_231_11))) (((hF593.2.2 231 12 mf_X11_isSign_231_231_12).trans (hF571.2.2 231 12 mf_X11_isWord_231_231_12))))) ?_
        rintro _ _ ⟨g823, rfl, hI824, hF825, rfl, hr827⟩
        refine At.stn ?_
        have hF828 := Fr.tr hF596 hF825 rfl rfl
        have x834 := HI.eqI hI592 (p := 231) (b := 14) ((((hF593.1 231 14 mf_X11_isSign_231_231_14).trans (hF571.1 231 14 mf_X11_isWord_231_231_14)).trans hv6))
        have x835 := HI.eqI hI824 (p := 231) (b := 8) ((((hF825.1 231 8 mf_X11_must_231_231_8).trans ((hF593.1 231 8 mf_X11_isSign_231_231_8).trans (hF571.1 231 8 mf_X11_isWord_231_231_8))).trans hv1))
        obtain ⟨v836, hv836⟩ : ∃ v, gI g823 231 9 = v := ⟨_, rfl⟩
        have rv836 := RgF.at hI824.2.1 (p := 231) (b := 9) rfl
        rw [hv836] at rv836
        dsimp only at rv836
        have tv836 := congrArg Int32.toInt hv836
        obtain ⟨v838, hv838⟩ : ∃ v, gI g823 231 10 = v := ⟨_, rfl⟩
        have rv838 := RgF.at hI824.2.1 (p := 231) (b := 10) rfl
        rw [hv838] at rv838
        dsimp only at rv838
        have tv838 := congrArg Int32.toInt hv838
        obtain ⟨v840, hv840⟩ : ∃ v, gI g823 231 11 = v := ⟨_, rfl⟩
        have tv840 := congrArg Int32.toInt hv840
        obtain ⟨v842, hv842⟩ : ∃ v, gI g823 231 14 = v := ⟨_, rfl⟩
        have tv842 := congrArg Int32.toInt hv842
        obtain ⟨c844, c845, c846, c847, c848, c849, c850, c851⟩ := hr827
        obtain ⟨v852, hv852⟩ : ∃ v, gI g0 231 13 = v := ⟨_, rfl⟩
        have tv852 := congrArg Int32.toInt hv852
        have x853 := HI.eqI hI592 (p := 231) (b := 13) ((((hF593.1 231 13 mf_X11_isSign_231_231_13).trans (hF571.1 231 13 mf_X11_isWord_231_231_13)).trans hv852))
        obtain ⟨v855, hv855⟩ : ∃ v, gI g823 231 13 = v := ⟨_, rfl⟩
        have tv855 := congrArg Int32.toInt hv855
        unfold MUSTP at c851
        rw [TM.c (((hF593.2.1 236 ma_X11_isSign_231_236).trans (hF571.2.1 236 ma_X11_isWord_231_236))), nM.c (((hF593.1 231 8 mf_X11_isSign_231_231_8).trans (hF571.1 231 8 mf_X11_isWord_231_231_8))), pI.c (b := 14) (((hF593.1 231 14 mf_X11_isSign_231_231_14).trans (hF571.1 231 14 mf_X11_isWord_231_231_14))), pI.c (b := 13) (((hF593.1 231 13 mf_X11_isSign_231_231_13).trans (hF571.1 231 13 mf_X11_isWord_231_231_13))), pI.c (b := 10) (((hF593.1 231 10 mf_X11_isSign_231_231_10).trans (hF571.1 231 10 mf_X11_isWord_231_231_10))), pI.c (b := 9) (((hF593.1 231 9 mf_X11_isSign_231_231_9).trans (hF571.1 231 9 mf_X11_isWord_231_231_9)))] at c851
        have mu857 : MUSTP g0 g823 1 := c851
        clear c851
        have hK858 := mu857.1
        refine At.enter rfl ?_
        refine r_aload_n rfl ?_
        refine q_getI (Sh.int hI824.1 kx_231 rfl) v842 hv842 ?_
        refine r_ifs 25 rfl (fun c859 => ?_) (fun c859 => ?_)
        · have c859_ : v842.toInt ≠ 0 := en_k_ne_t c859
          clear c850
          obtain ⟨i860, i861⟩ := MUSTP.y mu857 (by omega) (by omega)
          refine At.enter rfl ?_
          refine q_vret ?_
          refine At.enter rfl ?_
          refine r_iconst 0 rfl ?_
          refine r_ireti ?_
          obtain ⟨v866, hv866⟩ : ∃ v, gJ g823 231 12 = v := ⟨_, rfl⟩
          have x867 := HI.eqJ hI824 (b := 12) (hv866)
          have x869 := HI.eqI hI824 (p := 231) (b := 17) ((((hF825.1 231 17 mf_X11_must_231_231_17).trans ((hF593.1 231 17 mf_X11_isSign_231_231_17).trans (hF571.1 231 17 mf_X11_isWord_231_231_17))).trans hv7))
          have x870 := HI.eqI hI824 (p := 231) (b := 23) ((((hF825.1 231 23 mf_X11_must_231_231_23).trans ((hF593.1 231 23 mf_X11_isSign_231_231_23).trans (hF571.1 231 23 mf_X11_isWord_231_231_23))).trans hv8))
          have zv872 : (0 : Int32).toInt = 0 := rfl
          have pg873 := PG.cong (hP.1 (by decide)) hI824 (((hF825.2.1 238 ma_X11_must_231_238).trans ((hF593.2.1 238 ma_X11_isSign_231_238).trans (hF571.2.1 238 ma_X11_isWord_231_238)))) (((hF825.2.1 239 ma_X11_must_231_239).trans ((hF593.2.1 239 ma_X11_isSign_231_239).trans (hF571.2.1 239 ma_X11_isWord_231_239)))) (((hF825.2.1 240 ma_X11_must_231_240).trans ((hF593.2.1 240 ma_X11_isSign_231_240).trans (hF571.2.1 240 ma_X11_isWord_231_240)))) (((hF825.2.1 241 ma_X11_must_231_241).trans ((hF593.2.1 241 ma_X11_isSign_231_241).trans (hF571.2.1 241 ma_X11_isWord_231_241)))) (((hF825.1 231 17 mf_X11_must_231_231_17).trans ((hF593.1 231 17 mf_X11_isSign_231_231_17).trans (hF571.1 231 17 mf_X11_isWord_231_231_17)))) (((hF825.1 231 23 mf_X11_must_231_231_23).trans ((hF593.1 231 23 mf_X11_isSign_231_231_23).trans (hF571.1 231 23 mf_X11_isWord_231_231_23))))
          have nsq874 := NSQ.cong (hP.2.2.1 (by decide) (by decide)) hI824 (((hF825.2.1 240 ma_X11_must_231_240).trans ((hF593.2.1 240 ma_X11_isSign_231_240).trans (hF571.2.1 240 ma_X11_isWord_231_240)))) (((hF825.1 231 23 mf_X11_must_231_231_23).trans ((hF593.1 231 23 mf_X11_isSign_231_231_23).trans (hF571.1 231 23 mf_X11_isWord_231_231_23))))
          obtain ⟨v878, hv878⟩ : ∃ v, gI g0 231 15 = v := ⟨_, rfl⟩
          have rv878 := RgF.at hI0.2.1 (p := 231) (b := 15) rfl
          rw [hv878] at rv878
          dsimp only at rv878
          have tv878 := congrArg Int32.toInt hv878
          have x879 := HI.eqI hI824 (p := 231) (b := 15) ((((hF825.1 231 15 mf_X11_must_231_231_15).trans ((hF593.1 231 15 mf_X11_isSign_231_231_15).trans (hF571.1 231 15 mf_X11_isWord_231_231_15))).trans hv878))
          obtain ⟨v880, hv880⟩ : ∃ v, gI g0 231 20 = v := ⟨_, rfl⟩
          have tv880 := congrArg Int32.toInt hv880
          have x881 := HI.eqI hI824 (p := 231) (b := 20) ((((hF825.1 231 20 mf_X11_must_231_231_20).trans ((hF593.1 231 20 mf_X11_isSign_231_231_20).trans (hF571.1 231 20 mf_X11_isWord_231_231_20))).trans hv880))
          have x883 := HI.eqI hI824 (p := 231) (b := 24) ((((hF825.1 231 24 mf_X11_must_231_231_24).trans ((hF593.1 231 24 mf_X11_isSign_231_231_24).trans (hF571.1 231 24 mf_X11_isWord_231_231_24))).trans hv676))
          have x890 := HI.eqI hI0 (p := 231) (b := 24) (hv676)
          have mf891 := mu857.2.2.1 (show (gI g0 231 14).toInt = 0 from by omega) (by omega)
          have y892 : (gI _ 231 14).toInt ≠ 0 := mf891.1
          have y893 : (gI _ 231 13).toInt = (gI g0 231 9).toInt := mf891.2
          first | (clear x579 x580 x581 hr573 hr595 c587_ zv590 zv872; exact ⟨_, rfl, hI824, hF828, _, rfl, by decide, ⟨by omega, by omega, by omega, by omega, c849, by omega, by omega, (fun hbad => ⟨by omega, (PT.mk (fun _ => pg873) (fun h => by first | exact absurd h (by decide) | (exfalso; omega)) (fun _ _ => nsq874) (fun h => by first | exact absurd h (by decide) | (exfalso; omega)))⟩), (fun hbad => by omega), hK858, (fun c0 b hC h => M.rndF h (TKM.some hK).choose_spec (by omega) (show 8 ≤ (gI g0 231 24).toInt from by omega) (fun _ => ⟨show (gI _ 231 14).toInt ≠ 0 from by omega, show (gI _ 231 13).toInt = (gI g0 231 9).toInt from by omega⟩) (fun z => absurd (show (gI g0 231 14).toInt = 0 from (by first | exact h2 | omega)) z) _), (fun h14 c0 b K hC h => absurd (show (gI _ 231 14).toInt = 0 from h14) (by omega))⟩⟩) | exact ⟨_, rfl, hI824, hF828, _, rfl, by decide, ⟨by omega, by omega, by omega, by omega, c849, by omega, by omega, (fun hbad => ⟨by omega, (PT.mk (fun _ => pg873) (fun h => by first | exact absurd h (by decide) | (exfalso; omega)) (fun _ _ => nsq874) (fun h => by first | exact absurd h (by decide) | (exfalso; omega)))⟩), (fun hbad => by omega), hK858, (fun c0 b hC h => M.rndF h (TKM.some hK).choose_spec (by omega) (show 8 ≤ (gI g0 231 24).toInt from by omega) (fun _ => ⟨show (gI _ 231 14).toInt ≠ 0 from by omega, show (gI _ 231 13).toInt = (gI g0 231 9).toInt from by omega⟩) (fun z => absurd (show (gI g0 231 14).toInt = 0 from (by first | exact h2 | omega)) z) _), (fun h14 c0 b K hC h => absurd (show (gI _ 231 14).toInt = 0 from h14) (by omega))⟩⟩
        · have c859_ : v842.toInt = 0 := en_k_ne_f c859
          obtain ⟨i894, i895, i896⟩ := c850 (by omega)
          obtain ⟨i897, i898⟩ := MUSTP.z mu857 (by omega) (by omega)
          refine At.enter rfl ?_
          refine r_aload_n rfl ?_
          refine r_dup rfl ?_
          refine q_getI (Sh.int hI824.1 kx_231 rfl) v676 (((hF825.1 231 24 mf_X11_must_231_231_24).trans ((hF593.1 231 24 mf_X11_isSign_231_231_24).trans (hF571.1 231 24 mf_X11_isWord_231_231_24))).trans hv676) ?_
          refine r_iconst 1 rfl ?_
          have bv899 := q_bnd v676
          refine q_iadd (v676.toInt + 1) rfl (by omega) (fun v900 hv900 => ?_)
          refine q_putI (Sh.int hI824.1 kx_231 rfl) rfl ?_
          have hI901 := HI.wI0 hI824 kx_231 rfl (p := 231) (b := 24) (v := v900) rfl
          have hF902 := Fr.wI (p := 231) (b := 24) (v := v900) hF828 rfl
          refine r_aload_n rfl ?_
          refine r_iload_n rfl ?_
          refine r_iconst 0 rfl ?_
          have x903 := HI.eqI hI901 (p := 231) (b := 23) ((((gI_sI_ne (by decide)).trans ((hF825.1 231 23 mf_X11_must_231_231_23).trans ((hF593.1 231 23 mf_X11_isSign_231_231_23).trans (hF571.1 231 23 mf_X11_isWord_231_231_23)))).trans hv8))
          have zv904 : (30 : Int32).toInt = 30 := rfl
          have zv905 : (0 : Int32).toInt = 0 := rfl
          refine r_callV 41 rfl [.ref 231, .int 30, .int 0] [] (Nat.le_of_ble_eq_true rfl) rfl (T_X11_push_231 _ hI901 30 (by decide) 0 (by decide) (by omega)) ?_
          rintro _ _ ⟨g906, rfl, hI907, hF908, rfl, hr910⟩
          refine At.stn ?_
          have hF911 := Fr.tr hF902 hF908 rfl rfl
          have x914 := HI.eqI hI901 (p := 231) (b := 17) ((((gI_sI_ne (by decide)).trans ((hF825.1 231 17 mf_X11_must_231_231_17).trans ((hF593.1 231 17 mf_X11_isSign_231_231_17).trans (hF571.1 231 17 mf_X11_isWord_231_231_17)))).trans hv7))
          have x916 := HI.eqI hI907 (p := 231) (b := 17) ((((hF908.1 231 17 mf_X11_push_231_231_17).trans ((gI_sI_ne (by decide)).trans ((hF825.1 231 17 mf_X11_must_231_231_17).trans ((hF593.1 231 17 mf_X11_isSign_231_231_17).trans (hF571.1 231 17 mf_X11_isWord_231_231_17))))).trans hv7))
          obtain ⟨v917, hv917⟩ : ∃ v, gI g906 231 23 = v := ⟨_, rfl⟩
          have rv917 := RgF.at hI907.2.1 (p := 231) (b := 23) rfl
          rw [hv917] at rv917
          dsimp only at rv917
          have tv917 := congrArg Int32.toInt hv917
          have y919 : (gI _ 231 23).toInt = (gI _ 231 23).toInt + 1 := hr910.1
          have pg920 := PG.cong (hP.1 (by decide)) hI901 (((gA_sI).trans ((hF825.2.1 238 ma_X11_must_231_238).trans ((hF593.2.1 238 ma_X11_isSign_231_238).trans (hF571.2.1 238 ma_X11_isWord_231_238))))) (((gA_sI).trans ((hF825.2.1 239 ma_X11_must_231_239).trans ((hF593.2.1 239 ma_X11_isSign_231_239).trans (hF571.2.1 239 ma_X11_isWord_231_239))))) (((gA_sI).trans ((hF825.2.1 240 ma_X11_must_231_240).trans ((hF593.2.1 240 ma_X11_isSign_231_240).trans (hF571.2.1 240 ma_X11_isWord_231_240))))) (((gA_sI).trans ((hF825.2.1 241 ma_X11_must_231_241).trans ((hF593.2.1 241 ma_X11_isSign_231_241).trans (hF571.2.1 241 ma_X11_isWord_231_241))))) (((gI_sI_ne (by decide)).trans ((hF825.1 231 17 mf_X11_must_231_231_17).trans ((hF593.1 231 17 mf_X11_isSign_231_231_17).trans (hF571.1 231 17 mf_X11_isWord_231_231_17))))) (((gI_sI_ne (by decide)).trans ((hF825.1 231 23 mf_X11_must_231_231_23).trans ((hF593.1 231 23 mf_X11_isSign_231_231_23).trans (hF571.1 231 23 mf_X11_isWord_231_231_23)))))
          have nsq922 := NSQ.cong (hP.2.2.1 (by decide) (by decide)) hI901 (((gA_sI).trans ((hF825.2.1 240 ma_X11_must_231_240).trans ((hF593.2.1 240 ma_X11_isSign_231_240).trans (hF571.2.1 240 ma_X11_isWord_231_240))))) (((gI_sI_ne (by decide)).trans ((hF825.1 231 23 mf_X11_must_231_231_23).trans ((hF593.1 231 23 mf_X11_isSign_231_231_23).trans (hF571.1 231 23 mf_X11_isWord_231_231_23)))))
          have pg921 := PG.push (e' := 0) pg920 hr910 (hF908.2.1 238 ma_X11_push_231_238) (hF908.2.1 239 ma_X11_push_231_239) (hF908.1 231 17 mf_X11_push_231_231_17) ⟨by omega, by omega⟩ (Or.inr nsq922) (by omega) (by omega)
          have nsq923 := NSQ.push nsq922 hr910 (by omega)
          refine At.enter rfl ?_
          refine q_vret ?_
          refine At.enter rfl ?_
          refine r_iconst 0 rfl ?_
          refine r_ireti ?_
          have x924 := HI.eqI hI907 (p := 231) (b := 8) ((((hF908.1 231 8 mf_X11_push_231_231_8).trans ((gI_sI_ne (by decide)).trans ((hF825.1 231 8 mf_X11_must_231_231_8).trans ((hF593.1 231 8 mf_X11_isSign_231_231_8).trans (hF571.1 231 8 mf_X11_isWord_231_231_8))))).trans hv1))
          have x925 := HI.eqI hI907 (p := 231) (b := 9) ((((hF908.1 231 9 mf_X11_push_231_231_9).trans (gI_sI_ne (by decide))).trans hv836))
          have x926 := HI.eqI hI907 (p := 231) (b := 10) ((((hF908.1 231 10 mf_X11_push_231_231_10).trans (gI_sI_ne (by decide))).trans hv838))
          have x927 := HI.eqI hI907 (p := 231) (b := 11) ((((hF908.1 231 11 mf_X11_push_231_231_11).trans (gI_sI_ne (by decide))).trans hv840))
          obtain ⟨v928, hv928⟩ : ∃ v, gJ g823 231 12 = v := ⟨_, rfl⟩
          have x929 := HI.eqJ hI907 (b := 12) ((((hF908.2.2 231 12 mf_X11_push_231_231_12).trans (gJ_sI_ne (by decide))).trans hv928))
          have x930 := HI.eqI hI907 (p := 231) (b := 14) ((((hF908.1 231 14 mf_X11_push_231_231_14).trans (gI_sI_ne (by decide))).trans hv842))
          have w26935 := W26.cong c849 hI907 (((hF908.1 231 9 mf_X11_push_231_231_9).trans (gI_sI_ne (by decide)))) (((hF908.1 231 10 mf_X11_push_231_231_10).trans (gI_sI_ne (by decide)))) (((hF908.1 231 11 mf_X11_push_231_231_11).trans (gI_sI_ne (by decide)))) (((hF908.2.2 231 12 mf_X11_push_231_231_12).trans (gJ_sI_ne (by decide))))
          have x937 := HI.eqI hI907 (p := 231) (b := 13) ((((hF908.1 231 13 mf_X11_push_231_231_13).trans (gI_sI_ne (by decide))).trans hv855))
          obtain ⟨v939, hv939⟩ : ∃ v, gI g0 231 15 = v := ⟨_, rfl⟩
          have rv939 := RgF.at hI0.2.1 (p := 231) (b := 15) rfl
          rw [hv939] at rv939
          dsimp only at rv939
          have tv939 := congrArg Int32.toInt hv939
          have x940 := HI.eqI hI907 (p := 231) (b := 15) ((((hF908.1 231 15 mf_X11_push_231_231_15).trans ((gI_sI_ne (by decide)).trans ((hF825.1 231 15 mf_X11_must_231_231_15).trans ((hF593.1 231 15 mf_X11_isSign_231_231_15).trans (hF571.1 231 15 mf_X11_isWord_231_231_15))))).trans hv939))
          obtain ⟨v941, hv941⟩ : ∃ v, gI g0 231 20 = v := ⟨_, rfl⟩
          have tv941 := congrArg Int32.toInt hv941
          have x942 := HI.eqI hI907 (p := 231) (b := 20) ((((hF908.1 231 20 mf_X11_push_231_231_20).trans ((gI_sI_ne (by decide)).trans ((hF825.1 231 20 mf_X11_must_231_231_20).trans ((hF593.1 231 20 mf_X11_isSign_231_231_20).trans (hF571.1 231 20 mf_X11_isWord_231_231_20))))).trans hv941))
          have x944 := HI.eqI hI907 (p := 231) (b := 24) (((hF908.1 231 24 mf_X11_push_231_231_24).trans (gI_sI_eq hI824.1 kx_231 rfl _)))
          have x951 := HI.eqI hI0 (p := 231) (b := 24) (hv676)
          have y956 : (gI g823 231 13).toInt = (gI g0 231 13).toInt := (mu857.2.1 (show (gI g0 231 14).toInt = 0 from by omega) (by omega)).2.1
          first | (clear x579 x580 x581 hr573 hr595 c587_ zv590; exact ⟨_, rfl, hI907, hF911, _, rfl, by decide, ⟨by omega, by omega, by omega, by omega, w26935, by omega, by omega, (fun hbad => ⟨by omega, (PT.mk (fun _ => pg921) (fun h => by first | exact absurd h (by decide) | (exfalso; omega)) (fun _ _ => nsq923) (fun h => by first | exact absurd h (by decide) | (exfalso; omega)))⟩), (fun hbad => by omega), (TKM.c hK858 (((hF908.2.1 236 ma_X11_push_231_236).trans (gA_sI))) (((hF908.1 231 8 mf_X11_push_231_231_8).trans (gI_sI_ne (by decide)))) (((hF908.1 231 9 mf_X11_push_231_231_9).trans (gI_sI_ne (by decide)))) (((hF908.1 231 10 mf_X11_push_231_231_10).trans (gI_sI_ne (by decide)))) (((hF908.1 231 11 mf_X11_push_231_231_11).trans (gI_sI_ne (by decide)))) (((hF908.2.2 231 12 mf_X11_push_231_231_12).trans (gJ_sI_ne (by decide))))), (fun c0 b hC h => M.rnd h (by rw [pI.c (((hF908.1 231 9 mf_X11_push_231_231_9).trans (gI_sI_ne (by decide))))]; exact (MUSTP.tok hK mu857 (by omega) (by omega))) (by omega) (show (gI g0 231 24).toInt < 8 from by omega) (PUSH.fr2 hr910 (((gA_sI).trans ((hF825.2.1 240 ma_X11_must_231_240).trans ((hF593.2.1 240 ma_X11_isSign_231_240).trans (hF571.2.1 240 ma_X11_isWord_231_240))))) (((gA_sI).trans ((hF825.2.1 241 ma_X11_must_231_241).trans ((hF593.2.1 241 ma_X11_isSign_231_241).trans (hF571.2.1 241 ma_X11_isWord_231_241))))) (((gI_sI_ne (by decide)).trans ((hF825.1 231 23 mf_X11_must_231_231_23).trans ((hF593.1 231 23 mf_X11_isSign_231_231_23).trans (hF571.1 231 23 mf_X11_isWord_231_231_23))))) rfl rfl rfl) rfl (show (gI _ 231 24).toInt = (gI g0 231 24).toInt + 1 from by omega) (show (gI _ 231 20).toInt = (gI g0 231 20).toInt from (by first | exact x942.trans tv941.symm | omega)) (show (gI _ 231 15).toInt = (gI g0 231 15).toInt from (by first | exact x940.trans tv939.symm | omega)) (fun _ => ⟨show (gI _ 231 14).toInt = 0 from by omega, show (gI _ 231 13).toInt = (gI g0 231 13).toInt from by omega⟩) (fun z => absurd (show (gI g0 231 14).toInt = 0 from (by first | exact h2 | omega)) z)), (fun h14 c0 b K hC h => MG_rnd h (by rw [pI.c (((hF908.1 231 9 mf_X11_push_231_231_9).trans (gI_sI_ne (by decide))))]; exact (MUSTP.tok hK mu857 (by omega) (by omega))) (by omega) (PUSH.fr2 hr910 (((gA_sI).trans ((hF825.2.1 240 ma_X11_must_231_240).trans ((hF593.2.1 240 ma_X11_isSign_231_240).trans (hF571.2.1 240 ma_X11_isWord_231_240))))) (((gA_sI).trans ((hF825.2.1 241 ma_X11_must_231_241).trans ((hF593.2.1 241 ma_X11_isSign_231_241).trans (hF571.2.1 241 ma_X11_isWord_231_241))))) (((gI_sI_ne (by decide)).trans ((hF825.1 231 23 mf_X11_must_231_231_23).trans ((hF593.1 231 23 mf_X11_isSign_231_231_23).trans (hF571.1 231 23 mf_X11_isWord_231_231_23))))) rfl rfl rfl) rfl rfl (SMG_mk (((hF908.2.1 238 ma_X11_push_231_238).trans ((gA_sI).trans ((hF825.2.1 238 ma_X11_must_231_238).trans ((hF593.2.1 238 ma_X11_isSign_231_238).trans (hF571.2.1 238 ma_X11_isWord_231_238)))))) (((hF908.2.1 239 ma_X11_push_231_239).trans ((gA_sI).trans ((hF825.2.1 239 ma_X11_must_231_239).trans ((hF593.2.1 239 ma_X11_isSign_231_239).trans (hF571.2.1 239 ma_X11_isWord_231_239)))))) (((hF908.1 231 17 mf_X11_push_231_231_17).trans ((gI_sI_ne (by decide)).trans ((hF825.1 231 17 mf_X11_must_231_231_17).trans ((hF593.1 231 17 mf_X11_isSign_231_231_17).trans (hF571.1 231 17 mf_X11_isWord_231_231_17))))))))⟩⟩) | exact ⟨_, rfl, hI907, hF911, _, rfl, by decide, ⟨by omega, by omega, by omega, by omega, w26935, by omega, by omega, (fun hbad => ⟨by omega, (PT.mk (fun _ => pg921) (fun h => by first | exact absurd h (by decide) | (exfalso; omega)) (fun _ _ => nsq923) (fun h => by first | exact absurd h (by decide) | (exfalso; omega)))⟩), (fun hbad => by omega), (TKM.c hK858 (((hF908.2.1 236 ma_X11_push_231_236).trans (gA_sI))) (((hF908.1 231 8 mf_X11_push_231_231_8).trans (gI_sI_ne (by decide)))) (((hF908.1 231 9 mf_X11_push_231_231_9).trans (gI_sI_ne (by decide)))) (((hF908.1 231 10 mf_X11_push_231_231_10).trans (gI_sI_ne (by decide)))) (((hF908.1 231 11 mf_X11_push_231_231_11).trans (gI_sI_ne (by decide)))) (((hF908.2.2 231 12 mf_X11_push_231_231_12).trans (gJ_sI_ne (by decide))))), (fun c0 b hC h => M.rnd h (by rw [pI.c (((hF908.1 231 9 mf_X11_push_231_231_9).trans (gI_sI_ne (by decide))))]; exact (MUSTP.tok hK mu857 (by omega) (by omega))) (by omega) (show (gI g0 231 24).toInt < 8 from by omega) (PUSH.fr2 hr910 (((gA_sI).trans ((hF825.2.1 240 ma_X11_must_231_240).trans ((hF593.2.1 240 ma_X11_isSign_231_240).trans (hF571.2.1 240 ma_X11_isWord_231_240))))) (((gA_sI).trans ((hF825.2.1 241 ma_X11_must_231_241).trans ((hF593.2.1 241 ma_X11_isSign_231_241).trans (hF571.2.1 241 ma_X11_isWord_231_241))))) (((gI_sI_ne (by decide)).trans ((hF825.1 231 23 mf_X11_must_231_231_23).trans ((hF593.1 231 23 mf_X11_isSign_231_231_23).trans (hF571.1 231 23 mf_X11_isWord_231_231_23))))) rfl rfl rfl) rfl (show (gI _ 231 24).toInt = (gI g0 231 24).toInt + 1 from by omega) (show (gI _ 231 20).toInt = (gI g0 231 20).toInt from (by first | exact x942.trans tv941.symm | omega)) (show (gI _ 231 15).toInt = (gI g0 231 15).toInt from (by first | exact x940.trans tv939.symm | omega)) (fun _ => ⟨show (gI _ 231 14).toInt = 0 from by omega, show (gI _ 231 13).toInt = (gI g0 231 13).toInt from by omega⟩) (fun z => absurd (show (gI g0 231 14).toInt = 0 from (by first | exact h2 | omega)) z)), (fun h14 c0 b K hC h => MG_rnd h (by rw [pI.c (((hF908.1 231 9 mf_X11_push_231_231_9).trans (gI_sI_ne (by decide))))]; exact (MUSTP.tok hK mu857 (by omega) (by omega))) (by omega) (PUSH.fr2 hr910 (((gA_sI).trans ((hF825.2.1 240 ma_X11_must_231_240).trans ((hF593.2.1 240 ma_X11_isSign_231_240).trans (hF571.2.1 240 ma_X11_isWord_231_240))))) (((gA_sI).trans ((hF825.2.1 241 ma_X11_must_231_241).trans ((hF593.2.1 241 ma_X11_isSign_231_241).trans (hF571.2.1 241 ma_X11_isWord_231_241))))) (((gI_sI_ne (by decide)).trans ((hF825.1 231 23 mf_X11_must_231_231_23).trans ((hF593.1 231 23 mf_X11_isSign_231_231_23).trans (hF571.1 231 23 mf_X11_isWord_231_231_23))))) rfl rfl rfl) rfl rfl (SMG_mk (((hF908.2.1 238 ma_X11_push_231_238).trans ((gA_sI).trans ((hF825.2.1 238 ma_X11_must_231_238).trans ((hF593.2.1 238 ma_X11_isSign_231_238).trans (hF571.2.1 238 ma_X11_isWord_231_238)))))) (((hF908.2.1 239 ma_X11_push_231_239).trans ((gA_sI).trans ((hF825.2.1 239 ma_X11_must_231_239).trans ((hF593.2.1 239 ma_X11_isSign_231_239).trans (hF571.2.1 239 ma_X11_isWord_231_239)))))) (((hF908.1 231 17 mf_X11_push_231_231_17).trans ((gI_sI_ne (by decide)).trans ((hF825.1 231 17 mf_X11_must_231_231_17).trans ((hF593.1 231 17 mf_X11_isSign_231_231_17).trans (hF571.1 231 17 mf_X11_isWord_231_231_17))))))))⟩⟩
  · have c587_ : v572.toInt ≠ 0 := en_k_eq_f c587
    have i957 := W26.two hW isw583 (by omega) (by decide)
    have i958 := BL.yes hb586 (by omega)
    refine At.enter rfl ?_
    refine r_aload_n rfl ?_
    refine r_bipush 27 rfl ?_
    refine r_iconst 0 rfl ?_
    have x959 := HI.eqI hI570 (p := 231) (b := 23) (((hF571.1 231 23 mf_X11_isWord_231_231_23).trans hv8))
    have zv960 : (27 : Int32).toInt = 27 := rfl
    have zv961 : (0 : Int32).toInt = 0 := rfl
    refine r_callV 17 rfl [.ref 231, .int 27, .int 0] [] (Nat.le_of_ble_eq_true rfl) rfl (T_X11_push_231 _ hI570 27 (by decide) 0 (by decide) (by omega)) ?_
    rintro _ _ ⟨g962, rfl, hI963, hF964, rfl, hr966⟩
    refine At.stn ?_
    have hF967 := Fr.tr hF574 hF964 rfl rfl
    have x970 := HI.eqI hI570 (p := 231) (b := 17) (((hF571.1 231 17 mf_X11_isWord_231_231_17).trans hv7))
    have x972 := HI.eqI hI963 (p := 231) (b := 17) ((((hF964.1 231 17 mf_X11_push_231_231_17).trans (hF571.1 231 17 mf_X11_isWord_231_231_17)).trans hv7))
    obtain ⟨v973, hv973⟩ : ∃ v, gI g962 231 23 = v := ⟨_, rfl⟩
    have rv973 := RgF.at hI963.2.1 (p := 231) (b := 23) rfl
    rw [hv973] at rv973
    dsimp only at rv973
    have tv973 := congrArg Int32.toInt hv973
    have y975 : (gI _ 231 23).toInt = (gI _ 231 23).toInt + 1 := hr966.1
    have pg976 := PG.cong (hP.1 (by decide)) hI570 ((hF571.2.1 238 ma_X11_isWord_231_238)) ((hF571.2.1 239 ma_X11_isWord_231_239)) ((hF571.2.1 240 ma_X11_isWord_231_240)) ((hF571.2.1 241 ma_X11_isWord_231_241)) ((hF571.1 231 17 mf_X11_isWord_231_231_17)) ((hF571.1 231 23 mf_X11_isWord_231_231_23))
    have nsq978 := NSQ.cong (hP.2.2.1 (by decide) (by decide)) hI570 ((hF571.2.1 240 ma_X11_isWord_231_240)) ((hF571.1 231 23 mf_X11_isWord_231_231_23))
    have pg977 := PG.push (e' := 0) pg976 hr966 (hF964.2.1 238 ma_X11_push_231_238) (hF964.2.1 239 ma_X11_push_231_239) (hF964.1 231 17 mf_X11_push_231_231_17) ⟨by omega, by omega⟩ (Or.inr nsq978) (by omega) (by omega)
    have nsq979 := NSQ.push nsq978 hr966 (by omega)
    refine At.enter rfl ?_
    refine r_aload_n rfl ?_
    have x980 := HI.eqI hI963 (p := 231) (b := 8) ((((hF964.1 231 8 mf_X11_push_231_231_8).trans (hF571.1 231 8 mf_X11_isWord_231_231_8)).trans hv1))
    have x981 := HI.eqI hI963 (p := 231) (b := 10) ((((hF964.1 231 10 mf_X11_push_231_231_10).trans (hF571.1 231 10 mf_X11_isWord_231_231_10)).trans hv3))
    refine r_callV 21 rfl [.ref 231] [] (Nat.le_of_ble_eq_true rfl) rfl (T_X11_next_231 _ hI963 (by omega)) ?_
    rintro _ _ ⟨g982, rfl, hI983, hF984, rfl, hr986⟩
    refine At.stn ?_
    have hF987 := Fr.tr hF967 hF984 rfl rfl
    have x990 := HI.eqI hI983 (p := 231) (b := 8) ((((hF984.1 231 8 mf_X11_next_231_231_8).trans ((hF964.1 231 8 mf_X11_push_231_231_8).trans (hF571.1 231 8 mf_X11_isWord_231_231_8))).trans hv1))
    obtain ⟨v991, hv991⟩ : ∃ v, gI g982 231 9 = v := ⟨_, rfl⟩
    have rv991 := RgF.at hI983.2.1 (p := 231) (b := 9) rfl
    rw [hv991] at rv991
    dsimp only at rv991
    have tv991 := congrArg Int32.toInt hv991
    obtain ⟨v993, hv993⟩ : ∃ v, gI g982 231 10 = v := ⟨_, rfl⟩
    have rv993 := RgF.at hI983.2.1 (p := 231) (b := 10) rfl
    rw [hv993] at rv993
    dsimp only at rv993
    have tv993 := congrArg Int32.toInt hv993
    obtain ⟨v995, hv995⟩ : ∃ v, gI g982 231 11 = v := ⟨_, rfl⟩
    have tv995 := congrArg Int32.toInt hv995
    obtain ⟨c997, c998, c999, c1000, c1001, c1002, c1003⟩ := hr986
    have tok1004_ := c1003.2
    rw [TM.c (((hF964.2.1 236 ma_X11_push_231_236).trans (hF571.2.1 236 ma_X11_isWord_231_236))), nM.c (((hF964.1 231 8 mf_X11_push_231_231_8).trans (hF571.1 231 8 mf_X11_isWord_231_231_8))), pI.c (b := 10) (((hF964.1 231 10 mf_X11_push_231_231_10).trans (hF571.1 231 10 mf_X11_isWord_231_231_10)))] at tok1004_
    have tok1004 := TKM.tok hK tok1004_
    have hK1005 := c1003.1
    refine At.enter rfl ?_
    refine r_iconst 0 rfl ?_
    refine r_ireti ?_
    obtain ⟨v1010, hv1010⟩ : ∃ v, gJ g982 231 12 = v := ⟨_, rfl⟩
    have x1011 := HI.eqJ hI983 (b := 12) (hv1010)
    have x1012 := HI.eqI hI983 (p := 231) (b := 14) ((((hF984.1 231 14 mf_X11_next_231_231_14).trans ((hF964.1 231 14 mf_X11_push_231_231_14).trans (hF571.1 231 14 mf_X11_isWord_231_231_14))).trans hv6))
    have x1013 := HI.eqI hI983 (p := 231) (b := 17) ((((hF984.1 231 17 mf_X11_next_231_231_17).trans ((hF964.1 231 17 mf_X11_push_231_231_17).trans (hF571.1 231 17 mf_X11_isWord_231_231_17))).trans hv7))
    have x1014 := HI.eqI hI983 (p := 231) (b := 23) (((hF984.1 231 23 mf_X11_next_231_231_23).trans hv973))
    have pg1017 := PG.cong pg977 hI983 ((hF984.2.1 238 ma_X11_next_231_238)) ((hF984.2.1 239 ma_X11_next_231_239)) ((hF984.2.1 240 ma_X11_next_231_240)) ((hF984.2.1 241 ma_X11_next_231_241)) ((hF984.1 231 17 mf_X11_next_231_231_17)) ((hF984.1 231 23 mf_X11_next_231_231_23))
    have nsq1018 := NSQ.cong nsq979 hI983 ((hF984.2.1 240 ma_X11_next_231_240)) ((hF984.1 231 23 mf_X11_next_231_231_23))
    obtain ⟨v1020, hv1020⟩ : ∃ v, gI g0 231 13 = v := ⟨_, rfl⟩
    have tv1020 := congrArg Int32.toInt hv1020
    have x1021 := HI.eqI hI983 (p := 231) (b := 13) ((((hF984.1 231 13 mf_X11_next_231_231_13).trans ((hF964.1 231 13 mf_X11_push_231_231_13).trans (hF571.1 231 13 mf_X11_isWord_231_231_13))).trans hv1020))
    obtain ⟨v1023, hv1023⟩ : ∃ v, gI g0 231 15 = v := ⟨_, rfl⟩
    have rv1023 := RgF.at hI0.2.1 (p := 231) (b := 15) rfl
    rw [hv1023] at rv1023
    dsimp only at rv1023
    have tv1023 := congrArg Int32.toInt hv1023
    have x1024 := HI.eqI hI983 (p := 231) (b := 15) ((((hF984.1 231 15 mf_X11_next_231_231_15).trans ((hF964.1 231 15 mf_X11_push_231_231_15).trans (hF571.1 231 15 mf_X11_isWord_231_231_15))).trans hv1023))
    obtain ⟨v1025, hv1025⟩ : ∃ v, gI g0 231 20 = v := ⟨_, rfl⟩
    have tv1025 := congrArg Int32.toInt hv1025
    have x1026 := HI.eqI hI983 (p := 231) (b := 20) ((((hF984.1 231 20 mf_X11_next_231_231_20).trans ((hF964.1 231 20 mf_X11_push_231_231_20).trans (hF571.1 231 20 mf_X11_isWord_231_231_20))).trans hv1025))
    obtain ⟨v1028, hv1028⟩ : ∃ v, gI g0 231 24 = v := ⟨_, rfl⟩
    have tv1028 := congrArg Int32.toInt hv1028
    have x1029 := HI.eqI hI983 (p := 231) (b := 24) ((((hF984.1 231 24 mf_X11_next_231_231_24).trans ((hF964.1 231 24 mf_X11_push_231_231_24).trans (hF571.1 231 24 mf_X11_isWord_231_231_24))).trans hv1028))
    exact ⟨_, rfl, hI983, hF987, _, rfl, by decide, ⟨by omega, by omega, by omega, by omega, c1002, by omega, by omega, (fun hbad => ⟨by omega, (PT.mk (fun _ => pg1017) (fun h => by first | exact absurd h (by decide) | (exfalso; omega)) (fun _ _ => nsq1018) (fun h => by first | exact absurd h (by decide) | (exfalso; omega)))⟩), (fun hbad => by omega), hK1005, (fun c0 b hC h => M.not h tok1004 (by omega) (PUSH.fr2 hr966 ((hF571.2.1 240 ma_X11_isWord_231_240)) ((hF571.2.1 241 ma_X11_isWord_231_241)) ((hF571.1 231 23 mf_X11_isWord_231_231_23)) ((hF984.2.1 240 ma_X11_next_231_240)) ((hF984.2.1 241 ma_X11_next_231_241)) ((hF984.1 231 23 mf_X11_next_231_231_23))) rfl (show (gI _ 231 24).toInt = (gI g0 231 24).toInt from (by first | exact x1029.trans tv1028.symm | omega)) (show (gI _ 231 20).toInt = (gI g0 231 20).toInt from (by first | exact x1026.trans tv1025.symm | omega)) (show (gI _ 231 15).toInt = (gI g0 231 15).toInt from (by first | exact x1024.trans tv1023.symm | omega)) (fun _ => ⟨show (gI _ 231 14).toInt = 0 from by omega, show (gI _ 231 13).toInt = (gI g0 231 13).toInt from (by first | exact x1021.trans tv1020.symm | omega)⟩) (fun z => absurd (show (gI g0 231 14).toInt = 0 from (by first | exact h2 | omega)) z)), (fun h14 c0 b K hC h => MG_not h tok1004 (by omega) (PUSH.fr2 hr966 ((hF571.2.1 240 ma_X11_isWord_231_240)) ((hF571.2.1 241 ma_X11_isWord_231_241)) ((hF571.1 231 23 mf_X11_isWord_231_231_23)) ((hF984.2.1 240 ma_X11_next_231_240)) ((hF984.2.1 241 ma_X11_next_231_241)) ((hF984.1 231 23 mf_X11_next_231_231_23))) rfl rfl (SMG_mk (((hF984.2.1 238 ma_X11_next_231_238).trans ((hF964.2.1 238 ma_X11_push_231_238).trans (hF571.2.1 238 ma_X11_isWord_231_238)))) (((hF984.2.1 239 ma_X11_next_231_239).trans ((hF964.2.1 239 ma_X11_push_231_239).trans (hF571.2.1 239 ma_X11_isWord_231_239)))) (((hF984.1 231 17 mf_X11_next_231_231_17).trans ((hF964.1 231 17 mf_X11_push_231_231_17).trans (hF571.1 231 17 mf_X11_isWord_231_231_17))))))⟩⟩
