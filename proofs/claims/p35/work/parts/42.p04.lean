def F_X11_readPart_231 : List (Nat × Nat) := [(231, 9), (231, 10), (231, 11), (231, 12), (231, 13), (231, 14), (231, 17), (231, 20), (231, 23), (231, 24)]
def A_X11_readPart_231 : List Nat := [238, 239, 240, 241]
set_option maxRecDepth 100000 in
set_option maxHeartbeats 4000000 in
theorem T_X11_readPart_231 (d : Nat) {N : Nat} {g0 : List en_E} (hI0 : HI g0) (b : Int) (o0 : Int → Int) (a0 : Int → Int) (h1 : ((gI g0 231 9).toInt ≤ (gI g0 231 10).toInt ∧ (gI g0 231 10).toInt ≤ (gI g0 231 8).toInt ∧ 0 ≤ (gI g0 231 11).toInt ∧ (gI g0 231 11).toInt ≤ 3 * ((gI g0 231 10).toInt - (gI g0 231 9).toInt))) (h2 : (gI g0 231 14).toInt = 0) (h3 : (gI g0 231 17).toInt + (gI g0 231 23).toInt ≤ (gI g0 231 9).toInt) (hW : W26 g0) (hP : PT g0 b 1 o0 a0) : Ev (d + 5) 204 [.ref 231] (g0, N) (fun w h' => ∃ g', h' = (g', N) ∧ HI g' ∧ Fr F_X11_readPart_231 A_X11_readPart_231 g0 g' ∧ ∃ r : Int32, w = some (.int r) ∧ (1 ≤ r.toInt ∧ r.toInt ≤ 3) ∧ ((gI g' 231 9).toInt ≤ (gI g' 231 10).toInt ∧ (gI g' 231 10).toInt ≤ (gI g' 231 8).toInt ∧ 0 ≤ (gI g' 231 11).toInt ∧ (gI g' 231 11).toInt ≤ 3 * ((gI g' 231 10).toInt - (gI g' 231 9).toInt) ∧ W26 g' ∧ (gI g' 231 17).toInt + (gI g' 231 23).toInt ≤ 400 ∧ (gI g0 231 9).toInt ≤ (gI g' 231 9).toInt ∧ TURN g' b r.toInt o0 a0 ∧ PRG (gI g' 231 14).toInt (gI g0 231 9).toInt (gI g' 231 9).toInt r.toInt 4)) := by
  have hF0 : Fr F_X11_readPart_231 A_X11_readPart_231 g0 g0 := Fr.rf
  obtain ⟨v1, hv1⟩ : ∃ v, gI g0 231 8 = v := ⟨_, rfl⟩
  have rv1 := RgF.at hI0.2.1 (p := 231) (b := 8) rfl
  rw [hv1] at rv1
  dsimp only at rv1
  have tv1 := congrArg Int32.toInt hv1
  obtain ⟨v2, hv2⟩ : ∃ v, gI g0 231 9 = v := ⟨_, rfl⟩
  have rv2 := RgF.at hI0.2.1 (p := 231) (b := 9) rfl
  rw [hv2] at rv2
  dsimp only at rv2
  have tv2 := congrArg Int32.toInt hv2
  obtain ⟨v3, hv3⟩ : ∃ v, gI g0 231 10 = v := ⟨_, rfl⟩
  have rv3 := RgF.at hI0.2.1 (p := 231) (b := 10) rfl
  rw [hv3] at rv3
  dsimp only at rv3
  have tv3 := congrArg Int32.toInt hv3
  obtain ⟨v4, hv4⟩ : ∃ v, gI g0 231 11 = v := ⟨_, rfl⟩
  have tv4 := congrArg Int32.toInt hv4
  obtain ⟨v5, hv5⟩ : ∃ v, gJ g0 231 12 = v := ⟨_, rfl⟩
  have tv5 := congrArg Int64.toInt hv5
  obtain ⟨v6, hv6⟩ : ∃ v, gI g0 231 14 = v := ⟨_, rfl⟩
  have tv6 := congrArg Int32.toInt hv6
  obtain ⟨v7, hv7⟩ : ∃ v, gI g0 231 17 = v := ⟨_, rfl⟩
  have rv7 := RgF.at hI0.2.1 (p := 231) (b := 17) rfl
  rw [hv7] at rv7
  dsimp only at rv7
  have tv7 := congrArg Int32.toInt hv7
  obtain ⟨v8, hv8⟩ : ∃ v, gI g0 231 23 = v := ⟨_, rfl⟩
  have rv8 := RgF.at hI0.2.1 (p := 231) (b := 23) rfl
  rw [hv8] at rv8
  dsimp only at rv8
  have tv8 := congrArg Int32.toInt hv8
  refine Ev.mk rfl rfl ⟨Nat.le_of_ble_eq_true rfl, Or.inr (q_rc hI0.1 kx_231 rfl)⟩ ?_
  show At _ none _ _ (0, [(0, .ref 231)], [], (_, _)) _
  refine At.enter rfl ?_
  refine r_aload_n rfl ?_
  refine r_bipush 91 rfl ?_
  have x1491 := HI.eqI hI0 (p := 231) (b := 11) (hv4)
  have zv1492 : (91 : Int32).toInt = 91 := rfl
  refine r_callV 6 rfl [.ref 231, .int 91] [] (Nat.le_of_ble_eq_true rfl) rfl (T_X11_isSign_231 _ hI0 91 (by omega)) ?_
  rintro _ _ ⟨g1493, rfl, hI1494, hF1495, v1496, rfl, hr1497⟩
  refine At.sti ?_
  have hF1498 := Fr.tr hF0 hF1495 rfl rfl
  have zv1499 : (91 : Int32).toInt = 91 := rfl
  have x1500 := HI.eqI hI0 (p := 231) (b := 11) (hv4)
  have x1501 := HI.eqI hI1494 (p := 231) (b := 11) (((hF1495.1 231 11 (by decide)).trans hv4))
  refine At.enter rfl ?_
  refine r_ifs 9 rfl (fun c1502 => ?_) (fun c1502 => ?_)
  · have c1502_ : v1496.toInt = 0 := en_k_eq_t c1502
    refine At.enter rfl ?_
    refine r_aload_n rfl ?_
    have x1503 := HI.eqI hI1494 (p := 231) (b := 11) (((hF1495.1 231 11 (by decide)).trans hv4))
    refine r_callV 21 rfl [.ref 231] [] (Nat.le_of_ble_eq_true rfl) rfl (T_X11_partAt_231 _ hI1494 (by omega)) ?_
    rintro _ _ ⟨g1504, rfl, hI1505, hF1506, v1507, rfl, hr1508⟩
    refine At.sti ?_
    have hF1509 := Fr.tr hF1498 hF1506 rfl rfl
    have x1510 := HI.eqI hI1494 (p := 231) (b := 11) (((hF1495.1 231 11 (by decide)).trans hv4))
    have x1511 := HI.eqI hI1505 (p := 231) (b := 11) ((((hF1506.1 231 11 (by decide)).trans (hF1495.1 231 11 (by decide))).trans hv4))
    refine At.enter rfl ?_
    refine r_istore_n ([(1, .int v1507), (0, .ref 231)]) rfl ?_
    refine r_aload_n rfl ?_
    refine q_getI (Sh.int hI1505.1 kx_231 rfl) v4 (((hF1506.1 231 11 (by decide)).trans (hF1495.1 231 11 (by decide))).trans hv4) ?_
    refine r_iconst 2 rfl ?_
    refine r_ics 30 rfl (fun c1512 => ?_) (fun c1512 => ?_)
    · have c1512_ : v4.toInt ≠ 2 := en_i_ne_t c1512
      refine At.enter rfl ?_
      refine r_iconst 0 rfl ?_
      refine Ar.fall 46 rfl ?_
      refine At.enter rfl ?_
      refine r_istore_n ([(2, .int 0), (1, .int v1507), (0, .ref 231)]) rfl ?_
      refine r_aload_n rfl ?_
      refine r_iload_n rfl ?_
      refine r_iconst (-1) rfl ?_
      refine r_ics 53 rfl (fun c1513 => ?_) (fun c1513 => ?_)
      · have c1513_ : v1507.toInt ≠ (-1) := en_i_ne_t c1513
        refine At.enter rfl ?_
        refine r_iconst 1 rfl ?_
        refine r_goto ?_
        refine At.enter rfl ?_
        refine r_iload_n rfl ?_
        refine r_iconst (-1) rfl ?_
        refine r_ics 67 rfl (fun c1514 => ?_) (fun c1514 => ?_)
        · have c1514_ : v1507.toInt ≠ (-1) := en_i_ne_t c1514
          refine At.enter rfl ?_
          refine r_iload_n rfl ?_
          refine Ar.fall 72 rfl ?_
          refine At.enter rfl ?_
          refine r_iload_n rfl ?_
          refine r_ift (by decide) ?_
          refine At.enter rfl ?_
          refine r_iconst 0 rfl ?_
          refine Ar.fall 85 rfl ?_
          refine At.enter rfl ?_
          refine q_inlV 88 rfl [.ref 231, .int 1, .int v1507, .int 0] [] (Nat.le_of_ble_eq_true rfl) rfl ?_
          refine Ev.mk rfl rfl ⟨Nat.le_of_ble_eq_true rfl, Or.inr (q_rc hI1505.1 kx_231 rfl)⟩ ?_
          show At _ none _ _ (0, [(0, .ref 231), (1, .int 1), (2, .int v1507), (3, .int 0)], [], (_, _)) _
          refine At.enter rfl ?_
          refine r_aload_n rfl ?_
          refine r_iload_n rfl ?_
          refine r_iff 5 rfl (by decide) ?_
          refine At.enter rfl ?_
          refine r_aload_n rfl ?_
          obtain ⟨v1515, hv1515⟩ : ∃ v, gI g0 231 20 = v := ⟨_, rfl⟩
          refine q_getI (Sh.int hI1505.1 kx_231 rfl) v1515 (((hF1506.1 231 20 (by decide)).trans (hF1495.1 231 20 (by decide))).trans hv1515) ?_
          refine r_bipush 50 rfl ?_
          refine r_ics 14 rfl (fun c1516 => ?_) (fun c1516 => ?_)
          · have c1516_ : v1515.toInt ≥ 50 := en_i_ge_t c1516
            refine At.enter rfl ?_
            refine r_iconst 0 rfl ?_
            refine Ar.fall 19 rfl ?_
            refine At.enter rfl ?_
            have x1517 := HI.eqI hI1505 (p := 231) (b := 8) ((((hF1506.1 231 8 (by decide)).trans (hF1495.1 231 8 (by decide))).trans hv1))
            have x1518 := HI.eqI hI1505 (p := 231) (b := 9) ((((hF1506.1 231 9 (by decide)).trans (hF1495.1 231 9 (by decide))).trans hv2))
            have x1519 := HI.eqI hI1505 (p := 231) (b := 10) ((((hF1506.1 231 10 (by decide)).trans (hF1495.1 231 10 (by decide))).trans hv3))
            have x1520 := HI.eqI hI1505 (p := 231) (b := 11) ((((hF1506.1 231 11 (by decide)).trans (hF1495.1 231 11 (by decide))).trans hv4))
            have w261521 := W26.cong hW hI1505 (((hF1506.1 231 9 (by decide)).trans (hF1495.1 231 9 (by decide)))) (((hF1506.1 231 10 (by decide)).trans (hF1495.1 231 10 (by decide)))) (((hF1506.1 231 11 (by decide)).trans (hF1495.1 231 11 (by decide)))) (((hF1506.2.2 231 12 (by decide)).trans (hF1495.2.2 231 12 (by decide))))
            have zv1522 : (0 : Int32).toInt = 0 := rfl
            refine r_callV 22 rfl [.ref 231, .int 0] [] (Nat.le_of_ble_eq_true rfl) rfl (T_X11_must_231 _ hI1505 0 (by decide) (by refine ⟨?_, ?_, ?_, ?_⟩ <;> omega) w261521) ?_
            rintro _ _ ⟨g1523, rfl, hI1524, hF1525, rfl, hr1527⟩
            refine At.stn ?_
            have hF1528 := Fr.tr hF1509 hF1525 rfl rfl
            have zv1529 : (0 : Int32).toInt = 0 := rfl
            have x1530 := HI.eqI hI1505 (p := 231) (b := 8) ((((hF1506.1 231 8 (by decide)).trans (hF1495.1 231 8 (by decide))).trans hv1))
            have x1531 := HI.eqI hI1505 (p := 231) (b := 9) ((((hF1506.1 231 9 (by decide)).trans (hF1495.1 231 9 (by decide))).trans hv2))
            have x1532 := HI.eqI hI1505 (p := 231) (b := 10) ((((hF1506.1 231 10 (by decide)).trans (hF1495.1 231 10 (by decide))).trans hv3))
            have x1533 := HI.eqI hI1505 (p := 231) (b := 11) ((((hF1506.1 231 11 (by decide)).trans (hF1495.1 231 11 (by decide))).trans hv4))
            have x1534 := HI.eqI hI1505 (p := 231) (b := 14) ((((hF1506.1 231 14 (by decide)).trans (hF1495.1 231 14 (by decide))).trans hv6))
            have x1535 := HI.eqI hI1524 (p := 231) (b := 8) ((((hF1525.1 231 8 (by decide)).trans ((hF1506.1 231 8 (by decide)).trans (hF1495.1 231 8 (by decide)))).trans hv1))
            obtain ⟨v1536, hv1536⟩ : ∃ v, gI g1523 231 9 = v := ⟨_, rfl⟩
            have rv1536 := RgF.at hI1524.2.1 (p := 231) (b := 9) rfl
            rw [hv1536] at rv1536
            dsimp only at rv1536
            have tv1536 := congrArg Int32.toInt hv1536
            have x1537 := HI.eqI hI1524 (p := 231) (b := 9) (hv1536)
            obtain ⟨v1538, hv1538⟩ : ∃ v, gI g1523 231 10 = v := ⟨_, rfl⟩
            have rv1538 := RgF.at hI1524.2.1 (p := 231) (b := 10) rfl
            rw [hv1538] at rv1538
            dsimp only at rv1538
            have tv1538 := congrArg Int32.toInt hv1538
            have x1539 := HI.eqI hI1524 (p := 231) (b := 10) (hv1538)
            obtain ⟨v1540, hv1540⟩ : ∃ v, gI g1523 231 11 = v := ⟨_, rfl⟩
            have tv1540 := congrArg Int32.toInt hv1540
            have x1541 := HI.eqI hI1524 (p := 231) (b := 11) (hv1540)
            obtain ⟨v1542, hv1542⟩ : ∃ v, gI g1523 231 14 = v := ⟨_, rfl⟩
            have tv1542 := congrArg Int32.toInt hv1542
            have x1543 := HI.eqI hI1524 (p := 231) (b := 14) (hv1542)
            obtain ⟨c1544, c1545, c1546, c1547, c1548, c1549, c1550⟩ := hr1527
            refine At.enter rfl ?_
            refine r_aload_n rfl ?_
            refine q_getI (Sh.int hI1524.1 kx_231 rfl) v1542 hv1542 ?_
            refine r_ifs 29 rfl (fun c1551 => ?_) (fun c1551 => ?_)
            · have c1551_ : v1542.toInt ≠ 0 := en_k_ne_t c1551
              clear c1550
              refine At.enter rfl ?_
              refine q_vret ?_
              refine At.enter rfl ?_
              refine r_iconst 3 rfl ?_
              refine r_ireti ?_
              have x1552 := HI.eqI hI1524 (p := 231) (b := 8) ((((hF1525.1 231 8 (by decide)).trans ((hF1506.1 231 8 (by decide)).trans (hF1495.1 231 8 (by decide)))).trans hv1))
              have x1553 := HI.eqI hI1524 (p := 231) (b := 9) (hv1536)
              have x1554 := HI.eqI hI1524 (p := 231) (b := 10) (hv1538)
              have x1555 := HI.eqI hI1524 (p := 231) (b := 11) (hv1540)
              obtain ⟨v1556, hv1556⟩ : ∃ v, gJ g1523 231 12 = v := ⟨_, rfl⟩
              have x1557 := HI.eqJ hI1524 (b := 12) (hv1556)
              have x1558 := HI.eqI hI1524 (p := 231) (b := 14) (hv1542)
              have x1559 := HI.eqI hI1524 (p := 231) (b := 17) ((((hF1525.1 231 17 (by decide)).trans ((hF1506.1 231 17 (by decide)).trans (hF1495.1 231 17 (by decide)))).trans hv7))
              have x1560 := HI.eqI hI1524 (p := 231) (b := 23) ((((hF1525.1 231 23 (by decide)).trans ((hF1506.1 231 23 (by decide)).trans (hF1495.1 231 23 (by decide)))).trans hv8))
              have x1561 := HI.eqI hI0 (p := 231) (b := 9) (hv2)
              have zv1562 : (3 : Int32).toInt = 3 := rfl
              exact ⟨_, rfl, hI1524, hF1528, _, rfl, by decide, ⟨by omega, by omega, by omega, by omega, c1549, by omega, by omega, (fun hbad => ⟨by omega, (PT.mk (fun h => False.elim (by omega)) (fun h => False.elim (by omega)) (fun h h9 => False.elim (by omega)) (fun h => False.elim (by omega)))⟩), (fun hbad => by omega)⟩⟩
            · have c1551_ : v1542.toInt = 0 := en_k_ne_f c1551
              obtain ⟨i1563, i1564, i1565⟩ := c1550 (by omega)
              refine At.enter rfl ?_
              refine r_aload_n rfl ?_
              refine r_iload_n rfl ?_
              refine r_iload_n rfl ?_
              have x1566 := HI.eqI hI1524 (p := 231) (b := 17) ((((hF1525.1 231 17 (by decide)).trans ((hF1506.1 231 17 (by decide)).trans (hF1495.1 231 17 (by decide)))).trans hv7))
              have zv1567 : (0 : Int32).toInt = 0 := rfl
              refine r_callV 35 rfl [.ref 231, .int v1507, .int 0] [] (Nat.le_of_ble_eq_true rfl) rfl (T_X11_emit_231 _ hI1524 v1507 0 (by omega)) ?_
              rintro _ _ ⟨g1568, rfl, hI1569, hF1570, rfl, hr1572⟩
              refine At.stn ?_
              have hF1573 := Fr.tr hF1528 hF1570 rfl rfl
              have zv1574 : (0 : Int32).toInt = 0 := rfl
              have x1575 := HI.eqI hI1524 (p := 231) (b := 17) ((((hF1525.1 231 17 (by decide)).trans ((hF1506.1 231 17 (by decide)).trans (hF1495.1 231 17 (by decide)))).trans hv7))
              have x1576 := HI.eqI hI1524 (p := 231) (b := 23) ((((hF1525.1 231 23 (by decide)).trans ((hF1506.1 231 23 (by decide)).trans (hF1495.1 231 23 (by decide)))).trans hv8))
              obtain ⟨v1577, hv1577⟩ : ∃ v, gI g1568 231 17 = v := ⟨_, rfl⟩
              have rv1577 := RgF.at hI1569.2.1 (p := 231) (b := 17) rfl
              rw [hv1577] at rv1577
              dsimp only at rv1577
              have tv1577 := congrArg Int32.toInt hv1577
              have x1578 := HI.eqI hI1569 (p := 231) (b := 17) (hv1577)
              have y1579 : (gI _ 231 17).toInt = (gI _ 231 17).toInt + 1 := hr1572.1
              have pg1581 := PG.cong (hP.1 (by decide)) hI1524 (((hF1525.2.1 238 (by decide)).trans ((hF1506.2.1 238 (by decide)).trans (hF1495.2.1 238 (by decide))))) (((hF1525.2.1 239 (by decide)).trans ((hF1506.2.1 239 (by decide)).trans (hF1495.2.1 239 (by decide))))) (((hF1525.2.1 240 (by decide)).trans ((hF1506.2.1 240 (by decide)).trans (hF1495.2.1 240 (by decide))))) (((hF1525.2.1 241 (by decide)).trans ((hF1506.2.1 241 (by decide)).trans (hF1495.2.1 241 (by decide))))) (((hF1525.1 231 17 (by decide)).trans ((hF1506.1 231 17 (by decide)).trans (hF1495.1 231 17 (by decide))))) (((hF1525.1 231 23 (by decide)).trans ((hF1506.1 231 23 (by decide)).trans (hF1495.1 231 23 (by decide)))))
              have pg1580 := PG.emit (e' := 1) pg1581 hr1572 (hF1570.2.1 240 (by decide)) (hF1570.2.1 241 (by decide)) (hF1570.1 231 23 (by decide)) (Or.inl ⟨by omega, by omega, by decide, by decide⟩)
              refine At.enter rfl ?_
              refine r_aload_n rfl ?_
              refine r_dup rfl ?_
              refine q_getI (Sh.int hI1569.1 kx_231 rfl) v1515 (((hF1570.1 231 20 (by decide)).trans ((hF1525.1 231 20 (by decide)).trans ((hF1506.1 231 20 (by decide)).trans (hF1495.1 231 20 (by decide))))).trans hv1515) ?_
              refine r_iconst 1 rfl ?_
              refine q_iaddO (fun v1582 _ => ?_)
              refine q_putI (Sh.int hI1569.1 kx_231 rfl) rfl ?_
              have hI1583 := HI.wI0 hI1569 kx_231 rfl (p := 231) (b := 20) (v := v1582) rfl
              have hF1584 := Fr.wI (p := 231) (b := 20) (v := v1582) hF1573 rfl
              refine Ar.fall 45 rfl ?_
              refine At.enter rfl ?_
              refine q_vret ?_
              refine At.enter rfl ?_
              refine r_iconst 3 rfl ?_
              refine r_ireti ?_
              have x1585 := HI.eqI hI1583 (p := 231) (b := 8) ((((gI_sI_ne (by decide)).trans ((hF1570.1 231 8 (by decide)).trans ((hF1525.1 231 8 (by decide)).trans ((hF1506.1 231 8 (by decide)).trans (hF1495.1 231 8 (by decide)))))).trans hv1))
              have x1586 := HI.eqI hI1583 (p := 231) (b := 9) ((((gI_sI_ne (by decide)).trans (hF1570.1 231 9 (by decide))).trans hv1536))
              have x1587 := HI.eqI hI1583 (p := 231) (b := 10) ((((gI_sI_ne (by decide)).trans (hF1570.1 231 10 (by decide))).trans hv1538))
              have x1588 := HI.eqI hI1583 (p := 231) (b := 11) ((((gI_sI_ne (by decide)).trans (hF1570.1 231 11 (by decide))).trans hv1540))
              obtain ⟨v1589, hv1589⟩ : ∃ v, gJ g1523 231 12 = v := ⟨_, rfl⟩
              have x1590 := HI.eqJ hI1583 (b := 12) ((((gJ_sI_ne (by decide)).trans (hF1570.2.2 231 12 (by decide))).trans hv1589))
              have x1591 := HI.eqI hI1583 (p := 231) (b := 14) ((((gI_sI_ne (by decide)).trans (hF1570.1 231 14 (by decide))).trans hv1542))
              have x1592 := HI.eqI hI1583 (p := 231) (b := 17) (((gI_sI_ne (by decide)).trans hv1577))
              have x1593 := HI.eqI hI1583 (p := 231) (b := 23) ((((gI_sI_ne (by decide)).trans ((hF1570.1 231 23 (by decide)).trans ((hF1525.1 231 23 (by decide)).trans ((hF1506.1 231 23 (by decide)).trans (hF1495.1 231 23 (by decide)))))).trans hv8))
              have x1594 := HI.eqI hI0 (p := 231) (b := 9) (hv2)
              have zv1595 : (3 : Int32).toInt = 3 := rfl
              have pg1596 := PG.cong pg1580 hI1583 ((gA_sI)) ((gA_sI)) ((gA_sI)) ((gA_sI)) ((gI_sI_ne (by decide))) ((gI_sI_ne (by decide)))
              have w261597 := W26.cong c1549 hI1583 (((gI_sI_ne (by decide)).trans (hF1570.1 231 9 (by decide)))) (((gI_sI_ne (by decide)).trans (hF1570.1 231 10 (by decide)))) (((gI_sI_ne (by decide)).trans (hF1570.1 231 11 (by decide)))) (((gJ_sI_ne (by decide)).trans (hF1570.2.2 231 12 (by decide))))
              exact ⟨_, rfl, hI1583, hF1584, _, rfl, by decide, ⟨by omega, by omega, by omega, by omega, w261597, by omega, by omega, (fun hbad => ⟨by omega, (PT.mk (fun h => False.elim (by omega)) (fun _ => pg1596) (fun h h9 => False.elim (by omega)) (fun h => False.elim (by omega)))⟩), (fun hbad => by omega)⟩⟩
          · have c1516_ : v1515.toInt < 50 := en_i_ge_f c1516
            refine At.enter rfl ?_
            refine r_iconst 1 rfl ?_
            refine r_goto ?_
            refine At.enter rfl ?_
            have x1598 := HI.eqI hI1505 (p := 231) (b := 8) ((((hF1506.1 231 8 (by decide)).trans (hF1495.1 231 8 (by decide))).trans hv1))
            have x1599 := HI.eqI hI1505 (p := 231) (b := 9) ((((hF1506.1 231 9 (by decide)).trans (hF1495.1 231 9 (by decide))).trans hv2))
            have x1600 := HI.eqI hI1505 (p := 231) (b := 10) ((((hF1506.1 231 10 (by decide)).trans (hF1495.1 231 10 (by decide))).trans hv3))
            have x1601 := HI.eqI hI1505 (p := 231) (b := 11) ((((hF1506.1 231 11 (by decide)).trans (hF1495.1 231 11 (by decide))).trans hv4))
            have w261602 := W26.cong hW hI1505 (((hF1506.1 231 9 (by decide)).trans (hF1495.1 231 9 (by decide)))) (((hF1506.1 231 10 (by decide)).trans (hF1495.1 231 10 (by decide)))) (((hF1506.1 231 11 (by decide)).trans (hF1495.1 231 11 (by decide)))) (((hF1506.2.2 231 12 (by decide)).trans (hF1495.2.2 231 12 (by decide))))
            have zv1603 : (1 : Int32).toInt = 1 := rfl
            refine r_callV 22 rfl [.ref 231, .int 1] [] (Nat.le_of_ble_eq_true rfl) rfl (T_X11_must_231 _ hI1505 1 (by decide) (by refine ⟨?_, ?_, ?_, ?_⟩ <;> omega) w261602) ?_
            rintro _ _ ⟨g1604, rfl, hI1605, hF1606, rfl, hr1608⟩
            refine At.stn ?_
            have hF1609 := Fr.tr hF1509 hF1606 rfl rfl
            have zv1610 : (1 : Int32).toInt = 1 := rfl
            have x1611 := HI.eqI hI1505 (p := 231) (b := 8) ((((hF1506.1 231 8 (by decide)).trans (hF1495.1 231 8 (by decide))).trans hv1))
            have x1612 := HI.eqI hI1505 (p := 231) (b := 9) ((((hF1506.1 231 9 (by decide)).trans (hF1495.1 231 9 (by decide))).trans hv2))
            have x1613 := HI.eqI hI1505 (p := 231) (b := 10) ((((hF1506.1 231 10 (by decide)).trans (hF1495.1 231 10 (by decide))).trans hv3))
            have x1614 := HI.eqI hI1505 (p := 231) (b := 11) ((((hF1506.1 231 11 (by decide)).trans (hF1495.1 231 11 (by decide))).trans hv4))
            have x1615 := HI.eqI hI1505 (p := 231) (b := 14) ((((hF1506.1 231 14 (by decide)).trans (hF1495.1 231 14 (by decide))).trans hv6))
            have x1616 := HI.eqI hI1605 (p := 231) (b := 8) ((((hF1606.1 231 8 (by decide)).trans ((hF1506.1 231 8 (by decide)).trans (hF1495.1 231 8 (by decide)))).trans hv1))
            obtain ⟨v1617, hv1617⟩ : ∃ v, gI g1604 231 9 = v := ⟨_, rfl⟩
            have rv1617 := RgF.at hI1605.2.1 (p := 231) (b := 9) rfl
            rw [hv1617] at rv1617
            dsimp only at rv1617
            have tv1617 := congrArg Int32.toInt hv1617
            have x1618 := HI.eqI hI1605 (p := 231) (b := 9) (hv1617)
            obtain ⟨v1619, hv1619⟩ : ∃ v, gI g1604 231 10 = v := ⟨_, rfl⟩
            have rv1619 := RgF.at hI1605.2.1 (p := 231) (b := 10) rfl
            rw [hv1619] at rv1619
            dsimp only at rv1619
            have tv1619 := congrArg Int32.toInt hv1619
            have x1620 := HI.eqI hI1605 (p := 231) (b := 10) (hv1619)
            obtain ⟨v1621, hv1621⟩ : ∃ v, gI g1604 231 11 = v := ⟨_, rfl⟩
            have tv1621 := congrArg Int32.toInt hv1621
            have x1622 := HI.eqI hI1605 (p := 231) (b := 11) (hv1621)
            obtain ⟨v1623, hv1623⟩ : ∃ v, gI g1604 231 14 = v := ⟨_, rfl⟩
            have tv1623 := congrArg Int32.toInt hv1623
            have x1624 := HI.eqI hI1605 (p := 231) (b := 14) (hv1623)
            obtain ⟨c1625, c1626, c1627, c1628, c1629, c1630, c1631⟩ := hr1608
            refine At.enter rfl ?_
            refine r_aload_n rfl ?_
            refine q_getI (Sh.int hI1605.1 kx_231 rfl) v1623 hv1623 ?_
            refine r_ifs 29 rfl (fun c1632 => ?_) (fun c1632 => ?_)
            · have c1632_ : v1623.toInt ≠ 0 := en_k_ne_t c1632
              clear c1631
              refine At.enter rfl ?_
              refine q_vret ?_
              refine At.enter rfl ?_
              refine r_iconst 3 rfl ?_
              refine r_ireti ?_
              have x1633 := HI.eqI hI1605 (p := 231) (b := 8) ((((hF1606.1 231 8 (by decide)).trans ((hF1506.1 231 8 (by decide)).trans (hF1495.1 231 8 (by decide)))).trans hv1))
              have x1634 := HI.eqI hI1605 (p := 231) (b := 9) (hv1617)
              have x1635 := HI.eqI hI1605 (p := 231) (b := 10) (hv1619)
              have x1636 := HI.eqI hI1605 (p := 231) (b := 11) (hv1621)
              obtain ⟨v1637, hv1637⟩ : ∃ v, gJ g1604 231 12 = v := ⟨_, rfl⟩
              have x1638 := HI.eqJ hI1605 (b := 12) (hv1637)
              have x1639 := HI.eqI hI1605 (p := 231) (b := 14) (hv1623)
              have x1640 := HI.eqI hI1605 (p := 231) (b := 17) ((((hF1606.1 231 17 (by decide)).trans ((hF1506.1 231 17 (by decide)).trans (hF1495.1 231 17 (by decide)))).trans hv7))
              have x1641 := HI.eqI hI1605 (p := 231) (b := 23) ((((hF1606.1 231 23 (by decide)).trans ((hF1506.1 231 23 (by decide)).trans (hF1495.1 231 23 (by decide)))).trans hv8))
              have x1642 := HI.eqI hI0 (p := 231) (b := 9) (hv2)
              have zv1643 : (3 : Int32).toInt = 3 := rfl
              exact ⟨_, rfl, hI1605, hF1609, _, rfl, by decide, ⟨by omega, by omega, by omega, by omega, c1630, by omega, by omega, (fun hbad => ⟨by omega, (PT.mk (fun h => False.elim (by omega)) (fun h => False.elim (by omega)) (fun h h9 => False.elim (by omega)) (fun h => False.elim (by omega)))⟩), (fun hbad => by omega)⟩⟩
            · have c1632_ : v1623.toInt = 0 := en_k_ne_f c1632
              obtain ⟨i1644, i1645, i1646⟩ := c1631 (by omega)
              refine At.enter rfl ?_
              refine r_aload_n rfl ?_
              refine r_iload_n rfl ?_
              refine r_iload_n rfl ?_
              have x1647 := HI.eqI hI1605 (p := 231) (b := 17) ((((hF1606.1 231 17 (by decide)).trans ((hF1506.1 231 17 (by decide)).trans (hF1495.1 231 17 (by decide)))).trans hv7))
              have zv1648 : (0 : Int32).toInt = 0 := rfl
              refine r_callV 35 rfl [.ref 231, .int v1507, .int 0] [] (Nat.le_of_ble_eq_true rfl) rfl (T_X11_emit_231 _ hI1605 v1507 0 (by omega)) ?_
              rintro _ _ ⟨g1649, rfl, hI1650, hF1651, rfl, hr1653⟩
              refine At.stn ?_
              have hF1654 := Fr.tr hF1609 hF1651 rfl rfl
              have zv1655 : (0 : Int32).toInt = 0 := rfl
              have x1656 := HI.eqI hI1605 (p := 231) (b := 17) ((((hF1606.1 231 17 (by decide)).trans ((hF1506.1 231 17 (by decide)).trans (hF1495.1 231 17 (by decide)))).trans hv7))
              have x1657 := HI.eqI hI1605 (p := 231) (b := 23) ((((hF1606.1 231 23 (by decide)).trans ((hF1506.1 231 23 (by decide)).trans (hF1495.1 231 23 (by decide)))).trans hv8))
              obtain ⟨v1658, hv1658⟩ : ∃ v, gI g1649 231 17 = v := ⟨_, rfl⟩
              have rv1658 := RgF.at hI1650.2.1 (p := 231) (b := 17) rfl
              rw [hv1658] at rv1658
              dsimp only at rv1658
              have tv1658 := congrArg Int32.toInt hv1658
              have x1659 := HI.eqI hI1650 (p := 231) (b := 17) (hv1658)
              have y1660 : (gI _ 231 17).toInt = (gI _ 231 17).toInt + 1 := hr1653.1
              have pg1662 := PG.cong (hP.1 (by decide)) hI1605 (((hF1606.2.1 238 (by decide)).trans ((hF1506.2.1 238 (by decide)).trans (hF1495.2.1 238 (by decide))))) (((hF1606.2.1 239 (by decide)).trans ((hF1506.2.1 239 (by decide)).trans (hF1495.2.1 239 (by decide))))) (((hF1606.2.1 240 (by decide)).trans ((hF1506.2.1 240 (by decide)).trans (hF1495.2.1 240 (by decide))))) (((hF1606.2.1 241 (by decide)).trans ((hF1506.2.1 241 (by decide)).trans (hF1495.2.1 241 (by decide))))) (((hF1606.1 231 17 (by decide)).trans ((hF1506.1 231 17 (by decide)).trans (hF1495.1 231 17 (by decide))))) (((hF1606.1 231 23 (by decide)).trans ((hF1506.1 231 23 (by decide)).trans (hF1495.1 231 23 (by decide)))))
              have pg1661 := PG.emit (e' := 1) pg1662 hr1653 (hF1651.2.1 240 (by decide)) (hF1651.2.1 241 (by decide)) (hF1651.1 231 23 (by decide)) (Or.inl ⟨by omega, by omega, by decide, by decide⟩)
              refine At.enter rfl ?_
              refine r_aload_n rfl ?_
              refine r_dup rfl ?_
              refine q_getI (Sh.int hI1650.1 kx_231 rfl) v1515 (((hF1651.1 231 20 (by decide)).trans ((hF1606.1 231 20 (by decide)).trans ((hF1506.1 231 20 (by decide)).trans (hF1495.1 231 20 (by decide))))).trans hv1515) ?_
              refine r_iconst 1 rfl ?_
              have bv1663 := q_bnd v1515
              refine q_iadd (v1515.toInt + 1) rfl (by omega) (fun v1664 hv1664 => ?_)
              refine q_putI (Sh.int hI1650.1 kx_231 rfl) rfl ?_
              have hI1665 := HI.wI0 hI1650 kx_231 rfl (p := 231) (b := 20) (v := v1664) rfl
              have hF1666 := Fr.wI (p := 231) (b := 20) (v := v1664) hF1654 rfl
              refine Ar.fall 45 rfl ?_
              refine At.enter rfl ?_
              refine q_vret ?_
              refine At.enter rfl ?_
              refine r_iconst 3 rfl ?_
              refine r_ireti ?_
              have x1667 := HI.eqI hI1665 (p := 231) (b := 8) ((((gI_sI_ne (by decide)).trans ((hF1651.1 231 8 (by decide)).trans ((hF1606.1 231 8 (by decide)).trans ((hF1506.1 231 8 (by decide)).trans (hF1495.1 231 8 (by decide)))))).trans hv1))
              have x1668 := HI.eqI hI1665 (p := 231) (b := 9) ((((gI_sI_ne (by decide)).trans (hF1651.1 231 9 (by decide))).trans hv1617))
              have x1669 := HI.eqI hI1665 (p := 231) (b := 10) ((((gI_sI_ne (by decide)).trans (hF1651.1 231 10 (by decide))).trans hv1619))
              have x1670 := HI.eqI hI1665 (p := 231) (b := 11) ((((gI_sI_ne (by decide)).trans (hF1651.1 231 11 (by decide))).trans hv1621))
              obtain ⟨v1671, hv1671⟩ : ∃ v, gJ g1604 231 12 = v := ⟨_, rfl⟩
              have x1672 := HI.eqJ hI1665 (b := 12) ((((gJ_sI_ne (by decide)).trans (hF1651.2.2 231 12 (by decide))).trans hv1671))
              have x1673 := HI.eqI hI1665 (p := 231) (b := 14) ((((gI_sI_ne (by decide)).trans (hF1651.1 231 14 (by decide))).trans hv1623))
              have x1674 := HI.eqI hI1665 (p := 231) (b := 17) (((gI_sI_ne (by decide)).trans hv1658))
              have x1675 := HI.eqI hI1665 (p := 231) (b := 23) ((((gI_sI_ne (by decide)).trans ((hF1651.1 231 23 (by decide)).trans ((hF1606.1 231 23 (by decide)).trans ((hF1506.1 231 23 (by decide)).trans (hF1495.1 231 23 (by decide)))))).trans hv8))
              have x1676 := HI.eqI hI0 (p := 231) (b := 9) (hv2)
              have zv1677 : (3 : Int32).toInt = 3 := rfl
              have pg1678 := PG.cong pg1661 hI1665 ((gA_sI)) ((gA_sI)) ((gA_sI)) ((gA_sI)) ((gI_sI_ne (by decide))) ((gI_sI_ne (by decide)))
              have w261679 := W26.cong c1630 hI1665 (((gI_sI_ne (by decide)).trans (hF1651.1 231 9 (by decide)))) (((gI_sI_ne (by decide)).trans (hF1651.1 231 10 (by decide)))) (((gI_sI_ne (by decide)).trans (hF1651.1 231 11 (by decide)))) (((gJ_sI_ne (by decide)).trans (hF1651.2.2 231 12 (by decide))))
              exact ⟨_, rfl, hI1665, hF1666, _, rfl, by decide, ⟨by omega, by omega, by omega, by omega, w261679, by omega, by omega, (fun hbad => ⟨by omega, (PT.mk (fun h => False.elim (by omega)) (fun _ => pg1678) (fun h h9 => False.elim (by omega)) (fun h => False.elim (by omega)))⟩), (fun hbad => by omega)⟩⟩
        · have c1514_ : v1507.toInt = (-1) := en_i_ne_f c1514
          exfalso; omega
      · have c1513_ : v1507.toInt = (-1) := en_i_ne_f c1513
        refine At.enter rfl ?_
        refine r_iload_n rfl ?_
        refine r_ift (by decide) ?_
        refine At.enter rfl ?_
        refine r_iconst 0 rfl ?_
        refine Ar.fall 62 rfl ?_
        refine At.enter rfl ?_
        refine r_iload_n rfl ?_
        refine r_iconst (-1) rfl ?_
        refine r_ics 67 rfl (fun c1680 => ?_) (fun c1680 => ?_)
        · have c1680_ : v1507.toInt ≠ (-1) := en_i_ne_t c1680
          exfalso; omega
        · have c1680_ : v1507.toInt = (-1) := en_i_ne_f c1680
          refine At.enter rfl ?_
          refine r_iconst 0 rfl ?_
          refine r_goto ?_
          refine At.enter rfl ?_
          refine r_iload_n rfl ?_
          refine r_ift (by decide) ?_
          refine At.enter rfl ?_
          refine r_iconst 0 rfl ?_
          refine Ar.fall 85 rfl ?_
          refine At.enter rfl ?_
          refine q_inlV 88 rfl [.ref 231, .int 0, .int 0, .int 0] [] (Nat.le_of_ble_eq_true rfl) rfl ?_
          refine Ev.mk rfl rfl ⟨Nat.le_of_ble_eq_true rfl, Or.inr (q_rc hI1505.1 kx_231 rfl)⟩ ?_
          show At _ none _ _ (0, [(0, .ref 231), (1, .int 0), (2, .int 0), (3, .int 0)], [], (_, _)) _
          refine At.enter rfl ?_
          refine r_aload_n rfl ?_
          refine r_iload_n rfl ?_
          refine r_ift (by decide) ?_
          refine At.enter rfl ?_
          refine r_iconst 0 rfl ?_
          refine Ar.fall 19 rfl ?_
          refine At.enter rfl ?_
          have x1681 := HI.eqI hI1505 (p := 231) (b := 8) ((((hF1506.1 231 8 (by decide)).trans (hF1495.1 231 8 (by decide))).trans hv1))
          have x1682 := HI.eqI hI1505 (p := 231) (b := 9) ((((hF1506.1 231 9 (by decide)).trans (hF1495.1 231 9 (by decide))).trans hv2))
          have x1683 := HI.eqI hI1505 (p := 231) (b := 10) ((((hF1506.1 231 10 (by decide)).trans (hF1495.1 231 10 (by decide))).trans hv3))
          have x1684 := HI.eqI hI1505 (p := 231) (b := 11) ((((hF1506.1 231 11 (by decide)).trans (hF1495.1 231 11 (by decide))).trans hv4))
          have w261685 := W26.cong hW hI1505 (((hF1506.1 231 9 (by decide)).trans (hF1495.1 231 9 (by decide)))) (((hF1506.1 231 10 (by decide)).trans (hF1495.1 231 10 (by decide)))) (((hF1506.1 231 11 (by decide)).trans (hF1495.1 231 11 (by decide)))) (((hF1506.2.2 231 12 (by decide)).trans (hF1495.2.2 231 12 (by decide))))
          have zv1686 : (0 : Int32).toInt = 0 := rfl
          refine r_callV 22 rfl [.ref 231, .int 0] [] (Nat.le_of_ble_eq_true rfl) rfl (T_X11_must_231 _ hI1505 0 (by decide) (by refine ⟨?_, ?_, ?_, ?_⟩ <;> omega) w261685) ?_
          rintro _ _ ⟨g1687, rfl, hI1688, hF1689, rfl, hr1691⟩
          refine At.stn ?_
          have hF1692 := Fr.tr hF1509 hF1689 rfl rfl
          have zv1693 : (0 : Int32).toInt = 0 := rfl
          have x1694 := HI.eqI hI1505 (p := 231) (b := 8) ((((hF1506.1 231 8 (by decide)).trans (hF1495.1 231 8 (by decide))).trans hv1))
          have x1695 := HI.eqI hI1505 (p := 231) (b := 9) ((((hF1506.1 231 9 (by decide)).trans (hF1495.1 231 9 (by decide))).trans hv2))
          have x1696 := HI.eqI hI1505 (p := 231) (b := 10) ((((hF1506.1 231 10 (by decide)).trans (hF1495.1 231 10 (by decide))).trans hv3))
          have x1697 := HI.eqI hI1505 (p := 231) (b := 11) ((((hF1506.1 231 11 (by decide)).trans (hF1495.1 231 11 (by decide))).trans hv4))
          have x1698 := HI.eqI hI1505 (p := 231) (b := 14) ((((hF1506.1 231 14 (by decide)).trans (hF1495.1 231 14 (by decide))).trans hv6))
          have x1699 := HI.eqI hI1688 (p := 231) (b := 8) ((((hF1689.1 231 8 (by decide)).trans ((hF1506.1 231 8 (by decide)).trans (hF1495.1 231 8 (by decide)))).trans hv1))
          obtain ⟨v1700, hv1700⟩ : ∃ v, gI g1687 231 9 = v := ⟨_, rfl⟩
          have rv1700 := RgF.at hI1688.2.1 (p := 231) (b := 9) rfl
          rw [hv1700] at rv1700
          dsimp only at rv1700
          have tv1700 := congrArg Int32.toInt hv1700
          have x1701 := HI.eqI hI1688 (p := 231) (b := 9) (hv1700)
          obtain ⟨v1702, hv1702⟩ : ∃ v, gI g1687 231 10 = v := ⟨_, rfl⟩
          have rv1702 := RgF.at hI1688.2.1 (p := 231) (b := 10) rfl
          rw [hv1702] at rv1702
          dsimp only at rv1702
          have tv1702 := congrArg Int32.toInt hv1702
          have x1703 := HI.eqI hI1688 (p := 231) (b := 10) (hv1702)
          obtain ⟨v1704, hv1704⟩ : ∃ v, gI g1687 231 11 = v := ⟨_, rfl⟩
          have tv1704 := congrArg Int32.toInt hv1704
          have x1705 := HI.eqI hI1688 (p := 231) (b := 11) (hv1704)
          obtain ⟨v1706, hv1706⟩ : ∃ v, gI g1687 231 14 = v := ⟨_, rfl⟩
          have tv1706 := congrArg Int32.toInt hv1706
          have x1707 := HI.eqI hI1688 (p := 231) (b := 14) (hv1706)
          obtain ⟨c1708, c1709, c1710, c1711, c1712, c1713, c1714⟩ := hr1691
          refine At.enter rfl ?_
          refine r_aload_n rfl ?_
          refine q_getI (Sh.int hI1688.1 kx_231 rfl) v1706 hv1706 ?_
          refine r_ifs 29 rfl (fun c1715 => ?_) (fun c1715 => ?_)
          · have c1715_ : v1706.toInt ≠ 0 := en_k_ne_t c1715
            clear c1714
            refine At.enter rfl ?_
            refine q_vret ?_
            refine At.enter rfl ?_
            refine r_iconst 3 rfl ?_
            refine r_ireti ?_
            have x1716 := HI.eqI hI1688 (p := 231) (b := 8) ((((hF1689.1 231 8 (by decide)).trans ((hF1506.1 231 8 (by decide)).trans (hF1495.1 231 8 (by decide)))).trans hv1))
            have x1717 := HI.eqI hI1688 (p := 231) (b := 9) (hv1700)
            have x1718 := HI.eqI hI1688 (p := 231) (b := 10) (hv1702)
            have x1719 := HI.eqI hI1688 (p := 231) (b := 11) (hv1704)
            obtain ⟨v1720, hv1720⟩ : ∃ v, gJ g1687 231 12 = v := ⟨_, rfl⟩
            have x1721 := HI.eqJ hI1688 (b := 12) (hv1720)
            have x1722 := HI.eqI hI1688 (p := 231) (b := 14) (hv1706)
            have x1723 := HI.eqI hI1688 (p := 231) (b := 17) ((((hF1689.1 231 17 (by decide)).trans ((hF1506.1 231 17 (by decide)).trans (hF1495.1 231 17 (by decide)))).trans hv7))
            have x1724 := HI.eqI hI1688 (p := 231) (b := 23) ((((hF1689.1 231 23 (by decide)).trans ((hF1506.1 231 23 (by decide)).trans (hF1495.1 231 23 (by decide)))).trans hv8))
            have x1725 := HI.eqI hI0 (p := 231) (b := 9) (hv2)
            have zv1726 : (3 : Int32).toInt = 3 := rfl
            exact ⟨_, rfl, hI1688, hF1692, _, rfl, by decide, ⟨by omega, by omega, by omega, by omega, c1713, by omega, by omega, (fun hbad => ⟨by omega, (PT.mk (fun h => False.elim (by omega)) (fun h => False.elim (by omega)) (fun h h9 => False.elim (by omega)) (fun h => False.elim (by omega)))⟩), (fun hbad => by omega)⟩⟩
          · have c1715_ : v1706.toInt = 0 := en_k_ne_f c1715
            obtain ⟨i1727, i1728, i1729⟩ := c1714 (by omega)
            refine At.enter rfl ?_
            refine r_aload_n rfl ?_
            refine r_iload_n rfl ?_
            refine r_iload_n rfl ?_
            have x1730 := HI.eqI hI1688 (p := 231) (b := 17) ((((hF1689.1 231 17 (by decide)).trans ((hF1506.1 231 17 (by decide)).trans (hF1495.1 231 17 (by decide)))).trans hv7))
            have zv1731 : (0 : Int32).toInt = 0 := rfl
            have zv1732 : (0 : Int32).toInt = 0 := rfl
            refine r_callV 35 rfl [.ref 231, .int 0, .int 0] [] (Nat.le_of_ble_eq_true rfl) rfl (T_X11_emit_231 _ hI1688 0 0 (by omega)) ?_
            rintro _ _ ⟨g1733, rfl, hI1734, hF1735, rfl, hr1737⟩
            refine At.stn ?_
            have hF1738 := Fr.tr hF1692 hF1735 rfl rfl
            have zv1739 : (0 : Int32).toInt = 0 := rfl
            have zv1740 : (0 : Int32).toInt = 0 := rfl
            have x1741 := HI.eqI hI1688 (p := 231) (b := 17) ((((hF1689.1 231 17 (by decide)).trans ((hF1506.1 231 17 (by decide)).trans (hF1495.1 231 17 (by decide)))).trans hv7))
            have x1742 := HI.eqI hI1688 (p := 231) (b := 23) ((((hF1689.1 231 23 (by decide)).trans ((hF1506.1 231 23 (by decide)).trans (hF1495.1 231 23 (by decide)))).trans hv8))
            obtain ⟨v1743, hv1743⟩ : ∃ v, gI g1733 231 17 = v := ⟨_, rfl⟩
            have rv1743 := RgF.at hI1734.2.1 (p := 231) (b := 17) rfl
            rw [hv1743] at rv1743
            dsimp only at rv1743
            have tv1743 := congrArg Int32.toInt hv1743
            have x1744 := HI.eqI hI1734 (p := 231) (b := 17) (hv1743)
            have y1745 : (gI _ 231 17).toInt = (gI _ 231 17).toInt + 1 := hr1737.1
            have pg1747 := PG.cong (hP.1 (by decide)) hI1688 (((hF1689.2.1 238 (by decide)).trans ((hF1506.2.1 238 (by decide)).trans (hF1495.2.1 238 (by decide))))) (((hF1689.2.1 239 (by decide)).trans ((hF1506.2.1 239 (by decide)).trans (hF1495.2.1 239 (by decide))))) (((hF1689.2.1 240 (by decide)).trans ((hF1506.2.1 240 (by decide)).trans (hF1495.2.1 240 (by decide))))) (((hF1689.2.1 241 (by decide)).trans ((hF1506.2.1 241 (by decide)).trans (hF1495.2.1 241 (by decide))))) (((hF1689.1 231 17 (by decide)).trans ((hF1506.1 231 17 (by decide)).trans (hF1495.1 231 17 (by decide))))) (((hF1689.1 231 23 (by decide)).trans ((hF1506.1 231 23 (by decide)).trans (hF1495.1 231 23 (by decide)))))
            have pg1746 := PG.emit (e' := 1) pg1747 hr1737 (hF1735.2.1 240 (by decide)) (hF1735.2.1 241 (by decide)) (hF1735.1 231 23 (by decide)) (Or.inl ⟨by omega, by omega, by decide, by decide⟩)
            refine At.enter rfl ?_
            refine r_aload_n rfl ?_
            refine r_dup rfl ?_
            obtain ⟨v1748, hv1748⟩ : ∃ v, gI g0 231 20 = v := ⟨_, rfl⟩
            refine q_getI (Sh.int hI1734.1 kx_231 rfl) v1748 (((hF1735.1 231 20 (by decide)).trans ((hF1689.1 231 20 (by decide)).trans ((hF1506.1 231 20 (by decide)).trans (hF1495.1 231 20 (by decide))))).trans hv1748) ?_
            refine r_iconst 1 rfl ?_
            refine q_iaddO (fun v1749 _ => ?_)
            refine q_putI (Sh.int hI1734.1 kx_231 rfl) rfl ?_
            have hI1750 := HI.wI0 hI1734 kx_231 rfl (p := 231) (b := 20) (v := v1749) rfl
            have hF1751 := Fr.wI (p := 231) (b := 20) (v := v1749) hF1738 rfl
            refine Ar.fall 45 rfl ?_
            refine At.enter rfl ?_
            refine q_vret ?_
            refine At.enter rfl ?_
            refine r_iconst 3 rfl ?_
            refine r_ireti ?_
            have x1752 := HI.eqI hI1750 (p := 231) (b := 8) ((((gI_sI_ne (by decide)).trans ((hF1735.1 231 8 (by decide)).trans ((hF1689.1 231 8 (by decide)).trans ((hF1506.1 231 8 (by decide)).trans (hF1495.1 231 8 (by decide)))))).trans hv1))
            have x1753 := HI.eqI hI1750 (p := 231) (b := 9) ((((gI_sI_ne (by decide)).trans (hF1735.1 231 9 (by decide))).trans hv1700))
            have x1754 := HI.eqI hI1750 (p := 231) (b := 10) ((((gI_sI_ne (by decide)).trans (hF1735.1 231 10 (by decide))).trans hv1702))
            have x1755 := HI.eqI hI1750 (p := 231) (b := 11) ((((gI_sI_ne (by decide)).trans (hF1735.1 231 11 (by decide))).trans hv1704))
            obtain ⟨v1756, hv1756⟩ : ∃ v, gJ g1687 231 12 = v := ⟨_, rfl⟩
            have x1757 := HI.eqJ hI1750 (b := 12) ((((gJ_sI_ne (by decide)).trans (hF1735.2.2 231 12 (by decide))).trans hv1756))
            have x1758 := HI.eqI hI1750 (p := 231) (b := 14) ((((gI_sI_ne (by decide)).trans (hF1735.1 231 14 (by decide))).trans hv1706))
            have x1759 := HI.eqI hI1750 (p := 231) (b := 17) (((gI_sI_ne (by decide)).trans hv1743))
            have x1760 := HI.eqI hI1750 (p := 231) (b := 23) ((((gI_sI_ne (by decide)).trans ((hF1735.1 231 23 (by decide)).trans ((hF1689.1 231 23 (by decide)).trans ((hF1506.1 231 23 (by decide)).trans (hF1495.1 231 23 (by decide)))))).trans hv8))
            have x1761 := HI.eqI hI0 (p := 231) (b := 9) (hv2)
            have zv1762 : (3 : Int32).toInt = 3 := rfl
            have pg1763 := PG.cong pg1746 hI1750 ((gA_sI)) ((gA_sI)) ((gA_sI)) ((gA_sI)) ((gI_sI_ne (by decide))) ((gI_sI_ne (by decide)))
            have w261764 := W26.cong c1713 hI1750 (((gI_sI_ne (by decide)).trans (hF1735.1 231 9 (by decide)))) (((gI_sI_ne (by decide)).trans (hF1735.1 231 10 (by decide)))) (((gI_sI_ne (by decide)).trans (hF1735.1 231 11 (by decide)))) (((gJ_sI_ne (by decide)).trans (hF1735.2.2 231 12 (by decide))))
            exact ⟨_, rfl, hI1750, hF1751, _, rfl, by decide, ⟨by omega, by omega, by omega, by omega, w261764, by omega, by omega, (fun hbad => ⟨by omega, (PT.mk (fun h => False.elim (by omega)) (fun _ => pg1763) (fun h h9 => False.elim (by omega)) (fun h => False.elim (by omega)))⟩), (fun hbad => by omega)⟩⟩
    · have c1512_ : v4.toInt = 2 := en_i_ne_f c1512
      refine At.enter rfl ?_
      refine r_aload_n rfl ?_
      refine q_getJv (Sh.long hI1505.1 kx_231 rfl) v5 (((hF1506.2.2 231 12 (by decide)).trans (hF1495.2.2 231 12 (by decide))).trans hv5) ?_
      refine r_ldc2 1000 rfl ?_
      refine r_lcmp _ rfl ?_
      refine r_ifs 41 rfl (fun c1765 => ?_) (fun c1765 => ?_)
      · have c1765_ : v5.toInt > 1000 := en_j_gt_t c1765
        refine At.enter rfl ?_
        refine r_iconst 0 rfl ?_
        refine Ar.fall 46 rfl ?_
        refine At.enter rfl ?_
        refine r_istore_n ([(2, .int 0), (1, .int v1507), (0, .ref 231)]) rfl ?_
        refine r_aload_n rfl ?_
        refine r_iload_n rfl ?_
        refine r_iconst (-1) rfl ?_
        refine r_ics 53 rfl (fun c1766 => ?_) (fun c1766 => ?_)
        · have c1766_ : v1507.toInt ≠ (-1) := en_i_ne_t c1766
          refine At.enter rfl ?_
          refine r_iconst 1 rfl ?_
          refine r_goto ?_
          refine At.enter rfl ?_
          refine r_iload_n rfl ?_
          refine r_iconst (-1) rfl ?_
          refine r_ics 67 rfl (fun c1767 => ?_) (fun c1767 => ?_)
          · have c1767_ : v1507.toInt ≠ (-1) := en_i_ne_t c1767
            refine At.enter rfl ?_
            refine r_iload_n rfl ?_
            refine Ar.fall 72 rfl ?_
            refine At.enter rfl ?_
            refine r_iload_n rfl ?_
            refine r_ift (by decide) ?_
            refine At.enter rfl ?_
            refine r_iconst 0 rfl ?_
            refine Ar.fall 85 rfl ?_
            refine At.enter rfl ?_
            refine q_inlV 88 rfl [.ref 231, .int 1, .int v1507, .int 0] [] (Nat.le_of_ble_eq_true rfl) rfl ?_
            refine Ev.mk rfl rfl ⟨Nat.le_of_ble_eq_true rfl, Or.inr (q_rc hI1505.1 kx_231 rfl)⟩ ?_
            show At _ none _ _ (0, [(0, .ref 231), (1, .int 1), (2, .int v1507), (3, .int 0)], [], (_, _)) _
            refine At.enter rfl ?_
            refine r_aload_n rfl ?_
            refine r_iload_n rfl ?_
            refine r_iff 5 rfl (by decide) ?_
            refine At.enter rfl ?_
            refine r_aload_n rfl ?_
            obtain ⟨v1768, hv1768⟩ : ∃ v, gI g0 231 20 = v := ⟨_, rfl⟩
            refine q_getI (Sh.int hI1505.1 kx_231 rfl) v1768 (((hF1506.1 231 20 (by decide)).trans (hF1495.1 231 20 (by decide))).trans hv1768) ?_
            refine r_bipush 50 rfl ?_
            refine r_ics 14 rfl (fun c1769 => ?_) (fun c1769 => ?_)
            · have c1769_ : v1768.toInt ≥ 50 := en_i_ge_t c1769
              refine At.enter rfl ?_
              refine r_iconst 0 rfl ?_
              refine Ar.fall 19 rfl ?_
              refine At.enter rfl ?_
              have x1770 := HI.eqI hI1505 (p := 231) (b := 8) ((((hF1506.1 231 8 (by decide)).trans (hF1495.1 231 8 (by decide))).trans hv1))
              have x1771 := HI.eqI hI1505 (p := 231) (b := 9) ((((hF1506.1 231 9 (by decide)).trans (hF1495.1 231 9 (by decide))).trans hv2))
              have x1772 := HI.eqI hI1505 (p := 231) (b := 10) ((((hF1506.1 231 10 (by decide)).trans (hF1495.1 231 10 (by decide))).trans hv3))
              have x1773 := HI.eqI hI1505 (p := 231) (b := 11) ((((hF1506.1 231 11 (by decide)).trans (hF1495.1 231 11 (by decide))).trans hv4))
              have w261774 := W26.cong hW hI1505 (((hF1506.1 231 9 (by decide)).trans (hF1495.1 231 9 (by decide)))) (((hF1506.1 231 10 (by decide)).trans (hF1495.1 231 10 (by decide)))) (((hF1506.1 231 11 (by decide)).trans (hF1495.1 231 11 (by decide)))) (((hF1506.2.2 231 12 (by decide)).trans (hF1495.2.2 231 12 (by decide))))
              have zv1775 : (0 : Int32).toInt = 0 := rfl
              refine r_callV 22 rfl [.ref 231, .int 0] [] (Nat.le_of_ble_eq_true rfl) rfl (T_X11_must_231 _ hI1505 0 (by decide) (by refine ⟨?_, ?_, ?_, ?_⟩ <;> omega) w261774) ?_
              rintro _ _ ⟨g1776, rfl, hI1777, hF1778, rfl, hr1780⟩
              refine At.stn ?_
              have hF1781 := Fr.tr hF1509 hF1778 rfl rfl
              have zv1782 : (0 : Int32).toInt = 0 := rfl
              have x1783 := HI.eqI hI1505 (p := 231) (b := 8) ((((hF1506.1 231 8 (by decide)).trans (hF1495.1 231 8 (by decide))).trans hv1))
              have x1784 := HI.eqI hI1505 (p := 231) (b := 9) ((((hF1506.1 231 9 (by decide)).trans (hF1495.1 231 9 (by decide))).trans hv2))
              have x1785 := HI.eqI hI1505 (p := 231) (b := 10) ((((hF1506.1 231 10 (by decide)).trans (hF1495.1 231 10 (by decide))).trans hv3))
              have x1786 := HI.eqI hI1505 (p := 231) (b := 11) ((((hF1506.1 231 11 (by decide)).trans (hF1495.1 231 11 (by decide))).trans hv4))
              have x1787 := HI.eqI hI1505 (p := 231) (b := 14) ((((hF1506.1 231 14 (by decide)).trans (hF1495.1 231 14 (by decide))).trans hv6))
              have x1788 := HI.eqI hI1777 (p := 231) (b := 8) ((((hF1778.1 231 8 (by decide)).trans ((hF1506.1 231 8 (by decide)).trans (hF1495.1 231 8 (by decide)))).trans hv1))
              obtain ⟨v1789, hv1789⟩ : ∃ v, gI g1776 231 9 = v := ⟨_, rfl⟩
              have rv1789 := RgF.at hI1777.2.1 (p := 231) (b := 9) rfl
              rw [hv1789] at rv1789
              dsimp only at rv1789
              have tv1789 := congrArg Int32.toInt hv1789
              have x1790 := HI.eqI hI1777 (p := 231) (b := 9) (hv1789)
              obtain ⟨v1791, hv1791⟩ : ∃ v, gI g1776 231 10 = v := ⟨_, rfl⟩
              have rv1791 := RgF.at hI1777.2.1 (p := 231) (b := 10) rfl
              rw [hv1791] at rv1791
              dsimp only at rv1791
              have tv1791 := congrArg Int32.toInt hv1791
              have x1792 := HI.eqI hI1777 (p := 231) (b := 10) (hv1791)
              obtain ⟨v1793, hv1793⟩ : ∃ v, gI g1776 231 11 = v := ⟨_, rfl⟩
              have tv1793 := congrArg Int32.toInt hv1793
              have x1794 := HI.eqI hI1777 (p := 231) (b := 11) (hv1793)
              obtain ⟨v1795, hv1795⟩ : ∃ v, gI g1776 231 14 = v := ⟨_, rfl⟩
              have tv1795 := congrArg Int32.toInt hv1795
              have x1796 := HI.eqI hI1777 (p := 231) (b := 14) (hv1795)
              obtain ⟨c1797, c1798, c1799, c1800, c1801, c1802, c1803⟩ := hr1780
              refine At.enter rfl ?_
              refine r_aload_n rfl ?_
              refine q_getI (Sh.int hI1777.1 kx_231 rfl) v1795 hv1795 ?_
              refine r_ifs 29 rfl (fun c1804 => ?_) (fun c1804 => ?_)
              · have c1804_ : v1795.toInt ≠ 0 := en_k_ne_t c1804
                clear c1803
                refine At.enter rfl ?_
                refine q_vret ?_
                refine At.enter rfl ?_
                refine r_iconst 3 rfl ?_
                refine r_ireti ?_
                have x1805 := HI.eqI hI1777 (p := 231) (b := 8) ((((hF1778.1 231 8 (by decide)).trans ((hF1506.1 231 8 (by decide)).trans (hF1495.1 231 8 (by decide)))).trans hv1))
                have x1806 := HI.eqI hI1777 (p := 231) (b := 9) (hv1789)
                have x1807 := HI.eqI hI1777 (p := 231) (b := 10) (hv1791)
                have x1808 := HI.eqI hI1777 (p := 231) (b := 11) (hv1793)
                obtain ⟨v1809, hv1809⟩ : ∃ v, gJ g1776 231 12 = v := ⟨_, rfl⟩
                have x1810 := HI.eqJ hI1777 (b := 12) (hv1809)
                have x1811 := HI.eqI hI1777 (p := 231) (b := 14) (hv1795)
                have x1812 := HI.eqI hI1777 (p := 231) (b := 17) ((((hF1778.1 231 17 (by decide)).trans ((hF1506.1 231 17 (by decide)).trans (hF1495.1 231 17 (by decide)))).trans hv7))
                have x1813 := HI.eqI hI1777 (p := 231) (b := 23) ((((hF1778.1 231 23 (by decide)).trans ((hF1506.1 231 23 (by decide)).trans (hF1495.1 231 23 (by decide)))).trans hv8))
                have x1814 := HI.eqI hI0 (p := 231) (b := 9) (hv2)
                have zv1815 : (3 : Int32).toInt = 3 := rfl
                exact ⟨_, rfl, hI1777, hF1781, _, rfl, by decide, ⟨by omega, by omega, by omega, by omega, c1802, by omega, by omega, (fun hbad => ⟨by omega, (PT.mk (fun h => False.elim (by omega)) (fun h => False.elim (by omega)) (fun h h9 => False.elim (by omega)) (fun h => False.elim (by omega)))⟩), (fun hbad => by omega)⟩⟩
              · have c1804_ : v1795.toInt = 0 := en_k_ne_f c1804
                obtain ⟨i1816, i1817, i1818⟩ := c1803 (by omega)
                refine At.enter rfl ?_
                refine r_aload_n rfl ?_
                refine r_iload_n rfl ?_
                refine r_iload_n rfl ?_
                have x1819 := HI.eqI hI1777 (p := 231) (b := 17) ((((hF1778.1 231 17 (by decide)).trans ((hF1506.1 231 17 (by decide)).trans (hF1495.1 231 17 (by decide)))).trans hv7))
                have zv1820 : (0 : Int32).toInt = 0 := rfl
                refine r_callV 35 rfl [.ref 231, .int v1507, .int 0] [] (Nat.le_of_ble_eq_true rfl) rfl (T_X11_emit_231 _ hI1777 v1507 0 (by omega)) ?_
                rintro _ _ ⟨g1821, rfl, hI1822, hF1823, rfl, hr1825⟩
                refine At.stn ?_
                have hF1826 := Fr.tr hF1781 hF1823 rfl rfl
                have zv1827 : (0 : Int32).toInt = 0 := rfl
                have x1828 := HI.eqI hI1777 (p := 231) (b := 17) ((((hF1778.1 231 17 (by decide)).trans ((hF1506.1 231 17 (by decide)).trans (hF1495.1 231 17 (by decide)))).trans hv7))
                have x1829 := HI.eqI hI1777 (p := 231) (b := 23) ((((hF1778.1 231 23 (by decide)).trans ((hF1506.1 231 23 (by decide)).trans (hF1495.1 231 23 (by decide)))).trans hv8))
                obtain ⟨v1830, hv1830⟩ : ∃ v, gI g1821 231 17 = v := ⟨_, rfl⟩
                have rv1830 := RgF.at hI1822.2.1 (p := 231) (b := 17) rfl
                rw [hv1830] at rv1830
                dsimp only at rv1830
                have tv1830 := congrArg Int32.toInt hv1830
                have x1831 := HI.eqI hI1822 (p := 231) (b := 17) (hv1830)
                have y1832 : (gI _ 231 17).toInt = (gI _ 231 17).toInt + 1 := hr1825.1
                have pg1834 := PG.cong (hP.1 (by decide)) hI1777 (((hF1778.2.1 238 (by decide)).trans ((hF1506.2.1 238 (by decide)).trans (hF1495.2.1 238 (by decide))))) (((hF1778.2.1 239 (by decide)).trans ((hF1506.2.1 239 (by decide)).trans (hF1495.2.1 239 (by decide))))) (((hF1778.2.1 240 (by decide)).trans ((hF1506.2.1 240 (by decide)).trans (hF1495.2.1 240 (by decide))))) (((hF1778.2.1 241 (by decide)).trans ((hF1506.2.1 241 (by decide)).trans (hF1495.2.1 241 (by decide))))) (((hF1778.1 231 17 (by decide)).trans ((hF1506.1 231 17 (by decide)).trans (hF1495.1 231 17 (by decide))))) (((hF1778.1 231 23 (by decide)).trans ((hF1506.1 231 23 (by decide)).trans (hF1495.1 231 23 (by decide)))))
                have pg1833 := PG.emit (e' := 1) pg1834 hr1825 (hF1823.2.1 240 (by decide)) (hF1823.2.1 241 (by decide)) (hF1823.1 231 23 (by decide)) (Or.inl ⟨by omega, by omega, by decide, by decide⟩)
                refine At.enter rfl ?_
                refine r_aload_n rfl ?_
                refine r_dup rfl ?_
                refine q_getI (Sh.int hI1822.1 kx_231 rfl) v1768 (((hF1823.1 231 20 (by decide)).trans ((hF1778.1 231 20 (by decide)).trans ((hF1506.1 231 20 (by decide)).trans (hF1495.1 231 20 (by decide))))).trans hv1768) ?_
                refine r_iconst 1 rfl ?_
                refine q_iaddO (fun v1835 _ => ?_)
                refine q_putI (Sh.int hI1822.1 kx_231 rfl) rfl ?_
                have hI1836 := HI.wI0 hI1822 kx_231 rfl (p := 231) (b := 20) (v := v1835) rfl
                have hF1837 := Fr.wI (p := 231) (b := 20) (v := v1835) hF1826 rfl
                refine Ar.fall 45 rfl ?_
                refine At.enter rfl ?_
                refine q_vret ?_
                refine At.enter rfl ?_
                refine r_iconst 3 rfl ?_
                refine r_ireti ?_
                have x1838 := HI.eqI hI1836 (p := 231) (b := 8) ((((gI_sI_ne (by decide)).trans ((hF1823.1 231 8 (by decide)).trans ((hF1778.1 231 8 (by decide)).trans ((hF1506.1 231 8 (by decide)).trans (hF1495.1 231 8 (by decide)))))).trans hv1))
                have x1839 := HI.eqI hI1836 (p := 231) (b := 9) ((((gI_sI_ne (by decide)).trans (hF1823.1 231 9 (by decide))).trans hv1789))
                have x1840 := HI.eqI hI1836 (p := 231) (b := 10) ((((gI_sI_ne (by decide)).trans (hF1823.1 231 10 (by decide))).trans hv1791))
                have x1841 := HI.eqI hI1836 (p := 231) (b := 11) ((((gI_sI_ne (by decide)).trans (hF1823.1 231 11 (by decide))).trans hv1793))
                obtain ⟨v1842, hv1842⟩ : ∃ v, gJ g1776 231 12 = v := ⟨_, rfl⟩
                have x1843 := HI.eqJ hI1836 (b := 12) ((((gJ_sI_ne (by decide)).trans (hF1823.2.2 231 12 (by decide))).trans hv1842))
                have x1844 := HI.eqI hI1836 (p := 231) (b := 14) ((((gI_sI_ne (by decide)).trans (hF1823.1 231 14 (by decide))).trans hv1795))
                have x1845 := HI.eqI hI1836 (p := 231) (b := 17) (((gI_sI_ne (by decide)).trans hv1830))
                have x1846 := HI.eqI hI1836 (p := 231) (b := 23) ((((gI_sI_ne (by decide)).trans ((hF1823.1 231 23 (by decide)).trans ((hF1778.1 231 23 (by decide)).trans ((hF1506.1 231 23 (by decide)).trans (hF1495.1 231 23 (by decide)))))).trans hv8))
                have x1847 := HI.eqI hI0 (p := 231) (b := 9) (hv2)
                have zv1848 : (3 : Int32).toInt = 3 := rfl
                have pg1849 := PG.cong pg1833 hI1836 ((gA_sI)) ((gA_sI)) ((gA_sI)) ((gA_sI)) ((gI_sI_ne (by decide))) ((gI_sI_ne (by decide)))
                have w261850 := W26.cong c1802 hI1836 (((gI_sI_ne (by decide)).trans (hF1823.1 231 9 (by decide)))) (((gI_sI_ne (by decide)).trans (hF1823.1 231 10 (by decide)))) (((gI_sI_ne (by decide)).trans (hF1823.1 231 11 (by decide)))) (((gJ_sI_ne (by decide)).trans (hF1823.2.2 231 12 (by decide))))
                exact ⟨_, rfl, hI1836, hF1837, _, rfl, by decide, ⟨by omega, by omega, by omega, by omega, w261850, by omega, by omega, (fun hbad => ⟨by omega, (PT.mk (fun h => False.elim (by omega)) (fun _ => pg1849) (fun h h9 => False.elim (by omega)) (fun h => False.elim (by omega)))⟩), (fun hbad => by omega)⟩⟩
            · have c1769_ : v1768.toInt < 50 := en_i_ge_f c1769
              refine At.enter rfl ?_
              refine r_iconst 1 rfl ?_
              refine r_goto ?_
              refine At.enter rfl ?_
              have x1851 := HI.eqI hI1505 (p := 231) (b := 8) ((((hF1506.1 231 8 (by decide)).trans (hF1495.1 231 8 (by decide))).trans hv1))
              have x1852 := HI.eqI hI1505 (p := 231) (b := 9) ((((hF1506.1 231 9 (by decide)).trans (hF1495.1 231 9 (by decide))).trans hv2))
              have x1853 := HI.eqI hI1505 (p := 231) (b := 10) ((((hF1506.1 231 10 (by decide)).trans (hF1495.1 231 10 (by decide))).trans hv3))
              have x1854 := HI.eqI hI1505 (p := 231) (b := 11) ((((hF1506.1 231 11 (by decide)).trans (hF1495.1 231 11 (by decide))).trans hv4))
              have w261855 := W26.cong hW hI1505 (((hF1506.1 231 9 (by decide)).trans (hF1495.1 231 9 (by decide)))) (((hF1506.1 231 10 (by decide)).trans (hF1495.1 231 10 (by decide)))) (((hF1506.1 231 11 (by decide)).trans (hF1495.1 231 11 (by decide)))) (((hF1506.2.2 231 12 (by decide)).trans (hF1495.2.2 231 12 (by decide))))
              have zv1856 : (1 : Int32).toInt = 1 := rfl
              refine r_callV 22 rfl [.ref 231, .int 1] [] (Nat.le_of_ble_eq_true rfl) rfl (T_X11_must_231 _ hI1505 1 (by decide) (by refine ⟨?_, ?_, ?_, ?_⟩ <;> omega) w261855) ?_
              rintro _ _ ⟨g1857, rfl, hI1858, hF1859, rfl, hr1861⟩
              refine At.stn ?_
              have hF1862 := Fr.tr hF1509 hF1859 rfl rfl
              have zv1863 : (1 : Int32).toInt = 1 := rfl
              have x1864 := HI.eqI hI1505 (p := 231) (b := 8) ((((hF1506.1 231 8 (by decide)).trans (hF1495.1 231 8 (by decide))).trans hv1))
              have x1865 := HI.eqI hI1505 (p := 231) (b := 9) ((((hF1506.1 231 9 (by decide)).trans (hF1495.1 231 9 (by decide))).trans hv2))
              have x1866 := HI.eqI hI1505 (p := 231) (b := 10) ((((hF1506.1 231 10 (by decide)).trans (hF1495.1 231 10 (by decide))).trans hv3))
              have x1867 := HI.eqI hI1505 (p := 231) (b := 11) ((((hF1506.1 231 11 (by decide)).trans (hF1495.1 231 11 (by decide))).trans hv4))
              have x1868 := HI.eqI hI1505 (p := 231) (b := 14) ((((hF1506.1 231 14 (by decide)).trans (hF1495.1 231 14 (by decide))).trans hv6))
              have x1869 := HI.eqI hI1858 (p := 231) (b := 8) ((((hF1859.1 231 8 (by decide)).trans ((hF1506.1 231 8 (by decide)).trans (hF1495.1 231 8 (by decide)))).trans hv1))
              obtain ⟨v1870, hv1870⟩ : ∃ v, gI g1857 231 9 = v := ⟨_, rfl⟩
              have rv1870 := RgF.at hI1858.2.1 (p := 231) (b := 9) rfl
              rw [hv1870] at rv1870
              dsimp only at rv1870
              have tv1870 := congrArg Int32.toInt hv1870
              have x1871 := HI.eqI hI1858 (p := 231) (b := 9) (hv1870)
              obtain ⟨v1872, hv1872⟩ : ∃ v, gI g1857 231 10 = v := ⟨_, rfl⟩
              have rv1872 := RgF.at hI1858.2.1 (p := 231) (b := 10) rfl
              rw [hv1872] at rv1872
              dsimp only at rv1872
              have tv1872 := congrArg Int32.toInt hv1872
              have x1873 := HI.eqI hI1858 (p := 231) (b := 10) (hv1872)
              obtain ⟨v1874, hv1874⟩ : ∃ v, gI g1857 231 11 = v := ⟨_, rfl⟩
              have tv1874 := congrArg Int32.toInt hv1874
              have x1875 := HI.eqI hI1858 (p := 231) (b := 11) (hv1874)
              obtain ⟨v1876, hv1876⟩ : ∃ v, gI g1857 231 14 = v := ⟨_, rfl⟩
              have tv1876 := congrArg Int32.toInt hv1876
              have x1877 := HI.eqI hI1858 (p := 231) (b := 14) (hv1876)
              obtain ⟨c1878, c1879, c1880, c1881, c1882, c1883, c1884⟩ := hr1861
              refine At.enter rfl ?_
              refine r_aload_n rfl ?_
              refine q_getI (Sh.int hI1858.1 kx_231 rfl) v1876 hv1876 ?_
              refine r_ifs 29 rfl (fun c1885 => ?_) (fun c1885 => ?_)
              · have c1885_ : v1876.toInt ≠ 0 := en_k_ne_t c1885
                clear c1884
                refine At.enter rfl ?_
                refine q_vret ?_
                refine At.enter rfl ?_
                refine r_iconst 3 rfl ?_
                refine r_ireti ?_
                have x1886 := HI.eqI hI1858 (p := 231) (b := 8) ((((hF1859.1 231 8 (by decide)).trans ((hF1506.1 231 8 (by decide)).trans (hF1495.1 231 8 (by decide)))).trans hv1))
                have x1887 := HI.eqI hI1858 (p := 231) (b := 9) (hv1870)
                have x1888 := HI.eqI hI1858 (p := 231) (b := 10) (hv1872)
                have x1889 := HI.eqI hI1858 (p := 231) (b := 11) (hv1874)
                obtain ⟨v1890, hv1890⟩ : ∃ v, gJ g1857 231 12 = v := ⟨_, rfl⟩
                have x1891 := HI.eqJ hI1858 (b := 12) (hv1890)
                have x1892 := HI.eqI hI1858 (p := 231) (b := 14) (hv1876)
                have x1893 := HI.eqI hI1858 (p := 231) (b := 17) ((((hF1859.1 231 17 (by decide)).trans ((hF1506.1 231 17 (by decide)).trans (hF1495.1 231 17 (by decide)))).trans hv7))
                have x1894 := HI.eqI hI1858 (p := 231) (b := 23) ((((hF1859.1 231 23 (by decide)).trans ((hF1506.1 231 23 (by decide)).trans (hF1495.1 231 23 (by decide)))).trans hv8))
                have x1895 := HI.eqI hI0 (p := 231) (b := 9) (hv2)
                have zv1896 : (3 : Int32).toInt = 3 := rfl
                exact ⟨_, rfl, hI1858, hF1862, _, rfl, by decide, ⟨by omega, by omega, by omega, by omega, c1883, by omega, by omega, (fun hbad => ⟨by omega, (PT.mk (fun h => False.elim (by omega)) (fun h => False.elim (by omega)) (fun h h9 => False.elim (by omega)) (fun h => False.elim (by omega)))⟩), (fun hbad => by omega)⟩⟩
              · have c1885_ : v1876.toInt = 0 := en_k_ne_f c1885
                obtain ⟨i1897, i1898, i1899⟩ := c1884 (by omega)
                refine At.enter rfl ?_
                refine r_aload_n rfl ?_
                refine r_iload_n rfl ?_
                refine r_iload_n rfl ?_
                have x1900 := HI.eqI hI1858 (p := 231) (b := 17) ((((hF1859.1 231 17 (by decide)).trans ((hF1506.1 231 17 (by decide)).trans (hF1495.1 231 17 (by decide)))).trans hv7))
                have zv1901 : (0 : Int32).toInt = 0 := rfl
                refine r_callV 35 rfl [.ref 231, .int v1507, .int 0] [] (Nat.le_of_ble_eq_true rfl) rfl (T_X11_emit_231 _ hI1858 v1507 0 (by omega)) ?_
                rintro _ _ ⟨g1902, rfl, hI1903, hF1904, rfl, hr1906⟩
                refine At.stn ?_
                have hF1907 := Fr.tr hF1862 hF1904 rfl rfl
                have zv1908 : (0 : Int32).toInt = 0 := rfl
                have x1909 := HI.eqI hI1858 (p := 231) (b := 17) ((((hF1859.1 231 17 (by decide)).trans ((hF1506.1 231 17 (by decide)).trans (hF1495.1 231 17 (by decide)))).trans hv7))
                have x1910 := HI.eqI hI1858 (p := 231) (b := 23) ((((hF1859.1 231 23 (by decide)).trans ((hF1506.1 231 23 (by decide)).trans (hF1495.1 231 23 (by decide)))).trans hv8))
                obtain ⟨v1911, hv1911⟩ : ∃ v, gI g1902 231 17 = v := ⟨_, rfl⟩
                have rv1911 := RgF.at hI1903.2.1 (p := 231) (b := 17) rfl
                rw [hv1911] at rv1911
                dsimp only at rv1911
                have tv1911 := congrArg Int32.toInt hv1911
                have x1912 := HI.eqI hI1903 (p := 231) (b := 17) (hv1911)
                have y1913 : (gI _ 231 17).toInt = (gI _ 231 17).toInt + 1 := hr1906.1
                have pg1915 := PG.cong (hP.1 (by decide)) hI1858 (((hF1859.2.1 238 (by decide)).trans ((hF1506.2.1 238 (by decide)).trans (hF1495.2.1 238 (by decide))))) (((hF1859.2.1 239 (by decide)).trans ((hF1506.2.1 239 (by decide)).trans (hF1495.2.1 239 (by decide))))) (((hF1859.2.1 240 (by decide)).trans ((hF1506.2.1 240 (by decide)).trans (hF1495.2.1 240 (by decide))))) (((hF1859.2.1 241 (by decide)).trans ((hF1506.2.1 241 (by decide)).trans (hF1495.2.1 241 (by decide))))) (((hF1859.1 231 17 (by decide)).trans ((hF1506.1 231 17 (by decide)).trans (hF1495.1 231 17 (by decide))))) (((hF1859.1 231 23 (by decide)).trans ((hF1506.1 231 23 (by decide)).trans (hF1495.1 231 23 (by decide)))))
                have pg1914 := PG.emit (e' := 1) pg1915 hr1906 (hF1904.2.1 240 (by decide)) (hF1904.2.1 241 (by decide)) (hF1904.1 231 23 (by decide)) (Or.inl ⟨by omega, by omega, by decide, by decide⟩)
                refine At.enter rfl ?_
                refine r_aload_n rfl ?_
                refine r_dup rfl ?_
                refine q_getI (Sh.int hI1903.1 kx_231 rfl) v1768 (((hF1904.1 231 20 (by decide)).trans ((hF1859.1 231 20 (by decide)).trans ((hF1506.1 231 20 (by decide)).trans (hF1495.1 231 20 (by decide))))).trans hv1768) ?_
                refine r_iconst 1 rfl ?_
                have bv1916 := q_bnd v1768
                refine q_iadd (v1768.toInt + 1) rfl (by omega) (fun v1917 hv1917 => ?_)
                refine q_putI (Sh.int hI1903.1 kx_231 rfl) rfl ?_
                have hI1918 := HI.wI0 hI1903 kx_231 rfl (p := 231) (b := 20) (v := v1917) rfl
                have hF1919 := Fr.wI (p := 231) (b := 20) (v := v1917) hF1907 rfl
                refine Ar.fall 45 rfl ?_
                refine At.enter rfl ?_
                refine q_vret ?_
                refine At.enter rfl ?_
                refine r_iconst 3 rfl ?_
                refine r_ireti ?_
                have x1920 := HI.eqI hI1918 (p := 231) (b := 8) ((((gI_sI_ne (by decide)).trans ((hF1904.1 231 8 (by decide)).trans ((hF1859.1 231 8 (by decide)).trans ((hF1506.1 231 8 (by decide)).trans (hF1495.1 231 8 (by decide)))))).trans hv1))
                have x1921 := HI.eqI hI1918 (p := 231) (b := 9) ((((gI_sI_ne (by decide)).trans (hF1904.1 231 9 (by decide))).trans hv1870))
                have x1922 := HI.eqI hI1918 (p := 231) (b := 10) ((((gI_sI_ne (by decide)).trans (hF1904.1 231 10 (by decide))).trans hv1872))
                have x1923 := HI.eqI hI1918 (p := 231) (b := 11) ((((gI_sI_ne (by decide)).trans (hF1904.1 231 11 (by decide))).trans hv1874))
                obtain ⟨v1924, hv1924⟩ : ∃ v, gJ g1857 231 12 = v := ⟨_, rfl⟩
                have x1925 := HI.eqJ hI1918 (b := 12) ((((gJ_sI_ne (by decide)).trans (hF1904.2.2 231 12 (by decide))).trans hv1924))
                have x1926 := HI.eqI hI1918 (p := 231) (b := 14) ((((gI_sI_ne (by decide)).trans (hF1904.1 231 14 (by decide))).trans hv1876))
                have x1927 := HI.eqI hI1918 (p := 231) (b := 17) (((gI_sI_ne (by decide)).trans hv1911))
                have x1928 := HI.eqI hI1918 (p := 231) (b := 23) ((((gI_sI_ne (by decide)).trans ((hF1904.1 231 23 (by decide)).trans ((hF1859.1 231 23 (by decide)).trans ((hF1506.1 231 23 (by decide)).trans (hF1495.1 231 23 (by decide)))))).trans hv8))
                have x1929 := HI.eqI hI0 (p := 231) (b := 9) (hv2)
                have zv1930 : (3 : Int32).toInt = 3 := rfl
                have pg1931 := PG.cong pg1914 hI1918 ((gA_sI)) ((gA_sI)) ((gA_sI)) ((gA_sI)) ((gI_sI_ne (by decide))) ((gI_sI_ne (by decide)))
                have w261932 := W26.cong c1883 hI1918 (((gI_sI_ne (by decide)).trans (hF1904.1 231 9 (by decide)))) (((gI_sI_ne (by decide)).trans (hF1904.1 231 10 (by decide)))) (((gI_sI_ne (by decide)).trans (hF1904.1 231 11 (by decide)))) (((gJ_sI_ne (by decide)).trans (hF1904.2.2 231 12 (by decide))))
                exact ⟨_, rfl, hI1918, hF1919, _, rfl, by decide, ⟨by omega, by omega, by omega, by omega, w261932, by omega, by omega, (fun hbad => ⟨by omega, (PT.mk (fun h => False.elim (by omega)) (fun _ => pg1931) (fun h h9 => False.elim (by omega)) (fun h => False.elim (by omega)))⟩), (fun hbad => by omega)⟩⟩
          · have c1767_ : v1507.toInt = (-1) := en_i_ne_f c1767
            exfalso; omega
        · have c1766_ : v1507.toInt = (-1) := en_i_ne_f c1766
          refine At.enter rfl ?_
          refine r_iload_n rfl ?_
          refine r_ift (by decide) ?_
          refine At.enter rfl ?_
          refine r_iconst 0 rfl ?_
          refine Ar.fall 62 rfl ?_
          refine At.enter rfl ?_
          refine r_iload_n rfl ?_
          refine r_iconst (-1) rfl ?_
          refine r_ics 67 rfl (fun c1933 => ?_) (fun c1933 => ?_)
          · have c1933_ : v1507.toInt ≠ (-1) := en_i_ne_t c1933
            exfalso; omega
          · have c1933_ : v1507.toInt = (-1) := en_i_ne_f c1933
            refine At.enter rfl ?_
            refine r_iconst 0 rfl ?_
            refine r_goto ?_
            refine At.enter rfl ?_
            refine r_iload_n rfl ?_
            refine r_ift (by decide) ?_
            refine At.enter rfl ?_
            refine r_iconst 0 rfl ?_
            refine Ar.fall 85 rfl ?_
            refine At.enter rfl ?_
            refine q_inlV 88 rfl [.ref 231, .int 0, .int 0, .int 0] [] (Nat.le_of_ble_eq_true rfl) rfl ?_
            refine Ev.mk rfl rfl ⟨Nat.le_of_ble_eq_true rfl, Or.inr (q_rc hI1505.1 kx_231 rfl)⟩ ?_
            show At _ none _ _ (0, [(0, .ref 231), (1, .int 0), (2, .int 0), (3, .int 0)], [], (_, _)) _
            refine At.enter rfl ?_
            refine r_aload_n rfl ?_
            refine r_iload_n rfl ?_
            refine r_ift (by decide) ?_
            refine At.enter rfl ?_
            refine r_iconst 0 rfl ?_
            refine Ar.fall 19 rfl ?_
            refine At.enter rfl ?_
            have x1934 := HI.eqI hI1505 (p := 231) (b := 8) ((((hF1506.1 231 8 (by decide)).trans (hF1495.1 231 8 (by decide))).trans hv1))
            have x1935 := HI.eqI hI1505 (p := 231) (b := 9) ((((hF1506.1 231 9 (by decide)).trans (hF1495.1 231 9 (by decide))).trans hv2))
            have x1936 := HI.eqI hI1505 (p := 231) (b := 10) ((((hF1506.1 231 10 (by decide)).trans (hF1495.1 231 10 (by decide))).trans hv3))
            have x1937 := HI.eqI hI1505 (p := 231) (b := 11) ((((hF1506.1 231 11 (by decide)).trans (hF1495.1 231 11 (by decide))).trans hv4))
            have w261938 := W26.cong hW hI1505 (((hF1506.1 231 9 (by decide)).trans (hF1495.1 231 9 (by decide)))) (((hF1506.1 231 10 (by decide)).trans (hF1495.1 231 10 (by decide)))) (((hF1506.1 231 11 (by decide)).trans (hF1495.1 231 11 (by decide)))) (((hF1506.2.2 231 12 (by decide)).trans (hF1495.2.2 231 12 (by decide))))
            have zv1939 : (0 : Int32).toInt = 0 := rfl
            refine r_callV 22 rfl [.ref 231, .int 0] [] (Nat.le_of_ble_eq_true rfl) rfl (T_X11_must_231 _ hI1505 0 (by decide) (by refine ⟨?_, ?_, ?_, ?_⟩ <;> omega) w261938) ?_
            rintro _ _ ⟨g1940, rfl, hI1941, hF1942, rfl, hr1944⟩
            refine At.stn ?_
            have hF1945 := Fr.tr hF1509 hF1942 rfl rfl
            have zv1946 : (0 : Int32).toInt = 0 := rfl
            have x1947 := HI.eqI hI1505 (p := 231) (b := 8) ((((hF1506.1 231 8 (by decide)).trans (hF1495.1 231 8 (by decide))).trans hv1))
            have x1948 := HI.eqI hI1505 (p := 231) (b := 9) ((((hF1506.1 231 9 (by decide)).trans (hF1495.1 231 9 (by decide))).trans hv2))
            have x1949 := HI.eqI hI1505 (p := 231) (b := 10) ((((hF1506.1 231 10 (by decide)).trans (hF1495.1 231 10 (by decide))).trans hv3))
            have x1950 := HI.eqI hI1505 (p := 231) (b := 11) ((((hF1506.1 231 11 (by decide)).trans (hF1495.1 231 11 (by decide))).trans hv4))
            have x1951 := HI.eqI hI1505 (p := 231) (b := 14) ((((hF1506.1 231 14 (by decide)).trans (hF1495.1 231 14 (by decide))).trans hv6))
            have x1952 := HI.eqI hI1941 (p := 231) (b := 8) ((((hF1942.1 231 8 (by decide)).trans ((hF1506.1 231 8 (by decide)).trans (hF1495.1 231 8 (by decide)))).trans hv1))
            obtain ⟨v1953, hv1953⟩ : ∃ v, gI g1940 231 9 = v := ⟨_, rfl⟩
            have rv1953 := RgF.at hI1941.2.1 (p := 231) (b := 9) rfl
            rw [hv1953] at rv1953
            dsimp only at rv1953
            have tv1953 := congrArg Int32.toInt hv1953
            have x1954 := HI.eqI hI1941 (p := 231) (b := 9) (hv1953)
            obtain ⟨v1955, hv1955⟩ : ∃ v, gI g1940 231 10 = v := ⟨_, rfl⟩
            have rv1955 := RgF.at hI1941.2.1 (p := 231) (b := 10) rfl
            rw [hv1955] at rv1955
            dsimp only at rv1955
            have tv1955 := congrArg Int32.toInt hv1955
            have x1956 := HI.eqI hI1941 (p := 231) (b := 10) (hv1955)
            obtain ⟨v1957, hv1957⟩ : ∃ v, gI g1940 231 11 = v := ⟨_, rfl⟩
            have tv1957 := congrArg Int32.toInt hv1957
            have x1958 := HI.eqI hI1941 (p := 231) (b := 11) (hv1957)
            obtain ⟨v1959, hv1959⟩ : ∃ v, gI g1940 231 14 = v := ⟨_, rfl⟩
            have tv1959 := congrArg Int32.toInt hv1959
            have x1960 := HI.eqI hI1941 (p := 231) (b := 14) (hv1959)
            obtain ⟨c1961, c1962, c1963, c1964, c1965, c1966, c1967⟩ := hr1944
            refine At.enter rfl ?_
            refine r_aload_n rfl ?_
            refine q_getI (Sh.int hI1941.1 kx_231 rfl) v1959 hv1959 ?_
            refine r_ifs 29 rfl (fun c1968 => ?_) (fun c1968 => ?_)
            · have c1968_ : v1959.toInt ≠ 0 := en_k_ne_t c1968
              clear c1967
              refine At.enter rfl ?_
              refine q_vret ?_
              refine At.enter rfl ?_
              refine r_iconst 3 rfl ?_
              refine r_ireti ?_
              have x1969 := HI.eqI hI1941 (p := 231) (b := 8) ((((hF1942.1 231 8 (by decide)).trans ((hF1506.1 231 8 (by decide)).trans (hF1495.1 231 8 (by decide)))).trans hv1))
              have x1970 := HI.eqI hI1941 (p := 231) (b := 9) (hv1953)
              have x1971 := HI.eqI hI1941 (p := 231) (b := 10) (hv1955)
              have x1972 := HI.eqI hI1941 (p := 231) (b := 11) (hv1957)
              obtain ⟨v1973, hv1973⟩ : ∃ v, gJ g1940 231 12 = v := ⟨_, rfl⟩
              have x1974 := HI.eqJ hI1941 (b := 12) (hv1973)
              have x1975 := HI.eqI hI1941 (p := 231) (b := 14) (hv1959)
              have x1976 := HI.eqI hI1941 (p := 231) (b := 17) ((((hF1942.1 231 17 (by decide)).trans ((hF1506.1 231 17 (by decide)).trans (hF1495.1 231 17 (by decide)))).trans hv7))
              have x1977 := HI.eqI hI1941 (p := 231) (b := 23) ((((hF1942.1 231 23 (by decide)).trans ((hF1506.1 231 23 (by decide)).trans (hF1495.1 231 23 (by decide)))).trans hv8))
              have x1978 := HI.eqI hI0 (p := 231) (b := 9) (hv2)
              have zv1979 : (3 : Int32).toInt = 3 := rfl
              exact ⟨_, rfl, hI1941, hF1945, _, rfl, by decide, ⟨by omega, by omega, by omega, by omega, c1966, by omega, by omega, (fun hbad => ⟨by omega, (PT.mk (fun h => False.elim (by omega)) (fun h => False.elim (by omega)) (fun h h9 => False.elim (by omega)) (fun h => False.elim (by omega)))⟩), (fun hbad => by omega)⟩⟩
            · have c1968_ : v1959.toInt = 0 := en_k_ne_f c1968
              obtain ⟨i1980, i1981, i1982⟩ := c1967 (by omega)
              refine At.enter rfl ?_
              refine r_aload_n rfl ?_
              refine r_iload_n rfl ?_
              refine r_iload_n rfl ?_
              have x1983 := HI.eqI hI1941 (p := 231) (b := 17) ((((hF1942.1 231 17 (by decide)).trans ((hF1506.1 231 17 (by decide)).trans (hF1495.1 231 17 (by decide)))).trans hv7))
              have zv1984 : (0 : Int32).toInt = 0 := rfl
              have zv1985 : (0 : Int32).toInt = 0 := rfl
              refine r_callV 35 rfl [.ref 231, .int 0, .int 0] [] (Nat.le_of_ble_eq_true rfl) rfl (T_X11_emit_231 _ hI1941 0 0 (by omega)) ?_
              rintro _ _ ⟨g1986, rfl, hI1987, hF1988, rfl, hr1990⟩
              refine At.stn ?_
              have hF1991 := Fr.tr hF1945 hF1988 rfl rfl
              have zv1992 : (0 : Int32).toInt = 0 := rfl
              have zv1993 : (0 : Int32).toInt = 0 := rfl
              have x1994 := HI.eqI hI1941 (p := 231) (b := 17) ((((hF1942.1 231 17 (by decide)).trans ((hF1506.1 231 17 (by decide)).trans (hF1495.1 231 17 (by decide)))).trans hv7))
              have x1995 := HI.eqI hI1941 (p := 231) (b := 23) ((((hF1942.1 231 23 (by decide)).trans ((hF1506.1 231 23 (by decide)).trans (hF1495.1 231 23 (by decide)))).trans hv8))
              obtain ⟨v1996, hv1996⟩ : ∃ v, gI g1986 231 17 = v := ⟨_, rfl⟩
              have rv1996 := RgF.at hI1987.2.1 (p := 231) (b := 17) rfl
              rw [hv1996] at rv1996
              dsimp only at rv1996
              have tv1996 := congrArg Int32.toInt hv1996
              have x1997 := HI.eqI hI1987 (p := 231) (b := 17) (hv1996)
              have y1998 : (gI _ 231 17).toInt = (gI _ 231 17).toInt + 1 := hr1990.1
              have pg2000 := PG.cong (hP.1 (by decide)) hI1941 (((hF1942.2.1 238 (by decide)).trans ((hF1506.2.1 238 (by decide)).trans (hF1495.2.1 238 (by decide))))) (((hF1942.2.1 239 (by decide)).trans ((hF1506.2.1 239 (by decide)).trans (hF1495.2.1 239 (by decide))))) (((hF1942.2.1 240 (by decide)).trans ((hF1506.2.1 240 (by decide)).trans (hF1495.2.1 240 (by decide))))) (((hF1942.2.1 241 (by decide)).trans ((hF1506.2.1 241 (by decide)).trans (hF1495.2.1 241 (by decide))))) (((hF1942.1 231 17 (by decide)).trans ((hF1506.1 231 17 (by decide)).trans (hF1495.1 231 17 (by decide))))) (((hF1942.1 231 23 (by decide)).trans ((hF1506.1 231 23 (by decide)).trans (hF1495.1 231 23 (by decide)))))
              have pg1999 := PG.emit (e' := 1) pg2000 hr1990 (hF1988.2.1 240 (by decide)) (hF1988.2.1 241 (by decide)) (hF1988.1 231 23 (by decide)) (Or.inl ⟨by omega, by omega, by decide, by decide⟩)
              refine At.enter rfl ?_
              refine r_aload_n rfl ?_
              refine r_dup rfl ?_
              obtain ⟨v2001, hv2001⟩ : ∃ v, gI g0 231 20 = v := ⟨_, rfl⟩
              refine q_getI (Sh.int hI1987.1 kx_231 rfl) v2001 (((hF1988.1 231 20 (by decide)).trans ((hF1942.1 231 20 (by decide)).trans ((hF1506.1 231 20 (by decide)).trans (hF1495.1 231 20 (by decide))))).trans hv2001) ?_
              refine r_iconst 1 rfl ?_
              refine q_iaddO (fun v2002 _ => ?_)
              refine q_putI (Sh.int hI1987.1 kx_231 rfl) rfl ?_
              have hI2003 := HI.wI0 hI1987 kx_231 rfl (p := 231) (b := 20) (v := v2002) rfl
              have hF2004 := Fr.wI (p := 231) (b := 20) (v := v2002) hF1991 rfl
              refine Ar.fall 45 rfl ?_
              refine At.enter rfl ?_
              refine q_vret ?_
              refine At.enter rfl ?_
              refine r_iconst 3 rfl ?_
              refine r_ireti ?_
              have x2005 := HI.eqI hI2003 (p := 231) (b := 8) ((((gI_sI_ne (by decide)).trans ((hF1988.1 231 8 (by decide)).trans ((hF1942.1 231 8 (by decide)).trans ((hF1506.1 231 8 (by decide)).trans (hF1495.1 231 8 (by decide)))))).trans hv1))
              have x2006 := HI.eqI hI2003 (p := 231) (b := 9) ((((gI_sI_ne (by decide)).trans (hF1988.1 231 9 (by decide))).trans hv1953))
              have x2007 := HI.eqI hI2003 (p := 231) (b := 10) ((((gI_sI_ne (by decide)).trans (hF1988.1 231 10 (by decide))).trans hv1955))
              have x2008 := HI.eqI hI2003 (p := 231) (b := 11) ((((gI_sI_ne (by decide)).trans (hF1988.1 231 11 (by decide))).trans hv1957))
              obtain ⟨v2009, hv2009⟩ : ∃ v, gJ g1940 231 12 = v := ⟨_, rfl⟩
              have x2010 := HI.eqJ hI2003 (b := 12) ((((gJ_sI_ne (by decide)).trans (hF1988.2.2 231 12 (by decide))).trans hv2009))
              have x2011 := HI.eqI hI2003 (p := 231) (b := 14) ((((gI_sI_ne (by decide)).trans (hF1988.1 231 14 (by decide))).trans hv1959))
              have x2012 := HI.eqI hI2003 (p := 231) (b := 17) (((gI_sI_ne (by decide)).trans hv1996))
              have x2013 := HI.eqI hI2003 (p := 231) (b := 23) ((((gI_sI_ne (by decide)).trans ((hF1988.1 231 23 (by decide)).trans ((hF1942.1 231 23 (by decide)).trans ((hF1506.1 231 23 (by decide)).trans (hF1495.1 231 23 (by decide)))))).trans hv8))
              have x2014 := HI.eqI hI0 (p := 231) (b := 9) (hv2)
              have zv2015 : (3 : Int32).toInt = 3 := rfl
              have pg2016 := PG.cong pg1999 hI2003 ((gA_sI)) ((gA_sI)) ((gA_sI)) ((gA_sI)) ((gI_sI_ne (by decide))) ((gI_sI_ne (by decide)))
              have w262017 := W26.cong c1966 hI2003 (((gI_sI_ne (by decide)).trans (hF1988.1 231 9 (by decide)))) (((gI_sI_ne (by decide)).trans (hF1988.1 231 10 (by decide)))) (((gI_sI_ne (by decide)).trans (hF1988.1 231 11 (by decide)))) (((gJ_sI_ne (by decide)).trans (hF1988.2.2 231 12 (by decide))))
              exact ⟨_, rfl, hI2003, hF2004, _, rfl, by decide, ⟨by omega, by omega, by omega, by omega, w262017, by omega, by omega, (fun hbad => ⟨by omega, (PT.mk (fun h => False.elim (by omega)) (fun _ => pg2016) (fun h h9 => False.elim (by omega)) (fun h => False.elim (by omega)))⟩), (fun hbad => by omega)⟩⟩
      · have c1765_ : v5.toInt ≤ 1000 := en_j_gt_f c1765
        refine At.enter rfl ?_
        refine r_iconst 1 rfl ?_
        refine r_goto ?_
        refine At.enter rfl ?_
        refine r_istore_n ([(2, .int 1), (1, .int v1507), (0, .ref 231)]) rfl ?_
        refine r_aload_n rfl ?_
        refine r_iload_n rfl ?_
        refine r_iconst (-1) rfl ?_
        refine r_ics 53 rfl (fun c2018 => ?_) (fun c2018 => ?_)
        · have c2018_ : v1507.toInt ≠ (-1) := en_i_ne_t c2018
          refine At.enter rfl ?_
          refine r_iconst 1 rfl ?_
          refine r_goto ?_
          refine At.enter rfl ?_
          refine r_iload_n rfl ?_
          refine r_iconst (-1) rfl ?_
          refine r_ics 67 rfl (fun c2019 => ?_) (fun c2019 => ?_)
          · have c2019_ : v1507.toInt ≠ (-1) := en_i_ne_t c2019
            refine At.enter rfl ?_
            refine r_iload_n rfl ?_
            refine Ar.fall 72 rfl ?_
            refine At.enter rfl ?_
            refine r_iload_n rfl ?_
            refine r_iff 76 rfl (by decide) ?_
            refine At.enter rfl ?_
            refine r_aload_n rfl ?_
            refine q_getJv (Sh.long hI1505.1 kx_231 rfl) v5 (((hF1506.2.2 231 12 (by decide)).trans (hF1495.2.2 231 12 (by decide))).trans hv5) ?_
            refine q_l2iO (fun v2020 hv2020 => ?_)
            refine r_goto ?_
            refine At.enter rfl ?_
            refine q_inlV 88 rfl [.ref 231, .int 1, .int v1507, .int v2020] [] (Nat.le_of_ble_eq_true rfl) rfl ?_
            refine Ev.mk rfl rfl ⟨Nat.le_of_ble_eq_true rfl, Or.inr (q_rc hI1505.1 kx_231 rfl)⟩ ?_
            show At _ none _ _ (0, [(0, .ref 231), (1, .int 1), (2, .int v1507), (3, .int v2020)], [], (_, _)) _
            refine At.enter rfl ?_
            refine r_aload_n rfl ?_
            refine r_iload_n rfl ?_
            refine r_iff 5 rfl (by decide) ?_
            refine At.enter rfl ?_
            refine r_aload_n rfl ?_
            obtain ⟨v2021, hv2021⟩ : ∃ v, gI g0 231 20 = v := ⟨_, rfl⟩
            refine q_getI (Sh.int hI1505.1 kx_231 rfl) v2021 (((hF1506.1 231 20 (by decide)).trans (hF1495.1 231 20 (by decide))).trans hv2021) ?_
            refine r_bipush 50 rfl ?_
            refine r_ics 14 rfl (fun c2022 => ?_) (fun c2022 => ?_)
            · have c2022_ : v2021.toInt ≥ 50 := en_i_ge_t c2022
              refine At.enter rfl ?_
              refine r_iconst 0 rfl ?_
              refine Ar.fall 19 rfl ?_
              refine At.enter rfl ?_
              have x2023 := HI.eqI hI1505 (p := 231) (b := 8) ((((hF1506.1 231 8 (by decide)).trans (hF1495.1 231 8 (by decide))).trans hv1))
              have x2024 := HI.eqI hI1505 (p := 231) (b := 9) ((((hF1506.1 231 9 (by decide)).trans (hF1495.1 231 9 (by decide))).trans hv2))
              have x2025 := HI.eqI hI1505 (p := 231) (b := 10) ((((hF1506.1 231 10 (by decide)).trans (hF1495.1 231 10 (by decide))).trans hv3))
              have x2026 := HI.eqI hI1505 (p := 231) (b := 11) ((((hF1506.1 231 11 (by decide)).trans (hF1495.1 231 11 (by decide))).trans hv4))
              have w262027 := W26.cong hW hI1505 (((hF1506.1 231 9 (by decide)).trans (hF1495.1 231 9 (by decide)))) (((hF1506.1 231 10 (by decide)).trans (hF1495.1 231 10 (by decide)))) (((hF1506.1 231 11 (by decide)).trans (hF1495.1 231 11 (by decide)))) (((hF1506.2.2 231 12 (by decide)).trans (hF1495.2.2 231 12 (by decide))))
              have zv2028 : (0 : Int32).toInt = 0 := rfl
              refine r_callV 22 rfl [.ref 231, .int 0] [] (Nat.le_of_ble_eq_true rfl) rfl (T_X11_must_231 _ hI1505 0 (by decide) (by refine ⟨?_, ?_, ?_, ?_⟩ <;> omega) w262027) ?_
              rintro _ _ ⟨g2029, rfl, hI2030, hF2031, rfl, hr2033⟩
              refine At.stn ?_
              have hF2034 := Fr.tr hF1509 hF2031 rfl rfl
              have zv2035 : (0 : Int32).toInt = 0 := rfl
              have x2036 := HI.eqI hI1505 (p := 231) (b := 8) ((((hF1506.1 231 8 (by decide)).trans (hF1495.1 231 8 (by decide))).trans hv1))
              have x2037 := HI.eqI hI1505 (p := 231) (b := 9) ((((hF1506.1 231 9 (by decide)).trans (hF1495.1 231 9 (by decide))).trans hv2))
              have x2038 := HI.eqI hI1505 (p := 231) (b := 10) ((((hF1506.1 231 10 (by decide)).trans (hF1495.1 231 10 (by decide))).trans hv3))
              have x2039 := HI.eqI hI1505 (p := 231) (b := 11) ((((hF1506.1 231 11 (by decide)).trans (hF1495.1 231 11 (by decide))).trans hv4))
              have x2040 := HI.eqI hI1505 (p := 231) (b := 14) ((((hF1506.1 231 14 (by decide)).trans (hF1495.1 231 14 (by decide))).trans hv6))
              have x2041 := HI.eqI hI2030 (p := 231) (b := 8) ((((hF2031.1 231 8 (by decide)).trans ((hF1506.1 231 8 (by decide)).trans (hF1495.1 231 8 (by decide)))).trans hv1))
              obtain ⟨v2042, hv2042⟩ : ∃ v, gI g2029 231 9 = v := ⟨_, rfl⟩
              have rv2042 := RgF.at hI2030.2.1 (p := 231) (b := 9) rfl
              rw [hv2042] at rv2042
              dsimp only at rv2042
              have tv2042 := congrArg Int32.toInt hv2042
              have x2043 := HI.eqI hI2030 (p := 231) (b := 9) (hv2042)
              obtain ⟨v2044, hv2044⟩ : ∃ v, gI g2029 231 10 = v := ⟨_, rfl⟩
              have rv2044 := RgF.at hI2030.2.1 (p := 231) (b := 10) rfl
              rw [hv2044] at rv2044
              dsimp only at rv2044
              have tv2044 := congrArg Int32.toInt hv2044
              have x2045 := HI.eqI hI2030 (p := 231) (b := 10) (hv2044)
              obtain ⟨v2046, hv2046⟩ : ∃ v, gI g2029 231 11 = v := ⟨_, rfl⟩
              have tv2046 := congrArg Int32.toInt hv2046
              have x2047 := HI.eqI hI2030 (p := 231) (b := 11) (hv2046)
              obtain ⟨v2048, hv2048⟩ : ∃ v, gI g2029 231 14 = v := ⟨_, rfl⟩
              have tv2048 := congrArg Int32.toInt hv2048
              have x2049 := HI.eqI hI2030 (p := 231) (b := 14) (hv2048)
              obtain ⟨c2050, c2051, c2052, c2053, c2054, c2055, c2056⟩ := hr2033
              refine At.enter rfl ?_
              refine r_aload_n rfl ?_
              refine q_getI (Sh.int hI2030.1 kx_231 rfl) v2048 hv2048 ?_
              refine r_ifs 29 rfl (fun c2057 => ?_) (fun c2057 => ?_)
              · have c2057_ : v2048.toInt ≠ 0 := en_k_ne_t c2057
                clear c2056
                refine At.enter rfl ?_
                refine q_vret ?_
                refine At.enter rfl ?_
                refine r_iconst 3 rfl ?_
                refine r_ireti ?_
                have x2058 := HI.eqI hI2030 (p := 231) (b := 8) ((((hF2031.1 231 8 (by decide)).trans ((hF1506.1 231 8 (by decide)).trans (hF1495.1 231 8 (by decide)))).trans hv1))
                have x2059 := HI.eqI hI2030 (p := 231) (b := 9) (hv2042)
                have x2060 := HI.eqI hI2030 (p := 231) (b := 10) (hv2044)
                have x2061 := HI.eqI hI2030 (p := 231) (b := 11) (hv2046)
                obtain ⟨v2062, hv2062⟩ : ∃ v, gJ g2029 231 12 = v := ⟨_, rfl⟩
                have x2063 := HI.eqJ hI2030 (b := 12) (hv2062)
                have x2064 := HI.eqI hI2030 (p := 231) (b := 14) (hv2048)
                have x2065 := HI.eqI hI2030 (p := 231) (b := 17) ((((hF2031.1 231 17 (by decide)).trans ((hF1506.1 231 17 (by decide)).trans (hF1495.1 231 17 (by decide)))).trans hv7))
                have x2066 := HI.eqI hI2030 (p := 231) (b := 23) ((((hF2031.1 231 23 (by decide)).trans ((hF1506.1 231 23 (by decide)).trans (hF1495.1 231 23 (by decide)))).trans hv8))
                have x2067 := HI.eqI hI0 (p := 231) (b := 9) (hv2)
                have zv2068 : (3 : Int32).toInt = 3 := rfl
                exact ⟨_, rfl, hI2030, hF2034, _, rfl, by decide, ⟨by omega, by omega, by omega, by omega, c2055, by omega, by omega, (fun hbad => ⟨by omega, (PT.mk (fun h => False.elim (by omega)) (fun h => False.elim (by omega)) (fun h h9 => False.elim (by omega)) (fun h => False.elim (by omega)))⟩), (fun hbad => by omega)⟩⟩
              · have c2057_ : v2048.toInt = 0 := en_k_ne_f c2057
                obtain ⟨i2069, i2070, i2071⟩ := c2056 (by omega)
                refine At.enter rfl ?_
                refine r_aload_n rfl ?_
                refine r_iload_n rfl ?_
                refine r_iload_n rfl ?_
                have x2072 := HI.eqI hI2030 (p := 231) (b := 17) ((((hF2031.1 231 17 (by decide)).trans ((hF1506.1 231 17 (by decide)).trans (hF1495.1 231 17 (by decide)))).trans hv7))
                refine r_callV 35 rfl [.ref 231, .int v1507, .int v2020] [] (Nat.le_of_ble_eq_true rfl) rfl (T_X11_emit_231 _ hI2030 v1507 v2020 (by omega)) ?_
                rintro _ _ ⟨g2073, rfl, hI2074, hF2075, rfl, hr2077⟩
                refine At.stn ?_
                have hF2078 := Fr.tr hF2034 hF2075 rfl rfl
                have x2079 := HI.eqI hI2030 (p := 231) (b := 17) ((((hF2031.1 231 17 (by decide)).trans ((hF1506.1 231 17 (by decide)).trans (hF1495.1 231 17 (by decide)))).trans hv7))
                have x2080 := HI.eqI hI2030 (p := 231) (b := 23) ((((hF2031.1 231 23 (by decide)).trans ((hF1506.1 231 23 (by decide)).trans (hF1495.1 231 23 (by decide)))).trans hv8))
                obtain ⟨v2081, hv2081⟩ : ∃ v, gI g2073 231 17 = v := ⟨_, rfl⟩
                have rv2081 := RgF.at hI2074.2.1 (p := 231) (b := 17) rfl
                rw [hv2081] at rv2081
                dsimp only at rv2081
                have tv2081 := congrArg Int32.toInt hv2081
                have x2082 := HI.eqI hI2074 (p := 231) (b := 17) (hv2081)
                have y2083 : (gI _ 231 17).toInt = (gI _ 231 17).toInt + 1 := hr2077.1
                have pg2085 := PG.cong (hP.1 (by decide)) hI2030 (((hF2031.2.1 238 (by decide)).trans ((hF1506.2.1 238 (by decide)).trans (hF1495.2.1 238 (by decide))))) (((hF2031.2.1 239 (by decide)).trans ((hF1506.2.1 239 (by decide)).trans (hF1495.2.1 239 (by decide))))) (((hF2031.2.1 240 (by decide)).trans ((hF1506.2.1 240 (by decide)).trans (hF1495.2.1 240 (by decide))))) (((hF2031.2.1 241 (by decide)).trans ((hF1506.2.1 241 (by decide)).trans (hF1495.2.1 241 (by decide))))) (((hF2031.1 231 17 (by decide)).trans ((hF1506.1 231 17 (by decide)).trans (hF1495.1 231 17 (by decide))))) (((hF2031.1 231 23 (by decide)).trans ((hF1506.1 231 23 (by decide)).trans (hF1495.1 231 23 (by decide)))))
                have pg2084 := PG.emit (e' := 1) pg2085 hr2077 (hF2075.2.1 240 (by decide)) (hF2075.2.1 241 (by decide)) (hF2075.1 231 23 (by decide)) (Or.inl ⟨by omega, by omega, by decide, by decide⟩)
                refine At.enter rfl ?_
                refine r_aload_n rfl ?_
                refine r_dup rfl ?_
                refine q_getI (Sh.int hI2074.1 kx_231 rfl) v2021 (((hF2075.1 231 20 (by decide)).trans ((hF2031.1 231 20 (by decide)).trans ((hF1506.1 231 20 (by decide)).trans (hF1495.1 231 20 (by decide))))).trans hv2021) ?_
                refine r_iconst 1 rfl ?_
                refine q_iaddO (fun v2086 _ => ?_)
                refine q_putI (Sh.int hI2074.1 kx_231 rfl) rfl ?_
                have hI2087 := HI.wI0 hI2074 kx_231 rfl (p := 231) (b := 20) (v := v2086) rfl
                have hF2088 := Fr.wI (p := 231) (b := 20) (v := v2086) hF2078 rfl
                refine Ar.fall 45 rfl ?_
                refine At.enter rfl ?_
                refine q_vret ?_
                refine At.enter rfl ?_
                refine r_iconst 3 rfl ?_
                refine r_ireti ?_
                have x2089 := HI.eqI hI2087 (p := 231) (b := 8) ((((gI_sI_ne (by decide)).trans ((hF2075.1 231 8 (by decide)).trans ((hF2031.1 231 8 (by decide)).trans ((hF1506.1 231 8 (by decide)).trans (hF1495.1 231 8 (by decide)))))).trans hv1))
                have x2090 := HI.eqI hI2087 (p := 231) (b := 9) ((((gI_sI_ne (by decide)).trans (hF2075.1 231 9 (by decide))).trans hv2042))
                have x2091 := HI.eqI hI2087 (p := 231) (b := 10) ((((gI_sI_ne (by decide)).trans (hF2075.1 231 10 (by decide))).trans hv2044))
                have x2092 := HI.eqI hI2087 (p := 231) (b := 11) ((((gI_sI_ne (by decide)).trans (hF2075.1 231 11 (by decide))).trans hv2046))
                obtain ⟨v2093, hv2093⟩ : ∃ v, gJ g2029 231 12 = v := ⟨_, rfl⟩
                have x2094 := HI.eqJ hI2087 (b := 12) ((((gJ_sI_ne (by decide)).trans (hF2075.2.2 231 12 (by decide))).trans hv2093))
                have x2095 := HI.eqI hI2087 (p := 231) (b := 14) ((((gI_sI_ne (by decide)).trans (hF2075.1 231 14 (by decide))).trans hv2048))
                have x2096 := HI.eqI hI2087 (p := 231) (b := 17) (((gI_sI_ne (by decide)).trans hv2081))
                have x2097 := HI.eqI hI2087 (p := 231) (b := 23) ((((gI_sI_ne (by decide)).trans ((hF2075.1 231 23 (by decide)).trans ((hF2031.1 231 23 (by decide)).trans ((hF1506.1 231 23 (by decide)).trans (hF1495.1 231 23 (by decide)))))).trans hv8))
                have x2098 := HI.eqI hI0 (p := 231) (b := 9) (hv2)
                have zv2099 : (3 : Int32).toInt = 3 := rfl
                have pg2100 := PG.cong pg2084 hI2087 ((gA_sI)) ((gA_sI)) ((gA_sI)) ((gA_sI)) ((gI_sI_ne (by decide))) ((gI_sI_ne (by decide)))
                have w262101 := W26.cong c2055 hI2087 (((gI_sI_ne (by decide)).trans (hF2075.1 231 9 (by decide)))) (((gI_sI_ne (by decide)).trans (hF2075.1 231 10 (by decide)))) (((gI_sI_ne (by decide)).trans (hF2075.1 231 11 (by decide)))) (((gJ_sI_ne (by decide)).trans (hF2075.2.2 231 12 (by decide))))
                exact ⟨_, rfl, hI2087, hF2088, _, rfl, by decide, ⟨by omega, by omega, by omega, by omega, w262101, by omega, by omega, (fun hbad => ⟨by omega, (PT.mk (fun h => False.elim (by omega)) (fun _ => pg2100) (fun h h9 => False.elim (by omega)) (fun h => False.elim (by omega)))⟩), (fun hbad => by omega)⟩⟩
            · have c2022_ : v2021.toInt < 50 := en_i_ge_f c2022
              refine At.enter rfl ?_
              refine r_iconst 1 rfl ?_
              refine r_goto ?_
              refine At.enter rfl ?_
              have x2102 := HI.eqI hI1505 (p := 231) (b := 8) ((((hF1506.1 231 8 (by decide)).trans (hF1495.1 231 8 (by decide))).trans hv1))
              have x2103 := HI.eqI hI1505 (p := 231) (b := 9) ((((hF1506.1 231 9 (by decide)).trans (hF1495.1 231 9 (by decide))).trans hv2))
              have x2104 := HI.eqI hI1505 (p := 231) (b := 10) ((((hF1506.1 231 10 (by decide)).trans (hF1495.1 231 10 (by decide))).trans hv3))
              have x2105 := HI.eqI hI1505 (p := 231) (b := 11) ((((hF1506.1 231 11 (by decide)).trans (hF1495.1 231 11 (by decide))).trans hv4))
              have w262106 := W26.cong hW hI1505 (((hF1506.1 231 9 (by decide)).trans (hF1495.1 231 9 (by decide)))) (((hF1506.1 231 10 (by decide)).trans (hF1495.1 231 10 (by decide)))) (((hF1506.1 231 11 (by decide)).trans (hF1495.1 231 11 (by decide)))) (((hF1506.2.2 231 12 (by decide)).trans (hF1495.2.2 231 12 (by decide))))
              have zv2107 : (1 : Int32).toInt = 1 := rfl
              refine r_callV 22 rfl [.ref 231, .int 1] [] (Nat.le_of_ble_eq_true rfl) rfl (T_X11_must_231 _ hI1505 1 (by decide) (by refine ⟨?_, ?_, ?_, ?_⟩ <;> omega) w262106) ?_
              rintro _ _ ⟨g2108, rfl, hI2109, hF2110, rfl, hr2112⟩
              refine At.stn ?_
              have hF2113 := Fr.tr hF1509 hF2110 rfl rfl
              have zv2114 : (1 : Int32).toInt = 1 := rfl
              have x2115 := HI.eqI hI1505 (p := 231) (b := 8) ((((hF1506.1 231 8 (by decide)).trans (hF1495.1 231 8 (by decide))).trans hv1))
              have x2116 := HI.eqI hI1505 (p := 231) (b := 9) ((((hF1506.1 231 9 (by decide)).trans (hF1495.1 231 9 (by decide))).trans hv2))
              have x2117 := HI.eqI hI1505 (p := 231) (b := 10) ((((hF1506.1 231 10 (by decide)).trans (hF1495.1 231 10 (by decide))).trans hv3))
              have x2118 := HI.eqI hI1505 (p := 231) (b := 11) ((((hF1506.1 231 11 (by decide)).trans (hF1495.1 231 11 (by decide))).trans hv4))
              have x2119 := HI.eqI hI1505 (p := 231) (b := 14) ((((hF1506.1 231 14 (by decide)).trans (hF1495.1 231 14 (by decide))).trans hv6))
              have x2120 := HI.eqI hI2109 (p := 231) (b := 8) ((((hF2110.1 231 8 (by decide)).trans ((hF1506.1 231 8 (by decide)).trans (hF1495.1 231 8 (by decide)))).trans hv1))
              obtain ⟨v2121, hv2121⟩ : ∃ v, gI g2108 231 9 = v := ⟨_, rfl⟩
              have rv2121 := RgF.at hI2109.2.1 (p := 231) (b := 9) rfl
              rw [hv2121] at rv2121
              dsimp only at rv2121
              have tv2121 := congrArg Int32.toInt hv2121
              have x2122 := HI.eqI hI2109 (p := 231) (b := 9) (hv2121)
              obtain ⟨v2123, hv2123⟩ : ∃ v, gI g2108 231 10 = v := ⟨_, rfl⟩
              have rv2123 := RgF.at hI2109.2.1 (p := 231) (b := 10) rfl
              rw [hv2123] at rv2123
              dsimp only at rv2123
              have tv2123 := congrArg Int32.toInt hv2123
              have x2124 := HI.eqI hI2109 (p := 231) (b := 10) (hv2123)
              obtain ⟨v2125, hv2125⟩ : ∃ v, gI g2108 231 11 = v := ⟨_, rfl⟩
              have tv2125 := congrArg Int32.toInt hv2125
              have x2126 := HI.eqI hI2109 (p := 231) (b := 11) (hv2125)
              obtain ⟨v2127, hv2127⟩ : ∃ v, gI g2108 231 14 = v := ⟨_, rfl⟩
              have tv2127 := congrArg Int32.toInt hv2127
              have x2128 := HI.eqI hI2109 (p := 231) (b := 14) (hv2127)
              obtain ⟨c2129, c2130, c2131, c2132, c2133, c2134, c2135⟩ := hr2112
              refine At.enter rfl ?_
              refine r_aload_n rfl ?_
              refine q_getI (Sh.int hI2109.1 kx_231 rfl) v2127 hv2127 ?_
              refine r_ifs 29 rfl (fun c2136 => ?_) (fun c2136 => ?_)
              · have c2136_ : v2127.toInt ≠ 0 := en_k_ne_t c2136
                clear c2135
                refine At.enter rfl ?_
                refine q_vret ?_
                refine At.enter rfl ?_
                refine r_iconst 3 rfl ?_
                refine r_ireti ?_
                have x2137 := HI.eqI hI2109 (p := 231) (b := 8) ((((hF2110.1 231 8 (by decide)).trans ((hF1506.1 231 8 (by decide)).trans (hF1495.1 231 8 (by decide)))).trans hv1))
                have x2138 := HI.eqI hI2109 (p := 231) (b := 9) (hv2121)
                have x2139 := HI.eqI hI2109 (p := 231) (b := 10) (hv2123)
                have x2140 := HI.eqI hI2109 (p := 231) (b := 11) (hv2125)
                obtain ⟨v2141, hv2141⟩ : ∃ v, gJ g2108 231 12 = v := ⟨_, rfl⟩
                have x2142 := HI.eqJ hI2109 (b := 12) (hv2141)
                have x2143 := HI.eqI hI2109 (p := 231) (b := 14) (hv2127)
                have x2144 := HI.eqI hI2109 (p := 231) (b := 17) ((((hF2110.1 231 17 (by decide)).trans ((hF1506.1 231 17 (by decide)).trans (hF1495.1 231 17 (by decide)))).trans hv7))
                have x2145 := HI.eqI hI2109 (p := 231) (b := 23) ((((hF2110.1 231 23 (by decide)).trans ((hF1506.1 231 23 (by decide)).trans (hF1495.1 231 23 (by decide)))).trans hv8))
                have x2146 := HI.eqI hI0 (p := 231) (b := 9) (hv2)
                have zv2147 : (3 : Int32).toInt = 3 := rfl
                exact ⟨_, rfl, hI2109, hF2113, _, rfl, by decide, ⟨by omega, by omega, by omega, by omega, c2134, by omega, by omega, (fun hbad => ⟨by omega, (PT.mk (fun h => False.elim (by omega)) (fun h => False.elim (by omega)) (fun h h9 => False.elim (by omega)) (fun h => False.elim (by omega)))⟩), (fun hbad => by omega)⟩⟩
              · have c2136_ : v2127.toInt = 0 := en_k_ne_f c2136
                obtain ⟨i2148, i2149, i2150⟩ := c2135 (by omega)
                refine At.enter rfl ?_
                refine r_aload_n rfl ?_
                refine r_iload_n rfl ?_
                refine r_iload_n rfl ?_
                have x2151 := HI.eqI hI2109 (p := 231) (b := 17) ((((hF2110.1 231 17 (by decide)).trans ((hF1506.1 231 17 (by decide)).trans (hF1495.1 231 17 (by decide)))).trans hv7))
                refine r_callV 35 rfl [.ref 231, .int v1507, .int v2020] [] (Nat.le_of_ble_eq_true rfl) rfl (T_X11_emit_231 _ hI2109 v1507 v2020 (by omega)) ?_
                rintro _ _ ⟨g2152, rfl, hI2153, hF2154, rfl, hr2156⟩
                refine At.stn ?_
                have hF2157 := Fr.tr hF2113 hF2154 rfl rfl
                have x2158 := HI.eqI hI2109 (p := 231) (b := 17) ((((hF2110.1 231 17 (by decide)).trans ((hF1506.1 231 17 (by decide)).trans (hF1495.1 231 17 (by decide)))).trans hv7))
                have x2159 := HI.eqI hI2109 (p := 231) (b := 23) ((((hF2110.1 231 23 (by decide)).trans ((hF1506.1 231 23 (by decide)).trans (hF1495.1 231 23 (by decide)))).trans hv8))
                obtain ⟨v2160, hv2160⟩ : ∃ v, gI g2152 231 17 = v := ⟨_, rfl⟩
                have rv2160 := RgF.at hI2153.2.1 (p := 231) (b := 17) rfl
                rw [hv2160] at rv2160
                dsimp only at rv2160
                have tv2160 := congrArg Int32.toInt hv2160
                have x2161 := HI.eqI hI2153 (p := 231) (b := 17) (hv2160)
                have y2162 : (gI _ 231 17).toInt = (gI _ 231 17).toInt + 1 := hr2156.1
                have pg2164 := PG.cong (hP.1 (by decide)) hI2109 (((hF2110.2.1 238 (by decide)).trans ((hF1506.2.1 238 (by decide)).trans (hF1495.2.1 238 (by decide))))) (((hF2110.2.1 239 (by decide)).trans ((hF1506.2.1 239 (by decide)).trans (hF1495.2.1 239 (by decide))))) (((hF2110.2.1 240 (by decide)).trans ((hF1506.2.1 240 (by decide)).trans (hF1495.2.1 240 (by decide))))) (((hF2110.2.1 241 (by decide)).trans ((hF1506.2.1 241 (by decide)).trans (hF1495.2.1 241 (by decide))))) (((hF2110.1 231 17 (by decide)).trans ((hF1506.1 231 17 (by decide)).trans (hF1495.1 231 17 (by decide))))) (((hF2110.1 231 23 (by decide)).trans ((hF1506.1 231 23 (by decide)).trans (hF1495.1 231 23 (by decide)))))
                have pg2163 := PG.emit (e' := 1) pg2164 hr2156 (hF2154.2.1 240 (by decide)) (hF2154.2.1 241 (by decide)) (hF2154.1 231 23 (by decide)) (Or.inl ⟨by omega, by omega, by decide, by decide⟩)
                refine At.enter rfl ?_
                refine r_aload_n rfl ?_
                refine r_dup rfl ?_
                refine q_getI (Sh.int hI2153.1 kx_231 rfl) v2021 (((hF2154.1 231 20 (by decide)).trans ((hF2110.1 231 20 (by decide)).trans ((hF1506.1 231 20 (by decide)).trans (hF1495.1 231 20 (by decide))))).trans hv2021) ?_
                refine r_iconst 1 rfl ?_
                have bv2165 := q_bnd v2021
                refine q_iadd (v2021.toInt + 1) rfl (by omega) (fun v2166 hv2166 => ?_)
                refine q_putI (Sh.int hI2153.1 kx_231 rfl) rfl ?_
                have hI2167 := HI.wI0 hI2153 kx_231 rfl (p := 231) (b := 20) (v := v2166) rfl
                have hF2168 := Fr.wI (p := 231) (b := 20) (v := v2166) hF2157 rfl
                refine Ar.fall 45 rfl ?_
                refine At.enter rfl ?_
                refine q_vret ?_
                refine At.enter rfl ?_
                refine r_iconst 3 rfl ?_
                refine r_ireti ?_
                have x2169 := HI.eqI hI2167 (p := 231) (b := 8) ((((gI_sI_ne (by decide)).trans ((hF2154.1 231 8 (by decide)).trans ((hF2110.1 231 8 (by decide)).trans ((hF1506.1 231 8 (by decide)).trans (hF1495.1 231 8 (by decide)))))).trans hv1))
                have x2170 := HI.eqI hI2167 (p := 231) (b := 9) ((((gI_sI_ne (by decide)).trans (hF2154.1 231 9 (by decide))).trans hv2121))
                have x2171 := HI.eqI hI2167 (p := 231) (b := 10) ((((gI_sI_ne (by decide)).trans (hF2154.1 231 10 (by decide))).trans hv2123))
                have x2172 := HI.eqI hI2167 (p := 231) (b := 11) ((((gI_sI_ne (by decide)).trans (hF2154.1 231 11 (by decide))).trans hv2125))
                obtain ⟨v2173, hv2173⟩ : ∃ v, gJ g2108 231 12 = v := ⟨_, rfl⟩
                have x2174 := HI.eqJ hI2167 (b := 12) ((((gJ_sI_ne (by decide)).trans (hF2154.2.2 231 12 (by decide))).trans hv2173))
                have x2175 := HI.eqI hI2167 (p := 231) (b := 14) ((((gI_sI_ne (by decide)).trans (hF2154.1 231 14 (by decide))).trans hv2127))
                have x2176 := HI.eqI hI2167 (p := 231) (b := 17) (((gI_sI_ne (by decide)).trans hv2160))
                have x2177 := HI.eqI hI2167 (p := 231) (b := 23) ((((gI_sI_ne (by decide)).trans ((hF2154.1 231 23 (by decide)).trans ((hF2110.1 231 23 (by decide)).trans ((hF1506.1 231 23 (by decide)).trans (hF1495.1 231 23 (by decide)))))).trans hv8))
                have x2178 := HI.eqI hI0 (p := 231) (b := 9) (hv2)
                have zv2179 : (3 : Int32).toInt = 3 := rfl
                have pg2180 := PG.cong pg2163 hI2167 ((gA_sI)) ((gA_sI)) ((gA_sI)) ((gA_sI)) ((gI_sI_ne (by decide))) ((gI_sI_ne (by decide)))
                have w262181 := W26.cong c2134 hI2167 (((gI_sI_ne (by decide)).trans (hF2154.1 231 9 (by decide)))) (((gI_sI_ne (by decide)).trans (hF2154.1 231 10 (by decide)))) (((gI_sI_ne (by decide)).trans (hF2154.1 231 11 (by decide)))) (((gJ_sI_ne (by decide)).trans (hF2154.2.2 231 12 (by decide))))
                exact ⟨_, rfl, hI2167, hF2168, _, rfl, by decide, ⟨by omega, by omega, by omega, by omega, w262181, by omega, by omega, (fun hbad => ⟨by omega, (PT.mk (fun h => False.elim (by omega)) (fun _ => pg2180) (fun h h9 => False.elim (by omega)) (fun h => False.elim (by omega)))⟩), (fun hbad => by omega)⟩⟩
          · have c2019_ : v1507.toInt = (-1) := en_i_ne_f c2019
            exfalso; omega
        · have c2018_ : v1507.toInt = (-1) := en_i_ne_f c2018
          refine At.enter rfl ?_
          refine r_iload_n rfl ?_
          refine r_iff 57 rfl (by decide) ?_
          refine At.enter rfl ?_
          refine r_iconst 1 rfl ?_
          refine r_goto ?_
          refine At.enter rfl ?_
          refine r_iload_n rfl ?_
          refine r_iconst (-1) rfl ?_
          refine r_ics 67 rfl (fun c2182 => ?_) (fun c2182 => ?_)
          · have c2182_ : v1507.toInt ≠ (-1) := en_i_ne_t c2182
            exfalso; omega
          · have c2182_ : v1507.toInt = (-1) := en_i_ne_f c2182
            refine At.enter rfl ?_
            refine r_iconst 0 rfl ?_
            refine r_goto ?_
            refine At.enter rfl ?_
            refine r_iload_n rfl ?_
            refine r_iff 76 rfl (by decide) ?_
            refine At.enter rfl ?_
            refine r_aload_n rfl ?_
            refine q_getJv (Sh.long hI1505.1 kx_231 rfl) v5 (((hF1506.2.2 231 12 (by decide)).trans (hF1495.2.2 231 12 (by decide))).trans hv5) ?_
            refine q_l2iO (fun v2183 hv2183 => ?_)
            refine r_goto ?_
            refine At.enter rfl ?_
            refine q_inlV 88 rfl [.ref 231, .int 1, .int 0, .int v2183] [] (Nat.le_of_ble_eq_true rfl) rfl ?_
            refine Ev.mk rfl rfl ⟨Nat.le_of_ble_eq_true rfl, Or.inr (q_rc hI1505.1 kx_231 rfl)⟩ ?_
            show At _ none _ _ (0, [(0, .ref 231), (1, .int 1), (2, .int 0), (3, .int v2183)], [], (_, _)) _
            refine At.enter rfl ?_
            refine r_aload_n rfl ?_
            refine r_iload_n rfl ?_
            refine r_iff 5 rfl (by decide) ?_
            refine At.enter rfl ?_
            refine r_aload_n rfl ?_
            obtain ⟨v2184, hv2184⟩ : ∃ v, gI g0 231 20 = v := ⟨_, rfl⟩
            refine q_getI (Sh.int hI1505.1 kx_231 rfl) v2184 (((hF1506.1 231 20 (by decide)).trans (hF1495.1 231 20 (by decide))).trans hv2184) ?_
            refine r_bipush 50 rfl ?_
            refine r_ics 14 rfl (fun c2185 => ?_) (fun c2185 => ?_)
            · have c2185_ : v2184.toInt ≥ 50 := en_i_ge_t c2185
              refine At.enter rfl ?_
              refine r_iconst 0 rfl ?_
              refine Ar.fall 19 rfl ?_
              refine At.enter rfl ?_
              have x2186 := HI.eqI hI1505 (p := 231) (b := 8) ((((hF1506.1 231 8 (by decide)).trans (hF1495.1 231 8 (by decide))).trans hv1))
              have x2187 := HI.eqI hI1505 (p := 231) (b := 9) ((((hF1506.1 231 9 (by decide)).trans (hF1495.1 231 9 (by decide))).trans hv2))
              have x2188 := HI.eqI hI1505 (p := 231) (b := 10) ((((hF1506.1 231 10 (by decide)).trans (hF1495.1 231 10 (by decide))).trans hv3))
              have x2189 := HI.eqI hI1505 (p := 231) (b := 11) ((((hF1506.1 231 11 (by decide)).trans (hF1495.1 231 11 (by decide))).trans hv4))
              have w262190 := W26.cong hW hI1505 (((hF1506.1 231 9 (by decide)).trans (hF1495.1 231 9 (by decide)))) (((hF1506.1 231 10 (by decide)).trans (hF1495.1 231 10 (by decide)))) (((hF1506.1 231 11 (by decide)).trans (hF1495.1 231 11 (by decide)))) (((hF1506.2.2 231 12 (by decide)).trans (hF1495.2.2 231 12 (by decide))))
              have zv2191 : (0 : Int32).toInt = 0 := rfl
              refine r_callV 22 rfl [.ref 231, .int 0] [] (Nat.le_of_ble_eq_true rfl) rfl (T_X11_must_231 _ hI1505 0 (by decide) (by refine ⟨?_, ?_, ?_, ?_⟩ <;> omega) w262190) ?_
              rintro _ _ ⟨g2192, rfl, hI2193, hF2194, rfl, hr2196⟩
              refine At.stn ?_
              have hF2197 := Fr.tr hF1509 hF2194 rfl rfl
              have zv2198 : (0 : Int32).toInt = 0 := rfl
              have x2199 := HI.eqI hI1505 (p := 231) (b := 8) ((((hF1506.1 231 8 (by decide)).trans (hF1495.1 231 8 (by decide))).trans hv1))
              have x2200 := HI.eqI hI1505 (p := 231) (b := 9) ((((hF1506.1 231 9 (by decide)).trans (hF1495.1 231 9 (by decide))).trans hv2))
              have x2201 := HI.eqI hI1505 (p := 231) (b := 10) ((((hF1506.1 231 10 (by decide)).trans (hF1495.1 231 10 (by decide))).trans hv3))
              have x2202 := HI.eqI hI1505 (p := 231) (b := 11) ((((hF1506.1 231 11 (by decide)).trans (hF1495.1 231 11 (by decide))).trans hv4))
              have x2203 := HI.eqI hI1505 (p := 231) (b := 14) ((((hF1506.1 231 14 (by decide)).trans (hF1495.1 231 14 (by decide))).trans hv6))
              have x2204 := HI.eqI hI2193 (p := 231) (b := 8) ((((hF2194.1 231 8 (by decide)).trans ((hF1506.1 231 8 (by decide)).trans (hF1495.1 231 8 (by decide)))).trans hv1))
              obtain ⟨v2205, hv2205⟩ : ∃ v, gI g2192 231 9 = v := ⟨_, rfl⟩
              have rv2205 := RgF.at hI2193.2.1 (p := 231) (b := 9) rfl
              rw [hv2205] at rv2205
              dsimp only at rv2205
              have tv2205 := congrArg Int32.toInt hv2205
              have x2206 := HI.eqI hI2193 (p := 231) (b := 9) (hv2205)
              obtain ⟨v2207, hv2207⟩ : ∃ v, gI g2192 231 10 = v := ⟨_, rfl⟩
              have rv2207 := RgF.at hI2193.2.1 (p := 231) (b := 10) rfl
              rw [hv2207] at rv2207
              dsimp only at rv2207
              have tv2207 := congrArg Int32.toInt hv2207
              have x2208 := HI.eqI hI2193 (p := 231) (b := 10) (hv2207)
              obtain ⟨v2209, hv2209⟩ : ∃ v, gI g2192 231 11 = v := ⟨_, rfl⟩
              have tv2209 := congrArg Int32.toInt hv2209
              have x2210 := HI.eqI hI2193 (p := 231) (b := 11) (hv2209)
              obtain ⟨v2211, hv2211⟩ : ∃ v, gI g2192 231 14 = v := ⟨_, rfl⟩
              have tv2211 := congrArg Int32.toInt hv2211
              have x2212 := HI.eqI hI2193 (p := 231) (b := 14) (hv2211)
              obtain ⟨c2213, c2214, c2215, c2216, c2217, c2218, c2219⟩ := hr2196
              refine At.enter rfl ?_
              refine r_aload_n rfl ?_
              refine q_getI (Sh.int hI2193.1 kx_231 rfl) v2211 hv2211 ?_
              refine r_ifs 29 rfl (fun c2220 => ?_) (fun c2220 => ?_)
              · have c2220_ : v2211.toInt ≠ 0 := en_k_ne_t c2220
                clear c2219
                refine At.enter rfl ?_
                refine q_vret ?_
                refine At.enter rfl ?_
                refine r_iconst 3 rfl ?_
                refine r_ireti ?_
                have x2221 := HI.eqI hI2193 (p := 231) (b := 8) ((((hF2194.1 231 8 (by decide)).trans ((hF1506.1 231 8 (by decide)).trans (hF1495.1 231 8 (by decide)))).trans hv1))
                have x2222 := HI.eqI hI2193 (p := 231) (b := 9) (hv2205)
                have x2223 := HI.eqI hI2193 (p := 231) (b := 10) (hv2207)
                have x2224 := HI.eqI hI2193 (p := 231) (b := 11) (hv2209)
                obtain ⟨v2225, hv2225⟩ : ∃ v, gJ g2192 231 12 = v := ⟨_, rfl⟩
                have x2226 := HI.eqJ hI2193 (b := 12) (hv2225)
                have x2227 := HI.eqI hI2193 (p := 231) (b := 14) (hv2211)
                have x2228 := HI.eqI hI2193 (p := 231) (b := 17) ((((hF2194.1 231 17 (by decide)).trans ((hF1506.1 231 17 (by decide)).trans (hF1495.1 231 17 (by decide)))).trans hv7))
                have x2229 := HI.eqI hI2193 (p := 231) (b := 23) ((((hF2194.1 231 23 (by decide)).trans ((hF1506.1 231 23 (by decide)).trans (hF1495.1 231 23 (by decide)))).trans hv8))
                have x2230 := HI.eqI hI0 (p := 231) (b := 9) (hv2)
                have zv2231 : (3 : Int32).toInt = 3 := rfl
                exact ⟨_, rfl, hI2193, hF2197, _, rfl, by decide, ⟨by omega, by omega, by omega, by omega, c2218, by omega, by omega, (fun hbad => ⟨by omega, (PT.mk (fun h => False.elim (by omega)) (fun h => False.elim (by omega)) (fun h h9 => False.elim (by omega)) (fun h => False.elim (by omega)))⟩), (fun hbad => by omega)⟩⟩
              · have c2220_ : v2211.toInt = 0 := en_k_ne_f c2220
                obtain ⟨i2232, i2233, i2234⟩ := c2219 (by omega)
                refine At.enter rfl ?_
                refine r_aload_n rfl ?_
                refine r_iload_n rfl ?_
                refine r_iload_n rfl ?_
                have x2235 := HI.eqI hI2193 (p := 231) (b := 17) ((((hF2194.1 231 17 (by decide)).trans ((hF1506.1 231 17 (by decide)).trans (hF1495.1 231 17 (by decide)))).trans hv7))
                have zv2236 : (0 : Int32).toInt = 0 := rfl
                refine r_callV 35 rfl [.ref 231, .int 0, .int v2183] [] (Nat.le_of_ble_eq_true rfl) rfl (T_X11_emit_231 _ hI2193 0 v2183 (by omega)) ?_
                rintro _ _ ⟨g2237, rfl, hI2238, hF2239, rfl, hr2241⟩
                refine At.stn ?_
                have hF2242 := Fr.tr hF2197 hF2239 rfl rfl
                have zv2243 : (0 : Int32).toInt = 0 := rfl
                have x2244 := HI.eqI hI2193 (p := 231) (b := 17) ((((hF2194.1 231 17 (by decide)).trans ((hF1506.1 231 17 (by decide)).trans (hF1495.1 231 17 (by decide)))).trans hv7))
                have x2245 := HI.eqI hI2193 (p := 231) (b := 23) ((((hF2194.1 231 23 (by decide)).trans ((hF1506.1 231 23 (by decide)).trans (hF1495.1 231 23 (by decide)))).trans hv8))
                obtain ⟨v2246, hv2246⟩ : ∃ v, gI g2237 231 17 = v := ⟨_, rfl⟩
                have rv2246 := RgF.at hI2238.2.1 (p := 231) (b := 17) rfl
                rw [hv2246] at rv2246
                dsimp only at rv2246
                have tv2246 := congrArg Int32.toInt hv2246
                have x2247 := HI.eqI hI2238 (p := 231) (b := 17) (hv2246)
                have y2248 : (gI _ 231 17).toInt = (gI _ 231 17).toInt + 1 := hr2241.1
                have pg2250 := PG.cong (hP.1 (by decide)) hI2193 (((hF2194.2.1 238 (by decide)).trans ((hF1506.2.1 238 (by decide)).trans (hF1495.2.1 238 (by decide))))) (((hF2194.2.1 239 (by decide)).trans ((hF1506.2.1 239 (by decide)).trans (hF1495.2.1 239 (by decide))))) (((hF2194.2.1 240 (by decide)).trans ((hF1506.2.1 240 (by decide)).trans (hF1495.2.1 240 (by decide))))) (((hF2194.2.1 241 (by decide)).trans ((hF1506.2.1 241 (by decide)).trans (hF1495.2.1 241 (by decide))))) (((hF2194.1 231 17 (by decide)).trans ((hF1506.1 231 17 (by decide)).trans (hF1495.1 231 17 (by decide))))) (((hF2194.1 231 23 (by decide)).trans ((hF1506.1 231 23 (by decide)).trans (hF1495.1 231 23 (by decide)))))
                have pg2249 := PG.emit (e' := 1) pg2250 hr2241 (hF2239.2.1 240 (by decide)) (hF2239.2.1 241 (by decide)) (hF2239.1 231 23 (by decide)) (Or.inl ⟨by omega, by omega, by decide, by decide⟩)
                refine At.enter rfl ?_
                refine r_aload_n rfl ?_
                refine r_dup rfl ?_
                refine q_getI (Sh.int hI2238.1 kx_231 rfl) v2184 (((hF2239.1 231 20 (by decide)).trans ((hF2194.1 231 20 (by decide)).trans ((hF1506.1 231 20 (by decide)).trans (hF1495.1 231 20 (by decide))))).trans hv2184) ?_
                refine r_iconst 1 rfl ?_
                refine q_iaddO (fun v2251 _ => ?_)
                refine q_putI (Sh.int hI2238.1 kx_231 rfl) rfl ?_
                have hI2252 := HI.wI0 hI2238 kx_231 rfl (p := 231) (b := 20) (v := v2251) rfl
                have hF2253 := Fr.wI (p := 231) (b := 20) (v := v2251) hF2242 rfl
                refine Ar.fall 45 rfl ?_
                refine At.enter rfl ?_
                refine q_vret ?_
                refine At.enter rfl ?_
                refine r_iconst 3 rfl ?_
                refine r_ireti ?_
                have x2254 := HI.eqI hI2252 (p := 231) (b := 8) ((((gI_sI_ne (by decide)).trans ((hF2239.1 231 8 (by decide)).trans ((hF2194.1 231 8 (by decide)).trans ((hF1506.1 231 8 (by decide)).trans (hF1495.1 231 8 (by decide)))))).trans hv1))
                have x2255 := HI.eqI hI2252 (p := 231) (b := 9) ((((gI_sI_ne (by decide)).trans (hF2239.1 231 9 (by decide))).trans hv2205))
                have x2256 := HI.eqI hI2252 (p := 231) (b := 10) ((((gI_sI_ne (by decide)).trans (hF2239.1 231 10 (by decide))).trans hv2207))
                have x2257 := HI.eqI hI2252 (p := 231) (b := 11) ((((gI_sI_ne (by decide)).trans (hF2239.1 231 11 (by decide))).trans hv2209))
                obtain ⟨v2258, hv2258⟩ : ∃ v, gJ g2192 231 12 = v := ⟨_, rfl⟩
                have x2259 := HI.eqJ hI2252 (b := 12) ((((gJ_sI_ne (by decide)).trans (hF2239.2.2 231 12 (by decide))).trans hv2258))
                have x2260 := HI.eqI hI2252 (p := 231) (b := 14) ((((gI_sI_ne (by decide)).trans (hF2239.1 231 14 (by decide))).trans hv2211))
                have x2261 := HI.eqI hI2252 (p := 231) (b := 17) (((gI_sI_ne (by decide)).trans hv2246))
                have x2262 := HI.eqI hI2252 (p := 231) (b := 23) ((((gI_sI_ne (by decide)).trans ((hF2239.1 231 23 (by decide)).trans ((hF2194.1 231 23 (by decide)).trans ((hF1506.1 231 23 (by decide)).trans (hF1495.1 231 23 (by decide)))))).trans hv8))
                have x2263 := HI.eqI hI0 (p := 231) (b := 9) (hv2)
                have zv2264 : (3 : Int32).toInt = 3 := rfl
                have pg2265 := PG.cong pg2249 hI2252 ((gA_sI)) ((gA_sI)) ((gA_sI)) ((gA_sI)) ((gI_sI_ne (by decide))) ((gI_sI_ne (by decide)))
                have w262266 := W26.cong c2218 hI2252 (((gI_sI_ne (by decide)).trans (hF2239.1 231 9 (by decide)))) (((gI_sI_ne (by decide)).trans (hF2239.1 231 10 (by decide)))) (((gI_sI_ne (by decide)).trans (hF2239.1 231 11 (by decide)))) (((gJ_sI_ne (by decide)).trans (hF2239.2.2 231 12 (by decide))))
                exact ⟨_, rfl, hI2252, hF2253, _, rfl, by decide, ⟨by omega, by omega, by omega, by omega, w262266, by omega, by omega, (fun hbad => ⟨by omega, (PT.mk (fun h => False.elim (by omega)) (fun _ => pg2265) (fun h h9 => False.elim (by omega)) (fun h => False.elim (by omega)))⟩), (fun hbad => by omega)⟩⟩
            · have c2185_ : v2184.toInt < 50 := en_i_ge_f c2185
              refine At.enter rfl ?_
              refine r_iconst 1 rfl ?_
              refine r_goto ?_
              refine At.enter rfl ?_
              have x2267 := HI.eqI hI1505 (p := 231) (b := 8) ((((hF1506.1 231 8 (by decide)).trans (hF1495.1 231 8 (by decide))).trans hv1))
              have x2268 := HI.eqI hI1505 (p := 231) (b := 9) ((((hF1506.1 231 9 (by decide)).trans (hF1495.1 231 9 (by decide))).trans hv2))
              have x2269 := HI.eqI hI1505 (p := 231) (b := 10) ((((hF1506.1 231 10 (by decide)).trans (hF1495.1 231 10 (by decide))).trans hv3))
              have x2270 := HI.eqI hI1505 (p := 231) (b := 11) ((((hF1506.1 231 11 (by decide)).trans (hF1495.1 231 11 (by decide))).trans hv4))
              have w262271 := W26.cong hW hI1505 (((hF1506.1 231 9 (by decide)).trans (hF1495.1 231 9 (by decide)))) (((hF1506.1 231 10 (by decide)).trans (hF1495.1 231 10 (by decide)))) (((hF1506.1 231 11 (by decide)).trans (hF1495.1 231 11 (by decide)))) (((hF1506.2.2 231 12 (by decide)).trans (hF1495.2.2 231 12 (by decide))))
              have zv2272 : (1 : Int32).toInt = 1 := rfl
              refine r_callV 22 rfl [.ref 231, .int 1] [] (Nat.le_of_ble_eq_true rfl) rfl (T_X11_must_231 _ hI1505 1 (by decide) (by refine ⟨?_, ?_, ?_, ?_⟩ <;> omega) w262271) ?_
              rintro _ _ ⟨g2273, rfl, hI2274, hF2275, rfl, hr2277⟩
              refine At.stn ?_
              have hF2278 := Fr.tr hF1509 hF2275 rfl rfl
              have zv2279 : (1 : Int32).toInt = 1 := rfl
              have x2280 := HI.eqI hI1505 (p := 231) (b := 8) ((((hF1506.1 231 8 (by decide)).trans (hF1495.1 231 8 (by decide))).trans hv1))
              have x2281 := HI.eqI hI1505 (p := 231) (b := 9) ((((hF1506.1 231 9 (by decide)).trans (hF1495.1 231 9 (by decide))).trans hv2))
              have x2282 := HI.eqI hI1505 (p := 231) (b := 10) ((((hF1506.1 231 10 (by decide)).trans (hF1495.1 231 10 (by decide))).trans hv3))
              have x2283 := HI.eqI hI1505 (p := 231) (b := 11) ((((hF1506.1 231 11 (by decide)).trans (hF1495.1 231 11 (by decide))).trans hv4))
              have x2284 := HI.eqI hI1505 (p := 231) (b := 14) ((((hF1506.1 231 14 (by decide)).trans (hF1495.1 231 14 (by decide))).trans hv6))
              have x2285 := HI.eqI hI2274 (p := 231) (b := 8) ((((hF2275.1 231 8 (by decide)).trans ((hF1506.1 231 8 (by decide)).trans (hF1495.1 231 8 (by decide)))).trans hv1))
              obtain ⟨v2286, hv2286⟩ : ∃ v, gI g2273 231 9 = v := ⟨_, rfl⟩
              have rv2286 := RgF.at hI2274.2.1 (p := 231) (b := 9) rfl
              rw [hv2286] at rv2286
              dsimp only at rv2286
              have tv2286 := congrArg Int32.toInt hv2286
              have x2287 := HI.eqI hI2274 (p := 231) (b := 9) (hv2286)
              obtain ⟨v2288, hv2288⟩ : ∃ v, gI g2273 231 10 = v := ⟨_, rfl⟩
              have rv2288 := RgF.at hI2274.2.1 (p := 231) (b := 10) rfl
              rw [hv2288] at rv2288
              dsimp only at rv2288
              have tv2288 := congrArg Int32.toInt hv2288
              have x2289 := HI.eqI hI2274 (p := 231) (b := 10) (hv2288)
              obtain ⟨v2290, hv2290⟩ : ∃ v, gI g2273 231 11 = v := ⟨_, rfl⟩
              have tv2290 := congrArg Int32.toInt hv2290
              have x2291 := HI.eqI hI2274 (p := 231) (b := 11) (hv2290)
              obtain ⟨v2292, hv2292⟩ : ∃ v, gI g2273 231 14 = v := ⟨_, rfl⟩
              have tv2292 := congrArg Int32.toInt hv2292
              have x2293 := HI.eqI hI2274 (p := 231) (b := 14) (hv2292)
              obtain ⟨c2294, c2295, c2296, c2297, c2298, c2299, c2300⟩ := hr2277
              refine At.enter rfl ?_
              refine r_aload_n rfl ?_
              refine q_getI (Sh.int hI2274.1 kx_231 rfl) v2292 hv2292 ?_
              refine r_ifs 29 rfl (fun c2301 => ?_) (fun c2301 => ?_)
              · have c2301_ : v2292.toInt ≠ 0 := en_k_ne_t c2301
                clear c2300
                refine At.enter rfl ?_
                refine q_vret ?_
                refine At.enter rfl ?_
                refine r_iconst 3 rfl ?_
                refine r_ireti ?_
                have x2302 := HI.eqI hI2274 (p := 231) (b := 8) ((((hF2275.1 231 8 (by decide)).trans ((hF1506.1 231 8 (by decide)).trans (hF1495.1 231 8 (by decide)))).trans hv1))
                have x2303 := HI.eqI hI2274 (p := 231) (b := 9) (hv2286)
                have x2304 := HI.eqI hI2274 (p := 231) (b := 10) (hv2288)
                have x2305 := HI.eqI hI2274 (p := 231) (b := 11) (hv2290)
                obtain ⟨v2306, hv2306⟩ : ∃ v, gJ g2273 231 12 = v := ⟨_, rfl⟩
                have x2307 := HI.eqJ hI2274 (b := 12) (hv2306)
                have x2308 := HI.eqI hI2274 (p := 231) (b := 14) (hv2292)
                have x2309 := HI.eqI hI2274 (p := 231) (b := 17) ((((hF2275.1 231 17 (by decide)).trans ((hF1506.1 231 17 (by decide)).trans (hF1495.1 231 17 (by decide)))).trans hv7))
                have x2310 := HI.eqI hI2274 (p := 231) (b := 23) ((((hF2275.1 231 23 (by decide)).trans ((hF1506.1 231 23 (by decide)).trans (hF1495.1 231 23 (by decide)))).trans hv8))
                have x2311 := HI.eqI hI0 (p := 231) (b := 9) (hv2)
                have zv2312 : (3 : Int32).toInt = 3 := rfl
                exact ⟨_, rfl, hI2274, hF2278, _, rfl, by decide, ⟨by omega, by omega, by omega, by omega, c2299, by omega, by omega, (fun hbad => ⟨by omega, (PT.mk (fun h => False.elim (by omega)) (fun h => False.elim (by omega)) (fun h h9 => False.elim (by omega)) (fun h => False.elim (by omega)))⟩), (fun hbad => by omega)⟩⟩
              · have c2301_ : v2292.toInt = 0 := en_k_ne_f c2301
                obtain ⟨i2313, i2314, i2315⟩ := c2300 (by omega)
                refine At.enter rfl ?_
                refine r_aload_n rfl ?_
                refine r_iload_n rfl ?_
                refine r_iload_n rfl ?_
                have x2316 := HI.eqI hI2274 (p := 231) (b := 17) ((((hF2275.1 231 17 (by decide)).trans ((hF1506.1 231 17 (by decide)).trans (hF1495.1 231 17 (by decide)))).trans hv7))
                have zv2317 : (0 : Int32).toInt = 0 := rfl
                refine r_callV 35 rfl [.ref 231, .int 0, .int v2183] [] (Nat.le_of_ble_eq_true rfl) rfl (T_X11_emit_231 _ hI2274 0 v2183 (by omega)) ?_
                rintro _ _ ⟨g2318, rfl, hI2319, hF2320, rfl, hr2322⟩
                refine At.stn ?_
                have hF2323 := Fr.tr hF2278 hF2320 rfl rfl
                have zv2324 : (0 : Int32).toInt = 0 := rfl
                have x2325 := HI.eqI hI2274 (p := 231) (b := 17) ((((hF2275.1 231 17 (by decide)).trans ((hF1506.1 231 17 (by decide)).trans (hF1495.1 231 17 (by decide)))).trans hv7))
                have x2326 := HI.eqI hI2274 (p := 231) (b := 23) ((((hF2275.1 231 23 (by decide)).trans ((hF1506.1 231 23 (by decide)).trans (hF1495.1 231 23 (by decide)))).trans hv8))
                obtain ⟨v2327, hv2327⟩ : ∃ v, gI g2318 231 17 = v := ⟨_, rfl⟩
                have rv2327 := RgF.at hI2319.2.1 (p := 231) (b := 17) rfl
                rw [hv2327] at rv2327
                dsimp only at rv2327
                have tv2327 := congrArg Int32.toInt hv2327
                have x2328 := HI.eqI hI2319 (p := 231) (b := 17) (hv2327)
                have y2329 : (gI _ 231 17).toInt = (gI _ 231 17).toInt + 1 := hr2322.1
                have pg2331 := PG.cong (hP.1 (by decide)) hI2274 (((hF2275.2.1 238 (by decide)).trans ((hF1506.2.1 238 (by decide)).trans (hF1495.2.1 238 (by decide))))) (((hF2275.2.1 239 (by decide)).trans ((hF1506.2.1 239 (by decide)).trans (hF1495.2.1 239 (by decide))))) (((hF2275.2.1 240 (by decide)).trans ((hF1506.2.1 240 (by decide)).trans (hF1495.2.1 240 (by decide))))) (((hF2275.2.1 241 (by decide)).trans ((hF1506.2.1 241 (by decide)).trans (hF1495.2.1 241 (by decide))))) (((hF2275.1 231 17 (by decide)).trans ((hF1506.1 231 17 (by decide)).trans (hF1495.1 231 17 (by decide))))) (((hF2275.1 231 23 (by decide)).trans ((hF1506.1 231 23 (by decide)).trans (hF1495.1 231 23 (by decide)))))
                have pg2330 := PG.emit (e' := 1) pg2331 hr2322 (hF2320.2.1 240 (by decide)) (hF2320.2.1 241 (by decide)) (hF2320.1 231 23 (by decide)) (Or.inl ⟨by omega, by omega, by decide, by decide⟩)
                refine At.enter rfl ?_
                refine r_aload_n rfl ?_
                refine r_dup rfl ?_
                refine q_getI (Sh.int hI2319.1 kx_231 rfl) v2184 (((hF2320.1 231 20 (by decide)).trans ((hF2275.1 231 20 (by decide)).trans ((hF1506.1 231 20 (by decide)).trans (hF1495.1 231 20 (by decide))))).trans hv2184) ?_
                refine r_iconst 1 rfl ?_
                have bv2332 := q_bnd v2184
                refine q_iadd (v2184.toInt + 1) rfl (by omega) (fun v2333 hv2333 => ?_)
                refine q_putI (Sh.int hI2319.1 kx_231 rfl) rfl ?_
                have hI2334 := HI.wI0 hI2319 kx_231 rfl (p := 231) (b := 20) (v := v2333) rfl
                have hF2335 := Fr.wI (p := 231) (b := 20) (v := v2333) hF2323 rfl
                refine Ar.fall 45 rfl ?_
                refine At.enter rfl ?_
                refine q_vret ?_
                refine At.enter rfl ?_
                refine r_iconst 3 rfl ?_
                refine r_ireti ?_
                have x2336 := HI.eqI hI2334 (p := 231) (b := 8) ((((gI_sI_ne (by decide)).trans ((hF2320.1 231 8 (by decide)).trans ((hF2275.1 231 8 (by decide)).trans ((hF1506.1 231 8 (by decide)).trans (hF1495.1 231 8 (by decide)))))).trans hv1))
                have x2337 := HI.eqI hI2334 (p := 231) (b := 9) ((((gI_sI_ne (by decide)).trans (hF2320.1 231 9 (by decide))).trans hv2286))
                have x2338 := HI.eqI hI2334 (p := 231) (b := 10) ((((gI_sI_ne (by decide)).trans (hF2320.1 231 10 (by decide))).trans hv2288))
                have x2339 := HI.eqI hI2334 (p := 231) (b := 11) ((((gI_sI_ne (by decide)).trans (hF2320.1 231 11 (by decide))).trans hv2290))
                obtain ⟨v2340, hv2340⟩ : ∃ v, gJ g2273 231 12 = v := ⟨_, rfl⟩
                have x2341 := HI.eqJ hI2334 (b := 12) ((((gJ_sI_ne (by decide)).trans (hF2320.2.2 231 12 (by decide))).trans hv2340))
                have x2342 := HI.eqI hI2334 (p := 231) (b := 14) ((((gI_sI_ne (by decide)).trans (hF2320.1 231 14 (by decide))).trans hv2292))
                have x2343 := HI.eqI hI2334 (p := 231) (b := 17) (((gI_sI_ne (by decide)).trans hv2327))
                have x2344 := HI.eqI hI2334 (p := 231) (b := 23) ((((gI_sI_ne (by decide)).trans ((hF2320.1 231 23 (by decide)).trans ((hF2275.1 231 23 (by decide)).trans ((hF1506.1 231 23 (by decide)).trans (hF1495.1 231 23 (by decide)))))).trans hv8))
                have x2345 := HI.eqI hI0 (p := 231) (b := 9) (hv2)
                have zv2346 : (3 : Int32).toInt = 3 := rfl
                have pg2347 := PG.cong pg2330 hI2334 ((gA_sI)) ((gA_sI)) ((gA_sI)) ((gA_sI)) ((gI_sI_ne (by decide))) ((gI_sI_ne (by decide)))
                have w262348 := W26.cong c2299 hI2334 (((gI_sI_ne (by decide)).trans (hF2320.1 231 9 (by decide)))) (((gI_sI_ne (by decide)).trans (hF2320.1 231 10 (by decide)))) (((gI_sI_ne (by decide)).trans (hF2320.1 231 11 (by decide)))) (((gJ_sI_ne (by decide)).trans (hF2320.2.2 231 12 (by decide))))
                exact ⟨_, rfl, hI2334, hF2335, _, rfl, by decide, ⟨by omega, by omega, by omega, by omega, w262348, by omega, by omega, (fun hbad => ⟨by omega, (PT.mk (fun h => False.elim (by omega)) (fun _ => pg2347) (fun h h9 => False.elim (by omega)) (fun h => False.elim (by omega)))⟩), (fun hbad => by omega)⟩⟩
  · have c1502_ : v1496.toInt ≠ 0 := en_k_eq_f c1502
    refine At.enter rfl ?_
    refine r_aload_n rfl ?_
    refine r_bipush 31 rfl ?_
    refine q_inlV 15 rfl [.ref 231, .int 31] [] (Nat.le_of_ble_eq_true rfl) rfl ?_
    refine Ev.mk rfl rfl ⟨Nat.le_of_ble_eq_true rfl, Or.inr (q_rc hI1494.1 kx_231 rfl)⟩ ?_
    show At _ none _ _ (0, [(0, .ref 231), (1, .int 31)], [], (_, _)) _
    refine At.enter rfl ?_
    refine r_aload_n rfl ?_
    refine r_aload_n rfl ?_
    obtain ⟨v2349, hv2349⟩ : ∃ v, gI g0 231 24 = v := ⟨_, rfl⟩
    refine q_getI (Sh.int hI1494.1 kx_231 rfl) v2349 ((hF1495.1 231 24 (by decide)).trans hv2349) ?_
    refine r_bipush 8 rfl ?_
    refine r_ics 10 rfl (fun c2350 => ?_) (fun c2350 => ?_)
    · have c2350_ : v2349.toInt ≥ 8 := en_i_ge_t c2350
      refine At.enter rfl ?_
      refine r_iconst 0 rfl ?_
      refine Ar.fall 15 rfl ?_
      refine At.enter rfl ?_
      have x2351 := HI.eqI hI1494 (p := 231) (b := 8) (((hF1495.1 231 8 (by decide)).trans hv1))
      have x2352 := HI.eqI hI1494 (p := 231) (b := 9) (((hF1495.1 231 9 (by decide)).trans hv2))
      have x2353 := HI.eqI hI1494 (p := 231) (b := 10) (((hF1495.1 231 10 (by decide)).trans hv3))
      have x2354 := HI.eqI hI1494 (p := 231) (b := 11) (((hF1495.1 231 11 (by decide)).trans hv4))
      have w262355 := W26.cong hW hI1494 ((hF1495.1 231 9 (by decide))) ((hF1495.1 231 10 (by decide))) ((hF1495.1 231 11 (by decide))) ((hF1495.2.2 231 12 (by decide)))
      have zv2356 : (0 : Int32).toInt = 0 := rfl
      refine r_callV 18 rfl [.ref 231, .int 0] [] (Nat.le_of_ble_eq_true rfl) rfl (T_X11_must_231 _ hI1494 0 (by decide) (by refine ⟨?_, ?_, ?_, ?_⟩ <;> omega) w262355) ?_
      rintro _ _ ⟨g2357, rfl, hI2358, hF2359, rfl, hr2361⟩
      refine At.stn ?_
      have hF2362 := Fr.tr hF1498 hF2359 rfl rfl
      have zv2363 : (0 : Int32).toInt = 0 := rfl
      have x2364 := HI.eqI hI1494 (p := 231) (b := 8) (((hF1495.1 231 8 (by decide)).trans hv1))
      have x2365 := HI.eqI hI1494 (p := 231) (b := 9) (((hF1495.1 231 9 (by decide)).trans hv2))
      have x2366 := HI.eqI hI1494 (p := 231) (b := 10) (((hF1495.1 231 10 (by decide)).trans hv3))
      have x2367 := HI.eqI hI1494 (p := 231) (b := 11) (((hF1495.1 231 11 (by decide)).trans hv4))
      have x2368 := HI.eqI hI1494 (p := 231) (b := 14) (((hF1495.1 231 14 (by decide)).trans hv6))
      have x2369 := HI.eqI hI2358 (p := 231) (b := 8) ((((hF2359.1 231 8 (by decide)).trans (hF1495.1 231 8 (by decide))).trans hv1))
      obtain ⟨v2370, hv2370⟩ : ∃ v, gI g2357 231 9 = v := ⟨_, rfl⟩
      have rv2370 := RgF.at hI2358.2.1 (p := 231) (b := 9) rfl
      rw [hv2370] at rv2370
      dsimp only at rv2370
      have tv2370 := congrArg Int32.toInt hv2370
      have x2371 := HI.eqI hI2358 (p := 231) (b := 9) (hv2370)
      obtain ⟨v2372, hv2372⟩ : ∃ v, gI g2357 231 10 = v := ⟨_, rfl⟩
      have rv2372 := RgF.at hI2358.2.1 (p := 231) (b := 10) rfl
      rw [hv2372] at rv2372
      dsimp only at rv2372
      have tv2372 := congrArg Int32.toInt hv2372
      have x2373 := HI.eqI hI2358 (p := 231) (b := 10) (hv2372)
      obtain ⟨v2374, hv2374⟩ : ∃ v, gI g2357 231 11 = v := ⟨_, rfl⟩
      have tv2374 := congrArg Int32.toInt hv2374
      have x2375 := HI.eqI hI2358 (p := 231) (b := 11) (hv2374)
      obtain ⟨v2376, hv2376⟩ : ∃ v, gI g2357 231 14 = v := ⟨_, rfl⟩
      have tv2376 := congrArg Int32.toInt hv2376
      have x2377 := HI.eqI hI2358 (p := 231) (b := 14) (hv2376)
      obtain ⟨c2378, c2379, c2380, c2381, c2382, c2383, c2384⟩ := hr2361
      refine At.enter rfl ?_
      refine r_aload_n rfl ?_
      refine q_getI (Sh.int hI2358.1 kx_231 rfl) v2376 hv2376 ?_
      refine r_ifs 25 rfl (fun c2385 => ?_) (fun c2385 => ?_)
      · have c2385_ : v2376.toInt ≠ 0 := en_k_ne_t c2385
        clear c2384
        refine At.enter rfl ?_
        refine q_vret ?_
        refine At.enter rfl ?_
        refine r_iconst 1 rfl ?_
        refine r_ireti ?_
        have x2386 := HI.eqI hI2358 (p := 231) (b := 8) ((((hF2359.1 231 8 (by decide)).trans (hF1495.1 231 8 (by decide))).trans hv1))
        have x2387 := HI.eqI hI2358 (p := 231) (b := 9) (hv2370)
        have x2388 := HI.eqI hI2358 (p := 231) (b := 10) (hv2372)
        have x2389 := HI.eqI hI2358 (p := 231) (b := 11) (hv2374)
        obtain ⟨v2390, hv2390⟩ : ∃ v, gJ g2357 231 12 = v := ⟨_, rfl⟩
        have x2391 := HI.eqJ hI2358 (b := 12) (hv2390)
        have x2392 := HI.eqI hI2358 (p := 231) (b := 14) (hv2376)
        have x2393 := HI.eqI hI2358 (p := 231) (b := 17) ((((hF2359.1 231 17 (by decide)).trans (hF1495.1 231 17 (by decide))).trans hv7))
        have x2394 := HI.eqI hI2358 (p := 231) (b := 23) ((((hF2359.1 231 23 (by decide)).trans (hF1495.1 231 23 (by decide))).trans hv8))
        have x2395 := HI.eqI hI0 (p := 231) (b := 9) (hv2)
        have zv2396 : (1 : Int32).toInt = 1 := rfl
        have pg2397 := PG.cong (hP.1 (by decide)) hI2358 (((hF2359.2.1 238 (by decide)).trans (hF1495.2.1 238 (by decide)))) (((hF2359.2.1 239 (by decide)).trans (hF1495.2.1 239 (by decide)))) (((hF2359.2.1 240 (by decide)).trans (hF1495.2.1 240 (by decide)))) (((hF2359.2.1 241 (by decide)).trans (hF1495.2.1 241 (by decide)))) (((hF2359.1 231 17 (by decide)).trans (hF1495.1 231 17 (by decide)))) (((hF2359.1 231 23 (by decide)).trans (hF1495.1 231 23 (by decide))))
        exact ⟨_, rfl, hI2358, hF2362, _, rfl, by decide, ⟨by omega, by omega, by omega, by omega, c2383, by omega, by omega, (fun hbad => ⟨by omega, (PT.mk (fun _ => pg2397) (fun h => False.elim (by omega)) (fun h h9 => False.elim (by omega)) (fun h => False.elim (by omega)))⟩), (fun hbad => by omega)⟩⟩
      · have c2385_ : v2376.toInt = 0 := en_k_ne_f c2385
        obtain ⟨i2398, i2399, i2400⟩ := c2384 (by omega)
        refine At.enter rfl ?_
        refine r_aload_n rfl ?_
        refine r_dup rfl ?_
        refine q_getI (Sh.int hI2358.1 kx_231 rfl) v2349 (((hF2359.1 231 24 (by decide)).trans (hF1495.1 231 24 (by decide))).trans hv2349) ?_
        refine r_iconst 1 rfl ?_
        refine q_iaddO (fun v2401 _ => ?_)
        refine q_putI (Sh.int hI2358.1 kx_231 rfl) rfl ?_
        have hI2402 := HI.wI0 hI2358 kx_231 rfl (p := 231) (b := 24) (v := v2401) rfl
        have hF2403 := Fr.wI (p := 231) (b := 24) (v := v2401) hF2362 rfl
        refine r_aload_n rfl ?_
        refine r_iload_n rfl ?_
        refine r_iconst 0 rfl ?_
        have x2404 := HI.eqI hI2402 (p := 231) (b := 23) ((((gI_sI_ne (by decide)).trans ((hF2359.1 231 23 (by decide)).trans (hF1495.1 231 23 (by decide)))).trans hv8))
        have zv2405 : (31 : Int32).toInt = 31 := rfl
        have zv2406 : (0 : Int32).toInt = 0 := rfl
        refine r_callV 41 rfl [.ref 231, .int 31, .int 0] [] (Nat.le_of_ble_eq_true rfl) rfl (T_X11_push_231 _ hI2402 31 (by decide) 0 (by decide) (by omega)) ?_
        rintro _ _ ⟨g2407, rfl, hI2408, hF2409, rfl, hr2411⟩
        refine At.stn ?_
        have hF2412 := Fr.tr hF2403 hF2409 rfl rfl
        have zv2413 : (31 : Int32).toInt = 31 := rfl
        have zv2414 : (0 : Int32).toInt = 0 := rfl
        have x2415 := HI.eqI hI2402 (p := 231) (b := 17) ((((gI_sI_ne (by decide)).trans ((hF2359.1 231 17 (by decide)).trans (hF1495.1 231 17 (by decide)))).trans hv7))
        have x2416 := HI.eqI hI2402 (p := 231) (b := 23) ((((gI_sI_ne (by decide)).trans ((hF2359.1 231 23 (by decide)).trans (hF1495.1 231 23 (by decide)))).trans hv8))
        have x2417 := HI.eqI hI2408 (p := 231) (b := 17) ((((hF2409.1 231 17 (by decide)).trans ((gI_sI_ne (by decide)).trans ((hF2359.1 231 17 (by decide)).trans (hF1495.1 231 17 (by decide))))).trans hv7))
        obtain ⟨v2418, hv2418⟩ : ∃ v, gI g2407 231 23 = v := ⟨_, rfl⟩
        have rv2418 := RgF.at hI2408.2.1 (p := 231) (b := 23) rfl
        rw [hv2418] at rv2418
        dsimp only at rv2418
        have tv2418 := congrArg Int32.toInt hv2418
        have x2419 := HI.eqI hI2408 (p := 231) (b := 23) (hv2418)
        have y2420 : (gI _ 231 23).toInt = (gI _ 231 23).toInt + 1 := hr2411.1
        have pg2421 := PG.cong (hP.1 (by decide)) hI2402 (((gA_sI).trans ((hF2359.2.1 238 (by decide)).trans (hF1495.2.1 238 (by decide))))) (((gA_sI).trans ((hF2359.2.1 239 (by decide)).trans (hF1495.2.1 239 (by decide))))) (((gA_sI).trans ((hF2359.2.1 240 (by decide)).trans (hF1495.2.1 240 (by decide))))) (((gA_sI).trans ((hF2359.2.1 241 (by decide)).trans (hF1495.2.1 241 (by decide))))) (((gI_sI_ne (by decide)).trans ((hF2359.1 231 17 (by decide)).trans (hF1495.1 231 17 (by decide))))) (((gI_sI_ne (by decide)).trans ((hF2359.1 231 23 (by decide)).trans (hF1495.1 231 23 (by decide)))))
        have pg2422 := PG.push (e' := 0) pg2421 hr2411 (hF2409.2.1 238 (by decide)) (hF2409.2.1 239 (by decide)) (hF2409.1 231 17 (by decide)) ⟨by omega, by omega⟩ (Or.inl (by omega)) (by omega) (by omega)
        refine At.enter rfl ?_
        refine q_vret ?_
        refine At.enter rfl ?_
        refine r_iconst 1 rfl ?_
        refine r_ireti ?_
        have x2423 := HI.eqI hI2408 (p := 231) (b := 8) ((((hF2409.1 231 8 (by decide)).trans ((gI_sI_ne (by decide)).trans ((hF2359.1 231 8 (by decide)).trans (hF1495.1 231 8 (by decide))))).trans hv1))
        have x2424 := HI.eqI hI2408 (p := 231) (b := 9) ((((hF2409.1 231 9 (by decide)).trans (gI_sI_ne (by decide))).trans hv2370))
        have x2425 := HI.eqI hI2408 (p := 231) (b := 10) ((((hF2409.1 231 10 (by decide)).trans (gI_sI_ne (by decide))).trans hv2372))
        have x2426 := HI.eqI hI2408 (p := 231) (b := 11) ((((hF2409.1 231 11 (by decide)).trans (gI_sI_ne (by decide))).trans hv2374))
        obtain ⟨v2427, hv2427⟩ : ∃ v, gJ g2357 231 12 = v := ⟨_, rfl⟩
        have x2428 := HI.eqJ hI2408 (b := 12) ((((hF2409.2.2 231 12 (by decide)).trans (gJ_sI_ne (by decide))).trans hv2427))
        have x2429 := HI.eqI hI2408 (p := 231) (b := 14) ((((hF2409.1 231 14 (by decide)).trans (gI_sI_ne (by decide))).trans hv2376))
        have x2430 := HI.eqI hI2408 (p := 231) (b := 17) ((((hF2409.1 231 17 (by decide)).trans ((gI_sI_ne (by decide)).trans ((hF2359.1 231 17 (by decide)).trans (hF1495.1 231 17 (by decide))))).trans hv7))
        have x2431 := HI.eqI hI2408 (p := 231) (b := 23) (hv2418)
        have x2432 := HI.eqI hI0 (p := 231) (b := 9) (hv2)
        have zv2433 : (1 : Int32).toInt = 1 := rfl
        have w262434 := W26.cong c2383 hI2408 (((hF2409.1 231 9 (by decide)).trans (gI_sI_ne (by decide)))) (((hF2409.1 231 10 (by decide)).trans (gI_sI_ne (by decide)))) (((hF2409.1 231 11 (by decide)).trans (gI_sI_ne (by decide)))) (((hF2409.2.2 231 12 (by decide)).trans (gJ_sI_ne (by decide))))
        exact ⟨_, rfl, hI2408, hF2412, _, rfl, by decide, ⟨by omega, by omega, by omega, by omega, w262434, by omega, by omega, (fun hbad => ⟨by omega, (PT.mk (fun _ => pg2422) (fun h => False.elim (by omega)) (fun h h9 => False.elim (by omega)) (fun h => False.elim (by omega)))⟩), (fun hbad => by omega)⟩⟩
    · have c2350_ : v2349.toInt < 8 := en_i_ge_f c2350
      refine At.enter rfl ?_
      refine r_iconst 1 rfl ?_
      refine r_goto ?_
      refine At.enter rfl ?_
      have x2435 := HI.eqI hI1494 (p := 231) (b := 8) (((hF1495.1 231 8 (by decide)).trans hv1))
      have x2436 := HI.eqI hI1494 (p := 231) (b := 9) (((hF1495.1 231 9 (by decide)).trans hv2))
      have x2437 := HI.eqI hI1494 (p := 231) (b := 10) (((hF1495.1 231 10 (by decide)).trans hv3))
      have x2438 := HI.eqI hI1494 (p := 231) (b := 11) (((hF1495.1 231 11 (by decide)).trans hv4))
      have w262439 := W26.cong hW hI1494 ((hF1495.1 231 9 (by decide))) ((hF1495.1 231 10 (by decide))) ((hF1495.1 231 11 (by decide))) ((hF1495.2.2 231 12 (by decide)))
      have zv2440 : (1 : Int32).toInt = 1 := rfl
      refine r_callV 18 rfl [.ref 231, .int 1] [] (Nat.le_of_ble_eq_true rfl) rfl (T_X11_must_231 _ hI1494 1 (by decide) (by refine ⟨?_, ?_, ?_, ?_⟩ <;> omega) w262439) ?_
      rintro _ _ ⟨g2441, rfl, hI2442, hF2443, rfl, hr2445⟩
      refine At.stn ?_
      have hF2446 := Fr.tr hF1498 hF2443 rfl rfl
      have zv2447 : (1 : Int32).toInt = 1 := rfl
      have x2448 := HI.eqI hI1494 (p := 231) (b := 8) (((hF1495.1 231 8 (by decide)).trans hv1))
      have x2449 := HI.eqI hI1494 (p := 231) (b := 9) (((hF1495.1 231 9 (by decide)).trans hv2))
      have x2450 := HI.eqI hI1494 (p := 231) (b := 10) (((hF1495.1 231 10 (by decide)).trans hv3))
      have x2451 := HI.eqI hI1494 (p := 231) (b := 11) (((hF1495.1 231 11 (by decide)).trans hv4))
      have x2452 := HI.eqI hI1494 (p := 231) (b := 14) (((hF1495.1 231 14 (by decide)).trans hv6))
      have x2453 := HI.eqI hI2442 (p := 231) (b := 8) ((((hF2443.1 231 8 (by decide)).trans (hF1495.1 231 8 (by decide))).trans hv1))
      obtain ⟨v2454, hv2454⟩ : ∃ v, gI g2441 231 9 = v := ⟨_, rfl⟩
      have rv2454 := RgF.at hI2442.2.1 (p := 231) (b := 9) rfl
      rw [hv2454] at rv2454
      dsimp only at rv2454
      have tv2454 := congrArg Int32.toInt hv2454
      have x2455 := HI.eqI hI2442 (p := 231) (b := 9) (hv2454)
      obtain ⟨v2456, hv2456⟩ : ∃ v, gI g2441 231 10 = v := ⟨_, rfl⟩
      have rv2456 := RgF.at hI2442.2.1 (p := 231) (b := 10) rfl
      rw [hv2456] at rv2456
      dsimp only at rv2456
      have tv2456 := congrArg Int32.toInt hv2456
      have x2457 := HI.eqI hI2442 (p := 231) (b := 10) (hv2456)
      obtain ⟨v2458, hv2458⟩ : ∃ v, gI g2441 231 11 = v := ⟨_, rfl⟩
      have tv2458 := congrArg Int32.toInt hv2458
      have x2459 := HI.eqI hI2442 (p := 231) (b := 11) (hv2458)
      obtain ⟨v2460, hv2460⟩ : ∃ v, gI g2441 231 14 = v := ⟨_, rfl⟩
      have tv2460 := congrArg Int32.toInt hv2460
      have x2461 := HI.eqI hI2442 (p := 231) (b := 14) (hv2460)
      obtain ⟨c2462, c2463, c2464, c2465, c2466, c2467, c2468⟩ := hr2445
      refine At.enter rfl ?_
      refine r_aload_n rfl ?_
      refine q_getI (Sh.int hI2442.1 kx_231 rfl) v2460 hv2460 ?_
      refine r_ifs 25 rfl (fun c2469 => ?_) (fun c2469 => ?_)
      · have c2469_ : v2460.toInt ≠ 0 := en_k_ne_t c2469
        clear c2468
        refine At.enter rfl ?_
        refine q_vret ?_
        refine At.enter rfl ?_
        refine r_iconst 1 rfl ?_
        refine r_ireti ?_
        have x2470 := HI.eqI hI2442 (p := 231) (b := 8) ((((hF2443.1 231 8 (by decide)).trans (hF1495.1 231 8 (by decide))).trans hv1))
        have x2471 := HI.eqI hI2442 (p := 231) (b := 9) (hv2454)
        have x2472 := HI.eqI hI2442 (p := 231) (b := 10) (hv2456)
        have x2473 := HI.eqI hI2442 (p := 231) (b := 11) (hv2458)
        obtain ⟨v2474, hv2474⟩ : ∃ v, gJ g2441 231 12 = v := ⟨_, rfl⟩
        have x2475 := HI.eqJ hI2442 (b := 12) (hv2474)
        have x2476 := HI.eqI hI2442 (p := 231) (b := 14) (hv2460)
        have x2477 := HI.eqI hI2442 (p := 231) (b := 17) ((((hF2443.1 231 17 (by decide)).trans (hF1495.1 231 17 (by decide))).trans hv7))
        have x2478 := HI.eqI hI2442 (p := 231) (b := 23) ((((hF2443.1 231 23 (by decide)).trans (hF1495.1 231 23 (by decide))).trans hv8))
        have x2479 := HI.eqI hI0 (p := 231) (b := 9) (hv2)
        have zv2480 : (1 : Int32).toInt = 1 := rfl
        have pg2481 := PG.cong (hP.1 (by decide)) hI2442 (((hF2443.2.1 238 (by decide)).trans (hF1495.2.1 238 (by decide)))) (((hF2443.2.1 239 (by decide)).trans (hF1495.2.1 239 (by decide)))) (((hF2443.2.1 240 (by decide)).trans (hF1495.2.1 240 (by decide)))) (((hF2443.2.1 241 (by decide)).trans (hF1495.2.1 241 (by decide)))) (((hF2443.1 231 17 (by decide)).trans (hF1495.1 231 17 (by decide)))) (((hF2443.1 231 23 (by decide)).trans (hF1495.1 231 23 (by decide))))
        exact ⟨_, rfl, hI2442, hF2446, _, rfl, by decide, ⟨by omega, by omega, by omega, by omega, c2467, by omega, by omega, (fun hbad => ⟨by omega, (PT.mk (fun _ => pg2481) (fun h => False.elim (by omega)) (fun h h9 => False.elim (by omega)) (fun h => False.elim (by omega)))⟩), (fun hbad => by omega)⟩⟩
      · have c2469_ : v2460.toInt = 0 := en_k_ne_f c2469
        obtain ⟨i2482, i2483, i2484⟩ := c2468 (by omega)
        refine At.enter rfl ?_
        refine r_aload_n rfl ?_
        refine r_dup rfl ?_
        refine q_getI (Sh.int hI2442.1 kx_231 rfl) v2349 (((hF2443.1 231 24 (by decide)).trans (hF1495.1 231 24 (by decide))).trans hv2349) ?_
        refine r_iconst 1 rfl ?_
        have bv2485 := q_bnd v2349
        refine q_iadd (v2349.toInt + 1) rfl (by omega) (fun v2486 hv2486 => ?_)
        refine q_putI (Sh.int hI2442.1 kx_231 rfl) rfl ?_
        have hI2487 := HI.wI0 hI2442 kx_231 rfl (p := 231) (b := 24) (v := v2486) rfl
        have hF2488 := Fr.wI (p := 231) (b := 24) (v := v2486) hF2446 rfl
        refine r_aload_n rfl ?_
        refine r_iload_n rfl ?_
        refine r_iconst 0 rfl ?_
        have x2489 := HI.eqI hI2487 (p := 231) (b := 23) ((((gI_sI_ne (by decide)).trans ((hF2443.1 231 23 (by decide)).trans (hF1495.1 231 23 (by decide)))).trans hv8))
        have zv2490 : (31 : Int32).toInt = 31 := rfl
        have zv2491 : (0 : Int32).toInt = 0 := rfl
        refine r_callV 41 rfl [.ref 231, .int 31, .int 0] [] (Nat.le_of_ble_eq_true rfl) rfl (T_X11_push_231 _ hI2487 31 (by decide) 0 (by decide) (by omega)) ?_
        rintro _ _ ⟨g2492, rfl, hI2493, hF2494, rfl, hr2496⟩
        refine At.stn ?_
        have hF2497 := Fr.tr hF2488 hF2494 rfl rfl
        have zv2498 : (31 : Int32).toInt = 31 := rfl
        have zv2499 : (0 : Int32).toInt = 0 := rfl
        have x2500 := HI.eqI hI2487 (p := 231) (b := 17) ((((gI_sI_ne (by decide)).trans ((hF2443.1 231 17 (by decide)).trans (hF1495.1 231 17 (by decide)))).trans hv7))
        have x2501 := HI.eqI hI2487 (p := 231) (b := 23) ((((gI_sI_ne (by decide)).trans ((hF2443.1 231 23 (by decide)).trans (hF1495.1 231 23 (by decide)))).trans hv8))
        have x2502 := HI.eqI hI2493 (p := 231) (b := 17) ((((hF2494.1 231 17 (by decide)).trans ((gI_sI_ne (by decide)).trans ((hF2443.1 231 17 (by decide)).trans (hF1495.1 231 17 (by decide))))).trans hv7))
        obtain ⟨v2503, hv2503⟩ : ∃ v, gI g2492 231 23 = v := ⟨_, rfl⟩
        have rv2503 := RgF.at hI2493.2.1 (p := 231) (b := 23) rfl
        rw [hv2503] at rv2503
        dsimp only at rv2503
        have tv2503 := congrArg Int32.toInt hv2503
        have x2504 := HI.eqI hI2493 (p := 231) (b := 23) (hv2503)
        have y2505 : (gI _ 231 23).toInt = (gI _ 231 23).toInt + 1 := hr2496.1
        have pg2506 := PG.cong (hP.1 (by decide)) hI2487 (((gA_sI).trans ((hF2443.2.1 238 (by decide)).trans (hF1495.2.1 238 (by decide))))) (((gA_sI).trans ((hF2443.2.1 239 (by decide)).trans (hF1495.2.1 239 (by decide))))) (((gA_sI).trans ((hF2443.2.1 240 (by decide)).trans (hF1495.2.1 240 (by decide))))) (((gA_sI).trans ((hF2443.2.1 241 (by decide)).trans (hF1495.2.1 241 (by decide))))) (((gI_sI_ne (by decide)).trans ((hF2443.1 231 17 (by decide)).trans (hF1495.1 231 17 (by decide))))) (((gI_sI_ne (by decide)).trans ((hF2443.1 231 23 (by decide)).trans (hF1495.1 231 23 (by decide)))))
        have pg2507 := PG.push (e' := 0) pg2506 hr2496 (hF2494.2.1 238 (by decide)) (hF2494.2.1 239 (by decide)) (hF2494.1 231 17 (by decide)) ⟨by omega, by omega⟩ (Or.inl (by omega)) (by omega) (by omega)
        refine At.enter rfl ?_
        refine q_vret ?_
        refine At.enter rfl ?_
        refine r_iconst 1 rfl ?_
        refine r_ireti ?_
        have x2508 := HI.eqI hI2493 (p := 231) (b := 8) ((((hF2494.1 231 8 (by decide)).trans ((gI_sI_ne (by decide)).trans ((hF2443.1 231 8 (by decide)).trans (hF1495.1 231 8 (by decide))))).trans hv1))
        have x2509 := HI.eqI hI2493 (p := 231) (b := 9) ((((hF2494.1 231 9 (by decide)).trans (gI_sI_ne (by decide))).trans hv2454))
        have x2510 := HI.eqI hI2493 (p := 231) (b := 10) ((((hF2494.1 231 10 (by decide)).trans (gI_sI_ne (by decide))).trans hv2456))
        have x2511 := HI.eqI hI2493 (p := 231) (b := 11) ((((hF2494.1 231 11 (by decide)).trans (gI_sI_ne (by decide))).trans hv2458))
        obtain ⟨v2512, hv2512⟩ : ∃ v, gJ g2441 231 12 = v := ⟨_, rfl⟩
        have x2513 := HI.eqJ hI2493 (b := 12) ((((hF2494.2.2 231 12 (by decide)).trans (gJ_sI_ne (by decide))).trans hv2512))
        have x2514 := HI.eqI hI2493 (p := 231) (b := 14) ((((hF2494.1 231 14 (by decide)).trans (gI_sI_ne (by decide))).trans hv2460))
        have x2515 := HI.eqI hI2493 (p := 231) (b := 17) ((((hF2494.1 231 17 (by decide)).trans ((gI_sI_ne (by decide)).trans ((hF2443.1 231 17 (by decide)).trans (hF1495.1 231 17 (by decide))))).trans hv7))
        have x2516 := HI.eqI hI2493 (p := 231) (b := 23) (hv2503)
        have x2517 := HI.eqI hI0 (p := 231) (b := 9) (hv2)
        have zv2518 : (1 : Int32).toInt = 1 := rfl
        have w262519 := W26.cong c2467 hI2493 (((hF2494.1 231 9 (by decide)).trans (gI_sI_ne (by decide)))) (((hF2494.1 231 10 (by decide)).trans (gI_sI_ne (by decide)))) (((hF2494.1 231 11 (by decide)).trans (gI_sI_ne (by decide)))) (((hF2494.2.2 231 12 (by decide)).trans (gJ_sI_ne (by decide))))
        exact ⟨_, rfl, hI2493, hF2497, _, rfl, by decide, ⟨by omega, by omega, by omega, by omega, w262519, by omega, by omega, (fun hbad => ⟨by omega, (PT.mk (fun _ => pg2507) (fun h => False.elim (by omega)) (fun h h9 => False.elim (by omega)) (fun h => False.elim (by omega)))⟩), (fun hbad => by omega)⟩⟩
