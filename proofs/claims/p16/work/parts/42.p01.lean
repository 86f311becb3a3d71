def F_X11_partAt_231 : List (Nat × Nat) := []
def A_X11_partAt_231 : List Nat := []
set_option maxRecDepth 100000 in
set_option maxHeartbeats 4000000 in
theorem T_X11_partAt_231 (d : Nat) {N : Nat} {g0 : List en_E} (hI0 : HI g0) (h1 : 0 ≤ (gI g0 231 11).toInt) : Ev (d + 2) 201 [.ref 231] (g0, N) (fun w h' => ∃ g', h' = (g', N) ∧ HI g' ∧ Fr F_X11_partAt_231 A_X11_partAt_231 g0 g' ∧ ∃ r : Int32, w = some (.int r) ∧ ((-1) ≤ r.toInt ∧ r.toInt ≤ 9) ∧ (r.toInt + 1 ≤ 10 * (gI g0 231 11).toInt)) := by
  have hF0 : Fr F_X11_partAt_231 A_X11_partAt_231 g0 g0 := Fr.rf
  obtain ⟨v1, hv1⟩ : ∃ v, gI g0 231 11 = v := ⟨_, rfl⟩
  have tv1 := congrArg Int32.toInt hv1
  refine Ev.mk rfl rfl ⟨Nat.le_of_ble_eq_true rfl, Or.inr (q_rc hI0.1 kx_231 rfl)⟩ ?_
  show At _ none _ _ (0, [(0, .ref 231)], [], (_, _)) _
  refine At.enter rfl ?_
  refine r_iconst (-1) rfl ?_
  refine r_istore_n ([(1, .int (-1)), (0, .ref 231)]) rfl ?_
  refine r_iconst 0 rfl ?_
  refine r_istore_n ([(2, .int 0), (1, .int (-1)), (0, .ref 231)]) rfl ?_
  refine Ar.fall 4 rfl ?_
  have z_913 : ((-1) : Int32).toInt = (-1) := rfl
  have z_914 : (0 : Int32).toInt = 0 := rfl
  refine w_loopI (fun n_ l_ g_ => ∃ x898 : Int32, ∃ x899 : Int32, n_ = 9 - x899.toInt ∧ HI g_ ∧ Fr F_X11_partAt_231 A_X11_partAt_231 g0 g_ ∧ gI g_ 231 11 = v1 ∧ en_get 0 l_ = some (.ref 231) ∧ en_get 1 l_ = some (.int x898) ∧ en_get 2 l_ = some (.int x899) ∧ ((-1) ≤ x898.toInt ∧ x898.toInt ≤ 9) ∧ (0 ≤ x899.toInt ∧ x899.toInt ≤ 9) ∧ (x898.toInt + 1 ≤ 10 * (gI g0 231 11).toInt)) ?_ (9 - 0) ⟨(-1), 0, by first | rfl | omega, hI0, hF0, hv1, rfl, rfl, rfl, by decide, by decide, by omega⟩
  rintro n904 l903 g900 ⟨x898, x899, hm915, hI901, hF902, e906, e907, e908, e909, r910, r911, q912⟩ ih905
  have tv916 := congrArg Int32.toInt e906
  refine At.enter rfl ?_
  refine r_iload_n e909 ?_
  refine r_bipush 9 rfl ?_
  refine r_ics 10 rfl (fun c917 => ?_) (fun c917 => ?_)
  · have c917_ : x899.toInt ≥ 9 := en_i_ge_t c917
    refine At.enter rfl ?_
    refine r_iload_n e908 ?_
    refine r_ireti ?_
    have x918 := HI.eqI hI901 (p := 231) (b := 11) (((hF902.1 231 11 (by decide)).trans hv1))
    have x919 := HI.eqI hI0 (p := 231) (b := 11) (hv1)
    exact ⟨_, rfl, hI901, hF902, _, rfl, by omega, (by omega)⟩
  · have c917_ : x899.toInt < 9 := en_i_ge_f c917
    refine At.enter rfl ?_
    refine r_aload_n e907 ?_
    refine r_aload_n e907 ?_
    refine q_getR (Sh.ref hI901.1 kx_231 rfl) ?_
    refine r_iload_n e909 ?_
    refine q_lald (Sh.lar hI901.1 ka_242) (x899.toInt) rfl (by omega) (fun v920 => ?_)
    have x921 := HI.eqI hI901 (p := 231) (b := 11) (((hF902.1 231 11 (by decide)).trans hv1))
    refine r_callV 20 rfl [.ref 231, .long v920] [] (Nat.le_of_ble_eq_true rfl) rfl (T_X11_isWord_231 _ hI901 v920 (by omega)) ?_
    rintro _ _ ⟨g922, rfl, hI923, hF924, v925, rfl, hr926⟩
    refine At.sti ?_
    have hF927 := Fr.tr hF902 hF924 rfl rfl
    obtain ⟨v928, hv928⟩ : ∃ v, gI g0 231 9 = v := ⟨_, rfl⟩
    have rv928 := RgF.at hI0.2.1 (p := 231) (b := 9) rfl
    rw [hv928] at rv928
    dsimp only at rv928
    have tv928 := congrArg Int32.toInt hv928
    have x929 := HI.eqI hI901 (p := 231) (b := 9) (((hF902.1 231 9 (by decide)).trans hv928))
    obtain ⟨v930, hv930⟩ : ∃ v, gI g0 231 10 = v := ⟨_, rfl⟩
    have rv930 := RgF.at hI0.2.1 (p := 231) (b := 10) rfl
    rw [hv930] at rv930
    dsimp only at rv930
    have tv930 := congrArg Int32.toInt hv930
    have x931 := HI.eqI hI901 (p := 231) (b := 10) (((hF902.1 231 10 (by decide)).trans hv930))
    have x932 := HI.eqI hI901 (p := 231) (b := 11) (((hF902.1 231 11 (by decide)).trans hv1))
    have x933 := HI.eqI hI923 (p := 231) (b := 9) ((((hF924.1 231 9 (by decide)).trans (hF902.1 231 9 (by decide))).trans hv928))
    have x934 := HI.eqI hI923 (p := 231) (b := 10) ((((hF924.1 231 10 (by decide)).trans (hF902.1 231 10 (by decide))).trans hv930))
    have x935 := HI.eqI hI923 (p := 231) (b := 11) ((((hF924.1 231 11 (by decide)).trans (hF902.1 231 11 (by decide))).trans hv1))
    obtain ⟨c938, c936, isw937⟩ := hr926
    refine At.enter rfl ?_
    refine r_ifs 23 rfl (fun c939 => ?_) (fun c939 => ?_)
    · have c939_ : v925.toInt = 0 := en_k_eq_t c939
      refine At.enter rfl ?_
      refine r_iload_n e908 ?_
      refine Ar.fall 30 rfl ?_
      refine At.enter rfl ?_
      refine r_istore_n _ rfl ?_
      refine q_iinc (w_p1 (by decide) (Or.inr rfl) e909) (x899.toInt + 1) rfl (by omega) (fun v940 hv940 => ?_)
      refine r_goto ?_
      exact ih905 (9 - v940.toInt) _ _ ⟨x898, v940, by first | rfl | omega, hI923, hF927, (((hF924.1 231 11 (by decide)).trans (hF902.1 231 11 (by decide))).trans hv1), (w_p1 (by decide) (Or.inr rfl) (w_p1 (by decide) (Or.inr rfl) e907)), (w_p1 (by decide) (Or.inr rfl) (w_e1 _ _ _)), (w_e1 _ _ _), by omega, by omega, by omega⟩ ⟨by omega, by omega⟩
    · have c939_ : v925.toInt ≠ 0 := en_k_eq_f c939
      refine At.enter rfl ?_
      refine r_iload_n e909 ?_
      refine r_iconst 1 rfl ?_
      refine q_iadd (x899.toInt + 1) rfl (by omega) (fun v941 hv941 => ?_)
      refine r_goto ?_
      refine At.enter rfl ?_
      refine r_istore_n _ rfl ?_
      refine q_iinc (w_p1 (by decide) (Or.inr rfl) e909) (x899.toInt + 1) rfl (by omega) (fun v942 hv942 => ?_)
      refine r_goto ?_
      exact ih905 (9 - v942.toInt) _ _ ⟨v941, v942, by first | rfl | omega, hI923, hF927, (((hF924.1 231 11 (by decide)).trans (hF902.1 231 11 (by decide))).trans hv1), (w_p1 (by decide) (Or.inr rfl) (w_p1 (by decide) (Or.inr rfl) e907)), (w_p1 (by decide) (Or.inr rfl) (w_e1 _ _ _)), (w_e1 _ _ _), by omega, by omega, by omega⟩ ⟨by omega, by omega⟩

def F_X11_readPart_231 : List (Nat × Nat) := [(231, 9), (231, 10), (231, 11), (231, 12), (231, 13), (231, 14), (231, 17), (231, 20), (231, 23), (231, 24)]
def A_X11_readPart_231 : List Nat := [238, 239, 240, 241]
set_option maxRecDepth 100000 in
set_option maxHeartbeats 4000000 in
theorem T_X11_readPart_231 (d : Nat) {N : Nat} {g0 : List en_E} (hI0 : HI g0) (b : Int) (o0 : Int → Int) (a0 : Int → Int) (h1 : ((gI g0 231 9).toInt ≤ (gI g0 231 10).toInt ∧ (gI g0 231 10).toInt ≤ (gI g0 231 8).toInt ∧ 0 ≤ (gI g0 231 11).toInt ∧ (gI g0 231 11).toInt ≤ 3 * ((gI g0 231 10).toInt - (gI g0 231 9).toInt))) (h2 : (gI g0 231 14).toInt = 0) (h3 : (gI g0 231 17).toInt + (gI g0 231 23).toInt ≤ (gI g0 231 9).toInt) (hW : W26 g0) (hP : PT g0 b 1 o0 a0) : Ev (d + 5) 204 [.ref 231] (g0, N) (fun w h' => ∃ g', h' = (g', N) ∧ HI g' ∧ Fr F_X11_readPart_231 A_X11_readPart_231 g0 g' ∧ ∃ r : Int32, w = some (.int r) ∧ (1 ≤ r.toInt ∧ r.toInt ≤ 3) ∧ ((gI g' 231 9).toInt ≤ (gI g' 231 10).toInt ∧ (gI g' 231 10).toInt ≤ (gI g' 231 8).toInt ∧ 0 ≤ (gI g' 231 11).toInt ∧ (gI g' 231 11).toInt ≤ 3 * ((gI g' 231 10).toInt - (gI g' 231 9).toInt) ∧ W26 g' ∧ (gI g' 231 17).toInt + (gI g' 231 23).toInt ≤ 400 ∧ (gI g0 231 9).toInt ≤ (gI g' 231 9).toInt ∧ TURN g' b r.toInt o0 a0 ∧ PRG (gI g' 231 14).toInt (gI g0 231 9).toInt (gI g' 231 9).toInt r.toInt 4)) := by
  have hF0 : Fr F_X11_readPart_231 A_X11_readPart_231 g0 g0 := Fr.rf
  obtain ⟨v1, hv1⟩ : ∃ v, gI g0 231 8 = v := ⟨_, rfl⟩
  have rv1 := RgF.at hI0.2.1 (p := 231) (b := 8) rfl
  rw [hv1] at rv1
  dsimp only at rv1
  have tv1 := congrArg Int32.toInt hv1
  obtain ⟨v2, hv2⟩ : ∃ v, gI g0 231 9 = v := ⟨_, rfl⟩
  have rv2 := RgF.at hI0.2.1 (p := 231) (b := 9) rfl
  rw [hv2] at rv2
  dsimp only at rv2
  have tv2 := congrArg Int32.toInt hv2
  obtain ⟨v3, hv3⟩ : ∃ v, gI g0 231 10 = v := ⟨_, rfl⟩
  have rv3 := RgF.at hI0.2.1 (p := 231) (b := 10) rfl
  rw [hv3] at rv3
  dsimp only at rv3
  have tv3 := congrArg Int32.toInt hv3
  obtain ⟨v4, hv4⟩ : ∃ v, gI g0 231 11 = v := ⟨_, rfl⟩
  have tv4 := congrArg Int32.toInt hv4
  obtain ⟨v5, hv5⟩ : ∃ v, gJ g0 231 12 = v := ⟨_, rfl⟩
  have tv5 := congrArg Int64.toInt hv5
  obtain ⟨v6, hv6⟩ : ∃ v, gI g0 231 14 = v := ⟨_, rfl⟩
  have tv6 := congrArg Int32.toInt hv6
  obtain ⟨v7, hv7⟩ : ∃ v, gI g0 231 17 = v := ⟨_, rfl⟩
  have rv7 := RgF.at hI0.2.1 (p := 231) (b := 17) rfl
  rw [hv7] at rv7
  dsimp only at rv7
  have tv7 := congrArg Int32.toInt hv7
  obtain ⟨v8, hv8⟩ : ∃ v, gI g0 231 23 = v := ⟨_, rfl⟩
  have rv8 := RgF.at hI0.2.1 (p := 231) (b := 23) rfl
  rw [hv8] at rv8
  dsimp only at rv8
  have tv8 := congrArg Int32.toInt hv8
  refine Ev.mk rfl rfl ⟨Nat.le_of_ble_eq_true rfl, Or.inr (q_rc hI0.1 kx_231 rfl)⟩ ?_
  show At _ none _ _ (0, [(0, .ref 231)], [], (_, _)) _
  refine At.enter rfl ?_
  refine r_aload_n rfl ?_
  refine r_bipush 91 rfl ?_
  have x1491 := HI.eqI hI0 (p := 231) (b := 11) (hv4)
  have zv1492 : (91 : Int32).toInt = 91 := rfl
  refine r_callV 6 rfl [.ref 231, .int 91] [] (Nat.le_of_ble_eq_true rfl) rfl (T_X11_isSign_231 _ hI0 91 (by omega)) ?_
  rintro _ _ ⟨g1493, rfl, hI1494, hF1495, v1496, rfl, hr1497⟩
  refine At.sti ?_
  have hF1498 := Fr.tr hF0 hF1495 rfl rfl
  have zv1499 : (91 : Int32).toInt = 91 := rfl
  have x1500 := HI.eqI hI0 (p := 231) (b := 11) (hv4)
  have x1501 := HI.eqI hI1494 (p := 231) (b := 11) (((hF1495.1 231 11 (by decide)).trans hv4))
  refine At.enter rfl ?_
  refine r_ifs 9 rfl (fun c1502 => ?_) (fun c1502 => ?_)
  · have c1502_ : v1496.toInt = 0 := en_k_eq_t c1502
    refine At.enter rfl ?_
    refine r_aload_n rfl ?_
    have x1503 := HI.eqI hI1494 (p := 231) (b := 11) (((hF1495.1 231 11 (by decide)).trans hv4))
    refine r_callV 21 rfl [.ref 231] [] (Nat.le_of_ble_eq_true rfl) rfl (T_X11_partAt_231 _ hI1494 (by omega)) ?_
    rintro _ _ ⟨g1504, rfl, hI1505, hF1506, v1507, rfl, hr1508⟩
    refine At.sti ?_
    have hF1509 := Fr.tr hF1498 hF1506 rfl rfl
    have x1510 := HI.eqI hI1494 (p := 231) (b := 11) (((hF1495.1 231 11 (by decide)).trans hv4))
    have x1511 := HI.eqI hI1505 (p := 231) (b := 11) ((((hF1506.1 231 11 (by decide)).trans (hF1495.1 231 11 (by decide))).trans hv4))
    refine At.enter rfl ?_
    refine r_istore_n ([(1, .int v1507), (0, .ref 231)]) rfl ?_
    refine r_aload_n rfl ?_
    refine q_getI (Sh.int hI1505.1 kx_231 rfl) v4 (((hF1506.1 231 11 (by decide)).trans (hF1495.1 231 11 (by decide))).trans hv4) ?_
    refine r_iconst 2 rfl ?_
    refine r_ics 30 rfl (fun c1512 => ?_) (fun c1512 => ?_)
    · have c1512_ : v4.toInt ≠ 2 := en_i_ne_t c1512
      refine At.enter rfl ?_
      refine r_iconst 0 rfl ?_
      refine Ar.fall 46 rfl ?_
      refine At.enter rfl ?_
      refine r_istore_n ([(2, .int 0), (1, .int v1507), (0, .ref 231)]) rfl ?_
      refine r_aload_n rfl ?_
      refine r_iload_n rfl ?_
      refine r_iconst (-1) rfl ?_
      refine r_ics 53 rfl (fun c1513 => ?_) (fun c1513 => ?_)
      · have c1513_ : v1507.toInt ≠ (-1) := en_i_ne_t c1513
        refine At.enter rfl ?_
        refine r_iconst 1 rfl ?_
        refine r_goto ?_
        refine At.enter rfl ?_
        refine r_iload_n rfl ?_
        refine r_iconst (-1) rfl ?_
        refine r_ics 67 rfl (fun c1514 => ?_) (fun c1514 => ?_)
        · have c1514_ : v1507.toInt ≠ (-1) := en_i_ne_t c1514
          refine At.enter rfl ?_
          refine r_iload_n rfl ?_
          refine Ar.fall 72 rfl ?_
          refine At.enter rfl ?_
          refine r_iload_n rfl ?_
          refine r_ift (by decide) ?_
          refine At.enter rfl ?_
          refine r_iconst 0 rfl ?_
          refine Ar.fall 85 rfl ?_
          refine At.enter rfl ?_
          refine q_inlV 88 rfl [.ref 231, .int 1, .int v1507, .int 0] [] (Nat.le_of_ble_eq_true rfl) rfl ?_
          refine Ev.mk rfl rfl ⟨Nat.le_of_ble_eq_true rfl, Or.inr (q_rc hI1505.1 kx_231 rfl)⟩ ?_
          show At _ none _ _ (0, [(0, .ref 231), (1, .int 1), (2, .int v1507), (3, .int 0)], [], (_, _)) _
          refine At.enter rfl ?_
          refine r_aload_n rfl ?_
          refine r_iload_n rfl ?_
          refine r_iff 5 rfl (by decide) ?_
          refine At.enter rfl ?_
          refine r_aload_n rfl ?_
          obtain ⟨v1515, hv1515⟩ : ∃ v, gI g0 231 20 = v := ⟨_, rfl⟩
          refine q_getI (Sh.int hI1505.1 kx_231 rfl) v1515 (((hF1506.1 231 20 (by decide)).trans (hF1495.1 231 20 (by decide))).trans hv1515) ?_
          refine r_bipush 50 rfl ?_
          refine r_ics 14 rfl (fun c1516 => ?_) (fun c1516 => ?_)
          · have c1516_ : v1515.toInt ≥ 50 := en_i_ge_t c1516
            refine At.enter rfl ?_
            refine r_iconst 0 rfl ?_
            refine Ar.fall 19 rfl ?_
            refine At.enter rfl ?_
            have x1517 := HI.eqI hI1505 (p := 231) (b := 8) ((((hF1506.1 231 8 (by decide)).trans (hF1495.1 231 8 (by decide))).trans hv1))
            have x1518 := HI.eqI hI1505 (p := 231) (b := 9) ((((hF1506.1 231 9 (by decide)).trans (hF1495.1 231 9 (by decide))).trans hv2))
            have x1519 := HI.eqI hI1505 (p := 231) (b := 10) ((((hF1506.1 231 10 (by decide)).trans (hF1495.1 231 10 (by decide))).trans hv3))
            have x1520 := HI.eqI hI1505 (p := 231) (b := 11) ((((hF1506.1 231 11 (by decide)).trans (hF1495.1 231 11 (by decide))).trans hv4))
            have w261521 := W26.cong hW hI1505 (((hF1506.1 231 9 (by decide)).trans (hF1495.1 231 9 (by decide)))) (((hF1506.1 231 10 (by decide)).trans (hF1495.1 231 10 (by decide)))) (((hF1506.1 231 11 (by decide)).trans (hF1495.1 231 11 (by decide)))) (((hF1506.2.2 231 12 (by decide)).trans (hF1495.2.2 231 12 (by decide))))
            have zv1522 : (0 : Int32).toInt = 0 := rfl
            refine r_callV 22 rfl [.ref 231, .int 0] [] (Nat.le_of_ble_eq_true rfl) rfl (T_X11_must_231 _ hI1505 0 (by decide) (by refine ⟨?_, ?_, ?_, ?_⟩ <;> omega) w261521) ?_
            rintro _ _ ⟨g1523, rfl, hI1524, hF1525, rfl, hr1527⟩
            refine At.stn ?_
            have hF1528 := Fr.tr hF1509 hF1525 rfl rfl
            have zv1529 : (0 : Int32).toInt = 0 := rfl
            have x1530 := HI.eqI hI1505 (p := 231) (b := 8) ((((hF1506.1 231 8 (by decide)).trans (hF1495.1 231 8 (by decide))).trans hv1))
            have x1531 := HI.eqI hI1505 (p := 231) (b := 9) ((((hF1506.1 231 9 (by decide)).trans (hF1495.1 231 9 (by decide))).trans hv2))
            have x1532 := HI.eqI hI1505 (p := 231) (b := 10) ((((hF1506.1 231 10 (by decide)).trans (hF1495.1 231 10 (by decide))).trans hv3))
            have x1533 := HI.eqI hI1505 (p := 231) (b := 11) ((((hF1506.1 231 11 (by decide)).trans (hF1495.1 231 11 (by decide))).trans hv4))
            have x1534 := HI.eqI hI1505 (p := 231) (b := 14) ((((hF1506.1 231 14 (by decide)).trans (hF1495.1 231 14 (by decide))).trans hv6))
            have x1535 := HI.eqI hI1524 (p := 231) (b := 8) ((((hF1525.1 231 8 (by decide)).trans ((hF1506.1 231 8 (by decide)).trans (hF1495.1 231 8 (by decide)))).trans hv1))
            obtain ⟨v1536, hv1536⟩ : ∃ v, gI g1523 231 9 = v := ⟨_, rfl⟩
            have rv1536 := RgF.at hI1524.2.1 (p := 231) (b := 9) rfl
            rw [hv1536] at rv1536
            dsimp only at rv1536
            have tv1536 := congrArg Int32.toInt hv1536
            have x1537 := HI.eqI hI1524 (p := 231) (b := 9) (hv1536)
            obtain ⟨v1538, hv1538⟩ : ∃ v, gI g1523 231 10 = v := ⟨_, rfl⟩
            have rv1538 := RgF.at hI1524.2.1 (p := 231) (b := 10) rfl
            rw [hv1538] at rv1538
            dsimp only at rv1538
            have tv1538 := congrArg Int32.toInt hv1538
            have x1539 := HI.eqI hI1524 (p := 231) (b := 10) (hv1538)
            obtain ⟨v1540, hv1540⟩ : ∃ v, gI g1523 231 11 = v := ⟨_, rfl⟩
            have tv1540 := congrArg Int32.toInt hv1540
            have x1541 := HI.eqI hI1524 (p := 231) (b := 11) (hv1540)
            obtain ⟨v1542, hv1542⟩ : ∃ v, gI g1523 231 14 = v := ⟨_, rfl⟩
            have tv1542 := congrArg Int32.toInt hv1542
            have x1543 := HI.eqI hI1524 (p := 231) (b := 14) (hv1542)
            obtain ⟨c1544, c1545, c1546, c1547, c1548, c1549, c1550⟩ := hr1527
            refine At.enter rfl ?_
            refine r_aload_n rfl ?_
            refine q_getI (Sh.int hI1524.1 kx_231 rfl) v1542 hv1542 ?_
            refine r_ifs 29 rfl (fun c1551 => ?_) (fun c1551 => ?_)
            · have c1551_ : v1542.toInt ≠ 0 := en_k_ne_t c1551
              clear c1550
              refine At.enter rfl ?_
              refine q_vret ?_
              refine At.enter rfl ?_
              refine r_iconst 3 rfl ?_
              refine r_ireti ?_
              have x1552 := HI.eqI hI1524 (p := 231) (b := 8) ((((hF1525.1 231 8 (by decide)).trans ((hF1506.1 231 8 (by decide)).trans (hF1495.1 231 8 (by decide)))).trans hv1))
              have x1553 := HI.eqI hI1524 (p := 231) (b := 9) (hv1536)
              have x1554 := HI.eqI hI1524 (p := 231) (b := 10) (hv1538)
              have x1555 := HI.eqI hI1524 (p := 231) (b := 11) (hv1540)
              obtain ⟨v1556, hv1556⟩ : ∃ v, gJ g1523 231 12 = v := ⟨_, rfl⟩
              have x1557 := HI.eqJ hI1524 (b := 12) (hv1556)
              have x1558 := HI.eqI hI1524 (p := 231) (b := 14) (hv1542)
              have x1559 := HI.eqI hI1524 (p := 231) (b := 17) ((((hF1525.1 231 17 (by decide)).trans ((hF1506.1 231 17 (by decide)).trans (hF1495.1 231 17 (by decide)))).trans hv7))
              have x1560 := HI.eqI hI1524 (p := 231) (b := 23) ((((hF1525.1 231 23 (by decide)).trans ((hF1506.1 231 23 (by decide)).trans (hF1495.1 231 23 (by decide)))).trans hv8))
              have x1561 := HI.eqI hI0 (p := 231) (b := 9) (hv2)
              have zv1562 : (3 : Int32).toInt = 3 := rfl
              exact ⟨_, rfl, hI1524, hF1528, _, rfl, by decide, ⟨by omega, by omega, by omega, by omega, c1549, by omega, by omega, (fun hbad => ⟨by omega, (PT.mk (fun h => False.elim (by omega)) (fun h => False.elim (by omega)) (fun h h9 => False.elim (by omega)) (fun h => False.elim (by omega)))⟩), (fun hbad => by omega)⟩⟩
            · have c1551_ : v1542.toInt = 0 := en_k_ne_f c1551
              obtain ⟨i1563, i1564, i1565⟩ := c1550 (by omega)
              refine At.enter rfl ?_
              refine r_aload_n rfl ?_
              refine r_iload_n rfl ?_
              refine r_iload_n rfl ?_
              have x1566 := HI.eqI hI1524 (p := 231) (b := 17) ((((hF1525.1 231 17 (by decide)).trans ((hF1506.1 231 17 (by decide)).trans (hF1495.1 231 17 (by decide)))).trans hv7))
              have zv1567 : (0 : Int32).toInt = 0 := rfl
              refine r_callV 35 rfl [.ref 231, .int v1507, .int 0] [] (Nat.le_of_ble_eq_true rfl) rfl (T_X11_emit_231 _ hI1524 v1507 0 (by omega)) ?_
              rintro _ _ ⟨g1568, rfl, hI1569, hF1570, rfl, hr1572⟩
              refine At.stn ?_
              have hF1573 := Fr.tr hF1528 hF1570 rfl rfl
              have zv1574 : (0 : Int32).toInt = 0 := rfl
              have x1575 := HI.eqI hI1524 (p := 231) (b := 17) ((((hF1525.1 231 17 (by decide)).trans ((hF1506.1 231 17 (by decide)).trans (hF1495.1 231 17 (by decide)))).trans hv7))
              have x1576 := HI.eqI hI1524 (p := 231) (b := 23) ((((hF1525.1 231 23 (by decide)).trans ((hF1506.1 231 23 (by decide)).trans (hF1495.1 231 23 (by decide)))).trans hv8))
              obtain ⟨v1577, hv1577⟩ : ∃ v, gI g1568 231 17 = v := ⟨_, rfl⟩
              have rv1577 := RgF.at hI1569.2.1 (p := 231) (b := 17) rfl
              rw [hv1577] at rv1577
              dsimp only at rv1577
              have tv1577 := congrArg Int32.toInt hv1577
              have x1578 := HI.eqI hI1569 (p := 231) (b := 17) (hv1577)
              have y1579 : (gI _ 231 17).toInt = (gI _ 231 17).toInt + 1 := hr1572.1
              have pg1581 := PG.cong (hP.1 (by decide)) hI1524 (((hF1525.2.1 238 (by decide)).trans ((hF1506.2.1 238 (by decide)).trans (hF1495.2.1 238 (by decide))))) (((hF1525.2.1 239 (by decide)).trans ((hF1506.2.1 239 (by decide)).trans (hF1495.2.1 239 (by decide))))) (((hF1525.2.1 240 (by decide)).trans ((hF1506.2.1 240 (by decide)).trans (hF1495.2.1 240 (by decide))))) (((hF1525.2.1 241 (by decide)).trans ((hF1506.2.1 241 (by decide)).trans (hF1495.2.1 241 (by decide))))) (((hF1525.1 231 17 (by decide)).trans ((hF1506.1 231 17 (by decide)).trans (hF1495.1 231 17 (by decide))))) (((hF1525.1 231 23 (by decide)).trans ((hF1506.1 231 23 (by decide)).trans (hF1495.1 231 23 (by decide)))))
              have pg1580 := PG.emit (e' := 1) pg1581 hr1572 (hF1570.2.1 240 (by decide)) (hF1570.2.1 241 (by decide)) (hF1570.1 231 23 (by decide)) (Or.inl ⟨by omega, by omega, by decide, by decide⟩)
              refine At.enter rfl ?_
              refine r_aload_n rfl ?_
              refine r_dup rfl ?_
              refine q_getI (Sh.int hI1569.1 kx_231 rfl) v1515 (((hF1570.1 231 20 (by decide)).trans ((hF1525.1 231 20 (by decide)).trans ((hF1506.1 231 20 (by decide)).trans (hF1495.1 231 20 (by decide))))).trans hv1515) ?_
              refine r_iconst 1 rfl ?_
              refine q_iaddO (fun v1582 _ => ?_)
              refine q_putI (Sh.int hI1569.1 kx_231 rfl) rfl ?_
              have hI1583 := HI.wI0 hI1569 kx_231 rfl (p := 231) (b := 20) (v := v1582) rfl
              have hF1584 := Fr.wI (p := 231) (b := 20) (v := v1582) hF1573 rfl
              refine Ar.fall 45 rfl ?_
              refine At.enter rfl ?_
              refine q_vret ?_
              refine At.enter rfl ?_
              refine r_iconst 3 rfl ?_
              refine r_ireti ?_
              have x1585 := HI.eqI hI1583 (p := 231) (b := 8) ((((gI_sI_ne (by decide)).trans ((hF1570.1 231 8 (by decide)).trans ((hF1525.1 231 8 (by decide)).trans ((hF1506.1 231 8 (by decide)).trans (hF1495.1 231 8 (by decide)))))).trans hv1))
              have x1586 := HI.eqI hI1583 (p := 231) (b := 9) ((((gI_sI_ne (by decide)).trans (hF1570.1 231 9 (by decide))).trans hv1536))
              have x1587 := HI.eqI hI1583 (p := 231) (b := 10) ((((gI_sI_ne (by decide)).trans (hF1570.1 231 10 (by decide))).trans hv1538))
              have x1588 := HI.eqI hI1583 (p := 231) (b := 11) ((((gI_sI_ne (by decide)).trans (hF1570.1 231 11 (by decide))).trans hv1540))
              obtain ⟨v1589, hv1589⟩ : ∃ v, gJ g1523 231 12 = v := ⟨_, rfl⟩
              have x1590 := HI.eqJ hI1583 (b := 12) ((((gJ_sI_ne (by decide)).trans (hF1570.2.2 231 12 (by decide))).trans hv1589))
              have x1591 := HI.eqI hI1583 (p := 231) (b := 14) ((((gI_sI_ne (by decide)).trans (hF1570.1 231 14 (by decide))).trans hv1542))
              have x1592 := HI.eqI hI1583 (p := 231) (b := 17) (((gI_sI_ne (by decide)).trans hv1577))
              have x1593 := HI.eqI hI1583 (p := 231) (b := 23) ((((gI_sI_ne (by decide)).trans ((hF1570.1 231 23 (by decide)).trans ((hF1525.1 231 23 (by decide)).trans ((hF1506.1 231 23 (by decide)).trans (hF1495.1 231 23 (by decide)))))).trans hv8))
              have x1594 := HI.eqI hI0 (p := 231) (b := 9) (hv2)
              have zv1595 : (3 : Int32).toInt = 3 := rfl
              have pg1596 := PG.cong pg1580 hI1583 ((gA_sI)) ((gA_sI)) ((gA_sI)) ((gA_sI)) ((gI_sI_ne (by decide))) ((gI_sI_ne (by decide)))
              have w261597 := W26.cong c1549 hI1583 (((gI_sI_ne (by decide)).trans (hF1570.1 231 9 (by decide)))) (((gI_sI_ne (by decide)).trans (hF1570.1 231 10 (by decide)))) (((gI_sI_ne (by decide)).trans (hF1570.1 231 11 (by decide)))) (((gJ_sI_ne (by decide)).trans (hF1570.2.2 231 12 (by decide))))
              exact ⟨_, rfl, hI1583, hF1584, _, rfl, by decide, ⟨by omega, by omega, by omega, by omega, w261597, by omega, by omega, (fun hbad => ⟨by omega, (PT.mk (fun h => False.elim (by omega)) (fun _ => pg1596) (fun h h9 => False.elim (by omega)) (fun h => False.elim (by omega)))⟩), (fun hbad => by omega)⟩⟩
          · have c1516_ : v1515.toInt < 50 := en_i_ge_f c1516
            refine At.enter rfl ?_
            refine r_iconst 1 rfl ?_
            refine r_goto ?_
            refine At.enter rfl ?_
            have x1598 := HI.eqI hI1505 (p := 231) (b := 8) ((((hF1506.1 231 8 (by decide)).trans (hF1495.1 231 8 (by decide))).trans hv1))
            have x1599 := HI.eqI hI1505 (p := 231) (b := 9) ((((hF1506.1 231 9 (by decide)).trans (hF1495.1 231 9 (by decide))).trans hv2))
            have x1600 := HI.eqI hI1505 (p := 231) (b := 10) ((((hF1506.1 231 10 (by decide)).trans (hF1495.1 231 10 (by decide))).trans hv3))
            have x1601 := HI.eqI hI1505 (p := 231) (b := 11) ((((hF1506.1 231 11 (by decide)).trans (hF1495.1 231 11 (by decide))).trans hv4))
            have w261602 := W26.cong hW hI1505 (((hF1506.1 231 9 (by decide)).trans (hF1495.1 231 9 (by decide)))) (((hF1506.1 231 10 (by decide)).trans (hF1495.1 231 10 (by decide)))) (((hF1506.1 231 11 (by decide)).trans (hF1495.1 231 11 (by decide)))) (((hF1506.2.2 231 12 (by decide)).trans (hF1495.2.2 231 12 (by decide))))
            have zv1603 : (1 : Int32).toInt = 1 := rfl
            refine r_callV 22 rfl [.ref 231, .int 1] [] (Nat.le_of_ble_eq_true rfl) rfl (T_X11_must_231 _ hI1505 1 (by decide) (by refine ⟨?_, ?_, ?_, ?_⟩ <;> omega) w261602) ?_
            rintro _ _ ⟨g1604, rfl, hI1605, hF1606, rfl, hr1608⟩
            refine At.stn ?_
            have hF1609 := Fr.tr hF1509 hF1606 rfl rfl
            have zv1610 : (1 : Int32).toInt = 1 := rfl
            have x1611 := HI.eqI hI1505 (p := 231) (b := 8) ((((hF1506.1 231 8 (by decide)).trans (hF1495.1 231 8 (by decide))).trans hv1))
            have x1612 := HI.eqI hI1505 (p := 231) (b := 9) ((((hF1506.1 231 9 (by decide)).trans (hF1495.1 231 9 (by decide))).trans hv2))
            have x1613 := HI.eqI hI1505 (p := 231) (b := 10) ((((hF1506.1 231 10 (by decide)).trans (hF1495.1 231 10 (by decide))).trans hv3))
            have x1614 := HI.eqI hI1505 (p := 231) (b := 11) ((((hF1506.1 231 11 (by decide)).trans (hF1495.1 231 11 (by decide))).trans hv4))
            have x1615 := HI.eqI hI1505 (p := 231) (b := 14) ((((hF1506.1 231 14 (by decide)).trans (hF1495.1 231 14 (by decide))).trans hv6))
            have x1616 := HI.eqI hI1605 (p := 231) (b := 8) ((((hF1606.1 231 8 (by decide)).trans ((hF1506.1 231 8 (by decide)).trans (hF1495.1 231 8 (by decide)))).trans hv1))
            obtain ⟨v1617, hv1617⟩ : ∃ v, gI g1604 231 9 = v := ⟨_, rfl⟩
            have rv1617 := RgF.at hI1605.2.1 (p := 231) (b := 9) rfl
            rw [hv1617] at rv1617
            dsimp only at rv1617
            have tv1617 := congrArg Int32.toInt hv1617
            have x1618 := HI.eqI hI1605 (p := 231) (b := 9) (hv1617)
            obtain ⟨v1619, hv1619⟩ : ∃ v, gI g1604 231 10 = v := ⟨_, rfl⟩
            have rv1619 := RgF.at hI1605.2.1 (p := 231) (b := 10) rfl
            rw [hv1619] at rv1619
            dsimp only at rv1619
            have tv1619 := congrArg Int32.toInt hv1619
            have x1620 := HI.eqI hI1605 (p := 231) (b := 10) (hv1619)
            obtain ⟨v1621, hv1621⟩ : ∃ v, gI g1604 231 11 = v := ⟨_, rfl⟩
            have tv1621 := congrArg Int32.toInt hv1621
            have x1622 := HI.eqI hI1605 (p := 231) (b := 11) (hv1621)
            obtain ⟨v1623, hv1623⟩ : ∃ v, gI g1604 231 14 = v := ⟨_, rfl⟩
            have tv1623 := congrArg Int32.toInt hv1623
            have x1624 := HI.eqI hI1605 (p := 231) (b := 14) (hv1623)
            obtain ⟨c1625, c1626, c1627, c1628, c1629, c1630, c1631⟩ := hr1608
            refine At.enter rfl ?_
            refine r_aload_n rfl ?_
            refine q_getI (Sh.int hI1605.1 kx_231 rfl) v1623 hv1623 ?_
            refine r_ifs 29 rfl (fun c1632 => ?_) (fun c1632 => ?_)
            · have c1632_ : v1623.toInt ≠ 0 := en_k_ne_t c1632
              clear c1631
              refine At.enter rfl ?_
              refine q_vret ?_
              refine At.enter rfl ?_
              refine r_iconst 3 rfl ?_
              refine r_ireti ?_
              have x1633 := HI.eqI hI1605 (p := 231) (b := 8) ((((hF1606.1 231 8 (by decide)).trans ((hF1506.1 231 8 (by decide)).trans (hF1495.1 231 8 (by decide)))).trans hv1))
              have x1634 := HI.eqI hI1605 (p := 231) (b := 9) (hv1617)
              have x1635 := HI.eqI hI1605 (p := 231) (b := 10) (hv1619)
              have x1636 := HI.eqI hI1605 (p := 231) (b := 11) (hv1621)
              obtain ⟨v1637, hv1637⟩ : ∃ v, gJ g1604 231 12 = v := ⟨_, rfl⟩
              have x1638 := HI.eqJ hI1605 (b := 12) (hv1637)
              have x1639 := HI.eqI hI1605 (p := 231) (b := 14) (hv1623)
              have x1640 := HI.eqI hI1605 (p := 231) (b := 17) ((((hF1606.1 231 17 (by decide)).trans ((hF1506.1 231 17 (by decide)).trans (hF1495.1 231 17 (by decide)))).trans hv7))
              have x1641 := HI.eqI hI1605 (p := 231) (b := 23) ((((hF1606.1 231 23 (by decide)).trans ((hF1506.1 231 23 (by decide)).trans (hF1495.1 231 23 (by decide)))).trans hv8))
              have x1642 := HI.eqI hI0 (p := 231) (b := 9) (hv2)
              have zv1643 : (3 : Int32).toInt = 3 := rfl
              exact ⟨_, rfl, hI1605, hF1609, _, rfl, by decide, ⟨by omega, by omega, by omega, by omega, c1630, by omega, by omega, (fun hbad => ⟨by omega, (PT.mk (fun h => False.elim (by omega)) (fun h => False.elim (by omega)) (fun h h9 => False.elim (by omega)) (fun h => False.elim (by omega)))⟩), (fun hbad => by omega)⟩⟩
            · have c1632_ : v1623.toInt = 0 := en_k_ne_f c1632
              obtain ⟨i1644, i1645, i1646⟩ := c1631 (by omega)
              refine At.enter rfl ?_
              refine r_aload_n rfl ?_
              refine r_iload_n rfl ?_
              refine r_iload_n rfl ?_
              have x1647 := HI.eqI hI1605 (p := 231) (b := 17) ((((hF1606.1 231 17 (by decide)).trans ((hF1506.1 231 17 (by decide)).trans (hF1495.1 231 17 (by decide)))).trans hv7))
              have zv1648 : (0 : Int32).toInt = 0 := rfl
              refine r_callV 35 rfl [.ref 231, .int v1507, .int 0] [] (Nat.le_of_ble_eq_true rfl) rfl (T_X11_emit_231 _ hI1605 v1507 0 (by omega)) ?_
              rintro _ _ ⟨g1649, rfl, hI1650, hF1651, rfl, hr1653⟩
              refine At.stn ?_
              have hF1654 := Fr.tr hF1609 hF1651 rfl rfl
              have zv1655 : (0 : Int32).toInt = 0 := rfl
              have x1656 := HI.eqI hI1605 (p := 231) (b := 17) ((((hF1606.1 231 17 (by decide)).trans ((hF1506.1 231 17 (by decide)).trans (hF1495.1 231 17 (by decide)))).trans hv7))
              have x1657 := HI.eqI hI1605 (p := 231) (b := 23) ((((hF1606.1 231 23 (by decide)).trans ((hF1506.1 231 23 (by decide)).trans (hF1495.1 231 23 (by decide)))).trans hv8))
              obtain ⟨v1658, hv1658⟩ : ∃ v, gI g1649 231 17 = v := ⟨_, rfl⟩
              have rv1658 := RgF.at hI1650.2.1 (p := 231) (b := 17) rfl
              rw [hv1658] at rv1658
              dsimp only at rv1658
              have tv1658 := congrArg Int32.toInt hv1658
              have x1659 := HI.eqI hI1650 (p := 231) (b := 17) (hv1658)
              have y1660 : (gI _ 231 17).toInt = (gI _ 231 17).toInt + 1 := hr1653.1
              have pg1662 := PG.cong (hP.1 (by decide)) hI1605 (((hF1606.2.1 238 (by decide)).trans ((hF1506.2.1 238 (by decide)).trans (hF1495.2.1 238 (by decide))))) (((hF1606.2.1 239 (by decide)).trans ((hF1506.2.1 239 (by decide)).trans (hF1495.2.1 239 (by decide))))) (((hF1606.2.1 240 (by decide)).trans ((hF1506.2.1 240 (by decide)).trans (hF1495.2.1 240 (by decide))))) (((hF1606.2.1 241 (by decide)).trans ((hF1506.2.1 241 (by decide)).trans (hF1495.2.1 241 (by decide))))) (((hF1606.1 231 17 (by decide)).trans ((hF1506.1 231 17 (by decide)).trans (hF1495.1 231 17 (by decide))))) (((hF1606.1 231 23 (by decide)).trans ((hF1506.1 231 23 (by decide)).trans (hF1495.1 231 23 (by decide)))))
              have pg1661 := PG.emit (e' := 1) pg1662 hr1653 (hF1651.2.1 240 (by decide)) (hF1651.2.1 241 (by decide)) (hF1651.1 231 23 (by decide)) (Or.inl ⟨by omega, by omega, by decide, by decide⟩)
              refine At.enter rfl ?_
              refine r_aload_n rfl ?_
              refine r_dup rfl ?_
              refine q_getI (Sh.int hI1650.1 kx_231 rfl) v1515 (((hF1651.1 231 20 (by decide)).trans ((hF1606.1 231 20 (by decide)).trans ((hF1506.1 231 20 (by decide)).trans (hF1495.1 231 20 (by decide))))).trans hv1515) ?_
              refine r_iconst 1 rfl ?_
              have bv1663 := q_bnd v1515
              refine q_iadd (v1515.toInt + 1) rfl (by omega) (fun v1664 hv1664 => ?_)
              refine q_putI (Sh.int hI1650.1 kx_231 rfl) rfl ?_
              have hI1665 := HI.wI0 hI1650 kx_231 rfl (p := 231) (b := 20) (v := v1664) rfl
              have hF1666 := Fr.wI (p := 231) (b := 20) (v := v1664) hF1654 rfl
              refine Ar.fall 45 rfl ?_
              refine At.enter rfl ?_
              refine q_vret ?_
              refine At.enter rfl ?_
              refine r_iconst 3 rfl ?_
              refine r_ireti ?_
              have x1667 := HI.eqI hI1665 (p := 231) (b := 8) ((((gI_sI_ne (by decide)).trans ((hF1651.1 231 8 (by decide)).trans ((hF1606.1 231 8 (by decide)).trans ((hF1506.1 231 8 (by decide)).trans (hF1495.1 231 8 (by decide)))))).trans hv1))
              have x1668 := HI.eqI hI1665 (p := 231) (b := 9) ((((gI_sI_ne (by decide)).trans (hF1651.1 231 9 (by decide))).trans hv1617))
              have x1669 := HI.eqI hI1665 (p := 231) (b := 10) ((((gI_sI_ne (by decide)).trans (hF1651.1 231 10 (by decide))).trans hv1619))
              have x1670 := HI.eqI hI1665 (p := 231) (b := 11) ((((gI_sI_ne (by decide)).trans (hF1651.1 231 11 (by decide))).trans hv1621))
              obtain ⟨v1671, hv1671⟩ : ∃ v, gJ g1604 231 12 = v := ⟨_, rfl⟩
              have x1672 := HI.eqJ hI1665 (b := 12) ((((gJ_sI_ne (by decide)).trans (hF1651.2.2 231 12 (by decide))).trans hv1671))
              have x1673 := HI.eqI hI1665 (p := 231) (b := 14) ((((gI_sI_ne (by decide)).trans (hF1651.1 231 14 (by decide))).trans hv1623))
              have x1674 := HI.eqI hI1665 (p := 231) (b := 17) (((gI_sI_ne (by decide)).trans hv1658))
              have x1675 := HI.eqI hI1665 (p := 231) (b := 23) ((((gI_sI_ne (by decide)).trans ((hF1651.1 231 23 (by decide)).trans ((hF1606.1 231 23 (by decide)).trans ((hF1506.1 231 23 (by decide)).trans (hF1495.1 231 23 (by decide)))))).trans hv8))
              have x1676 := HI.eqI hI0 (p := 231) (b := 9) (hv2)
              have zv1677 : (3 : Int32).toInt = 3 := rfl
              have pg1678 := PG.cong pg1661 hI1665 ((gA_sI)) ((gA_sI)) ((gA_sI)) ((gA_sI)) ((gI_sI_ne (by decide))) ((gI_sI_ne (by decide)))
              have w261679 := W26.cong c1630 hI1665 (((gI_sI_ne (by decide)).trans (hF1651.1 231 9 (by decide)))) (((gI_sI_ne (by decide)).trans (hF1651.1 231 10 (by decide)))) (((gI_sI_ne (by decide)).trans (hF1651.1 231 11 (by decide)))) (((gJ_sI_ne (by decide)).trans (hF1651.2.2 231 12 (by decide))))
              exact ⟨_, rfl, hI1665, hF1666, _, rfl, by decide, ⟨by omega, by omega, by omega, by omega, w261679, by omega, by omega, (fun hbad => ⟨by omega, (PT.mk (fun h => False.elim (by omega)) (fun _ => pg1678) (fun h h9 => False.elim (by omega)) (fun h => False.elim (by omega)))⟩), (fun hbad => by omega)⟩⟩
        · have c1514_ : v1507.toInt = (-1) := en_i_ne_f c1514
          exfalso; omega
      · have c1513_ : v1507.toInt = (-1) := en_i_ne_f c1513
        refine At.enter rfl ?_
        refine r_iload_n rfl ?_
        refine r_ift (by decide) ?_
        refine At.enter rfl ?_
        refine r_iconst 0 rfl ?_
        refine Ar.fall 62 rfl ?_
        refine At.enter rfl ?_
        refine r_iload_n rfl ?_
        refine r_iconst (-1) rfl ?_
        refine r_ics 67 rfl (fun c1680 => ?_) (fun c1680 => ?_)
        · have c1680_ : v1507.toInt ≠ (-1) := en_i_ne_t c1680
          exfalso; omega
        · have c1680_ : v1507.toInt = (-1) := en_i_ne_f c1680
          refine At.enter rfl ?_
          refine r_iconst 0 rfl ?_
          refine r_goto ?_
          refine At.enter rfl ?_
          refine r_iload_n rfl ?_
          refine r_ift (by decide) ?_
          refine At.enter rfl ?_
          refine r_iconst 0 rfl ?_
          refine Ar.fall 85 rfl ?_
          refine At.enter rfl ?_
          refine q_inlV 88 rfl [.ref 231, .int 0, .int 0, .int 0] [] (Nat.le_of_ble_eq_true rfl) rfl ?_
          refine Ev.mk rfl rfl ⟨Nat.le_of_ble_eq_true rfl, Or.inr (q_rc hI1505.1 kx_231 rfl)⟩ ?_
          show At _ none _ _ (0, [(0, .ref 231), (1, .int 0), (2, .int 0), (3, .int 0)], [], (_, _)) _
          refine At.enter rfl ?_
          refine r_aload_n rfl ?_
          refine r_iload_n rfl ?_
          refine r_ift (by decide) ?_
          refine At.enter rfl ?_
          refine r_iconst 0 rfl ?_
          refine Ar.fall 19 rfl ?_
          refine At.enter rfl ?_
          have x1681 := HI.eqI hI1505 (p := 231) (b := 8) ((((hF1506.1 231 8 (by decide)).trans (hF1495.1 231 8 (by decide))).trans hv1))
          have x1682 := HI.eqI hI1505 (p := 231) (b := 9) ((((hF1506.1 231 9 (by decide)).trans (hF1495.1 231 9 (by decide))).trans hv2))
          have x1683 := HI.eqI hI1505 (p := 231) (b := 10) ((((hF1506.1 231 10 (by decide)).trans (hF1495.1 231 10 (by decide))).trans hv3))
          have x1684 := HI.eqI hI1505 (p := 231) (b := 11) ((((hF1506.1 231 11 (by decide)).trans (hF1495.1 231 11 (by decide))).trans hv4))
          have w261685 := W26.cong hW hI1505 (((hF1506.1 231 9 (by decide)).trans (hF1495.1 231 9 (by decide)))) (((hF1506.1 231 10 (by decide)).trans (hF1495.1 231 10 (by decide)))) (((hF1506.1 231 11 (by decide)).trans (hF1495.1 231 11 (by decide)))) (((hF1506.2.2 231 12 (by decide)).trans (hF1495.2.2 231 12 (by decide))))
          have zv1686 : (0 : Int32).toInt = 0 := rfl
          refine r_callV 22 rfl [.ref 231, .int 0] [] (Nat.le_of_ble_eq_true rfl) rfl (T_X11_must_231 _ hI1505 0 (by decide) (by refine ⟨?_, ?_, ?_, ?_⟩ <;> omega) w261685) ?_
          rintro _ _ ⟨g1687, rfl, hI1688, hF1689, rfl, hr1691⟩
          refine At.stn ?_
          have hF1692 := Fr.tr hF1509 hF1689 rfl rfl
          have zv1693 : (0 : Int32).toInt = 0 := rfl
          have x1694 := HI.eqI hI1505 (p := 231) (b := 8) ((((hF1506.1 231 8 (by decide)).trans (hF1495.1 231 8 (by decide))).trans hv1))
          have x1695 := HI.eqI hI1505 (p := 231) (b := 9) ((((hF1506.1 231 9 (by decide)).trans (hF1495.1 231 9 (by decide))).trans hv2))
          have x1696 := HI.eqI hI1505 (p := 231) (b := 10) ((((hF1506.1 231 10 (by decide)).trans (hF1495.1 231 10 (by decide))).trans hv3))
          have x1697 := HI.eqI hI1505 (p := 231) (b := 11) ((((hF1506.1 231 11 (by decide)).trans (hF1495.1 231 11 (by decide))).trans hv4))
          have x1698 := HI.eqI hI1505 (p := 231) (b := 14) ((((hF1506.1 231 14 (by decide)).trans (hF1495.1 231 14 (by decide))).trans hv6))
          have x1699 := HI.eqI hI1688 (p := 231) (b := 8) ((((hF1689.1 231 8 (by decide)).trans ((hF1506.1 231 8 (by decide)).trans (hF1495.1 231 8 (by decide)))).trans hv1))
          obtain ⟨v1700, hv1700⟩ : ∃ v, gI g1687 231 9 = v := ⟨_, rfl⟩
          have rv1700 := RgF.at hI1688.2.1 (p := 231) (b := 9) rfl
          rw [hv1700] at rv1700
          dsimp only at rv1700
          have tv1700 := congrArg Int32.toInt hv1700
          have x1701 := HI.eqI hI1688 (p := 231) (b := 9) (hv1700)
          obtain ⟨v1702, hv1702⟩ : ∃ v, gI g1687 231 10 = v := ⟨_, rfl⟩
          have rv1702 := RgF.at hI1688.2.1 (p := 231) (b := 10) rfl
          rw [hv1702] at rv1702
          dsimp only at rv1702
          have tv1702 := congrArg Int32.toInt hv1702
          have x1703 := HI.eqI hI1688 (p := 231) (b := 10) (hv1702)
          obtain ⟨v1704, hv1704⟩ : ∃ v, gI g1687 231 11 = v := ⟨_, rfl⟩
          have tv1704 := congrArg Int32.toInt hv1704
          have x1705 := HI.eqI hI1688 (p := 231) (b := 11) (hv1704)
          obtain ⟨v1706, hv1706⟩ : ∃ v, gI g1687 231 14 = v := ⟨_, rfl⟩
          have tv1706 := congrArg Int32.toInt hv1706
          have x1707 := HI.eqI hI1688 (p := 231) (b := 14) (hv1706)
          obtain ⟨c1708, c1709, c1710, c1711, c1712, c1713, c1714⟩ := hr1691
          refine At.enter rfl ?_
          refine r_aload_n rfl ?_
          refine q_getI (Sh.int hI1688.1 kx_231 rfl) v1706 hv1706 ?_
          refine r_ifs 29 rfl (fun c1715 => ?_) (fun c1715 => ?_)
          · have c1715_ : v1706.toInt ≠ 0 := en_k_ne_t c1715
            clear c1714
            refine At.enter rfl ?_
            refine q_vret ?_
            refine At.enter rfl ?_
            refine r_iconst 3 rfl ?_
            refine r_ireti ?_
            have x1716 := HI.eqI hI1688 (p := 231) (b := 8) ((((hF1689.1 231 8 (by decide)).trans ((hF1506.1 231 8 (by decide)).trans (hF1495.1 231 8 (by decide)))).trans hv1))
            have x1717 := HI.eqI hI1688 (p := 231) (b := 9) (hv1700)
            have x1718 := HI.eqI hI1688 (p := 231) (b := 10) (hv1702)
            have x1719 := HI.eqI hI1688 (p := 231) (b := 11) (hv1704)
            obtain ⟨v1720, hv1720⟩ : ∃ v, gJ g1687 231 12 = v := ⟨_, rfl⟩
            have x1721 := HI.eqJ hI1688 (b := 12) (hv1720)
            have x1722 := HI.eqI hI1688 (p := 231) (b := 14) (hv1706)
            have x1723 := HI.eqI hI1688 (p := 231) (b := 17) ((((hF1689.1 231 17 (by decide)).trans ((hF1506.1 231 17 (by decide)).trans (hF1495.1 231 17 (by decide)))).trans hv7))
            have x1724 := HI.eqI hI1688 (p := 231) (b := 23) ((((hF1689.1 231 23 (by decide)).trans ((hF1506.1 231 23 (by decide)).trans (hF1495.1 231 23 (by decide)))).trans hv8))
            have x1725 := HI.eqI hI0 (p := 231) (b := 9) (hv2)
            have zv1726 : (3 : Int32).toInt = 3 := rfl
            exact ⟨_, rfl, hI1688, hF1692, _, rfl, by decide, ⟨by omega, by omega, by omega, by omega, c1713, by omega, by omega, (fun hbad => ⟨by omega, (PT.mk (fun h => False.elim (by omega)) (fun h => False.elim (by omega)) (fun h h9 => False.elim (by omega)) (fun h => False.elim (by omega)))⟩), (fun hbad => by omega)⟩⟩
          · have c1715_ : v1706.toInt = 0 := en_k_ne_f c1715
            obtain ⟨i1727, i1728, i1729⟩ := c1714 (by omega)
            refine At.enter rfl ?_
            refine r_aload_n rfl ?_
            refine r_iload_n rfl ?_
            refine r_iload_n rfl ?_
            have x1730 := HI.eqI hI1688 (p := 231) (b := 17) ((((hF1689.1 231 17 (by decide)).trans ((hF1506.1 231 17 (by decide)).trans (hF1495.1 231 17 (by decide)))).trans hv7))
            have zv1731 : (0 : Int32).toInt = 0 := rfl
            have zv1732 : (0 : Int32).toInt = 0 := rfl
            refine r_callV 35 rfl [.ref 231, .int 0, .int 0] [] (Nat.le_of_ble_eq_true rfl) rfl (T_X11_emit_231 _ hI1688 0 0 (by omega)) ?_
            rintro _ _ ⟨g1733, rfl, hI1734, hF1735, rfl, hr1737⟩
            refine At.stn ?_
            have hF1738 := Fr.tr hF1692 hF1735 rfl rfl
            have zv1739 : (0 : Int32).toInt = 0 := rfl
            have zv1740 : (0 : Int32).toInt = 0 := rfl
            have x1741 := HI.eqI hI1688 (p := 231) (b := 17) ((((hF1689.1 231 17 (by decide)).trans ((hF1506.1 231 17 (by decide)).trans (hF1495.1 231 17 (by decide)))).trans hv7))
            have x1742 := HI.eqI hI1688 (p := 231) (b := 23) ((((hF1689.1 231 23 (by decide)).trans ((hF1506.1 231 23 (by decide)).trans (hF1495.1 231 23 (by decide)))).trans hv8))
            obtain ⟨v1743, hv1743⟩ : ∃ v, gI g1733 231 17 = v := ⟨_, rfl⟩
            have rv1743 := RgF.at hI1734.2.1 (p := 231) (b := 17) rfl
            rw [hv1743] at rv1743
            dsimp only at rv1743
            have tv1743 := congrArg Int32.toInt hv1743
            have x1744 := HI.eqI hI1734 (p := 231) (b := 17) (hv1743)
            have y1745 : (gI _ 231 17).toInt = (gI _ 231 17).toInt + 1 := hr1737.1
            have pg1747 := PG.cong (hP.1 (by decide)) hI1688 (((hF1689.2.1 238 (by decide)).trans ((hF1506.2.1 238 (by decide)).trans (hF1495.2.1 238 (by decide))))) (((hF1689.2.1 239 (by decide)).trans ((hF1506.2.1 239 (by decide)).trans (hF1495.2.1 239 (by decide))))) (((hF1689.2.1 240 (by decide)).trans ((hF1506.2.1 240 (by decide)).trans (hF1495.2.1 240 (by decide))))) (((hF1689.2.1 241 (by decide)).trans ((hF1506.2.1 241 (by decide)).trans (hF1495.2.1 241 (by decide))))) (((hF1689.1 231 17 (by decide)).trans ((hF1506.1 231 17 (by decide)).trans (hF1495.1 231 17 (by decide))))) (((hF1689.1 231 23 (by decide)).trans ((hF1506.1 231 23 (by decide)).trans (hF1495.1 231 23 (by decide)))))
            have pg1746 := PG.emit (e' := 1) pg1747 hr1737 (hF1735.2.1 240 (by decide)) (hF1735.2.1 241 (by decide)) (hF1735.1 231 23 (by decide)) (Or.inl ⟨by omega, by omega, by decide, by decide⟩)
            refine At.enter rfl ?_
            refine r_aload_n rfl ?_
            refine r_dup rfl ?_
            obtain ⟨v1748, hv1748⟩ : ∃ v, gI g0 231 20 = v := ⟨_, rfl⟩
            refine q_getI (Sh.int hI1734.1 kx_231 rfl) v1748 (((hF1735.1 231 20 (by decide)).trans ((hF1689.1 231 20 (by decide)).trans ((hF1506.1 231 20 (by decide)).trans (hF1495.1 231 20 (by decide))))).trans hv1748) ?_
            refine r_iconst 1 rfl ?_
            refine q_iaddO (fun v1749 _ => ?_)
            refine q_putI (Sh.int hI1734.1 kx_231 rfl) rfl ?_
            have hI1750 := HI.wI0 hI1734 kx_231 rfl (p := 231) (b := 20) (v := v1749) rfl
            have hF1751 := Fr.wI (p := 231) (b := 20) (v := v1749) hF1738 rfl
            refine Ar.fall 45 rfl ?_
            refine At.enter rfl ?_
            refine q_vret ?_
            refine At.enter rfl ?_
            refine r_iconst 3 rfl ?_
            refine r_ireti ?_
            have x1752 := HI.eqI hI1750 (p := 231) (b := 8) ((((gI_sI_ne (by decide)).trans ((hF1735.1 231 8 (by decide)).trans ((hF1689.1 231 8 (by decide)).trans ((hF1506.1 231 8 (by decide)).trans (hF1495.1 231 8 (by decide)))))).trans hv1))
            have x1753 := HI.eqI hI1750 (p := 231) (b := 9) ((((gI_sI_ne (by decide)).trans (hF1735.1 231 9 (by decide))).trans hv1700))
            have x1754 := HI.eqI hI1750 (p := 231) (b := 10) ((((gI_sI_ne (by decide)).trans (hF1735.1 231 10 (by decide))).trans hv1702))
            have x1755 := HI.eqI hI1750 (p := 231) (b := 11) ((((gI_sI_ne (by decide)).trans (hF1735.1 231 11 (by decide))).trans hv1704))
            obtain ⟨v1756, hv1756⟩ : ∃ v, gJ g1687 231 12 = v := ⟨_, rfl⟩
            have x1757 := HI.eqJ hI1750 (b := 12) ((((gJ_sI_ne (by decide)).trans (hF1735.2.2 231 12 (by decide))).trans hv1756))
            have x1758 := HI.eqI hI1750 (p := 231) (b := 14) ((((gI_sI_ne (by decide)).trans (hF1735.1 231 14 (by decide))).trans hv1706))
            have x1759 := HI.eqI hI1750 (p := 231) (b := 17) (((gI_sI_ne (by decide)).trans hv1743))
            have x1760 := HI.eqI hI1750 (p := 231) (b := 23) ((((gI_sI_ne (by decide)).trans ((hF1735.1 231 23 (by decide)).trans ((hF1689.1 231 23 (by decide)).trans ((hF1506.1 231 23 (by decide)).trans (hF1495.1 231 23 (by decide)))))).trans hv8))
            have x1761 := HI.eqI hI0 (p := 231) (b := 9) (hv2)
            have zv1762 : (3 : Int32).toInt = 3 := rfl
            have pg1763 := PG.cong pg1746 hI1750 ((gA_sI)) ((gA_sI)) ((gA_sI)) ((gA_sI)) ((gI_sI_ne (by decide))) ((gI_sI_ne (by decide)))
            have w261764 := W26.cong c1713 hI1750 (((gI_sI_ne (by decide)).trans (hF1735.1 231 9 (by decide)))) (((gI_sI_ne (by decide)).trans (hF1735.1 231 10 (by decide)))) (((gI_sI_ne (by decide)).trans (hF1735.1 231 11 (by decide)))) (((gJ_sI_ne (by decide)).trans (hF1735.2.2 231 12 (by decide))))
            exact ⟨_, rfl, hI1750, hF1751, _, rfl, by decide, ⟨by omega, by omega, by omega, by omega, w261764, by omega, by omega, (fun hbad => ⟨by omega, (PT.mk (fun h => False.elim (by omega)) (fun _ => pg1763) (fun h h9 => False.elim (by omega)) (fun h => False.elim (by omega)))⟩), (fun hbad => by omega)⟩⟩
    · have c1512_ : v4.toInt = 2 := en_i_ne_f c1512
      refine At.enter rfl ?_
      refine r_aload_n rfl ?_
      refine q_getJv (Sh.long hI1505.1 kx_231 rfl) v5 (((hF1506.2.2 231 12 (by decide)).trans (hF1495.2.2 231 12 (by decide))).trans hv5) ?_
      refine r_ldc2 1000 rfl ?_
      refine r_lcmp _ rfl ?_
      refine r_ifs 41 rfl (fun c1765 => ?_) (fun c1765 => ?_)
      · have c1765_ : v5.toInt > 1000 := en_j_gt_t c1765
        refine At.enter rfl ?_
        refine r_iconst 0 rfl ?_
        refine Ar.fall 46 rfl ?_
        refine At.enter rfl ?_
        refine r_istore_n ([(2, .int 0), (1, .int v1507), (0, .ref 231)]) rfl ?_
        refine r_aload_n rfl ?_
        refine r_iload_n rfl ?_
        refine r_iconst (-1) rfl ?_
        refine r_ics 53 rfl (fun c1766 => ?_) (fun c1766 => ?_)
        · have c1766_ : v1507.toInt ≠ (-1) := en_i_ne_t c1766
          refine At.enter rfl ?_
          refine r_iconst 1 rfl ?_
          refine r_goto ?_
          refine At.enter rfl ?_
          refine r_iload_n rfl ?_
          refine r_iconst (-1) rfl ?_
          refine r_ics 67 rfl (fun c1767 => ?_) (fun c1767 => ?_)
          · have c1767_ : v1507.toInt ≠ (-1) := en_i_ne_t c1767
            refine At.enter rfl ?_
            refine r_iload_n rfl ?_
            refine Ar.fall 72 rfl ?_
            refine At.enter rfl ?_
            refine r_iload_n rfl ?_
            refine r_ift (by decide) ?_
            refine At.enter rfl ?_
            refine r_iconst 0 rfl ?_
            refine Ar.fall 85 rfl ?_
            refine At.enter rfl ?_
            refine q_inlV 88 rfl [.ref 231, .int 1, .int v1507, .int 0] [] (Nat.le_of_ble_eq_true rfl) rfl ?_
            refine Ev.mk rfl rfl ⟨Nat.le_of_ble_eq_true rfl, Or.inr (q_rc hI1505.1 kx_231 rfl)⟩ ?_
            show At _ none _ _ (0, [(0, .ref 231), (1, .int 1), (2, .int v1507), (3, .int 0)], [], (_, _)) _
            refine At.enter rfl ?_
            refine r_aload_n rfl ?_
            refine r_iload_n rfl ?_
            refine r_iff 5 rfl (by decide) ?_
            refine At.enter rfl ?_
            refine r_aload_n rfl ?_
            obtain ⟨v1768, hv1768⟩ : ∃ v, gI g0 231 20 = v := ⟨_, rfl⟩
            refine q_getI (Sh.int hI1505.1 kx_231 rfl) v1768 (((hF1506.1 231 20 (by decide)).trans (hF1495.1 231 20 (by decide))).trans hv1768) ?_
            refine r_bipush 50 rfl ?_
            refine r_ics 14 rfl (fun c1769 => ?_) (fun c1769 => ?_)
            · have c1769_ : v1768.toInt ≥ 50 := en_i_ge_t c1769
              refine At.enter rfl ?_
              refine r_iconst 0 rfl ?_
              refine Ar.fall 19 rfl ?_
              refine At.enter rfl ?_
              have x1770 := HI.eqI hI1505 (p := 231) (b := 8) ((((hF1506.1 231 8 (by decide)).trans (hF1495.1 231 8 (by decide))).trans hv1))
              have x1771 := HI.eqI hI1505 (p := 231) (b := 9) ((((hF1506.1 231 9 (by decide)).trans (hF1495.1 231 9 (by decide))).trans hv2))
              have x1772 := HI.eqI hI1505 (p := 231) (b := 10) ((((hF1506.1 231 10 (by decide)).trans (hF1495.1 231 10 (by decide))).trans hv3))
              have x1773 := HI.eqI hI1505 (p := 231) (b := 11) ((((hF1506.1 231 11 (by decide)).trans (hF1495.1 231 11 (by decide))).trans hv4))
              have w261774 := W26.cong hW hI1505 (((hF1506.1 231 9 (by decide)).trans (hF1495.1 231 9 (by decide)))) (((hF1506.1 231 10 (by decide)).trans (hF1495.1 231 10 (by decide)))) (((hF1506.1 231 11 (by decide)).trans (hF1495.1 231 11 (by decide)))) (((hF1506.2.2 231 12 (by decide)).trans (hF1495.2.2 231 12 (by decide))))
              have zv1775 : (0 : Int32).toInt = 0 := rfl
              refine r_callV 22 rfl [.ref 231, .int 0] [] (Nat.le_of_ble_eq_true rfl) rfl (T_X11_must_231 _ hI1505 0 (by decide) (by refine ⟨?_, ?_, ?_, ?_⟩ <;> omega) w261774) ?_
              rintro _ _ ⟨g1776, rfl, hI1777, hF1778, rfl, hr1780⟩
              refine At.stn ?_
              have hF1781 := Fr.tr hF1509 hF1778 rfl rfl
              have zv1782 : (0 : Int32).toInt = 0 := rfl
              have x1783 := HI.eqI hI1505 (p := 231) (b := 8) ((((hF1506.1 231 8 (by decide)).trans (hF1495.1 231 8 (by decide))).trans hv1))
              have x1784 := HI.eqI hI1505 (p := 231) (b := 9) ((((hF1506.1 231 9 (by decide)).trans (hF1495.1 231 9 (by decide))).trans hv2))
              have x1785 := HI.eqI hI1505 (p := 231) (b := 10) ((((hF1506.1 231 10 (by decide)).trans (hF1495.1 231 10 (by decide))).trans hv3))
              have x1786 := HI.eqI hI1505 (p := 231) (b := 11) ((((hF1506.1 231 11 (by decide)).trans (hF1495.1 231 11 (by decide))).trans hv4))
              have x1787 := HI.eqI hI1505 (p := 231) (b := 14) ((((hF1506.1 231 14 (by decide)).trans (hF1495.1 231 14 (by decide))).trans hv6))
              have x1788 := HI.eqI hI1777 (p := 231) (b := 8) ((((hF1778.1 231 8 (by decide)).trans ((hF1506.1 231 8 (by decide)).trans (hF1495.1 231 8 (by decide)))).trans hv1))
              obtain ⟨v1789, hv1789⟩ : ∃ v, gI g1776 231 9 = v := ⟨_, rfl⟩
              have rv1789 := RgF.at hI1777.2.1 (p := 231) (b := 9) rfl
              rw [hv1789] at rv1789
              dsimp only at rv1789
              have tv1789 := congrArg Int32.toInt hv1789
              have x1790 := HI.eqI hI1777 (p := 231) (b := 9) (hv1789)
              obtain ⟨v1791, hv1791⟩ : ∃ v, gI g1776 231 10 = v := ⟨_, rfl⟩
              have rv1791 := RgF.at hI1777.2.1 (p := 231) (b := 10) rfl
              rw [hv1791] at rv1791
              dsimp only at rv1791
              have tv1791 := congrArg Int32.toInt hv1791
              have x1792 := HI.eqI hI1777 (p := 231) (b := 10) (hv1791)
              obtain ⟨v1793, hv1793⟩ : ∃ v, gI g1776 231 11 = v := ⟨_, rfl⟩
              have tv1793 := congrArg Int32.toInt hv1793
              have x1794 := HI.eqI hI1777 (p := 231) (b := 11) (hv1793)
              obtain ⟨v1795, hv1795⟩ : ∃ v, gI g1776 231 14 = v := ⟨_, rfl⟩
              have tv1795 := congrArg Int32.toInt hv1795
              have x1796 := HI.eqI hI1777 (p := 231) (b := 14) (hv1795)
              obtain ⟨c1797, c1798, c1799, c1800, c1801, c1802, c1803⟩ := hr1780
              refine At.enter rfl ?_
              refine r_aload_n rfl ?_
              refine q_getI (Sh.int hI1777.1 kx_231 rfl) v1795 hv1795 ?_
              refine r_ifs 29 rfl (fun c1804 => ?_) (fun c1804 => ?_)
              · have c1804_ : v1795.toInt ≠ 0 := en_k_ne_t c1804
                clear c1803
                refine At.enter rfl ?_
                refine q_vret ?_
                refine At.enter rfl ?_
                refine r_iconst 3 rfl ?_
                refine r_ireti ?_
                have x1805 := HI.eqI hI1777 (p := 231) (b := 8) ((((hF1778.1 231 8 (by decide)).trans ((hF1506.1 231 8 (by decide)).trans (hF1495.1 231 8 (by decide)))).trans hv1))
                have x1806 := HI.eqI hI1777 (p := 231) (b := 9) (hv1789)
                have x1807 := HI.eqI hI1777 (p := 231) (b := 10) (hv1791)
                have x1808 := HI.eqI hI1777 (p := 231) (b := 11) (hv1793)
                obtain ⟨v1809, hv1809⟩ : ∃ v, gJ g1776 231 12 = v := ⟨_, rfl⟩
                have x1810 := HI.eqJ hI1777 (b := 12) (hv1809)
                have x1811 := HI.eqI hI1777 (p := 231) (b := 14) (hv1795)
                have x1812 := HI.eqI hI1777 (p := 231) (b := 17) ((((hF1778.1 231 17 (by decide)).trans ((hF1506.1 231 17 (by decide)).trans (hF1495.1 231 17 (by decide)))).trans hv7))
                have x1813 := HI.eqI hI1777 (p := 231) (b := 23) ((((hF1778.1 231 23 (by decide)).trans ((hF1506.1 231 23 (by decide)).trans (hF1495.1 231 23 (by decide)))).trans hv8))
                have x1814 := HI.eqI hI0 (p := 231) (b := 9) (hv2)
                have zv1815 : (3 : Int32).toInt = 3 := rfl
                exact ⟨_, rfl, hI1777, hF1781, _, rfl, by decide, ⟨by omega, by omega, by omega, by omega, c1802, by omega, by omega, (fun hbad => ⟨by omega, (PT.mk (fun h => False.elim (by omega)) (fun h => False.elim (by omega)) (fun h h9 => False.elim (by omega)) (fun h => False.elim (by omega)))⟩), (fun hbad => by omega)⟩⟩
              · have c1804_ : v1795.toInt = 0 := en_k_ne_f c1804
                obtain ⟨i1816, i1817, i1818⟩ := c1803 (by omega)
                refine At.enter rfl ?_
                refine r_aload_n rfl ?_
                refine r_iload_n rfl ?_
                refine r_iload_n rfl ?_
                have x1819 := HI.eqI hI1777 (p := 231) (b := 17) ((((hF1778.1 231 17 (by decide)).trans ((hF1506.1 231 17 (by decide)).trans (hF1495.1 231 17 (by decide)))).trans hv7))
                have zv1820 : (0 : Int32).toInt = 0 := rfl
                refine r_callV 35 rfl [.ref 231, .int v1507, .int 0] [] (Nat.le_of_ble_eq_true rfl) rfl (T_X11_emit_231 _ hI1777 v1507 0 (by omega)) ?_
                rintro _ _ ⟨g1821, rfl, hI1822, hF1823, rfl, hr1825⟩
                refine At.stn ?_
                have hF1826 := Fr.tr hF1781 hF1823 rfl rfl
                have zv1827 : (0 : Int32).toInt = 0 := rfl
                have x1828 := HI.eqI hI1777 (p := 231) (b := 17) ((((hF1778.1 231 17 (by decide)).trans ((hF1506.1 231 17 (by decide)).trans (hF1495.1 231 17 (by decide)))).trans hv7))
                have x1829 := HI.eqI hI1777 (p := 231) (b := 23) ((((hF1778.1 231 23 (by decide)).trans ((hF1506.1 231 23 (by decide)).trans (hF1495.1 231 23 (by decide)))).trans hv8))
                obtain ⟨v1830, hv1830⟩ : ∃ v, gI g1821 231 17 = v := ⟨_, rfl⟩
                have rv1830 := RgF.at hI1822.2.1 (p := 231) (b := 17) rfl
                rw [hv1830] at rv1830
                dsimp only at rv1830
                have tv1830 := congrArg Int32.toInt hv1830
                have x1831 := HI.eqI hI1822 (p := 231) (b := 17) (hv1830)
                have y1832 : (gI _ 231 17).toInt = (gI _ 231 17).toInt + 1 := hr1825.1
                have pg1834 := PG.cong (hP.1 (by decide)) hI1777 (((hF1778.2.1 238 (by decide)).trans ((hF1506.2.1 238 (by decide)).trans (hF1495.2.1 238 (by decide))))) (((hF1778.2.1 239 (by decide)).trans ((hF1506.2.1 239 (by decide)).trans (hF1495.2.1 239 (by decide))))) (((hF1778.2.1 240 (by decide)).trans ((hF1506.2.1 240 (by decide)).trans (hF1495.2.1 240 (by decide))))) (((hF1778.2.1 241 (by decide)).trans ((hF1506.2.1 241 (by decide)).trans (hF1495.2.1 241 (by decide))))) (((hF1778.1 231 17 (by decide)).trans ((hF1506.1 231 17 (by decide)).trans (hF1495.1 231 17 (by decide))))) (((hF1778.1 231 23 (by decide)).trans ((hF1506.1 231 23 (by decide)).trans (hF1495.1 231 23 (by decide)))))
                have pg1833 := PG.emit (e' := 1) pg1834 hr1825 (hF1823.2.1 240 (by decide)) (hF1823.2.1 241 (by decide)) (hF1823.1 231 23 (by decide)) (Or.inl ⟨by omega, by omega, by decide, by decide⟩)
                refine At.enter rfl ?_
                refine r_aload_n rfl ?_
                refine r_dup rfl ?_
                refine q_getI (Sh.int hI1822.1 kx_231 rfl) v1768 (((hF1823.1 231 20 (by decide)).trans ((hF1778.1 231 20 (by decide)).trans ((hF1506.1 231 20 (by decide)).trans (hF1495.1 231 20 (by decide))))).trans hv1768) ?_
                refine r_iconst 1 rfl ?_
                refine q_iaddO (fun v1835 _ => ?_)
                refine q_putI (Sh.int hI1822.1 kx_231 rfl) rfl ?_
                have hI1836 := HI.wI0 hI1822 kx_231 rfl (p := 231) (b := 20) (v := v1835) rfl
                have hF1837 := Fr.wI (p := 231) (b := 20) (v := v1835) hF1826 rfl
                refine Ar.fall 45 rfl ?_
                refine At.enter rfl ?_
                refine q_vret ?_
                refine At.enter rfl ?_
                refine r_iconst 3 rfl ?_
                refine r_ireti ?_
                have x1838 := HI.eqI hI1836 (p := 231) (b := 8) ((((gI_sI_ne (by decide)).trans ((hF1823.1 231 8 (by decide)).trans ((hF1778.1 231 8 (by decide)).trans ((hF1506.1 231 8 (by decide)).trans (hF1495.1 231 8 (by decide)))))).trans hv1))
                have x1839 := HI.eqI hI1836 (p := 231) (b := 9) ((((gI_sI_ne (by decide)).trans (hF1823.1 231 9 (by decide))).trans hv1789))
                have x1840 := HI.eqI hI1836 (p := 231) (b := 10) ((((gI_sI_ne (by decide)).trans (hF1823.1 231 10 (by decide))).trans hv1791))
                have x1841 := HI.eqI hI1836 (p := 231) (b := 11) ((((gI_sI_ne (by decide)).trans (hF1823.1 231 11 (by decide))).trans hv1793))
                obtain ⟨v1842, hv1842⟩ : ∃ v, gJ g1776 231 12 = v := ⟨_, rfl⟩
                have x1843 := HI.eqJ hI1836 (b := 12) ((((gJ_sI_ne (by decide)).trans (hF1823.2.2 231 12 (by decide))).trans hv1842))
                have x1844 := HI.eqI hI1836 (p := 231) (b := 14) ((((gI_sI_ne (by decide)).trans (hF1823.1 231 14 (by decide))).trans hv1795))
                have x1845 := HI.eqI hI1836 (p := 231) (b := 17) (((gI_sI_ne (by decide)).trans hv1830))
                have x1846 := HI.eqI hI1836 (p := 231) (b := 23) ((((gI_sI_ne (by decide)).trans ((hF1823.1 231 23 (by decide)).trans ((hF1778.1 231 23 (by decide)).trans ((hF1506.1 231 23 (by decide)).trans (hF1495.1 231 23 (by decide)))))).trans hv8))
                have x1847 := HI.eqI hI0 (p := 231) (b := 9) (hv2)
                have zv1848 : (3 : Int32).toInt = 3 := rfl
                have pg1849 := PG.cong pg1833 hI1836 ((gA_sI)) ((gA_sI)) ((gA_sI)) ((gA_sI)) ((gI_sI_ne (by decide))) ((gI_sI_ne (by decide)))
                have w261850 := W26.cong c1802 hI1836 (((gI_sI_ne (by decide)).trans (hF1823.1 231 9 (by decide)))) (((gI_sI_ne (by decide)).trans (hF1823.1 231 10 (by decide)))) (((gI_sI_ne (by decide)).trans (hF1823.1 231 11 (by decide)))) (((gJ_sI_ne (by decide)).trans (hF1823.2.2 231 12 (by decide))))
                exact ⟨_, rfl, hI1836, hF1837, _, rfl, by decide, ⟨by omega, by omega, by omega, by omega, w261850, by omega, by omega, (fun hbad => ⟨by omega, (PT.mk (fun h => False.elim (by omega)) (fun _ => pg1849) (fun h h9 => False.elim (by omega)) (fun h => False.elim (by omega)))⟩), (fun hbad => by omega)⟩⟩
            · have c1769_ : v1768.toInt < 50 := en_i_ge_f c1769
              refine At.enter rfl ?_
              refine r_iconst 1 rfl ?_
              refine r_goto ?_
              refine At.enter rfl ?_
              have x1851 := HI.eqI hI1505 (p := 231) (b := 8) ((((hF1506.1 231 8 (by decide)).trans (hF1495.1 231 8 (by decide))).trans hv1))
              have x1852 := HI.eqI hI1505 (p := 231) (b := 9) ((((hF1506.1 231 9 (by decide)).trans (hF1495.1 231 9 (by decide))).trans hv2))
              have x1853 := HI.eqI hI1505 (p := 231) (b := 10) ((((hF1506.1 231 10 (by decide)).trans (hF1495.1 231 10 (by decide))).trans hv3))
              have x1854 := HI.eqI hI1505 (p := 231) (b := 11) ((((hF1506.1 231 11 (by decide)).trans (hF1495.1 231 11 (by decide))).trans hv4))
              have w261855 := W26.cong hW hI1505 (((hF1506.1 231 9 (by decide)).trans (hF1495.1 231 9 (by decide)))) (((hF1506.1 231 10 (by decide)).trans (hF1495.1 231 10 (by decide)))) (((hF1506.1 231 11 (by decide)).trans (hF1495.1 231 11 (by decide)))) (((hF1506.2.2 231 12 (by decide)).trans (hF1495.2.2 231 12 (by decide))))
              have zv1856 : (1 : Int32).toInt = 1 := rfl
              refine r_callV 22 rfl [.ref 231, .int 1] [] (Nat.le_of_ble_eq_true rfl) rfl (T_X11_must_231 _ hI1505 1 (by decide) (by refine ⟨?_, ?_, ?_, ?_⟩ <;> omega) w261855) ?_
              rintro _ _ ⟨g1857, rfl, hI1858, hF1859, rfl, hr1861⟩
              refine At.stn ?_
              have hF1862 := Fr.tr hF1509 hF1859 rfl rfl
              have zv1863 : (1 : Int32).toInt = 1 := rfl
              have x1864 := HI.eqI hI1505 (p := 231) (b := 8) ((((hF1506.1 231 8 (by decide)).trans (hF1495.1 231 8 (by decide))).trans hv1))
              have x1865 := HI.eqI hI1505 (p := 231) (b := 9) ((((hF1506.1 231 9 (by decide)).trans (hF1495.1 231 9 (by decide))).trans hv2))
              have x1866 := HI.eqI hI1505 (p := 231) (b := 10) ((((hF1506.1 231 10 (by decide)).trans (hF1495.1 231 10 (by decide))).trans hv3))
              have x1867 := HI.eqI hI1505 (p := 231) (b := 11) ((((hF1506.1 231 11 (by decide)).trans (hF1495.1 231 11 (by decide))).trans hv4))
              have x1868 := HI.eqI hI1505 (p := 231) (b := 14) ((((hF1506.1 231 14 (by decide)).trans (hF1495.1 231 14 (by decide))).trans hv6))
              have x1869 := HI.eqI hI1858 (p := 231) (b := 8) ((((hF1859.1 231 8 (by decide)).trans ((hF1506.1 231 8 (by decide)).trans (hF1495.1 231 8 (by decide)))).trans hv1))
              obtain ⟨v1870, hv1870⟩ : ∃ v, gI g1857 231 9 = v := ⟨_, rfl⟩
              have rv1870 := RgF.at hI1858.2.1 (p := 231) (b := 9) rfl
              rw [hv1870] at rv1870
              dsimp only at rv1870
              have tv1870 := congrArg Int32.toInt hv1870
              have x1871 := HI.eqI hI1858 (p := 231) (b := 9) (hv1870)
              obtain ⟨v1872, hv1872⟩ : ∃ v, gI g1857 231 10 = v := ⟨_, rfl⟩
              have rv1872 := RgF.at hI1858.2.1 (p := 231) (b := 10) rfl
              rw [hv1872] at rv1872
              dsimp only at rv1872
              have tv1872 := congrArg Int32.toInt hv1872
              have x1873 := HI.eqI hI1858 (p := 231) (b := 10) (hv1872)
              obtain ⟨v1874, hv1874⟩ : ∃ v, gI g1857 231 11 = v := ⟨_, rfl⟩
              have tv1874 := congrArg Int32.toInt hv1874
              have x1875 := HI.eqI hI1858 (p := 231) (b := 11) (hv1874)
              obtain ⟨v1876, hv1876⟩ : ∃ v, gI g1857 231 14 = v := ⟨_, rfl⟩
              have tv1876 := congrArg Int32.toInt hv1876
              have x1877 := HI.eqI hI1858 (p := 231) (b := 14) (hv1876)
              obtain ⟨c1878, c1879, c1880, c1881, c1882, c1883, c1884⟩ := hr1861
              refine At.enter rfl ?_
              refine r_aload_n rfl ?_
              refine q_getI (Sh.int hI1858.1 kx_231 rfl) v1876 hv1876 ?_
              refine r_ifs 29 rfl (fun c1885 => ?_) (fun c1885 => ?_)
              · have c1885_ : v1876.toInt ≠ 0 := en_k_ne_t c1885
                clear c1884
                refine At.enter rfl ?_
                refine q_vret ?_
                refine At.enter rfl ?_
                refine r_iconst 3 rfl ?_
                refine r_ireti ?_
                have x1886 := HI.eqI hI1858 (p := 231) (b := 8) ((((hF1859.1 231 8 (by decide)).trans ((hF1506.1 231 8 (by decide)).trans (hF1495.1 231 8 (by decide)))).trans hv1))
                have x1887 := HI.eqI hI1858 (p := 231) (b := 9) (hv1870)
                have x1888 := HI.eqI hI1858 (p := 231) (b := 10) (hv1872)
                have x1889 := HI.eqI hI1858 (p := 231) (b := 11) (hv1874)
                obtain ⟨v1890, hv1890⟩ : ∃ v, gJ g1857 231 12 = v := ⟨_, rfl⟩
                have x1891 := HI.eqJ hI1858 (b := 12) (hv1890)
                have x1892 := HI.eqI hI1858 (p := 231) (b := 14) (hv1876)
                have x1893 := HI.eqI hI1858 (p := 231) (b := 17) ((((hF1859.1 231 17 (by decide)).trans ((hF1506.1 231 17 (by decide)).trans (hF1495.1 231 17 (by decide)))).trans hv7))
                have x1894 := HI.eqI hI1858 (p := 231) (b := 23) ((((hF1859.1 231 23 (by decide)).trans ((hF1506.1 231 23 (by decide)).trans (hF1495.1 231 23 (by decide)))).trans hv8))
                have x1895 := HI.eqI hI0 (p := 231) (b := 9) (hv2)
                have zv1896 : (3 : Int32).toInt = 3 := rfl
                exact ⟨_, rfl, hI1858, hF1862, _, rfl, by decide, ⟨by omega, by omega, by omega, by omega, c1883, by omega, by omega, (fun hbad => ⟨by omega, (PT.mk (fun h => False.elim (by omega)) (fun h => False.elim (by omega)) (fun h h9 => False.elim (by omega)) (fun h => False.elim (by omega)))⟩), (fun hbad => by omega)⟩⟩
              · have c1885_ : v1876.toInt = 0 := en_k_ne_f c1885
                obtain ⟨i1897, i1898, i1899⟩ := c1884 (by omega)
                refine At.enter rfl ?_
                refine r_aload_n rfl ?_
                refine r_iload_n rfl ?_
                refine r_iload_n rfl ?_
                have x1900 := HI.eqI hI1858 (p := 231) (b := 17) ((((hF1859.1 231 17 (by decide)).trans ((hF1506.1 231 17 (by decide)).trans (hF1495.1 231 17 (by decide)))).trans hv7))
                have zv1901 : (0 : Int32).toInt = 0 := rfl
                refine r_callV 35 rfl [.ref 231, .int v1507, .int 0] [] (Nat.le_of_ble_eq_true rfl) rfl (T_X11_emit_231 _ hI1858 v1507 0 (by omega)) ?_
                rintro _ _ ⟨g1902, rfl, hI1903, hF1904, rfl, hr1906⟩
                refine At.stn ?_
                have hF1907 := Fr.tr hF1862 hF1904 rfl rfl
                have zv1908 : (0 : Int32).toInt = 0 := rfl
                have x1909 := HI.eqI hI1858 (p := 231) (b := 17) ((((hF1859.1 231 17 (by decide)).trans ((hF1506.1 231 17 (by decide)).trans (hF1495.1 231 17 (by decide)))).trans hv7))
                have x1910 := HI.eqI hI1858 (p := 231) (b := 23) ((((hF1859.1 231 23 (by decide)).trans ((hF1506.1 231 23 (by decide)).trans (hF1495.1 231 23 (by decide)))).trans hv8))
                obtain ⟨v1911, hv1911⟩ : ∃ v, gI g1902 231 17 = v := ⟨_, rfl⟩
                have rv1911 := RgF.at hI1903.2.1 (p := 231) (b := 17) rfl
                rw [hv1911] at rv1911
                dsimp only at rv1911
                have tv1911 := congrArg Int32.toInt hv1911
                have x1912 := HI.eqI hI1903 (p := 231) (b := 17) (hv1911)
                have y1913 : (gI _ 231 17).toInt = (gI _ 231 17).toInt + 1 := hr1906.1
                have pg1915 := PG.cong (hP.1 (by decide)) hI1858 (((hF1859.2.1 238 (by decide)).trans ((hF1506.2.1 238 (by decide)).trans (hF1495.2.1 238 (by decide))))) (((hF1859.2.1 239 (by decide)).trans ((hF1506.2.1 239 (by decide)).trans (hF1495.2.1 239 (by decide))))) (((hF1859.2.1 240 (by decide)).trans ((hF1506.2.1 240 (by decide)).trans (hF1495.2.1 240 (by decide))))) (((hF1859.2.1 241 (by decide)).trans ((hF1506.2.1 241 (by decide)).trans (hF1495.2.1 241 (by decide))))) (((hF1859.1 231 17 (by decide)).trans ((hF1506.1 231 17 (by decide)).trans (hF1495.1 231 17 (by decide))))) (((hF1859.1 231 23 (by decide)).trans ((hF1506.1 231 23 (by decide)).trans (hF1495.1 231 23 (by decide)))))
                have pg1914 := PG.emit (e' := 1) pg1915 hr1906 (hF1904.2.1 240 (by decide)) (hF1904.2.1 241 (by decide)) (hF1904.1 231 23 (by decide)) (Or.inl ⟨by omega, by omega, by decide, by decide⟩)
                refine At.enter rfl ?_
                refine r_aload_n rfl ?_
                refine r_dup rfl ?_
                refine q_getI (Sh.int hI1903.1 kx_231 rfl) v1768 (((hF1904.1 231 20 (by decide)).trans ((hF1859.1 231 20 (by decide)).trans ((hF1506.1 231 20 (by decide)).trans (hF1495.1 231 20 (by decide))))).trans hv1768) ?_
                refine r_iconst 1 rfl ?_
                have bv1916 := q_bnd v1768
                refine q_iadd (v1768.toInt + 1) rfl (by omega) (fun v1917 hv1917 => ?_)
                refine q_putI (Sh.int hI1903.1 kx_231 rfl) rfl ?_
                have hI1918 := HI.wI0 hI1903 kx_231 rfl (p := 231) (b := 20) (v := v1917) rfl
                have hF1919 := Fr.wI (p := 231) (b := 20) (v := v1917) hF1907 rfl
                refine Ar.fall 45 rfl ?_
                refine At.enter rfl ?_
                refine q_vret ?_
                refine At.enter rfl ?_
                refine r_iconst 3 rfl ?_
                refine r_ireti ?_
                have x1920 := HI.eqI hI1918 (p := 231) (b := 8) ((((gI_sI_ne (by decide)).trans ((hF1904.1 231 8 (by decide)).trans ((hF1859.1 231 8 (by decide)).trans ((hF1506.1 231 8 (by decide)).trans (hF1495.1 231 8 (by decide)))))).trans hv1))
                have x1921 := HI.eqI hI1918 (p := 231) (b := 9) ((((gI_sI_ne (by decide)).trans (hF1904.1 231 9 (by decide))).trans hv1870))
                have x1922 := HI.eqI hI1918 (p := 231) (b := 10) ((((gI_sI_ne (by decide)).trans (hF1904.1 231 10 (by decide))).trans hv1872))
                have x1923 := HI.eqI hI1918 (p := 231) (b := 11) ((((gI_sI_ne (by decide)).trans (hF1904.1 231 11 (by decide))).trans hv1874))
                obtain ⟨v1924, hv1924⟩ : ∃ v, gJ g1857 231 12 = v := ⟨_, rfl⟩
                have x1925 := HI.eqJ hI1918 (b := 12) ((((gJ_sI_ne (by decide)).trans (hF1904.2.2 231 12 (by decide))).trans hv1924))
                have x1926 := HI.eqI hI1918 (p := 231) (b := 14) ((((gI_sI_ne (by decide)).trans (hF1904.1 231 14 (by decide))).trans hv1876))
                have x1927 := HI.eqI hI1918 (p := 231) (b := 17) (((gI_sI_ne (by decide)).trans hv1911))
                have x1928 := HI.eqI hI1918 (p := 231) (b := 23) ((((gI_sI_ne (by decide)).trans ((hF1904.1 231 23 (by decide)).trans ((hF1859.1 231 23 (by decide)).trans ((hF1506.1 231 23 (by decide)).trans (hF1495.1 231 23 (by decide)))))).trans hv8))
                have x1929 := HI.eqI hI0 (p := 231) (b := 9) (hv2)
                have zv1930 : (3 : Int32).toInt = 3 := rfl
                have pg1931 := PG.cong pg1914 hI1918 ((gA_sI)) ((gA_sI)) ((gA_sI)) ((gA_sI)) ((gI_sI_ne (by decide))) ((gI_sI_ne (by decide)))
                have w261932 := W26.cong c1883 hI1918 (((gI_sI_ne (by decide)).trans (hF1904.1 231 9 (by decide)))) (((gI_sI_ne (by decide)).trans (hF1904.1 231 10 (by decide)))) (((gI_sI_ne (by decide)).trans (hF1904.1 231 11 (by decide)))) (((gJ_sI_ne (by decide)).trans (hF1904.2.2 231 12 (by decide))))
                exact ⟨_, rfl, hI1918, hF1919, _, rfl, by decide, ⟨by omega, by omega, by omega, by omega, w261932, by omega, by omega, (fun hbad => ⟨by omega, (PT.mk (fun h => False.elim (by omega)) (fun _ => pg1931) (fun h h9 => False.elim (by omega)) (fun h => False.elim (by omega)))⟩), (fun hbad => by omega)⟩⟩
          · have c1767_ : v1507.toInt = (-1) := en_i_ne_f c1767
            exfalso; omega
        · have c1766_ : v1507.toInt = (-1) := en_i_ne_f c1766
          refine At.enter rfl ?_
          refine r_iload_n rfl ?_
          refine r_ift (by decide) ?_
          refine At.enter rfl ?_
          refine r_iconst 0 rfl ?_
          refine Ar.fall 62 rfl ?_
          refine At.enter rfl ?_
          refine r_iload_n rfl ?_
          refine r_iconst (-1) rfl ?_
          refine r_ics 67 rfl (fun c1933 => ?_) (fun c1933 => ?_)
          · have c1933_ : v1507.toInt ≠ (-1) := en_i_ne_t c1933
            exfalso; omega
          · have c1933_ : v1507.toInt = (-1) := en_i_ne_f c1933
            refine At.enter rfl ?_
            refine r_iconst 0 rfl ?_
            refine r_goto ?_
            refine At.enter rfl ?_
            refine r_iload_n rfl ?_
            refine r_ift (by decide) ?_
            refine At.enter rfl ?_
            refine r_iconst 0 rfl ?_
            refine Ar.fall 85 rfl ?_
            refine At.enter rfl ?_
            refine q_inlV 88 rfl [.ref 231, .int 0, .int 0, .int 0] [] (Nat.le_of_ble_eq_true rfl) rfl ?_
            refine Ev.mk rfl rfl ⟨Nat.le_of_ble_eq_true rfl, Or.inr (q_rc hI1505.1 kx_231 rfl)⟩ ?_
            show At _ none _ _ (0, [(0, .ref 231), (1, .int 0), (2, .int 0), (3, .int 0)], [], (_, _)) _
            refine At.enter rfl ?_
            refine r_aload_n rfl ?_
            refine r_iload_n rfl ?_
            refine r_ift (by decide) ?_
            refine At.enter rfl ?_
            refine r_iconst 0 rfl ?_
            refine Ar.fall 19 rfl ?_
            refine At.enter rfl ?_
            have x1934 := HI.eqI hI1505 (p := 231) (b := 8) ((((hF1506.1 231 8 (by decide)).trans (hF1495.1 231 8 (by decide))).trans hv1))
            have x1935 := HI.eqI hI1505 (p := 231) (b := 9) ((((hF1506.1 231 9 (by decide)).trans (hF1495.1 231 9 (by decide))).trans hv2))
            have x1936 := HI.eqI hI1505 (p := 231) (b := 10) ((((hF1506.1 231 10 (by decide)).trans (hF1495.1 231 10 (by decide))).trans hv3))
            have x1937 := HI.eqI hI1505 (p := 231) (b := 11) ((((hF1506.1 231 11 (by decide)).trans (hF1495.1 231 11 (by decide))).trans hv4))
            have w261938 := W26.cong hW hI1505 (((hF1506.1 231 9 (by decide)).trans (hF1495.1 231 9 (by decide)))) (((hF1506.1 231 10 (by decide)).trans (hF1495.1 231 10 (by decide)))) (((hF1506.1 231 11 (by decide)).trans (hF1495.1 231 11 (by decide)))) (((hF1506.2.2 231 12 (by decide)).trans (hF1495.2.2 231 12 (by decide))))
            have zv1939 : (0 : Int32).toInt = 0 := rfl
            refine r_callV 22 rfl [.ref 231, .int 0] [] (Nat.le_of_ble_eq_true rfl) rfl (T_X11_must_231 _ hI1505 0 (by decide) (by refine ⟨?_, ?_, ?_, ?_⟩ <;> omega) w261938) ?_
            rintro _ _ ⟨g1940, rfl, hI1941, hF1942, rfl, hr1944⟩
            refine At.stn ?_
            have hF1945 := Fr.tr hF1509 hF1942 rfl rfl
            have zv1946 : (0 : Int32).toInt = 0 := rfl
            have x1947 := HI.eqI hI1505 (p := 231) (b := 8) ((((hF1506.1 231 8 (by decide)).trans (hF1495.1 231 8 (by decide))).trans hv1))
            have x1948 := HI.eqI hI1505 (p := 231) (b := 9) ((((hF1506.1 231 9 (by decide)).trans (hF1495.1 231 9 (by decide))).trans hv2))
            have x1949 := HI.eqI hI1505 (p := 231) (b := 10) ((((hF1506.1 231 10 (by decide)).trans (hF1495.1 231 10 (by decide))).trans hv3))
            have x1950 := HI.eqI hI1505 (p := 231) (b := 11) ((((hF1506.1 231 11 (by decide)).trans (hF1495.1 231 11 (by decide))).trans hv4))
            have x1951 := HI.eqI hI1505 (p := 231) (b := 14) ((((hF1506.1 231 14 (by decide)).trans (hF1495.1 231 14 (by decide))).trans hv6))
            have x1952 := HI.eqI hI1941 (p := 231) (b := 8) ((((hF1942.1 231 8 (by decide)).trans ((hF1506.1 231 8 (by decide)).trans (hF1495.1 231 8 (by decide)))).trans hv1))
            obtain ⟨v1953, hv1953⟩ : ∃ v, gI g1940 231 9 = v := ⟨_, rfl⟩
            have rv1953 := RgF.at hI1941.2.1 (p := 231) (b := 9) rfl
            rw [hv1953] at rv1953
            dsimp only at rv1953
            have tv1953 := congrArg Int32.toInt hv1953
            have x1954 := HI.eqI hI1941 (p := 231) (b := 9) (hv1953)
            obtain ⟨v1955, hv1955⟩ : ∃ v, gI g1940 231 10 = v := ⟨_, rfl⟩
            have rv1955 := RgF.at hI1941.2.1 (p := 231) (b := 10) rfl
            rw [hv1955] at rv1955
            dsimp only at rv1955
            have tv1955 := congrArg Int32.toInt hv1955
            have x1956 := HI.eqI hI1941 (p := 231) (b := 10) (hv1955)
            obtain ⟨v1957, hv1957⟩ : ∃ v, gI g1940 231 11 = v := ⟨_, rfl⟩
            have tv1957 := congrArg Int32.toInt hv1957
            have x1958 := HI.eqI hI1941 (p := 231) (b := 11) (hv1957)
            obtain ⟨v1959, hv1959⟩ : ∃ v, gI g1940 231 14 = v := ⟨_, rfl⟩
            have tv1959 := congrArg Int32.toInt hv1959
            have x1960 := HI.eqI hI1941 (p := 231) (b := 14) (hv1959)
            obtain ⟨c1961, c1962, c1963, c1964, c1965, c1966, c1967⟩ := hr1944
            refine At.enter rfl ?_
            refine r_aload_n rfl ?_
            refine q_getI (Sh.int hI1941.1 kx_231 rfl) v1959 hv1959 ?_
            refine r_ifs 29 rfl (fun c1968 => ?_) (fun c1968 => ?_)
            · have c1968_ : v1959.toInt ≠ 0 := en_k_ne_t c1968
              clear c1967
              refine At.enter rfl ?_
              refine q_vret ?_
              refine At.enter rfl ?_
              refine r_iconst 3 rfl ?_
              refine r_ireti ?_
              have x1969 := HI.eqI hI1941 (p := 231) (b := 8) ((((hF1942.1 231 8 (by decide)).trans ((hF1506.1 231 8 (by decide)).trans (hF1495.1 231 8 (by decide)))).trans hv1))
              have x1970 := HI.eqI hI1941 (p := 231) (b := 9) (hv1953)
              have x1971 := HI.eqI hI1941 (p := 231) (b := 10) (hv1955)
              have x1972 := HI.eqI hI1941 (p := 231) (b := 11) (hv1957)
              obtain ⟨v1973, hv1973⟩ : ∃ v, gJ g1940 231 12 = v := ⟨_, rfl⟩
              have x1974 := HI.eqJ hI1941 (b := 12) (hv1973)
              have x1975 := HI.eqI hI1941 (p := 231) (b := 14) (hv1959)
              have x1976 := HI.eqI hI1941 (p := 231) (b := 17) ((((hF1942.1 231 17 (by decide)).trans ((hF1506.1 231 17 (by decide)).trans (hF1495.1 231 17 (by decide)))).trans hv7))
              have x1977 := HI.eqI hI1941 (p := 231) (b := 23) ((((hF1942.1 231 23 (by decide)).trans ((hF1506.1 231 23 (by decide)).trans (hF1495.1 231 23 (by decide)))).trans hv8))
              have x1978 := HI.eqI hI0 (p := 231) (b := 9) (hv2)
              have zv1979 : (3 : Int32).toInt = 3 := rfl
              exact ⟨_, rfl, hI1941, hF1945, _, rfl, by decide, ⟨by omega, by omega, by omega, by omega, c1966, by omega, by omega, (fun hbad => ⟨by omega, (PT.mk (fun h => False.elim (by omega)) (fun h => False.elim (by omega)) (fun h h9 => False.elim (by omega)) (fun h => False.elim (by omega)))⟩), (fun hbad => by omega)⟩⟩
            · have c1968_ : v1959.toInt = 0 := en_k_ne_f c1968
              obtain ⟨i1980, i1981, i1982⟩ := c1967 (by omega)
              refine At.enter rfl ?_
              refine r_aload_n rfl ?_
              refine r_iload_n rfl ?_
              refine r_iload_n rfl ?_
              have x1983 := HI.eqI hI1941 (p := 231) (b := 17) ((((hF1942.1 231 17 (by decide)).trans ((hF1506.1 231 17 (by decide)).trans (hF1495.1 231 17 (by decide)))).trans hv7))
              have zv1984 : (0 : Int32).toInt = 0 := rfl
              have zv1985 : (0 : Int32).toInt = 0 := rfl
              refine r_callV 35 rfl [.ref 231, .int 0, .int 0] [] (Nat.le_of_ble_eq_true rfl) rfl (T_X11_emit_231 _ hI1941 0 0 (by omega)) ?_
              rintro _ _ ⟨g1986, rfl, hI1987, hF1988, rfl, hr1990⟩
              refine At.stn ?_
              have hF1991 := Fr.tr hF1945 hF1988 rfl rfl
              have zv1992 : (0 : Int32).toInt = 0 := rfl
              have zv1993 : (0 : Int32).toInt = 0 := rfl
              have x1994 := HI.eqI hI1941 (p := 231) (b := 17) ((((hF1942.1 231 17 (by decide)).trans ((hF1506.1 231 17 (by decide)).trans (hF1495.1 231 17 (by decide)))).trans hv7))
              have x1995 := HI.eqI hI1941 (p := 231) (b := 23) ((((hF1942.1 231 23 (by decide)).trans ((hF1506.1 231 23 (by decide)).trans (hF1495.1 231 23 (by decide)))).trans hv8))
              obtain ⟨v1996, hv1996⟩ : ∃ v, gI g1986 231 17 = v := ⟨_, rfl⟩
              have rv1996 := RgF.at hI1987.2.1 (p := 231) (b := 17) rfl
              rw [hv1996] at rv1996
              dsimp only at rv1996
              have tv1996 := congrArg Int32.toInt hv1996
              have x1997 := HI.eqI hI1987 (p := 231) (b := 17) (hv1996)
              have y1998 : (gI _ 231 17).toInt = (gI _ 231 17).toInt + 1 := hr1990.1
              have pg2000 := PG.cong (hP.1 (by decide)) hI1941 (((hF1942.2.1 238 (by decide)).trans ((hF1506.2.1 238 (by decide)).trans (hF1495.2.1 238 (by decide))))) (((hF1942.2.1 239 (by decide)).trans ((hF1506.2.1 239 (by decide)).trans (hF1495.2.1 239 (by decide))))) (((hF1942.2.1 240 (by decide)).trans ((hF1506.2.1 240 (by decide)).trans (hF1495.2.1 240 (by decide))))) (((hF1942.2.1 241 (by decide)).trans ((hF1506.2.1 241 (by decide)).trans (hF1495.2.1 241 (by decide))))) (((hF1942.1 231 17 (by decide)).trans ((hF1506.1 231 17 (by decide)).trans (hF1495.1 231 17 (by decide))))) (((hF1942.1 231 23 (by decide)).trans ((hF1506.1 231 23 (by decide)).trans (hF1495.1 231 23 (by decide)))))
              have pg1999 := PG.emit (e' := 1) pg2000 hr1990 (hF1988.2.1 240 (by decide)) (hF1988.2.1 241 (by decide)) (hF1988.1 231 23 (by decide)) (Or.inl ⟨by omega, by omega, by decide, by decide⟩)
              refine At.enter rfl ?_
              refine r_aload_n rfl ?_
              refine r_dup rfl ?_
              obtain ⟨v2001, hv2001⟩ : ∃ v, gI g0 231 20 = v := ⟨_, rfl⟩
              refine q_getI (Sh.int hI1987.1 kx_231 rfl) v2001 (((hF1988.1 231 20 (by decide)).trans ((hF1942.1 231 20 (by decide)).trans ((hF1506.1 231 20 (by decide)).trans (hF1495.1 231 20 (by decide))))).trans hv2001) ?_
              refine r_iconst 1 rfl ?_
              refine q_iaddO (fun v2002 _ => ?_)
              refine q_putI (Sh.int hI1987.1 kx_231 rfl) rfl ?_
              have hI2003 := HI.wI0 hI1987 kx_231 rfl (p := 231) (b := 20) (v := v2002) rfl
              have hF2004 := Fr.wI (p := 231) (b := 20) (v := v2002) hF1991 rfl
              refine Ar.fall 45 rfl ?_
              refine At.enter rfl ?_
              refine q_vret ?_
              refine At.enter rfl ?_
              refine r_iconst 3 rfl ?_
              refine r_ireti ?_
              have x2005 := HI.eqI hI2003 (p := 231) (b := 8) ((((gI_sI_ne (by decide)).trans ((hF1988.1 231 8 (by decide)).trans ((hF1942.1 231 8 (by decide)).trans ((hF1506.1 231 8 (by decide)).trans (hF1495.1 231 8 (by decide)))))).trans hv1))
              have x2006 := HI.eqI hI2003 (p := 231) (b := 9) ((((gI_sI_ne (by decide)).trans (hF1988.1 231 9 (by decide))).trans hv1953))
              have x2007 := HI.eqI hI2003 (p := 231) (b := 10) ((((gI_sI_ne (by decide)).trans (hF1988.1 231 10 (by decide))).trans hv1955))
              have x2008 := HI.eqI hI2003 (p := 231) (b := 11) ((((gI_sI_ne (by decide)).trans (hF1988.1 231 11 (by decide))).trans hv1957))
              obtain ⟨v2009, hv2009⟩ : ∃ v, gJ g1940 231 12 = v := ⟨_, rfl⟩
              have x2010 := HI.eqJ hI2003 (b := 12) ((((gJ_sI_ne (by decide)).trans (hF1988.2.2 231 12 (by decide))).trans hv2009))
              have x2011 := HI.eqI hI2003 (p := 231) (b := 14) ((((gI_sI_ne (by decide)).trans (hF1988.1 231 14 (by decide))).trans hv1959))
              have x2012 := HI.eqI hI2003 (p := 231) (b := 17) (((gI_sI_ne (by decide)).trans hv1996))
              have x2013 := HI.eqI hI2003 (p := 231) (b := 23) ((((gI_sI_ne (by decide)).trans ((hF1988.1 231 23 (by decide)).trans ((hF1942.1 231 23 (by decide)).trans ((hF1506.1 231 23 (by decide)).trans (hF1495.1 231 23 (by decide)))))).trans hv8))
              have x2014 := HI.eqI hI0 (p := 231) (b := 9) (hv2)
              have zv2015 : (3 : Int32).toInt = 3 := rfl
              have pg2016 := PG.cong pg1999 hI2003 ((gA_sI)) ((gA_sI)) ((gA_sI)) ((gA_sI)) ((gI_sI_ne (by decide))) ((gI_sI_ne (by decide)))
              have w262017 := W26.cong c1966 hI2003 (((gI_sI_ne (by decide)).trans (hF1988.1 231 9 (by decide)))) (((gI_sI_ne (by decide)).trans (hF1988.1 231 10 (by decide)))) (((gI_sI_ne (by decide)).trans (hF1988.1 231 11 (by decide)))) (((gJ_sI_ne (by decide)).trans (hF1988.2.2 231 12 (by decide))))
              exact ⟨_, rfl, hI2003, hF2004, _, rfl, by decide, ⟨by omega, by omega, by omega, by omega, w262017, by omega, by omega, (fun hbad => ⟨by omega, (PT.mk (fun h => False.elim (by omega)) (fun _ => pg2016) (fun h h9 => False.elim (by omega)) (fun h => False.elim (by omega)))⟩), (fun hbad => by omega)⟩⟩
      · have c1765_ : v5.toInt ≤ 1000 := en_j_gt_f c1765
        refine At.enter rfl ?_
        refine r_iconst 1 rfl ?_
        refine r_goto ?_
        refine At.enter rfl ?_
        refine r_istore_n ([(2, .int 1), (1, .int v1507), (0, .ref 231)]) rfl ?_
        refine r_aload_n rfl ?_
        refine r_iload_n rfl ?_
        refine r_iconst (-1) rfl ?_
        refine r_ics 53 rfl (fun c2018 => ?_) (fun c2018 => ?_)
        · have c2018_ : v1507.toInt ≠ (-1) := en_i_ne_t c2018
          refine At.enter rfl ?_
          refine r_iconst 1 rfl ?_
          refine r_goto ?_
          refine At.enter rfl ?_
          refine r_iload_n rfl ?_
          refine r_iconst (-1) rfl ?_
          refine r_ics 67 rfl (fun c2019 => ?_) (fun c2019 => ?_)
          · have c2019_ : v1507.toInt ≠ (-1) := en_i_ne_t c2019
            refine At.enter rfl ?_
            refine r_iload_n rfl ?_
            refine Ar.fall 72 rfl ?_
            refine At.enter rfl ?_
            refine r_iload_n rfl ?_
            refine r_iff 76 rfl (by decide) ?_
            refine At.enter rfl ?_
            refine r_aload_n rfl ?_
            refine q_getJv (Sh.long hI1505.1 kx_231 rfl) v5 (((hF1506.2.2 231 12 (by decide)).trans (hF1495.2.2 231 12 (by decide))).trans hv5) ?_
            refine q_l2iO (fun v2020 hv2020 => ?_)
            refine r_goto ?_
            refine At.enter rfl ?_
            refine q_inlV 88 rfl [.ref 231, .int 1, .int v1507, .int v2020] [] (Nat.le_of_ble_eq_true rfl) rfl ?_
            refine Ev.mk rfl rfl ⟨Nat.le_of_ble_eq_true rfl, Or.inr (q_rc hI1505.1 kx_231 rfl)⟩ ?_
            show At _ none _ _ (0, [(0, .ref 231), (1, .int 1), (2, .int v1507), (3, .int v2020)], [], (_, _)) _
            refine At.enter rfl ?_
            refine r_aload_n rfl ?_
            refine r_iload_n rfl ?_
            refine r_iff 5 rfl (by decide) ?_
            refine At.enter rfl ?_
            refine r_aload_n rfl ?_
            obtain ⟨v2021, hv2021⟩ : ∃ v, gI g0 231 20 = v := ⟨_, rfl⟩
            refine q_getI (Sh.int hI1505.1 kx_231 rfl) v2021 (((hF1506.1 231 20 (by decide)).trans (hF1495.1 231 20 (by decide))).trans hv2021) ?_
            refine r_bipush 50 rfl ?_
            refine r_ics 14 rfl (fun c2022 => ?_) (fun c2022 => ?_)
            · have c2022_ : v2021.toInt ≥ 50 := en_i_ge_t c2022
              refine At.enter rfl ?_
              refine r_iconst 0 rfl ?_
              refine Ar.fall 19 rfl ?_
              refine At.enter rfl ?_
              have x2023 := HI.eqI hI1505 (p := 231) (b := 8) ((((hF1506.1 231 8 (by decide)).trans (hF1495.1 231 8 (by decide))).trans hv1))
              have x2024 := HI.eqI hI1505 (p := 231) (b := 9) ((((hF1506.1 231 9 (by decide)).trans (hF1495.1 231 9 (by decide))).trans hv2))
              have x2025 := HI.eqI hI1505 (p := 231) (b := 10) ((((hF1506.1 231 10 (by decide)).trans (hF1495.1 231 10 (by decide))).trans hv3))
              have x2026 := HI.eqI hI1505 (p := 231) (b := 11) ((((hF1506.1 231 11 (by decide)).trans (hF1495.1 231 11 (by decide))).trans hv4))
              have w262027 := W26.cong hW hI1505 (((hF1506.1 231 9 (by decide)).trans (hF1495.1 231 9 (by decide)))) (((hF1506.1 231 10 (by decide)).trans (hF1495.1 231 10 (by decide)))) (((hF1506.1 231 11 (by decide)).trans (hF1495.1 231 11 (by decide)))) (((hF1506.2.2 231 12 (by decide)).trans (hF1495.2.2 231 12 (by decide))))
              have zv2028 : (0 : Int32).toInt = 0 := rfl
              refine r_callV 22 rfl [.ref 231, .int 0] [] (Nat.le_of_ble_eq_true rfl) rfl (T_X11_must_231 _ hI1505 0 (by decide) (by refine ⟨?_, ?_, ?_, ?_⟩ <;> omega) w262027) ?_
              rintro _ _ ⟨g2029, rfl, hI2030, hF2031, rfl, hr2033⟩
              refine At.stn ?_
              have hF2034 := Fr.tr hF1509 hF2031 rfl rfl
              have zv2035 : (0 : Int32).toInt = 0 := rfl
              have x2036 := HI.eqI hI1505 (p := 231) (b := 8) ((((hF1506.1 231 8 (by decide)).trans (hF1495.1 231 8 (by decide))).trans hv1))
              have x2037 := HI.eqI hI1505 (p := 231) (b := 9) ((((hF1506.1 231 9 (by decide)).trans (hF1495.1 231 9 (by decide))).trans hv2))
              have x2038 := HI.eqI hI1505 (p := 231) (b := 10) ((((hF1506.1 231 10 (by decide)).trans (hF1495.1 231 10 (by decide))).trans hv3))
              have x2039 := HI.eqI hI1505 (p := 231) (b := 11) ((((hF1506.1 231 11 (by decide)).trans (hF1495.1 231 11 (by decide))).trans hv4))
              have x2040 := HI.eqI hI1505 (p := 231) (b := 14) ((((hF1506.1 231 14 (by decide)).trans (hF1495.1 231 14 (by decide))).trans hv6))
              have x2041 := HI.eqI hI2030 (p := 231) (b := 8) ((((hF2031.1 231 8 (by decide)).trans ((hF1506.1 231 8 (by decide)).trans (hF1495.1 231 8 (by decide)))).trans hv1))
              obtain ⟨v2042, hv2042⟩ : ∃ v, gI g2029 231 9 = v := ⟨_, rfl⟩
              have rv2042 := RgF.at hI2030.2.1 (p := 231) (b := 9) rfl
              rw [hv2042] at rv2042
              dsimp only at rv2042
              have tv2042 := congrArg Int32.toInt hv2042
              have x2043 := HI.eqI hI2030 (p := 231) (b := 9) (hv2042)
              obtain ⟨v2044, hv2044⟩ : ∃ v, gI g2029 231 10 = v := ⟨_, rfl⟩
              have rv2044 := RgF.at hI2030.2.1 (p := 231) (b := 10) rfl
              rw [hv2044] at rv2044
              dsimp only at rv2044
              have tv2044 := congrArg Int32.toInt hv2044
              have x2045 := HI.eqI hI2030 (p := 231) (b := 10) (hv2044)
              obtain ⟨v2046, hv2046⟩ : ∃ v, gI g2029 231 11 = v := ⟨_, rfl⟩
              have tv2046 := congrArg Int32.toInt hv2046
              have x2047 := HI.eqI hI2030 (p := 231) (b := 11) (hv2046)
              obtain ⟨v2048, hv2048⟩ : ∃ v, gI g2029 231 14 = v := ⟨_, rfl⟩
              have tv2048 := congrArg Int32.toInt hv2048
              have x2049 := HI.eqI hI2030 (p := 231) (b := 14) (hv2048)
              obtain ⟨c2050, c2051, c2052, c2053, c2054, c2055, c2056⟩ := hr2033
              refine At.enter rfl ?_
              refine r_aload_n rfl ?_
              refine q_getI (Sh.int hI2030.1 kx_231 rfl) v2048 hv2048 ?_
              refine r_ifs 29 rfl (fun c2057 => ?_) (fun c2057 => ?_)
              · have c2057_ : v2048.toInt ≠ 0 := en_k_ne_t c2057
                clear c2056
                refine At.enter rfl ?_
                refine q_vret ?_
                refine At.enter rfl ?_
                refine r_iconst 3 rfl ?_
                refine r_ireti ?_
                have x2058 := HI.eqI hI2030 (p := 231) (b := 8) ((((hF2031.1 231 8 (by decide)).trans ((hF1506.1 231 8 (by decide)).trans (hF1495.1 231 8 (by decide)))).trans hv1))
                have x2059 := HI.eqI hI2030 (p := 231) (b := 9) (hv2042)
                have x2060 := HI.eqI hI2030 (p := 231) (b := 10) (hv2044)
                have x2061 := HI.eqI hI2030 (p := 231) (b := 11) (hv2046)
                obtain ⟨v2062, hv2062⟩ : ∃ v, gJ g2029 231 12 = v := ⟨_, rfl⟩
                have x2063 := HI.eqJ hI2030 (b := 12) (hv2062)
                have x2064 := HI.eqI hI2030 (p := 231) (b := 14) (hv2048)
                have x2065 := HI.eqI hI2030 (p := 231) (b := 17) ((((hF2031.1 231 17 (by decide)).trans ((hF1506.1 231 17 (by decide)).trans (hF1495.1 231 17 (by decide)))).trans hv7))
                have x2066 := HI.eqI hI2030 (p := 231) (b := 23) ((((hF2031.1 231 23 (by decide)).trans ((hF1506.1 231 23 (by decide)).trans (hF1495.1 231 23 (by decide)))).trans hv8))
                have x2067 := HI.eqI hI0 (p := 231) (b := 9) (hv2)
                have zv2068 : (3 : Int32).toInt = 3 := rfl
                exact ⟨_, rfl, hI2030, hF2034, _, rfl, by decide, ⟨by omega, by omega, by omega, by omega, c2055, by omega, by omega, (fun hbad => ⟨by omega, (PT.mk (fun h => False.elim (by omega)) (fun h => False.elim (by omega)) (fun h h9 => False.elim (by omega)) (fun h => False.elim (by omega)))⟩), (fun hbad => by omega)⟩⟩
              · have c2057_ : v2048.toInt = 0 := en_k_ne_f c2057
                obtain ⟨i2069, i2070, i2071⟩ := c2056 (by omega)
                refine At.enter rfl ?_
                refine r_aload_n rfl ?_
                refine r_iload_n rfl ?_
                refine r_iload_n rfl ?_
                have x2072 := HI.eqI hI2030 (p := 231) (b := 17) ((((hF2031.1 231 17 (by decide)).trans ((hF1506.1 231 17 (by decide)).trans (hF1495.1 231 17 (by decide)))).trans hv7))
                refine r_callV 35 rfl [.ref 231, .int v1507, .int v2020] [] (Nat.le_of_ble_eq_true rfl) rfl (T_X11_emit_231 _ hI2030 v1507 v2020 (by omega)) ?_
                rintro _ _ ⟨g2073, rfl, hI2074, hF2075, rfl, hr2077⟩
                refine At.stn ?_
                have hF2078 := Fr.tr hF2034 hF2075 rfl rfl
                have x2079 := HI.eqI hI2030 (p := 231) (b := 17) ((((hF2031.1 231 17 (by decide)).trans ((hF1506.1 231 17 (by decide)).trans (hF1495.1 231 17 (by decide)))).trans hv7))
                have x2080 := HI.eqI hI2030 (p := 231) (b := 23) ((((hF2031.1 231 23 (by decide)).trans ((hF1506.1 231 23 (by decide)).trans (hF1495.1 231 23 (by decide)))).trans hv8))
                obtain ⟨v2081, hv2081⟩ : ∃ v, gI g2073 231 17 = v := ⟨_, rfl⟩
                have rv2081 := RgF.at hI2074.2.1 (p := 231) (b := 17) rfl
                rw [hv2081] at rv2081
                dsimp only at rv2081
                have tv2081 := congrArg Int32.toInt hv2081
                have x2082 := HI.eqI hI2074 (p := 231) (b := 17) (hv2081)
                have y2083 : (gI _ 231 17).toInt = (gI _ 231 17).toInt + 1 := hr2077.1
                have pg2085 := PG.cong (hP.1 (by decide)) hI2030 (((hF2031.2.1 238 (by decide)).trans ((hF1506.2.1 238 (by decide)).trans (hF1495.2.1 238 (by decide))))) (((hF2031.2.1 239 (by decide)).trans ((hF1506.2.1 239 (by decide)).trans (hF1495.2.1 239 (by decide))))) (((hF2031.2.1 240 (by decide)).trans ((hF1506.2.1 240 (by decide)).trans (hF1495.2.1 240 (by decide))))) (((hF2031.2.1 241 (by decide)).trans ((hF1506.2.1 241 (by decide)).trans (hF1495.2.1 241 (by decide))))) (((hF2031.1 231 17 (by decide)).trans ((hF1506.1 231 17 (by decide)).trans (hF1495.1 231 17 (by decide))))) (((hF2031.1 231 23 (by decide)).trans ((hF1506.1 231 23 (by decide)).trans (hF1495.1 231 23 (by decide)))))
                have pg2084 := PG.emit (e' := 1) pg2085 hr2077 (hF2075.2.1 240 (by decide)) (hF2075.2.1 241 (by decide)) (hF2075.1 231 23 (by decide)) (Or.inl ⟨by omega, by omega, by decide, by decide⟩)
                refine At.enter rfl ?_
                refine r_aload_n rfl ?_
                refine r_dup rfl ?_
                refine q_getI (Sh.int hI2074.1 kx_231 rfl) v2021 (((hF2075.1 231 20 (by decide)).trans ((hF2031.1 231 20 (by decide)).trans ((hF1506.1 231 20 (by decide)).trans (hF1495.1 231 20 (by decide))))).trans hv2021) ?_
                refine r_iconst 1 rfl ?_
                refine q_iaddO (fun v2086 _ => ?_)
                refine q_putI (Sh.int hI2074.1 kx_231 rfl) rfl ?_
                have hI2087 := HI.wI0 hI2074 kx_231 rfl (p := 231) (b := 20) (v := v2086) rfl
                have hF2088 := Fr.wI (p := 231) (b := 20) (v := v2086) hF2078 rfl
                refine Ar.fall 45 rfl ?_
                refine At.enter rfl ?_
                refine q_vret ?_
                refine At.enter rfl ?_
                refine r_iconst 3 rfl ?_
                refine r_ireti ?_
                have x2089 := HI.eqI hI2087 (p := 231) (b := 8) ((((gI_sI_ne (by decide)).trans ((hF2075.1 231 8 (by decide)).trans ((hF2031.1 231 8 (by decide)).trans ((hF1506.1 231 8 (by decide)).trans (hF1495.1 231 8 (by decide)))))).trans hv1))
                have x2090 := HI.eqI hI2087 (p := 231) (b := 9) ((((gI_sI_ne (by decide)).trans (hF2075.1 231 9 (by decide))).trans hv2042))
                have x2091 := HI.eqI hI2087 (p := 231) (b := 10) ((((gI_sI_ne (by decide)).trans (hF2075.1 231 10 (by decide))).trans hv2044))
                have x2092 := HI.eqI hI2087 (p := 231) (b := 11) ((((gI_sI_ne (by decide)).trans (hF2075.1 231 11 (by decide))).trans hv2046))
                obtain ⟨v2093, hv2093⟩ : ∃ v, gJ g2029 231 12 = v := ⟨_, rfl⟩
                have x2094 := HI.eqJ hI2087 (b := 12) ((((gJ_sI_ne (by decide)).trans (hF2075.2.2 231 12 (by decide))).trans hv2093))
                have x2095 := HI.eqI hI2087 (p := 231) (b := 14) ((((gI_sI_ne (by decide)).trans (hF2075.1 231 14 (by decide))).trans hv2048))
                have x2096 := HI.eqI hI2087 (p := 231) (b := 17) (((gI_sI_ne (by decide)).trans hv2081))
                have x2097 := HI.eqI hI2087 (p := 231) (b := 23) ((((gI_sI_ne (by decide)).trans ((hF2075.1 231 23 (by decide)).trans ((hF2031.1 231 23 (by decide)).trans ((hF1506.1 231 23 (by decide)).trans (hF1495.1 231 23 (by decide)))))).trans hv8))
                have x2098 := HI.eqI hI0 (p := 231) (b := 9) (hv2)
                have zv2099 : (3 : Int32).toInt = 3 := rfl
                have pg2100 := PG.cong pg2084 hI2087 ((gA_sI)) ((gA_sI)) ((gA_sI)) ((gA_sI)) ((gI_sI_ne (by decide))) ((gI_sI_ne (by decide)))
                have w262101 := W26.cong c2055 hI2087 (((gI_sI_ne (by decide)).trans (hF2075.1 231 9 (by decide)))) (((gI_sI_ne (by decide)).trans (hF2075.1 231 10 (by decide)))) (((gI_sI_ne (by decide)).trans (hF2075.1 231 11 (by decide)))) (((gJ_sI_ne (by decide)).trans (hF2075.2.2 231 12 (by decide))))
                exact ⟨_, rfl, hI2087, hF2088, _, rfl, by decide, ⟨by omega, by omega, by omega, by omega, w262101, by omega, by omega, (fun hbad => ⟨by omega, (PT.mk (fun h => False.elim (by omega)) (fun _ => pg2100) (fun h h9 => False.elim (by omega)) (fun h => False.elim (by omega)))⟩), (fun hbad => by omega)⟩⟩
            · have c2022_ : v2021.toInt < 50 := en_i_ge_f c2022
              refine At.enter rfl ?_
              refine r_iconst 1 rfl ?_
              refine r_goto ?_
              refine At.enter rfl ?_
              have x2102 := HI.eqI hI1505 (p := 231) (b := 8) ((((hF1506.1 231 8 (by decide)).trans (hF1495.1 231 8 (by decide))).trans hv1))
              have x2103 := HI.eqI hI1505 (p := 231) (b := 9) ((((hF1506.1 231 9 (by decide)).trans (hF1495.1 231 9 (by decide))).trans hv2))
              have x2104 := HI.eqI hI1505 (p := 231) (b := 10) ((((hF1506.1 231 10 (by decide)).trans (hF1495.1 231 10 (by decide))).trans hv3))
              have x2105 := HI.eqI hI1505 (p := 231) (b := 11) ((((hF1506.1 231 11 (by decide)).trans (hF1495.1 231 11 (by decide))).trans hv4))
              have w262106 := W26.cong hW hI1505 (((hF1506.1 231 9 (by decide)).trans (hF1495.1 231 9 (by decide)))) (((hF1506.1 231 10 (by decide)).trans (hF1495.1 231 10 (by decide)))) (((hF1506.1 231 11 (by decide)).trans (hF1495.1 231 11 (by decide)))) (((hF1506.2.2 231 12 (by decide)).trans (hF1495.2.2 231 12 (by decide))))
              have zv2107 : (1 : Int32).toInt = 1 := rfl
              refine r_callV 22 rfl [.ref 231, .int 1] [] (Nat.le_of_ble_eq_true rfl) rfl (T_X11_must_231 _ hI1505 1 (by decide) (by refine ⟨?_, ?_, ?_, ?_⟩ <;> omega) w262106) ?_
              rintro _ _ ⟨g2108, rfl, hI2109, hF2110, rfl, hr2112⟩
              refine At.stn ?_
              have hF2113 := Fr.tr hF1509 hF2110 rfl rfl
              have zv2114 : (1 : Int32).toInt = 1 := rfl
              have x2115 := HI.eqI hI1505 (p := 231) (b := 8) ((((hF1506.1 231 8 (by decide)).trans (hF1495.1 231 8 (by decide))).trans hv1))
              have x2116 := HI.eqI hI1505 (p := 231) (b := 9) ((((hF1506.1 231 9 (by decide)).trans (hF1495.1 231 9 (by decide))).trans hv2))
              have x2117 := HI.eqI hI1505 (p := 231) (b := 10) ((((hF1506.1 231 10 (by decide)).trans (hF1495.1 231 10 (by decide))).trans hv3))
              have x2118 := HI.eqI hI1505 (p := 231) (b := 11) ((((hF1506.1 231 11 (by decide)).trans (hF1495.1 231 11 (by decide))).trans hv4))
              have x2119 := HI.eqI hI1505 (p := 231) (b := 14) ((((hF1506.1 231 14 (by decide)).trans (hF1495.1 231 14 (by decide))).trans hv6))
              have x2120 := HI.eqI hI2109 (p := 231) (b := 8) ((((hF2110.1 231 8 (by decide)).trans ((hF1506.1 231 8 (by decide)).trans (hF1495.1 231 8 (by decide)))).trans hv1))
              obtain ⟨v2121, hv2121⟩ : ∃ v, gI g2108 231 9 = v := ⟨_, rfl⟩
              have rv2121 := RgF.at hI2109.2.1 (p := 231) (b := 9) rfl
              rw [hv2121] at rv2121
              dsimp only at rv2121
              have tv2121 := congrArg Int32.toInt hv2121
              have x2122 := HI.eqI hI2109 (p := 231) (b := 9) (hv2121)
              obtain ⟨v2123, hv2123⟩ : ∃ v, gI g2108 231 10 = v := ⟨_, rfl⟩
              have rv2123 := RgF.at hI2109.2.1 (p := 231) (b := 10) rfl
              rw [hv2123] at rv2123
              dsimp only at rv2123
              have tv2123 := congrArg Int32.toInt hv2123
              have x2124 := HI.eqI hI2109 (p := 231) (b := 10) (hv2123)
              obtain ⟨v2125, hv2125⟩ : ∃ v, gI g2108 231 11 = v := ⟨_, rfl⟩
              have tv2125 := congrArg Int32.toInt hv2125
              have x2126 := HI.eqI hI2109 (p := 231) (b := 11) (hv2125)
              obtain ⟨v2127, hv2127⟩ : ∃ v, gI g2108 231 14 = v := ⟨_, rfl⟩
              have tv2127 := congrArg Int32.toInt hv2127
              have x2128 := HI.eqI hI2109 (p := 231) (b := 14) (hv2127)
              obtain ⟨c2129, c2130, c2131, c2132, c2133, c2134, c2135⟩ := hr2112
              refine At.enter rfl ?_
              refine r_aload_n rfl ?_
              refine q_getI (Sh.int hI2109.1 kx_231 rfl) v2127 hv2127 ?_
              refine r_ifs 29 rfl (fun c2136 => ?_) (fun c2136 => ?_)
              · have c2136_ : v2127.toInt ≠ 0 := en_k_ne_t c2136
                clear c2135
                refine At.enter rfl ?_
                refine q_vret ?_
                refine At.enter rfl ?_
                refine r_iconst 3 rfl ?_
                refine r_ireti ?_
                have x2137 := HI.eqI hI2109 (p := 231) (b := 8) ((((hF2110.1 231 8 (by decide)).trans ((hF1506.1 231 8 (by decide)).trans (hF1495.1 231 8 (by decide)))).trans hv1))
                have x2138 := HI.eqI hI2109 (p := 231) (b := 9) (hv2121)
                have x2139 := HI.eqI hI2109 (p := 231) (b := 10) (hv2123)
                have x2140 := HI.eqI hI2109 (p := 231) (b := 11) (hv2125)
                obtain ⟨v2141, hv2141⟩ : ∃ v, gJ g2108 231 12 = v := ⟨_, rfl⟩
                have x2142 := HI.eqJ hI2109 (b := 12) (hv2141)
                have x2143 := HI.eqI hI2109 (p := 231) (b := 14) (hv2127)
                have x2144 := HI.eqI hI2109 (p := 231) (b := 17) ((((hF2110.1 231 17 (by decide)).trans ((hF1506.1 231 17 (by decide)).trans (hF1495.1 231 17 (by decide)))).trans hv7))
                have x2145 := HI.eqI hI2109 (p := 231) (b := 23) ((((hF2110.1 231 23 (by decide)).trans ((hF1506.1 231 23 (by decide)).trans (hF1495.1 231 23 (by decide)))).trans hv8))
                have x2146 := HI.eqI hI0 (p := 231) (b := 9) (hv2)
                have zv2147 : (3 : Int32).toInt = 3 := rfl
                exact ⟨_, rfl, hI2109, hF2113, _, rfl, by decide, ⟨by omega, by omega, by omega, by omega, c2134, by omega, by omega, (fun hbad => ⟨by omega, (PT.mk (fun h => False.elim (by omega)) (fun h => False.elim (by omega)) (fun h h9 => False.elim (by omega)) (fun h => False.elim (by omega)))⟩), (fun hbad => by omega)⟩⟩
              · have c2136_ : v2127.toInt = 0 := en_k_ne_f c2136
                obtain ⟨i2148, i2149, i2150⟩ := c2135 (by omega)
                refine At.enter rfl ?_
                refine r_aload_n rfl ?_
                refine r_iload_n rfl ?_
                refine r_iload_n rfl ?_
                have x2151 := HI.eqI hI2109 (p := 231) (b := 17) ((((hF2110.1 231 17 (by decide)).trans ((hF1506.1 231 17 (by decide)).trans (hF1495.1 231 17 (by decide)))).trans hv7))
                refine r_callV 35 rfl [.ref 231, .int v1507, .int v2020] [] (Nat.le_of_ble_eq_true rfl) rfl (T_X11_emit_231 _ hI2109 v1507 v2020 (by omega)) ?_
                rintro _ _ ⟨g2152, rfl, hI2153, hF2154, rfl, hr2156⟩
                refine At.stn ?_
                have hF2157 := Fr.tr hF2113 hF2154 rfl rfl
                have x2158 := HI.eqI hI2109 (p := 231) (b := 17) ((((hF2110.1 231 17 (by decide)).trans ((hF1506.1 231 17 (by decide)).trans (hF1495.1 231 17 (by decide)))).trans hv7))
                have x2159 := HI.eqI hI2109 (p := 231) (b := 23) ((((hF2110.1 231 23 (by decide)).trans ((hF1506.1 231 23 (by decide)).trans (hF1495.1 231 23 (by decide)))).trans hv8))
                obtain ⟨v2160, hv2160⟩ : ∃ v, gI g2152 231 17 = v := ⟨_, rfl⟩
                have rv2160 := RgF.at hI2153.2.1 (p := 231) (b := 17) rfl
                rw [hv2160] at rv2160
                dsimp only at rv2160
                have tv2160 := congrArg Int32.toInt hv2160
                have x2161 := HI.eqI hI2153 (p := 231) (b := 17) (hv2160)
                have y2162 : (gI _ 231 17).toInt = (gI _ 231 17).toInt + 1 := hr2156.1
                have pg2164 := PG.cong (hP.1 (by decide)) hI2109 (((hF2110.2.1 238 (by decide)).trans ((hF1506.2.1 238 (by decide)).trans (hF1495.2.1 238 (by decide))))) (((hF2110.2.1 239 (by decide)).trans ((hF1506.2.1 239 (by decide)).trans (hF1495.2.1 239 (by decide))))) (((hF2110.2.1 240 (by decide)).trans ((hF1506.2.1 240 (by decide)).trans (hF1495.2.1 240 (by decide))))) (((hF2110.2.1 241 (by decide)).trans ((hF1506.2.1 241 (by decide)).trans (hF1495.2.1 241 (by decide))))) (((hF2110.1 231 17 (by decide)).trans ((hF1506.1 231 17 (by decide)).trans (hF1495.1 231 17 (by decide))))) (((hF2110.1 231 23 (by decide)).trans ((hF1506.1 231 23 (by decide)).trans (hF1495.1 231 23 (by decide)))))
                have pg2163 := PG.emit (e' := 1) pg2164 hr2156 (hF2154.2.1 240 (by decide)) (hF2154.2.1 241 (by decide)) (hF2154.1 231 23 (by decide)) (Or.inl ⟨by omega, by omega, by decide, by decide⟩)
                refine At.enter rfl ?_
                refine r_aload_n rfl ?_
                refine r_dup rfl ?_
                refine q_getI (Sh.int hI2153.1 kx_231 rfl) v2021 (((hF2154.1 231 20 (by decide)).trans ((hF2110.1 231 20 (by decide)).trans ((hF1506.1 231 20 (by decide)).trans (hF1495.1 231 20 (by decide))))).trans hv2021) ?_
                refine r_iconst 1 rfl ?_
                have bv2165 := q_bnd v2021
                refine q_iadd (v2021.toInt + 1) rfl (by omega) (fun v2166 hv2166 => ?_)
                refine q_putI (Sh.int hI2153.1 kx_231 rfl) rfl ?_
                have hI2167 := HI.wI0 hI2153 kx_231 rfl (p := 231) (b := 20) (v := v2166) rfl
                have hF2168 := Fr.wI (p := 231) (b := 20) (v := v2166) hF2157 rfl
                refine Ar.fall 45 rfl ?_
                refine At.enter rfl ?_
                refine q_vret ?_
                refine At.enter rfl ?_
                refine r_iconst 3 rfl ?_
                refine r_ireti ?_
                have x2169 := HI.eqI hI2167 (p := 231) (b := 8) ((((gI_sI_ne (by decide)).trans ((hF2154.1 231 8 (by decide)).trans ((hF2110.1 231 8 (by decide)).trans ((hF1506.1 231 8 (by decide)).trans (hF1495.1 231 8 (by decide)))))).trans hv1))
                have x2170 := HI.eqI hI2167 (p := 231) (b := 9) ((((gI_sI_ne (by decide)).trans (hF2154.1 231 9 (by decide))).trans hv2121))
                have x2171 := HI.eqI hI2167 (p := 231) (b := 10) ((((gI_sI_ne (by decide)).trans (hF2154.1 231 10 (by decide))).trans hv2123))
                have x2172 := HI.eqI hI2167 (p := 231) (b := 11) ((((gI_sI_ne (by decide)).trans (hF2154.1 231 11 (by decide))).trans hv2125))
                obtain ⟨v2173, hv2173⟩ : ∃ v, gJ g2108 231 12 = v := ⟨_, rfl⟩
                have x2174 := HI.eqJ hI2167 (b := 12) ((((gJ_sI_ne (by decide)).trans (hF2154.2.2 231 12 (by decide))).trans hv2173))
                have x2175 := HI.eqI hI2167 (p := 231) (b := 14) ((((gI_sI_ne (by decide)).trans (hF2154.1 231 14 (by decide))).trans hv2127))
                have x2176 := HI.eqI hI2167 (p := 231) (b := 17) (((gI_sI_ne (by decide)).trans hv2160))
                have x2177 := HI.eqI hI2167 (p := 231) (b := 23) ((((gI_sI_ne (by decide)).trans ((hF2154.1 231 23 (by decide)).trans ((hF2110.1 231 23 (by decide)).trans ((hF1506.1 231 23 (by decide)).trans (hF1495.1 231 23 (by decide)))))).trans hv8))
                have x2178 := HI.eqI hI0 (p := 231) (b := 9) (hv2)
                have zv2179 : (3 : Int32).toInt = 3 := rfl
                have pg2180 := PG.cong pg2163 hI2167 ((gA_sI)) ((gA_sI)) ((gA_sI)) ((gA_sI)) ((gI_sI_ne (by decide))) ((gI_sI_ne (by decide)))
                have w262181 := W26.cong c2134 hI2167 (((gI_sI_ne (by decide)).trans (hF2154.1 231 9 (by decide)))) (((gI_sI_ne (by decide)).trans (hF2154.1 231 10 (by decide)))) (((gI_sI_ne (by decide)).trans (hF2154.1 231 11 (by decide)))) (((gJ_sI_ne (by decide)).trans (hF2154.2.2 231 12 (by decide))))
                exact ⟨_, rfl, hI2167, hF2168, _, rfl, by decide, ⟨by omega, by omega, by omega, by omega, w262181, by omega, by omega, (fun hbad => ⟨by omega, (PT.mk (fun h => False.elim (by omega)) (fun _ => pg2180) (fun h h9 => False.elim (by omega)) (fun h => False.elim (by omega)))⟩), (fun hbad => by omega)⟩⟩
          · have c2019_ : v1507.toInt = (-1) := en_i_ne_f c2019
            exfalso; omega
        · have c2018_ : v1507.toInt = (-1) := en_i_ne_f c2018
          refine At.enter rfl ?_
          refine r_iload_n rfl ?_
          refine r_iff 57 rfl (by decide) ?_
          refine At.enter rfl ?_
          refine r_iconst 1 rfl ?_
          refine r_goto ?_
          refine At.enter rfl ?_
          refine r_iload_n rfl ?_
          refine r_iconst (-1) rfl ?_
          refine r_ics 67 rfl (fun c2182 => ?_) (fun c2182 => ?_)
          · have c2182_ : v1507.toInt ≠ (-1) := en_i_ne_t c2182
            exfalso; omega
          · have c2182_ : v1507.toInt = (-1) := en_i_ne_f c2182
            refine At.enter rfl ?_
            refine r_iconst 0 rfl ?_
            refine r_goto ?_
            refine At.enter rfl ?_
            refine r_iload_n rfl ?_
            refine r_iff 76 rfl (by decide) ?_
            refine At.enter rfl ?_
            refine r_aload_n rfl ?_
            refine q_getJv (Sh.long hI1505.1 kx_231 rfl) v5 (((hF1506.2.2 231 12 (by decide)).trans (hF1495.2.2 231 12 (by decide))).trans hv5) ?_
            refine q_l2iO (fun v2183 hv2183 => ?_)
            refine r_goto ?_
            refine At.enter rfl ?_
            refine q_inlV 88 rfl [.ref 231, .int 1, .int 0, .int v2183] [] (Nat.le_of_ble_eq_true rfl) rfl ?_
            refine Ev.mk rfl rfl ⟨Nat.le_of_ble_eq_true rfl, Or.inr (q_rc hI1505.1 kx_231 rfl)⟩ ?_
            show At _ none _ _ (0, [(0, .ref 231), (1, .int 1), (2, .int 0), (3, .int v2183)], [], (_, _)) _
            refine At.enter rfl ?_
            refine r_aload_n rfl ?_
            refine r_iload_n rfl ?_
            refine r_iff 5 rfl (by decide) ?_
            refine At.enter rfl ?_
            refine r_aload_n rfl ?_
            obtain ⟨v2184, hv2184⟩ : ∃ v, gI g0 231 20 = v := ⟨_, rfl⟩
            refine q_getI (Sh.int hI1505.1 kx_231 rfl) v2184 (((hF1506.1 231 20 (by decide)).trans (hF1495.1 231 20 (by decide))).trans hv2184) ?_
            refine r_bipush 50 rfl ?_
            refine r_ics 14 rfl (fun c2185 => ?_) (fun c2185 => ?_)
            · have c2185_ : v2184.toInt ≥ 50 := en_i_ge_t c2185
              refine At.enter rfl ?_
              refine r_iconst 0 rfl ?_
              refine Ar.fall 19 rfl ?_
              refine At.enter rfl ?_
              have x2186 := HI.eqI hI1505 (p := 231) (b := 8) ((((hF1506.1 231 8 (by decide)).trans (hF1495.1 231 8 (by decide))).trans hv1))
              have x2187 := HI.eqI hI1505 (p := 231) (b := 9) ((((hF1506.1 231 9 (by decide)).trans (hF1495.1 231 9 (by decide))).trans hv2))
              have x2188 := HI.eqI hI1505 (p := 231) (b := 10) ((((hF1506.1 231 10 (by decide)).trans (hF1495.1 231 10 (by decide))).trans hv3))
              have x2189 := HI.eqI hI1505 (p := 231) (b := 11) ((((hF1506.1 231 11 (by decide)).trans (hF1495.1 231 11 (by decide))).trans hv4))
              have w262190 := W26.cong hW hI1505 (((hF1506.1 231 9 (by decide)).trans (hF1495.1 231 9 (by decide)))) (((hF1506.1 231 10 (by decide)).trans (hF1495.1 231 10 (by decide)))) (((hF1506.1 231 11 (by decide)).trans (hF1495.1 231 11 (by decide)))) (((hF1506.2.2 231 12 (by decide)).trans (hF1495.2.2 231 12 (by decide))))
              have zv2191 : (0 : Int32).toInt = 0 := rfl
              refine r_callV 22 rfl [.ref 231, .int 0] [] (Nat.le_of_ble_eq_true rfl) rfl (T_X11_must_231 _ hI1505 0 (by decide) (by refine ⟨?_, ?_, ?_, ?_⟩ <;> omega) w262190) ?_
              rintro _ _ ⟨g2192, rfl, hI2193, hF2194, rfl, hr2196⟩
              refine At.stn ?_
              have hF2197 := Fr.tr hF1509 hF2194 rfl rfl
              have zv2198 : (0 : Int32).toInt = 0 := rfl
              have x2199 := HI.eqI hI1505 (p := 231) (b := 8) ((((hF1506.1 231 8 (by decide)).trans (hF1495.1 231 8 (by decide))).trans hv1))
              have x2200 := HI.eqI hI1505 (p := 231) (b := 9) ((((hF1506.1 231 9 (by decide)).trans (hF1495.1 231 9 (by decide))).trans hv2))
              have x2201 := HI.eqI hI1505 (p := 231) (b := 10) ((((hF1506.1 231 10 (by decide)).trans (hF1495.1 231 10 (by decide))).trans hv3))
              have x2202 := HI.eqI hI1505 (p := 231) (b := 11) ((((hF1506.1 231 11 (by decide)).trans (hF1495.1 231 11 (by decide))).trans hv4))
              have x2203 := HI.eqI hI1505 (p := 231) (b := 14) ((((hF1506.1 231 14 (by decide)).trans (hF1495.1 231 14 (by decide))).trans hv6))
              have x2204 := HI.eqI hI2193 (p := 231) (b := 8) ((((hF2194.1 231 8 (by decide)).trans ((hF1506.1 231 8 (by decide)).trans (hF1495.1 231 8 (by decide)))).trans hv1))
              obtain ⟨v2205, hv2205⟩ : ∃ v, gI g2192 231 9 = v := ⟨_, rfl⟩
              have rv2205 := RgF.at hI2193.2.1 (p := 231) (b := 9) rfl
              rw [hv2205] at rv2205
              dsimp only at rv2205
              have tv2205 := congrArg Int32.toInt hv2205
              have x2206 := HI.eqI hI2193 (p := 231) (b := 9) (hv2205)
              obtain ⟨v2207, hv2207⟩ : ∃ v, gI g2192 231 10 = v := ⟨_, rfl⟩
              have rv2207 := RgF.at hI2193.2.1 (p := 231) (b := 10) rfl
              rw [hv2207] at rv2207
              dsimp only at rv2207
              have tv2207 := congrArg Int32.toInt hv2207
              have x2208 := HI.eqI hI2193 (p := 231) (b := 10) (hv2207)
              obtain ⟨v2209, hv2209⟩ : ∃ v, gI g2192 231 11 = v := ⟨_, rfl⟩
              have tv2209 := congrArg Int32.toInt hv2209
              have x2210 := HI.eqI hI2193 (p := 231) (b := 11) (hv2209)
              obtain ⟨v2211, hv2211⟩ : ∃ v, gI g2192 231 14 = v := ⟨_, rfl⟩
              have tv2211 := congrArg Int32.toInt hv2211
              have x2212 := HI.eqI hI2193 (p := 231) (b := 14) (hv2211)
              obtain ⟨c2213, c2214, c2215, c2216, c2217, c2218, c2219⟩ := hr2196
              refine At.enter rfl ?_
              refine r_aload_n rfl ?_
              refine q_getI (Sh.int hI2193.1 kx_231 rfl) v2211 hv2211 ?_
              refine r_ifs 29 rfl (fun c2220 => ?_) (fun c2220 => ?_)
              · have c2220_ : v2211.toInt ≠ 0 := en_k_ne_t c2220
                clear c2219
                refine At.enter rfl ?_
                refine q_vret ?_
                refine At.enter rfl ?_
                refine r_iconst 3 rfl ?_
                refine r_ireti ?_
                have x2221 := HI.eqI hI2193 (p := 231) (b := 8) ((((hF2194.1 231 8 (by decide)).trans ((hF1506.1 231 8 (by decide)).trans (hF1495.1 231 8 (by decide)))).trans hv1))
                have x2222 := HI.eqI hI2193 (p := 231) (b := 9) (hv2205)
                have x2223 := HI.eqI hI2193 (p := 231) (b := 10) (hv2207)
                have x2224 := HI.eqI hI2193 (p := 231) (b := 11) (hv2209)
                obtain ⟨v2225, hv2225⟩ : ∃ v, gJ g2192 231 12 = v := ⟨_, rfl⟩
                have x2226 := HI.eqJ hI2193 (b := 12) (hv2225)
                have x2227 := HI.eqI hI2193 (p := 231) (b := 14) (hv2211)
                have x2228 := HI.eqI hI2193 (p := 231) (b := 17) ((((hF2194.1 231 17 (by decide)).trans ((hF1506.1 231 17 (by decide)).trans (hF1495.1 231 17 (by decide)))).trans hv7))
                have x2229 := HI.eqI hI2193 (p := 231) (b := 23) ((((hF2194.1 231 23 (by decide)).trans ((hF1506.1 231 23 (by decide)).trans (hF1495.1 231 23 (by decide)))).trans hv8))
                have x2230 := HI.eqI hI0 (p := 231) (b := 9) (hv2)
                have zv2231 : (3 : Int32).toInt = 3 := rfl
                exact ⟨_, rfl, hI2193, hF2197, _, rfl, by decide, ⟨by omega, by omega, by omega, by omega, c2218, by omega, by omega, (fun hbad => ⟨by omega, (PT.mk (fun h => False.elim (by omega)) (fun h => False.elim (by omega)) (fun h h9 => False.elim (by omega)) (fun h => False.elim (by omega)))⟩), (fun hbad => by omega)⟩⟩
              · have c2220_ : v2211.toInt = 0 := en_k_ne_f c2220
                obtain ⟨i2232, i2233, i2234⟩ := c2219 (by omega)
                refine At.enter rfl ?_
                refine r_aload_n rfl ?_
                refine r_iload_n rfl ?_
                refine r_iload_n rfl ?_
                have x2235 := HI.eqI hI2193 (p := 231) (b := 17) ((((hF2194.1 231 17 (by decide)).trans ((hF1506.1 231 17 (by decide)).trans (hF1495.1 231 17 (by decide)))).trans hv7))
                have zv2236 : (0 : Int32).toInt = 0 := rfl
                refine r_callV 35 rfl [.ref 231, .int 0, .int v2183] [] (Nat.le_of_ble_eq_true rfl) rfl (T_X11_emit_231 _ hI2193 0 v2183 (by omega)) ?_
                rintro _ _ ⟨g2237, rfl, hI2238, hF2239, rfl, hr2241⟩
                refine At.stn ?_
                have hF2242 := Fr.tr hF2197 hF2239 rfl rfl
                have zv2243 : (0 : Int32).toInt = 0 := rfl
                have x2244 := HI.eqI hI2193 (p := 231) (b := 17) ((((hF2194.1 231 17 (by decide)).trans ((hF1506.1 231 17 (by decide)).trans (hF1495.1 231 17 (by decide)))).trans hv7))
                have x2245 := HI.eqI hI2193 (p := 231) (b := 23) ((((hF2194.1 231 23 (by decide)).trans ((hF1506.1 231 23 (by decide)).trans (hF1495.1 231 23 (by decide)))).trans hv8))
                obtain ⟨v2246, hv2246⟩ : ∃ v, gI g2237 231 17 = v := ⟨_, rfl⟩
                have rv2246 := RgF.at hI2238.2.1 (p := 231) (b := 17) rfl
                rw [hv2246] at rv2246
                dsimp only at rv2246
                have tv2246 := congrArg Int32.toInt hv2246
                have x2247 := HI.eqI hI2238 (p := 231) (b := 17) (hv2246)
                have y2248 : (gI _ 231 17).toInt = (gI _ 231 17).toInt + 1 := hr2241.1
                have pg2250 := PG.cong (hP.1 (by decide)) hI2193 (((hF2194.2.1 238 (by decide)).trans ((hF1506.2.1 238 (by decide)).trans (hF1495.2.1 238 (by decide))))) (((hF2194.2.1 239 (by decide)).trans ((hF1506.2.1 239 (by decide)).trans (hF1495.2.1 239 (by decide))))) (((hF2194.2.1 240 (by decide)).trans ((hF1506.2.1 240 (by decide)).trans (hF1495.2.1 240 (by decide))))) (((hF2194.2.1 241 (by decide)).trans ((hF1506.2.1 241 (by decide)).trans (hF1495.2.1 241 (by decide))))) (((hF2194.1 231 17 (by decide)).trans ((hF1506.1 231 17 (by decide)).trans (hF1495.1 231 17 (by decide))))) (((hF2194.1 231 23 (by decide)).trans ((hF1506.1 231 23 (by decide)).trans (hF1495.1 231 23 (by decide)))))
                have pg2249 := PG.emit (e' := 1) pg2250 hr2241 (hF2239.2.1 240 (by decide)) (hF2239.2.1 241 (by decide)) (hF2239.1 231 23 (by decide)) (Or.inl ⟨by omega, by omega, by decide, by decide⟩)
                refine At.enter rfl ?_
                refine r_aload_n rfl ?_
                refine r_dup rfl ?_
                refine q_getI (Sh.int hI2238.1 kx_231 rfl) v2184 (((hF2239.1 231 20 (by decide)).trans ((hF2194.1 231 20 (by decide)).trans ((hF1506.1 231 20 (by decide)).trans (hF1495.1 231 20 (by decide))))).trans hv2184) ?_
                refine r_iconst 1 rfl ?_
                refine q_iaddO (fun v2251 _ => ?_)
                refine q_putI (Sh.int hI2238.1 kx_231 rfl) rfl ?_
                have hI2252 := HI.wI0 hI2238 kx_231 rfl (p := 231) (b := 20) (v := v2251) rfl
                have hF2253 := Fr.wI (p := 231) (b := 20) (v := v2251) hF2242 rfl
                refine Ar.fall 45 rfl ?_
                refine At.enter rfl ?_
                refine q_vret ?_
                refine At.enter rfl ?_
                refine r_iconst 3 rfl ?_
                refine r_ireti ?_
                have x2254 := HI.eqI hI2252 (p := 231) (b := 8) ((((gI_sI_ne (by decide)).trans ((hF2239.1 231 8 (by decide)).trans ((hF2194.1 231 8 (by decide)).trans ((hF1506.1 231 8 (by decide)).trans (hF1495.1 231 8 (by decide)))))).trans hv1))
                have x2255 := HI.eqI hI2252 (p := 231) (b := 9) ((((gI_sI_ne (by decide)).trans (hF2239.1 231 9 (by decide))).trans hv2205))
                have x2256 := HI.eqI hI2252 (p := 231) (b := 10) ((((gI_sI_ne (by decide)).trans (hF2239.1 231 10 (by decide))).trans hv2207))
                have x2257 := HI.eqI hI2252 (p := 231) (b := 11) ((((gI_sI_ne (by decide)).trans (hF2239.1 231 11 (by decide))).trans hv2209))
                obtain ⟨v2258, hv2258⟩ : ∃ v, gJ g2192 231 12 = v := ⟨_, rfl⟩
                have x2259 := HI.eqJ hI2252 (b := 12) ((((gJ_sI_ne (by decide)).trans (hF2239.2.2 231 12 (by decide))).trans hv2258))
                have x2260 := HI.eqI hI2252 (p := 231) (b := 14) ((((gI_sI_ne (by decide)).trans (hF2239.1 231 14 (by decide))).trans hv2211))
                have x2261 := HI.eqI hI2252 (p := 231) (b := 17) (((gI_sI_ne (by decide)).trans hv2246))
                have x2262 := HI.eqI hI2252 (p := 231) (b := 23) ((((gI_sI_ne (by decide)).trans ((hF2239.1 231 23 (by decide)).trans ((hF2194.1 231 23 (by decide)).trans ((hF1506.1 231 23 (by decide)).trans (hF1495.1 231 23 (by decide)))))).trans hv8))
                have x2263 := HI.eqI hI0 (p := 231) (b := 9) (hv2)
                have zv2264 : (3 : Int32).toInt = 3 := rfl
                have pg2265 := PG.cong pg2249 hI2252 ((gA_sI)) ((gA_sI)) ((gA_sI)) ((gA_sI)) ((gI_sI_ne (by decide))) ((gI_sI_ne (by decide)))
                have w262266 := W26.cong c2218 hI2252 (((gI_sI_ne (by decide)).trans (hF2239.1 231 9 (by decide)))) (((gI_sI_ne (by decide)).trans (hF2239.1 231 10 (by decide)))) (((gI_sI_ne (by decide)).trans (hF2239.1 231 11 (by decide)))) (((gJ_sI_ne (by decide)).trans (hF2239.2.2 231 12 (by decide))))
                exact ⟨_, rfl, hI2252, hF2253, _, rfl, by decide, ⟨by omega, by omega, by omega, by omega, w262266, by omega, by omega, (fun hbad => ⟨by omega, (PT.mk (fun h => False.elim (by omega)) (fun _ => pg2265) (fun h h9 => False.elim (by omega)) (fun h => False.elim (by omega)))⟩), (fun hbad => by omega)⟩⟩
            · have c2185_ : v2184.toInt < 50 := en_i_ge_f c2185
              refine At.enter rfl ?_
              refine r_iconst 1 rfl ?_
              refine r_goto ?_
              refine At.enter rfl ?_
              have x2267 := HI.eqI hI1505 (p := 231) (b := 8) ((((hF1506.1 231 8 (by decide)).trans (hF1495.1 231 8 (by decide))).trans hv1))
              have x2268 := HI.eqI hI1505 (p := 231) (b := 9) ((((hF1506.1 231 9 (by decide)).trans (hF1495.1 231 9 (by decide))).trans hv2))
              have x2269 := HI.eqI hI1505 (p := 231) (b := 10) ((((hF1506.1 231 10 (by decide)).trans (hF1495.1 231 10 (by decide))).trans hv3))
              have x2270 := HI.eqI hI1505 (p := 231) (b := 11) ((((hF1506.1 231 11 (by decide)).trans (hF1495.1 231 11 (by decide))).trans hv4))
              have w262271 := W26.cong hW hI1505 (((hF1506.1 231 9 (by decide)).trans (hF1495.1 231 9 (by decide)))) (((hF1506.1 231 10 (by decide)).trans (hF1495.1 231 10 (by decide)))) (((hF1506.1 231 11 (by decide)).trans (hF1495.1 231 11 (by decide)))) (((hF1506.2.2 231 12 (by decide)).trans (hF1495.2.2 231 12 (by decide))))
              have zv2272 : (1 : Int32).toInt = 1 := rfl
              refine r_callV 22 rfl [.ref 231, .int 1] [] (Nat.le_of_ble_eq_true rfl) rfl (T_X11_must_231 _ hI1505 1 (by decide) (by refine ⟨?_, ?_, ?_, ?_⟩ <;> omega) w262271) ?_
              rintro _ _ ⟨g2273, rfl, hI2274, hF2275, rfl, hr2277⟩
              refine At.stn ?_
              have hF2278 := Fr.tr hF1509 hF2275 rfl rfl
              have zv2279 : (1 : Int32).toInt = 1 := rfl
              have x2280 := HI.eqI hI1505 (p := 231) (b := 8) ((((hF1506.1 231 8 (by decide)).trans (hF1495.1 231 8 (by decide))).trans hv1))
              have x2281 := HI.eqI hI1505 (p := 231) (b := 9) ((((hF1506.1 231 9 (by decide)).trans (hF1495.1 231 9 (by decide))).trans hv2))
              have x2282 := HI.eqI hI1505 (p := 231) (b := 10) ((((hF1506.1 231 10 (by decide)).trans (hF1495.1 231 10 (by decide))).trans hv3))
              have x2283 := HI.eqI hI1505 (p := 231) (b := 11) ((((hF1506.1 231 11 (by decide)).trans (hF1495.1 231 11 (by decide))).trans hv4))
              have x2284 := HI.eqI hI1505 (p := 231) (b := 14) ((((hF1506.1 231 14 (by decide)).trans (hF1495.1 231 14 (by decide))).trans hv6))
              have x2285 := HI.eqI hI2274 (p := 231) (b := 8) ((((hF2275.1 231 8 (by decide)).trans ((hF1506.1 231 8 (by decide)).trans (hF1495.1 231 8 (by decide)))).trans hv1))
              obtain ⟨v2286, hv2286⟩ : ∃ v, gI g2273 231 9 = v := ⟨_, rfl⟩
              have rv2286 := RgF.at hI2274.2.1 (p := 231) (b := 9) rfl
              rw [hv2286] at rv2286
              dsimp only at rv2286
              have tv2286 := congrArg Int32.toInt hv2286
              have x2287 := HI.eqI hI2274 (p := 231) (b := 9) (hv2286)
              obtain ⟨v2288, hv2288⟩ : ∃ v, gI g2273 231 10 = v := ⟨_, rfl⟩
              have rv2288 := RgF.at hI2274.2.1 (p := 231) (b := 10) rfl
              rw [hv2288] at rv2288
              dsimp only at rv2288
              have tv2288 := congrArg Int32.toInt hv2288
              have x2289 := HI.eqI hI2274 (p := 231) (b := 10) (hv2288)
              obtain ⟨v2290, hv2290⟩ : ∃ v, gI g2273 231 11 = v := ⟨_, rfl⟩
              have tv2290 := congrArg Int32.toInt hv2290
              have x2291 := HI.eqI hI2274 (p := 231) (b := 11) (hv2290)
              obtain ⟨v2292, hv2292⟩ : ∃ v, gI g2273 231 14 = v := ⟨_, rfl⟩
              have tv2292 := congrArg Int32.toInt hv2292
              have x2293 := HI.eqI hI2274 (p := 231) (b := 14) (hv2292)
              obtain ⟨c2294, c2295, c2296, c2297, c2298, c2299, c2300⟩ := hr2277
              refine At.enter rfl ?_
              refine r_aload_n rfl ?_
              refine q_getI (Sh.int hI2274.1 kx_231 rfl) v2292 hv2292 ?_
              refine r_ifs 29 rfl (fun c2301 => ?_) (fun c2301 => ?_)
              · have c2301_ : v2292.toInt ≠ 0 := en_k_ne_t c2301
                clear c2300
                refine At.enter rfl ?_
                refine q_vret ?_
                refine At.enter rfl ?_
                refine r_iconst 3 rfl ?_
                refine r_ireti ?_
                have x2302 := HI.eqI hI2274 (p := 231) (b := 8) ((((hF2275.1 231 8 (by decide)).trans ((hF1506.1 231 8 (by decide)).trans (hF1495.1 231 8 (by decide)))).trans hv1))
                have x2303 := HI.eqI hI2274 (p := 231) (b := 9) (hv2286)
                have x2304 := HI.eqI hI2274 (p := 231) (b := 10) (hv2288)
                have x2305 := HI.eqI hI2274 (p := 231) (b := 11) (hv2290)
                obtain ⟨v2306, hv2306⟩ : ∃ v, gJ g2273 231 12 = v := ⟨_, rfl⟩
                have x2307 := HI.eqJ hI2274 (b := 12) (hv2306)
                have x2308 := HI.eqI hI2274 (p := 231) (b := 14) (hv2292)
                have x2309 := HI.eqI hI2274 (p := 231) (b := 17) ((((hF2275.1 231 17 (by decide)).trans ((hF1506.1 231 17 (by decide)).trans (hF1495.1 231 17 (by decide)))).trans hv7))
                have x2310 := HI.eqI hI2274 (p := 231) (b := 23) ((((hF2275.1 231 23 (by decide)).trans ((hF1506.1 231 23 (by decide)).trans (hF1495.1 231 23 (by decide)))).trans hv8))
                have x2311 := HI.eqI hI0 (p := 231) (b := 9) (hv2)
                have zv2312 : (3 : Int32).toInt = 3 := rfl
                exact ⟨_, rfl, hI2274, hF2278, _, rfl, by decide, ⟨by omega, by omega, by omega, by omega, c2299, by omega, by omega, (fun hbad => ⟨by omega, (PT.mk (fun h => False.elim (by omega)) (fun h => False.elim (by omega)) (fun h h9 => False.elim (by omega)) (fun h => False.elim (by omega)))⟩), (fun hbad => by omega)⟩⟩
              · have c2301_ : v2292.toInt = 0 := en_k_ne_f c2301
                obtain ⟨i2313, i2314, i2315⟩ := c2300 (by omega)
                refine At.enter rfl ?_
                refine r_aload_n rfl ?_
                refine r_iload_n rfl ?_
                refine r_iload_n rfl ?_
                have x2316 := HI.eqI hI2274 (p := 231) (b := 17) ((((hF2275.1 231 17 (by decide)).trans ((hF1506.1 231 17 (by decide)).trans (hF1495.1 231 17 (by decide)))).trans hv7))
                have zv2317 : (0 : Int32).toInt = 0 := rfl
                refine r_callV 35 rfl [.ref 231, .int 0, .int v2183] [] (Nat.le_of_ble_eq_true rfl) rfl (T_X11_emit_231 _ hI2274 0 v2183 (by omega)) ?_
                rintro _ _ ⟨g2318, rfl, hI2319, hF2320, rfl, hr2322⟩
                refine At.stn ?_
                have hF2323 := Fr.tr hF2278 hF2320 rfl rfl
                have zv2324 : (0 : Int32).toInt = 0 := rfl
                have x2325 := HI.eqI hI2274 (p := 231) (b := 17) ((((hF2275.1 231 17 (by decide)).trans ((hF1506.1 231 17 (by decide)).trans (hF1495.1 231 17 (by decide)))).trans hv7))
                have x2326 := HI.eqI hI2274 (p := 231) (b := 23) ((((hF2275.1 231 23 (by decide)).trans ((hF1506.1 231 23 (by decide)).trans (hF1495.1 231 23 (by decide)))).trans hv8))
                obtain ⟨v2327, hv2327⟩ : ∃ v, gI g2318 231 17 = v := ⟨_, rfl⟩
                have rv2327 := RgF.at hI2319.2.1 (p := 231) (b := 17) rfl
                rw [hv2327] at rv2327
                dsimp only at rv2327
                have tv2327 := congrArg Int32.toInt hv2327
                have x2328 := HI.eqI hI2319 (p := 231) (b := 17) (hv2327)
                have y2329 : (gI _ 231 17).toInt = (gI _ 231 17).toInt + 1 := hr2322.1
                have pg2331 := PG.cong (hP.1 (by decide)) hI2274 (((hF2275.2.1 238 (by decide)).trans ((hF1506.2.1 238 (by decide)).trans (hF1495.2.1 238 (by decide))))) (((hF2275.2.1 239 (by decide)).trans ((hF1506.2.1 239 (by decide)).trans (hF1495.2.1 239 (by decide))))) (((hF2275.2.1 240 (by decide)).trans ((hF1506.2.1 240 (by decide)).trans (hF1495.2.1 240 (by decide))))) (((hF2275.2.1 241 (by decide)).trans ((hF1506.2.1 241 (by decide)).trans (hF1495.2.1 241 (by decide))))) (((hF2275.1 231 17 (by decide)).trans ((hF1506.1 231 17 (by decide)).trans (hF1495.1 231 17 (by decide))))) (((hF2275.1 231 23 (by decide)).trans ((hF1506.1 231 23 (by decide)).trans (hF1495.1 231 23 (by decide)))))
                have pg2330 := PG.emit (e' := 1) pg2331 hr2322 (hF2320.2.1 240 (by decide)) (hF2320.2.1 241 (by decide)) (hF2320.1 231 23 (by decide)) (Or.inl ⟨by omega, by omega, by decide, by decide⟩)
                refine At.enter rfl ?_
                refine r_aload_n rfl ?_
                refine r_dup rfl ?_
                refine q_getI (Sh.int hI2319.1 kx_231 rfl) v2184 (((hF2320.1 231 20 (by decide)).trans ((hF2275.1 231 20 (by decide)).trans ((hF1506.1 231 20 (by decide)).trans (hF1495.1 231 20 (by decide))))).trans hv2184) ?_
                refine r_iconst 1 rfl ?_
                have bv2332 := q_bnd v2184
                refine q_iadd (v2184.toInt + 1) rfl (by omega) (fun v2333 hv2333 => ?_)
                refine q_putI (Sh.int hI2319.1 kx_231 rfl) rfl ?_
                have hI2334 := HI.wI0 hI2319 kx_231 rfl (p := 231) (b := 20) (v := v2333) rfl
                have hF2335 := Fr.wI (p := 231) (b := 20) (v := v2333) hF2323 rfl
                refine Ar.fall 45 rfl ?_
                refine At.enter rfl ?_
                refine q_vret ?_
                refine At.enter rfl ?_
                refine r_iconst 3 rfl ?_
                refine r_ireti ?_
                have x2336 := HI.eqI hI2334 (p := 231) (b := 8) ((((gI_sI_ne (by decide)).trans ((hF2320.1 231 8 (by decide)).trans ((hF2275.1 231 8 (by decide)).trans ((hF1506.1 231 8 (by decide)).trans (hF1495.1 231 8 (by decide)))))).trans hv1))
                have x2337 := HI.eqI hI2334 (p := 231) (b := 9) ((((gI_sI_ne (by decide)).trans (hF2320.1 231 9 (by decide))).trans hv2286))
                have x2338 := HI.eqI hI2334 (p := 231) (b := 10) ((((gI_sI_ne (by decide)).trans (hF2320.1 231 10 (by decide))).trans hv2288))
                have x2339 := HI.eqI hI2334 (p := 231) (b := 11) ((((gI_sI_ne (by decide)).trans (hF2320.1 231 11 (by decide))).trans hv2290))
                obtain ⟨v2340, hv2340⟩ : ∃ v, gJ g2273 231 12 = v := ⟨_, rfl⟩
                have x2341 := HI.eqJ hI2334 (b := 12) ((((gJ_sI_ne (by decide)).trans (hF2320.2.2 231 12 (by decide))).trans hv2340))
                have x2342 := HI.eqI hI2334 (p := 231) (b := 14) ((((gI_sI_ne (by decide)).trans (hF2320.1 231 14 (by decide))).trans hv2292))
                have x2343 := HI.eqI hI2334 (p := 231) (b := 17) (((gI_sI_ne (by decide)).trans hv2327))
                have x2344 := HI.eqI hI2334 (p := 231) (b := 23) ((((gI_sI_ne (by decide)).trans ((hF2320.1 231 23 (by decide)).trans ((hF2275.1 231 23 (by decide)).trans ((hF1506.1 231 23 (by decide)).trans (hF1495.1 231 23 (by decide)))))).trans hv8))
                have x2345 := HI.eqI hI0 (p := 231) (b := 9) (hv2)
                have zv2346 : (3 : Int32).toInt = 3 := rfl
                have pg2347 := PG.cong pg2330 hI2334 ((gA_sI)) ((gA_sI)) ((gA_sI)) ((gA_sI)) ((gI_sI_ne (by decide))) ((gI_sI_ne (by decide)))
                have w262348 := W26.cong c2299 hI2334 (((gI_sI_ne (by decide)).trans (hF2320.1 231 9 (by decide)))) (((gI_sI_ne (by decide)).trans (hF2320.1 231 10 (by decide)))) (((gI_sI_ne (by decide)).trans (hF2320.1 231 11 (by decide)))) (((gJ_sI_ne (by decide)).trans (hF2320.2.2 231 12 (by decide))))
                exact ⟨_, rfl, hI2334, hF2335, _, rfl, by decide, ⟨by omega, by omega, by omega, by omega, w262348, by omega, by omega, (fun hbad => ⟨by omega, (PT.mk (fun h => False.elim (by omega)) (fun _ => pg2347) (fun h h9 => False.elim (by omega)) (fun h => False.elim (by omega)))⟩), (fun hbad => by omega)⟩⟩
  · have c1502_ : v1496.toInt ≠ 0 := en_k_eq_f c1502
    refine At.enter rfl ?_
    refine r_aload_n rfl ?_
    refine r_bipush 31 rfl ?_
    refine q_inlV 15 rfl [.ref 231, .int 31] [] (Nat.le_of_ble_eq_true rfl) rfl ?_
    refine Ev.mk rfl rfl ⟨Nat.le_of_ble_eq_true rfl, Or.inr (q_rc hI1494.1 kx_231 rfl)⟩ ?_
    show At _ none _ _ (0, [(0, .ref 231), (1, .int 31)], [], (_, _)) _
    refine At.enter rfl ?_
    refine r_aload_n rfl ?_
    refine r_aload_n rfl ?_
    obtain ⟨v2349, hv2349⟩ : ∃ v, gI g0 231 24 = v := ⟨_, rfl⟩
    refine q_getI (Sh.int hI1494.1 kx_231 rfl) v2349 ((hF1495.1 231 24 (by decide)).trans hv2349) ?_
    refine r_bipush 8 rfl ?_
    refine r_ics 10 rfl (fun c2350 => ?_) (fun c2350 => ?_)
    · have c2350_ : v2349.toInt ≥ 8 := en_i_ge_t c2350
      refine At.enter rfl ?_
      refine r_iconst 0 rfl ?_
      refine Ar.fall 15 rfl ?_
      refine At.enter rfl ?_
      have x2351 := HI.eqI hI1494 (p := 231) (b := 8) (((hF1495.1 231 8 (by decide)).trans hv1))
      have x2352 := HI.eqI hI1494 (p := 231) (b := 9) (((hF1495.1 231 9 (by decide)).trans hv2))
      have x2353 := HI.eqI hI1494 (p := 231) (b := 10) (((hF1495.1 231 10 (by decide)).trans hv3))
      have x2354 := HI.eqI hI1494 (p := 231) (b := 11) (((hF1495.1 231 11 (by decide)).trans hv4))
      have w262355 := W26.cong hW hI1494 ((hF1495.1 231 9 (by decide))) ((hF1495.1 231 10 (by decide))) ((hF1495.1 231 11 (by decide))) ((hF1495.2.2 231 12 (by decide)))
      have zv2356 : (0 : Int32).toInt = 0 := rfl
      refine r_callV 18 rfl [.ref 231, .int 0] [] (Nat.le_of_ble_eq_true rfl) rfl (T_X11_must_231 _ hI1494 0 (by decide) (by refine ⟨?_, ?_, ?_, ?_⟩ <;> omega) w262355) ?_
      rintro _ _ ⟨g2357, rfl, hI2358, hF2359, rfl, hr2361⟩
      refine At.stn ?_
      have hF2362 := Fr.tr hF1498 hF2359 rfl rfl
      have zv2363 : (0 : Int32).toInt = 0 := rfl
      have x2364 := HI.eqI hI1494 (p := 231) (b := 8) (((hF1495.1 231 8 (by decide)).trans hv1))
      have x2365 := HI.eqI hI1494 (p := 231) (b := 9) (((hF1495.1 231 9 (by decide)).trans hv2))
      have x2366 := HI.eqI hI1494 (p := 231) (b := 10) (((hF1495.1 231 10 (by decide)).trans hv3))
      have x2367 := HI.eqI hI1494 (p := 231) (b := 11) (((hF1495.1 231 11 (by decide)).trans hv4))
      have x2368 := HI.eqI hI1494 (p := 231) (b := 14) (((hF1495.1 231 14 (by decide)).trans hv6))
      have x2369 := HI.eqI hI2358 (p := 231) (b := 8) ((((hF2359.1 231 8 (by decide)).trans (hF1495.1 231 8 (by decide))).trans hv1))
      obtain ⟨v2370, hv2370⟩ : ∃ v, gI g2357 231 9 = v := ⟨_, rfl⟩
      have rv2370 := RgF.at hI2358.2.1 (p := 231) (b := 9) rfl
      rw [hv2370] at rv2370
      dsimp only at rv2370
      have tv2370 := congrArg Int32.toInt hv2370
      have x2371 := HI.eqI hI2358 (p := 231) (b := 9) (hv2370)
      obtain ⟨v2372, hv2372⟩ : ∃ v, gI g2357 231 10 = v := ⟨_, rfl⟩
      have rv2372 := RgF.at hI2358.2.1 (p := 231) (b := 10) rfl
      rw [hv2372] at rv2372
      dsimp only at rv2372
      have tv2372 := congrArg Int32.toInt hv2372
      have x2373 := HI.eqI hI2358 (p := 231) (b := 10) (hv2372)
      obtain ⟨v2374, hv2374⟩ : ∃ v, gI g2357 231 11 = v := ⟨_, rfl⟩
      have tv2374 := congrArg Int32.toInt hv2374
      have x2375 := HI.eqI hI2358 (p := 231) (b := 11) (hv2374)
      obtain ⟨v2376, hv2376⟩ : ∃ v, gI g2357 231 14 = v := ⟨_, rfl⟩
      have tv2376 := congrArg Int32.toInt hv2376
      have x2377 := HI.eqI hI2358 (p := 231) (b := 14) (hv2376)
      obtain ⟨c2378, c2379, c2380, c2381, c2382, c2383, c2384⟩ := hr2361
      refine At.enter rfl ?_
      refine r_aload_n rfl ?_
      refine q_getI (Sh.int hI2358.1 kx_231 rfl) v2376 hv2376 ?_
      refine r_ifs 25 rfl (fun c2385 => ?_) (fun c2385 => ?_)
      · have c2385_ : v2376.toInt ≠ 0 := en_k_ne_t c2385
        clear c2384
        refine At.enter rfl ?_
        refine q_vret ?_
        refine At.enter rfl ?_
        refine r_iconst 1 rfl ?_
        refine r_ireti ?_
        have x2386 := HI.eqI hI2358 (p := 231) (b := 8) ((((hF2359.1 231 8 (by decide)).trans (hF1495.1 231 8 (by decide))).trans hv1))
        have x2387 := HI.eqI hI2358 (p := 231) (b := 9) (hv2370)
        have x2388 := HI.eqI hI2358 (p := 231) (b := 10) (hv2372)
        have x2389 := HI.eqI hI2358 (p := 231) (b := 11) (hv2374)
        obtain ⟨v2390, hv2390⟩ : ∃ v, gJ g2357 231 12 = v := ⟨_, rfl⟩
        have x2391 := HI.eqJ hI2358 (b := 12) (hv2390)
        have x2392 := HI.eqI hI2358 (p := 231) (b := 14) (hv2376)
        have x2393 := HI.eqI hI2358 (p := 231) (b := 17) ((((hF2359.1 231 17 (by decide)).trans (hF1495.1 231 17 (by decide))).trans hv7))
        have x2394 := HI.eqI hI2358 (p := 231) (b := 23) ((((hF2359.1 231 23 (by decide)).trans (hF1495.1 231 23 (by decide))).trans hv8))
        have x2395 := HI.eqI hI0 (p := 231) (b := 9) (hv2)
        have zv2396 : (1 : Int32).toInt = 1 := rfl
        have pg2397 := PG.cong (hP.1 (by decide)) hI2358 (((hF2359.2.1 238 (by decide)).trans (hF1495.2.1 238 (by decide)))) (((hF2359.2.1 239 (by decide)).trans (hF1495.2.1 239 (by decide)))) (((hF2359.2.1 240 (by decide)).trans (hF1495.2.1 240 (by decide)))) (((hF2359.2.1 241 (by decide)).trans (hF1495.2.1 241 (by decide)))) (((hF2359.1 231 17 (by decide)).trans (hF1495.1 231 17 (by decide)))) (((hF2359.1 231 23 (by decide)).trans (hF1495.1 231 23 (by decide))))
        exact ⟨_, rfl, hI2358, hF2362, _, rfl, by decide, ⟨by omega, by omega, by omega, by omega, c2383, by omega, by omega, (fun hbad => ⟨by omega, (PT.mk (fun _ => pg2397) (fun h => False.elim (by omega)) (fun h h9 => False.elim (by omega)) (fun h => False.elim (by omega)))⟩), (fun hbad => by omega)⟩⟩
      · have c2385_ : v2376.toInt = 0 := en_k_ne_f c2385
        obtain ⟨i2398, i2399, i2400⟩ := c2384 (by omega)
        refine At.enter rfl ?_
        refine r_aload_n rfl ?_
        refine r_dup rfl ?_
        refine q_getI (Sh.int hI2358.1 kx_231 rfl) v2349 (((hF2359.1 231 24 (by decide)).trans (hF1495.1 231 24 (by decide))).trans hv2349) ?_
        refine r_iconst 1 rfl ?_
        refine q_iaddO (fun v2401 _ => ?_)
        refine q_putI (Sh.int hI2358.1 kx_231 rfl) rfl ?_
        have hI2402 := HI.wI0 hI2358 kx_231 rfl (p := 231) (b := 24) (v := v2401) rfl
        have hF2403 := Fr.wI (p := 231) (b := 24) (v := v2401) hF2362 rfl
        refine r_aload_n rfl ?_
        refine r_iload_n rfl ?_
        refine r_iconst 0 rfl ?_
        have x2404 := HI.eqI hI2402 (p := 231) (b := 23) ((((gI_sI_ne (by decide)).trans ((hF2359.1 231 23 (by decide)).trans (hF1495.1 231 23 (by decide)))).trans hv8))
        have zv2405 : (31 : Int32).toInt = 31 := rfl
        have zv2406 : (0 : Int32).toInt = 0 := rfl
        refine r_callV 41 rfl [.ref 231, .int 31, .int 0] [] (Nat.le_of_ble_eq_true rfl) rfl (T_X11_push_231 _ hI2402 31 (by decide) 0 (by decide) (by omega)) ?_
        rintro _ _ ⟨g2407, rfl, hI2408, hF2409, rfl, hr2411⟩
        refine At.stn ?_
        have hF2412 := Fr.tr hF2403 hF2409 rfl rfl
        have zv2413 : (31 : Int32).toInt = 31 := rfl
        have zv2414 : (0 : Int32).toInt = 0 := rfl
        have x2415 := HI.eqI hI2402 (p := 231) (b := 17) ((((gI_sI_ne (by decide)).trans ((hF2359.1 231 17 (by decide)).trans (hF1495.1 231 17 (by decide)))).trans hv7))
        have x2416 := HI.eqI hI2402 (p := 231) (b := 23) ((((gI_sI_ne (by decide)).trans ((hF2359.1 231 23 (by decide)).trans (hF1495.1 231 23 (by decide)))).trans hv8))
        have x2417 := HI.eqI hI2408 (p := 231) (b := 17) ((((hF2409.1 231 17 (by decide)).trans ((gI_sI_ne (by decide)).trans ((hF2359.1 231 17 (by decide)).trans (hF1495.1 231 17 (by decide))))).trans hv7))
        obtain ⟨v2418, hv2418⟩ : ∃ v, gI g2407 231 23 = v := ⟨_, rfl⟩
        have rv2418 := RgF.at hI2408.2.1 (p := 231) (b := 23) rfl
        rw [hv2418] at rv2418
        dsimp only at rv2418
        have tv2418 := congrArg Int32.toInt hv2418
        have x2419 := HI.eqI hI2408 (p := 231) (b := 23) (hv2418)
        have y2420 : (gI _ 231 23).toInt = (gI _ 231 23).toInt + 1 := hr2411.1
        have pg2421 := PG.cong (hP.1 (by decide)) hI2402 (((gA_sI).trans ((hF2359.2.1 238 (by decide)).trans (hF1495.2.1 238 (by decide))))) (((gA_sI).trans ((hF2359.2.1 239 (by decide)).trans (hF1495.2.1 239 (by decide))))) (((gA_sI).trans ((hF2359.2.1 240 (by decide)).trans (hF1495.2.1 240 (by decide))))) (((gA_sI).trans ((hF2359.2.1 241 (by decide)).trans (hF1495.2.1 241 (by decide))))) (((gI_sI_ne (by decide)).trans ((hF2359.1 231 17 (by decide)).trans (hF1495.1 231 17 (by decide))))) (((gI_sI_ne (by decide)).trans ((hF2359.1 231 23 (by decide)).trans (hF1495.1 231 23 (by decide)))))
        have pg2422 := PG.push (e' := 0) pg2421 hr2411 (hF2409.2.1 238 (by decide)) (hF2409.2.1 239 (by decide)) (hF2409.1 231 17 (by decide)) ⟨by omega, by omega⟩ (Or.inl (by omega)) (by omega) (by omega)
        refine At.enter rfl ?_
        refine q_vret ?_
        refine At.enter rfl ?_
        refine r_iconst 1 rfl ?_
        refine r_ireti ?_
        have x2423 := HI.eqI hI2408 (p := 231) (b := 8) ((((hF2409.1 231 8 (by decide)).trans ((gI_sI_ne (by decide)).trans ((hF2359.1 231 8 (by decide)).trans (hF1495.1 231 8 (by decide))))).trans hv1))
        have x2424 := HI.eqI hI2408 (p := 231) (b := 9) ((((hF2409.1 231 9 (by decide)).trans (gI_sI_ne (by decide))).trans hv2370))
        have x2425 := HI.eqI hI2408 (p := 231) (b := 10) ((((hF2409.1 231 10 (by decide)).trans (gI_sI_ne (by decide))).trans hv2372))
        have x2426 := HI.eqI hI2408 (p := 231) (b := 11) ((((hF2409.1 231 11 (by decide)).trans (gI_sI_ne (by decide))).trans hv2374))
        obtain ⟨v2427, hv2427⟩ : ∃ v, gJ g2357 231 12 = v := ⟨_, rfl⟩
        have x2428 := HI.eqJ hI2408 (b := 12) ((((hF2409.2.2 231 12 (by decide)).trans (gJ_sI_ne (by decide))).trans hv2427))
        have x2429 := HI.eqI hI2408 (p := 231) (b := 14) ((((hF2409.1 231 14 (by decide)).trans (gI_sI_ne (by decide))).trans hv2376))
        have x2430 := HI.eqI hI2408 (p := 231) (b := 17) ((((hF2409.1 231 17 (by decide)).trans ((gI_sI_ne (by decide)).trans ((hF2359.1 231 17 (by decide)).trans (hF1495.1 231 17 (by decide))))).trans hv7))
        have x2431 := HI.eqI hI2408 (p := 231) (b := 23) (hv2418)
        have x2432 := HI.eqI hI0 (p := 231) (b := 9) (hv2)
        have zv2433 : (1 : Int32).toInt = 1 := rfl
        have w262434 := W26.cong c2383 hI2408 (((hF2409.1 231 9 (by decide)).trans (gI_sI_ne (by decide)))) (((hF2409.1 231 10 (by decide)).trans (gI_sI_ne (by decide)))) (((hF2409.1 231 11 (by decide)).trans (gI_sI_ne (by decide)))) (((hF2409.2.2 231 12 (by decide)).trans (gJ_sI_ne (by decide))))
        exact ⟨_, rfl, hI2408, hF2412, _, rfl, by decide, ⟨by omega, by omega, by omega, by omega, w262434, by omega, by omega, (fun hbad => ⟨by omega, (PT.mk (fun _ => pg2422) (fun h => False.elim (by omega)) (fun h h9 => False.elim (by omega)) (fun h => False.elim (by omega)))⟩), (fun hbad => by omega)⟩⟩
    · have c2350_ : v2349.toInt < 8 := en_i_ge_f c2350
      refine At.enter rfl ?_
      refine r_iconst 1 rfl ?_
      refine r_goto ?_
      refine At.enter rfl ?_
      have x2435 := HI.eqI hI1494 (p := 231) (b := 8) (((hF1495.1 231 8 (by decide)).trans hv1))
      have x2436 := HI.eqI hI1494 (p := 231) (b := 9) (((hF1495.1 231 9 (by decide)).trans hv2))
      have x2437 := HI.eqI hI1494 (p := 231) (b := 10) (((hF1495.1 231 10 (by decide)).trans hv3))
      have x2438 := HI.eqI hI1494 (p := 231) (b := 11) (((hF1495.1 231 11 (by decide)).trans hv4))
      have w262439 := W26.cong hW hI1494 ((hF1495.1 231 9 (by decide))) ((hF1495.1 231 10 (by decide))) ((hF1495.1 231 11 (by decide))) ((hF1495.2.2 231 12 (by decide)))
      have zv2440 : (1 : Int32).toInt = 1 := rfl
      refine r_callV 18 rfl [.ref 231, .int 1] [] (Nat.le_of_ble_eq_true rfl) rfl (T_X11_must_231 _ hI1494 1 (by decide) (by refine ⟨?_, ?_, ?_, ?_⟩ <;> omega) w262439) ?_
      rintro _ _ ⟨g2441, rfl, hI2442, hF2443, rfl, hr2445⟩
      refine At.stn ?_
      have hF2446 := Fr.tr hF1498 hF2443 rfl rfl
      have zv2447 : (1 : Int32).toInt = 1 := rfl
      have x2448 := HI.eqI hI1494 (p := 231) (b := 8) (((hF1495.1 231 8 (by decide)).trans hv1))
      have x2449 := HI.eqI hI1494 (p := 231) (b := 9) (((hF1495.1 231 9 (by decide)).trans hv2))
      have x2450 := HI.eqI hI1494 (p := 231) (b := 10) (((hF1495.1 231 10 (by decide)).trans hv3))
      have x2451 := HI.eqI hI1494 (p := 231) (b := 11) (((hF1495.1 231 11 (by decide)).trans hv4))
      have x2452 := HI.eqI hI1494 (p := 231) (b := 14) (((hF1495.1 231 14 (by decide)).trans hv6))
      have x2453 := HI.eqI hI2442 (p := 231) (b := 8) ((((hF2443.1 231 8 (by decide)).trans (hF1495.1 231 8 (by decide))).trans hv1))
      obtain ⟨v2454, hv2454⟩ : ∃ v, gI g2441 231 9 = v := ⟨_, rfl⟩
      have rv2454 := RgF.at hI2442.2.1 (p := 231) (b := 9) rfl
      rw [hv2454] at rv2454
      dsimp only at rv2454
      have tv2454 := congrArg Int32.toInt hv2454
      have x2455 := HI.eqI hI2442 (p := 231) (b := 9) (hv2454)
      obtain ⟨v2456, hv2456⟩ : ∃ v, gI g2441 231 10 = v := ⟨_, rfl⟩
      have rv2456 := RgF.at hI2442.2.1 (p := 231) (b := 10) rfl
      rw [hv2456] at rv2456
      dsimp only at rv2456
      have tv2456 := congrArg Int32.toInt hv2456
      have x2457 := HI.eqI hI2442 (p := 231) (b := 10) (hv2456)
      obtain ⟨v2458, hv2458⟩ : ∃ v, gI g2441 231 11 = v := ⟨_, rfl⟩
      have tv2458 := congrArg Int32.toInt hv2458
      have x2459 := HI.eqI hI2442 (p := 231) (b := 11) (hv2458)
      obtain ⟨v2460, hv2460⟩ : ∃ v, gI g2441 231 14 = v := ⟨_, rfl⟩
      have tv2460 := congrArg Int32.toInt hv2460
      have x2461 := HI.eqI hI2442 (p := 231) (b := 14) (hv2460)
      obtain ⟨c2462, c2463, c2464, c2465, c2466, c2467, c2468⟩ := hr2445
      refine At.enter rfl ?_
      refine r_aload_n rfl ?_
      refine q_getI (Sh.int hI2442.1 kx_231 rfl) v2460 hv2460 ?_
      refine r_ifs 25 rfl (fun c2469 => ?_) (fun c2469 => ?_)
      · have c2469_ : v2460.toInt ≠ 0 := en_k_ne_t c2469
        clear c2468
        refine At.enter rfl ?_
        refine q_vret ?_
        refine At.enter rfl ?_
        refine r_iconst 1 rfl ?_
        refine r_ireti ?_
        have x2470 := HI.eqI hI2442 (p := 231) (b := 8) ((((hF2443.1 231 8 (by decide)).trans (hF1495.1 231 8 (by decide))).trans hv1))
        have x2471 := HI.eqI hI2442 (p := 231) (b := 9) (hv2454)
        have x2472 := HI.eqI hI2442 (p := 231) (b := 10) (hv2456)
        have x2473 := HI.eqI hI2442 (p := 231) (b := 11) (hv2458)
        obtain ⟨v2474, hv2474⟩ : ∃ v, gJ g2441 231 12 = v := ⟨_, rfl⟩
        have x2475 := HI.eqJ hI2442 (b := 12) (hv2474)
        have x2476 := HI.eqI hI2442 (p := 231) (b := 14) (hv2460)
        have x2477 := HI.eqI hI2442 (p := 231) (b := 17) ((((hF2443.1 231 17 (by decide)).trans (hF1495.1 231 17 (by decide))).trans hv7))
        have x2478 := HI.eqI hI2442 (p := 231) (b := 23) ((((hF2443.1 231 23 (by decide)).trans (hF1495.1 231 23 (by decide))).trans hv8))
        have x2479 := HI.eqI hI0 (p := 231) (b := 9) (hv2)
        have zv2480 : (1 : Int32).toInt = 1 := rfl
        have pg2481 := PG.cong (hP.1 (by decide)) hI2442 (((hF2443.2.1 238 (by decide)).trans (hF1495.2.1 238 (by decide)))) (((hF2443.2.1 239 (by decide)).trans (hF1495.2.1 239 (by decide)))) (((hF2443.2.1 240 (by decide)).trans (hF1495.2.1 240 (by decide)))) (((hF2443.2.1 241 (by decide)).trans (hF1495.2.1 241 (by decide)))) (((hF2443.1 231 17 (by decide)).trans (hF1495.1 231 17 (by decide)))) (((hF2443.1 231 23 (by decide)).trans (hF1495.1 231 23 (by decide))))
        exact ⟨_, rfl, hI2442, hF2446, _, rfl, by decide, ⟨by omega, by omega, by omega, by omega, c2467, by omega, by omega, (fun hbad => ⟨by omega, (PT.mk (fun _ => pg2481) (fun h => False.elim (by omega)) (fun h h9 => False.elim (by omega)) (fun h => False.elim (by omega)))⟩), (fun hbad => by omega)⟩⟩
      · have c2469_ : v2460.toInt = 0 := en_k_ne_f c2469
        obtain ⟨i2482, i2483, i2484⟩ := c2468 (by omega)
        refine At.enter rfl ?_
        refine r_aload_n rfl ?_
        refine r_dup rfl ?_
        refine q_getI (Sh.int hI2442.1 kx_231 rfl) v2349 (((hF2443.1 231 24 (by decide)).trans (hF1495.1 231 24 (by decide))).trans hv2349) ?_
        refine r_iconst 1 rfl ?_
        have bv2485 := q_bnd v2349
        refine q_iadd (v2349.toInt + 1) rfl (by omega) (fun v2486 hv2486 => ?_)
        refine q_putI (Sh.int hI2442.1 kx_231 rfl) rfl ?_
        have hI2487 := HI.wI0 hI2442 kx_231 rfl (p := 231) (b := 24) (v := v2486) rfl
        have hF2488 := Fr.wI (p := 231) (b := 24) (v := v2486) hF2446 rfl
        refine r_aload_n rfl ?_
        refine r_iload_n rfl ?_
        refine r_iconst 0 rfl ?_
        have x2489 := HI.eqI hI2487 (p := 231) (b := 23) ((((gI_sI_ne (by decide)).trans ((hF2443.1 231 23 (by decide)).trans (hF1495.1 231 23 (by decide)))).trans hv8))
        have zv2490 : (31 : Int32).toInt = 31 := rfl
        have zv2491 : (0 : Int32).toInt = 0 := rfl
        refine r_callV 41 rfl [.ref 231, .int 31, .int 0] [] (Nat.le_of_ble_eq_true rfl) rfl (T_X11_push_231 _ hI2487 31 (by decide) 0 (by decide) (by omega)) ?_
        rintro _ _ ⟨g2492, rfl, hI2493, hF2494, rfl, hr2496⟩
        refine At.stn ?_
        have hF2497 := Fr.tr hF2488 hF2494 rfl rfl
        have zv2498 : (31 : Int32).toInt = 31 := rfl
        have zv2499 : (0 : Int32).toInt = 0 := rfl
        have x2500 := HI.eqI hI2487 (p := 231) (b := 17) ((((gI_sI_ne (by decide)).trans ((hF2443.1 231 17 (by decide)).trans (hF1495.1 231 17 (by decide)))).trans hv7))
        have x2501 := HI.eqI hI2487 (p := 231) (b := 23) ((((gI_sI_ne (by decide)).trans ((hF2443.1 231 23 (by decide)).trans (hF1495.1 231 23 (by decide)))).trans hv8))
        have x2502 := HI.eqI hI2493 (p := 231) (b := 17) ((((hF2494.1 231 17 (by decide)).trans ((gI_sI_ne (by decide)).trans ((hF2443.1 231 17 (by decide)).trans (hF1495.1 231 17 (by decide))))).trans hv7))
        obtain ⟨v2503, hv2503⟩ : ∃ v, gI g2492 231 23 = v := ⟨_, rfl⟩
        have rv2503 := RgF.at hI2493.2.1 (p := 231) (b := 23) rfl
        rw [hv2503] at rv2503
        dsimp only at rv2503
        have tv2503 := congrArg Int32.toInt hv2503
        have x2504 := HI.eqI hI2493 (p := 231) (b := 23) (hv2503)
        have y2505 : (gI _ 231 23).toInt = (gI _ 231 23).toInt + 1 := hr2496.1
        have pg2506 := PG.cong (hP.1 (by decide)) hI2487 (((gA_sI).trans ((hF2443.2.1 238 (by decide)).trans (hF1495.2.1 238 (by decide))))) (((gA_sI).trans ((hF2443.2.1 239 (by decide)).trans (hF1495.2.1 239 (by decide))))) (((gA_sI).trans ((hF2443.2.1 240 (by decide)).trans (hF1495.2.1 240 (by decide))))) (((gA_sI).trans ((hF2443.2.1 241 (by decide)).trans (hF1495.2.1 241 (by decide))))) (((gI_sI_ne (by decide)).trans ((hF2443.1 231 17 (by decide)).trans (hF1495.1 231 17 (by decide))))) (((gI_sI_ne (by decide)).trans ((hF2443.1 231 23 (by decide)).trans (hF1495.1 231 23 (by decide)))))
        have pg2507 := PG.push (e' := 0) pg2506 hr2496 (hF2494.2.1 238 (by decide)) (hF2494.2.1 239 (by decide)) (hF2494.1 231 17 (by decide)) ⟨by omega, by omega⟩ (Or.inl (by omega)) (by omega) (by omega)
        refine At.enter rfl ?_
        refine q_vret ?_
        refine At.enter rfl ?_
        refine r_iconst 1 rfl ?_
        refine r_ireti ?_
        have x2508 := HI.eqI hI2493 (p := 231) (b := 8) ((((hF2494.1 231 8 (by decide)).trans ((gI_sI_ne (by decide)).trans ((hF2443.1 231 8 (by decide)).trans (hF1495.1 231 8 (by decide))))).trans hv1))
        have x2509 := HI.eqI hI2493 (p := 231) (b := 9) ((((hF2494.1 231 9 (by decide)).trans (gI_sI_ne (by decide))).trans hv2454))
        have x2510 := HI.eqI hI2493 (p := 231) (b := 10) ((((hF2494.1 231 10 (by decide)).trans (gI_sI_ne (by decide))).trans hv2456))
        have x2511 := HI.eqI hI2493 (p := 231) (b := 11) ((((hF2494.1 231 11 (by decide)).trans (gI_sI_ne (by decide))).trans hv2458))
        obtain ⟨v2512, hv2512⟩ : ∃ v, gJ g2441 231 12 = v := ⟨_, rfl⟩
        have x2513 := HI.eqJ hI2493 (b := 12) ((((hF2494.2.2 231 12 (by decide)).trans (gJ_sI_ne (by decide))).trans hv2512))
        have x2514 := HI.eqI hI2493 (p := 231) (b := 14) ((((hF2494.1 231 14 (by decide)).trans (gI_sI_ne (by decide))).trans hv2460))
        have x2515 := HI.eqI hI2493 (p := 231) (b := 17) ((((hF2494.1 231 17 (by decide)).trans ((gI_sI_ne (by decide)).trans ((hF2443.1 231 17 (by decide)).trans (hF1495.1 231 17 (by decide))))).trans hv7))
        have x2516 := HI.eqI hI2493 (p := 231) (b := 23) (hv2503)
        have x2517 := HI.eqI hI0 (p := 231) (b := 9) (hv2)
        have zv2518 : (1 : Int32).toInt = 1 := rfl
        have w262519 := W26.cong c2467 hI2493 (((hF2494.1 231 9 (by decide)).trans (gI_sI_ne (by decide)))) (((hF2494.1 231 10 (by decide)).trans (gI_sI_ne (by decide)))) (((hF2494.1 231 11 (by decide)).trans (gI_sI_ne (by decide)))) (((hF2494.2.2 231 12 (by decide)).trans (gJ_sI_ne (by decide))))
        exact ⟨_, rfl, hI2493, hF2497, _, rfl, by decide, ⟨by omega, by omega, by omega, by omega, w262519, by omega, by omega, (fun hbad => ⟨by omega, (PT.mk (fun _ => pg2507) (fun h => False.elim (by omega)) (fun h h9 => False.elim (by omega)) (fun h => False.elim (by omega)))⟩), (fun hbad => by omega)⟩⟩

def F_X11_readPlain_231 : List (Nat × Nat) := [(231, 9), (231, 10), (231, 11), (231, 12), (231, 13), (231, 14), (231, 17), (231, 20), (231, 23), (231, 24)]
def A_X11_readPlain_231 : List Nat := [238, 239, 240, 241]
set_option maxRecDepth 100000 in
set_option maxHeartbeats 4000000 in
theorem T_X11_readPlain_231 (d : Nat) {N : Nat} {g0 : List en_E} (hI0 : HI g0) (b : Int) (o0 : Int → Int) (a0 : Int → Int) (h1 : ((gI g0 231 9).toInt ≤ (gI g0 231 10).toInt ∧ (gI g0 231 10).toInt ≤ (gI g0 231 8).toInt ∧ 0 ≤ (gI g0 231 11).toInt ∧ (gI g0 231 11).toInt ≤ 3 * ((gI g0 231 10).toInt - (gI g0 231 9).toInt))) (h2 : (gI g0 231 14).toInt = 0) (h3 : (gI g0 231 17).toInt + (gI g0 231 23).toInt ≤ (gI g0 231 9).toInt) (hW : W26 g0) (hP : PT g0 b 0 o0 a0) : Ev (d + 6) 205 [.ref 231] (g0, N) (fun w h' => ∃ g', h' = (g', N) ∧ HI g' ∧ Fr F_X11_readPlain_231 A_X11_readPlain_231 g0 g' ∧ ∃ r : Int32, w = some (.int r) ∧ (0 ≤ r.toInt ∧ r.toInt ≤ 3) ∧ ((gI g' 231 9).toInt ≤ (gI g' 231 10).toInt ∧ (gI g' 231 10).toInt ≤ (gI g' 231 8).toInt ∧ 0 ≤ (gI g' 231 11).toInt ∧ (gI g' 231 11).toInt ≤ 3 * ((gI g' 231 10).toInt - (gI g' 231 9).toInt) ∧ W26 g' ∧ (gI g' 231 17).toInt + (gI g' 231 23).toInt ≤ 400 ∧ (gI g0 231 9).toInt ≤ (gI g' 231 9).toInt ∧ TURN g' b r.toInt o0 a0 ∧ PRG (gI g' 231 14).toInt (gI g0 231 9).toInt (gI g' 231 9).toInt r.toInt 4)) := by
  have hF0 : Fr F_X11_readPlain_231 A_X11_readPlain_231 g0 g0 := Fr.rf
  obtain ⟨v1, hv1⟩ : ∃ v, gI g0 231 8 = v := ⟨_, rfl⟩
  have rv1 := RgF.at hI0.2.1 (p := 231) (b := 8) rfl
  rw [hv1] at rv1
  dsimp only at rv1
  have tv1 := congrArg Int32.toInt hv1
  obtain ⟨v2, hv2⟩ : ∃ v, gI g0 231 9 = v := ⟨_, rfl⟩
  have rv2 := RgF.at hI0.2.1 (p := 231) (b := 9) rfl
  rw [hv2] at rv2
  dsimp only at rv2
  have tv2 := congrArg Int32.toInt hv2
  obtain ⟨v3, hv3⟩ : ∃ v, gI g0 231 10 = v := ⟨_, rfl⟩
  have rv3 := RgF.at hI0.2.1 (p := 231) (b := 10) rfl
  rw [hv3] at rv3
  dsimp only at rv3
  have tv3 := congrArg Int32.toInt hv3
  obtain ⟨v4, hv4⟩ : ∃ v, gI g0 231 11 = v := ⟨_, rfl⟩
  have tv4 := congrArg Int32.toInt hv4
  obtain ⟨v5, hv5⟩ : ∃ v, gJ g0 231 12 = v := ⟨_, rfl⟩
  have tv5 := congrArg Int64.toInt hv5
  obtain ⟨v6, hv6⟩ : ∃ v, gI g0 231 14 = v := ⟨_, rfl⟩
  have tv6 := congrArg Int32.toInt hv6
  obtain ⟨v7, hv7⟩ : ∃ v, gI g0 231 17 = v := ⟨_, rfl⟩
  have rv7 := RgF.at hI0.2.1 (p := 231) (b := 17) rfl
  rw [hv7] at rv7
  dsimp only at rv7
  have tv7 := congrArg Int32.toInt hv7
  obtain ⟨v8, hv8⟩ : ∃ v, gI g0 231 23 = v := ⟨_, rfl⟩
  have rv8 := RgF.at hI0.2.1 (p := 231) (b := 23) rfl
  rw [hv8] at rv8
  dsimp only at rv8
  have tv8 := congrArg Int32.toInt hv8
  refine Ev.mk rfl rfl ⟨Nat.le_of_ble_eq_true rfl, Or.inr (q_rc hI0.1 kx_231 rfl)⟩ ?_
  show At _ none _ _ (0, [(0, .ref 231)], [], (_, _)) _
  refine At.enter rfl ?_
  refine r_aload_n rfl ?_
  refine r_ldc2 14836 rfl ?_
  have x495 := HI.eqI hI0 (p := 231) (b := 11) (hv4)
  have zv496 : (14836 : Int64).toInt = 14836 := rfl
  refine r_callV 7 rfl [.ref 231, .long 14836] [] (Nat.le_of_ble_eq_true rfl) rfl (T_X11_isWord_231 _ hI0 14836 (by omega)) ?_
  rintro _ _ ⟨g497, rfl, hI498, hF499, v500, rfl, hr501⟩
  refine At.sti ?_
  have hF502 := Fr.tr hF0 hF499 rfl rfl
  have zv503 : (14836 : Int64).toInt = 14836 := rfl
  have x504 := HI.eqI hI0 (p := 231) (b := 9) (hv2)
  have x505 := HI.eqI hI0 (p := 231) (b := 10) (hv3)
  have x506 := HI.eqI hI0 (p := 231) (b := 11) (hv4)
  have x507 := HI.eqI hI498 (p := 231) (b := 9) (((hF499.1 231 9 (by decide)).trans hv2))
  have x508 := HI.eqI hI498 (p := 231) (b := 10) (((hF499.1 231 10 (by decide)).trans hv3))
  have x509 := HI.eqI hI498 (p := 231) (b := 11) (((hF499.1 231 11 (by decide)).trans hv4))
  obtain ⟨c512, c510, isw511⟩ := hr501
  refine At.enter rfl ?_
  refine r_ifs 10 rfl (fun c513 => ?_) (fun c513 => ?_)
  · have c513_ : v500.toInt = 0 := en_k_eq_t c513
    refine At.enter rfl ?_
    refine r_aload_n rfl ?_
    refine r_bipush 40 rfl ?_
    have x514 := HI.eqI hI498 (p := 231) (b := 11) (((hF499.1 231 11 (by decide)).trans hv4))
    have zv515 : (40 : Int32).toInt = 40 := rfl
    refine r_callV 29 rfl [.ref 231, .int 40] [] (Nat.le_of_ble_eq_true rfl) rfl (T_X11_isSign_231 _ hI498 40 (by omega)) ?_
    rintro _ _ ⟨g516, rfl, hI517, hF518, v519, rfl, hr520⟩
    refine At.sti ?_
    have hF521 := Fr.tr hF502 hF518 rfl rfl
    have zv522 : (40 : Int32).toInt = 40 := rfl
    have x523 := HI.eqI hI498 (p := 231) (b := 11) (((hF499.1 231 11 (by decide)).trans hv4))
    have x524 := HI.eqI hI517 (p := 231) (b := 11) ((((hF518.1 231 11 (by decide)).trans (hF499.1 231 11 (by decide))).trans hv4))
    refine At.enter rfl ?_
    refine r_ifs 32 rfl (fun c525 => ?_) (fun c525 => ?_)
    · have c525_ : v519.toInt = 0 := en_k_eq_t c525
      refine At.enter rfl ?_
      refine r_aload_n rfl ?_
      have x526 := HI.eqI hI517 (p := 231) (b := 8) ((((hF518.1 231 8 (by decide)).trans (hF499.1 231 8 (by decide))).trans hv1))
      have x527 := HI.eqI hI517 (p := 231) (b := 9) ((((hF518.1 231 9 (by decide)).trans (hF499.1 231 9 (by decide))).trans hv2))
      have x528 := HI.eqI hI517 (p := 231) (b := 10) ((((hF518.1 231 10 (by decide)).trans (hF499.1 231 10 (by decide))).trans hv3))
      have x529 := HI.eqI hI517 (p := 231) (b := 11) ((((hF518.1 231 11 (by decide)).trans (hF499.1 231 11 (by decide))).trans hv4))
      have x530 := HI.eqJ hI517 (b := 12) ((((hF518.2.2 231 12 (by decide)).trans (hF499.2.2 231 12 (by decide))).trans hv5))
      have x531 := HI.eqI hI517 (p := 231) (b := 14) ((((hF518.1 231 14 (by decide)).trans (hF499.1 231 14 (by decide))).trans hv6))
      have x532 := HI.eqI hI517 (p := 231) (b := 17) ((((hF518.1 231 17 (by decide)).trans (hF499.1 231 17 (by decide))).trans hv7))
      have x533 := HI.eqI hI517 (p := 231) (b := 23) ((((hF518.1 231 23 (by decide)).trans (hF499.1 231 23 (by decide))).trans hv8))
      have w26534 := W26.cong hW hI517 (((hF518.1 231 9 (by decide)).trans (hF499.1 231 9 (by decide)))) (((hF518.1 231 10 (by decide)).trans (hF499.1 231 10 (by decide)))) (((hF518.1 231 11 (by decide)).trans (hF499.1 231 11 (by decide)))) (((hF518.2.2 231 12 (by decide)).trans (hF499.2.2 231 12 (by decide))))
      refine r_callV 44 rfl [.ref 231] [] (Nat.le_of_ble_eq_true rfl) rfl (T_X11_readPart_231 _ hI517 b o0 a0 (by refine ⟨?_, ?_, ?_, ?_⟩ <;> omega) (by omega) (by omega) w26534 (PT.of01 (PT.cong hP hI517 (((hF518.2.1 238 (by decide)).trans (hF499.2.1 238 (by decide)))) (((hF518.2.1 239 (by decide)).trans (hF499.2.1 239 (by decide)))) (((hF518.2.1 240 (by decide)).trans (hF499.2.1 240 (by decide)))) (((hF518.2.1 241 (by decide)).trans (hF499.2.1 241 (by decide)))) (((hF518.1 231 17 (by decide)).trans (hF499.1 231 17 (by decide)))) (((hF518.1 231 23 (by decide)).trans (hF499.1 231 23 (by decide))))))) ?_
      rintro _ _ ⟨g535, rfl, hI536, hF537, v538, rfl, hr539⟩
      refine At.sti ?_
      have hF540 := Fr.tr hF521 hF537 rfl rfl
      have x541 := HI.eqI hI517 (p := 231) (b := 9) ((((hF518.1 231 9 (by decide)).trans (hF499.1 231 9 (by decide))).trans hv2))
      have x542 := HI.eqI hI536 (p := 231) (b := 8) ((((hF537.1 231 8 (by decide)).trans ((hF518.1 231 8 (by decide)).trans (hF499.1 231 8 (by decide)))).trans hv1))
      obtain ⟨v543, hv543⟩ : ∃ v, gI g535 231 9 = v := ⟨_, rfl⟩
      have rv543 := RgF.at hI536.2.1 (p := 231) (b := 9) rfl
      rw [hv543] at rv543
      dsimp only at rv543
      have tv543 := congrArg Int32.toInt hv543
      have x544 := HI.eqI hI536 (p := 231) (b := 9) (hv543)
      obtain ⟨v545, hv545⟩ : ∃ v, gI g535 231 10 = v := ⟨_, rfl⟩
      have rv545 := RgF.at hI536.2.1 (p := 231) (b := 10) rfl
      rw [hv545] at rv545
      dsimp only at rv545
      have tv545 := congrArg Int32.toInt hv545
      have x546 := HI.eqI hI536 (p := 231) (b := 10) (hv545)
      obtain ⟨v547, hv547⟩ : ∃ v, gI g535 231 11 = v := ⟨_, rfl⟩
      have tv547 := congrArg Int32.toInt hv547
      have x548 := HI.eqI hI536 (p := 231) (b := 11) (hv547)
      obtain ⟨v549, hv549⟩ : ∃ v, gJ g535 231 12 = v := ⟨_, rfl⟩
      have x550 := HI.eqJ hI536 (b := 12) (hv549)
      obtain ⟨v551, hv551⟩ : ∃ v, gI g535 231 14 = v := ⟨_, rfl⟩
      have tv551 := congrArg Int32.toInt hv551
      have x552 := HI.eqI hI536 (p := 231) (b := 14) (hv551)
      obtain ⟨v553, hv553⟩ : ∃ v, gI g535 231 17 = v := ⟨_, rfl⟩
      have rv553 := RgF.at hI536.2.1 (p := 231) (b := 17) rfl
      rw [hv553] at rv553
      dsimp only at rv553
      have tv553 := congrArg Int32.toInt hv553
      have x554 := HI.eqI hI536 (p := 231) (b := 17) (hv553)
      obtain ⟨v555, hv555⟩ : ∃ v, gI g535 231 23 = v := ⟨_, rfl⟩
      have rv555 := RgF.at hI536.2.1 (p := 231) (b := 23) rfl
      rw [hv555] at rv555
      dsimp only at rv555
      have tv555 := congrArg Int32.toInt hv555
      have x556 := HI.eqI hI536 (p := 231) (b := 23) (hv555)
      obtain ⟨c557, c558, c559, c560, c561, c562, c563, c564, c565⟩ := hr539.2
      refine At.enter rfl ?_
      refine r_ireti ?_
      have x566 := HI.eqI hI536 (p := 231) (b := 8) ((((hF537.1 231 8 (by decide)).trans ((hF518.1 231 8 (by decide)).trans (hF499.1 231 8 (by decide)))).trans hv1))
      have x567 := HI.eqI hI536 (p := 231) (b := 9) (hv543)
      have x568 := HI.eqI hI536 (p := 231) (b := 10) (hv545)
      have x569 := HI.eqI hI536 (p := 231) (b := 11) (hv547)
      have x570 := HI.eqJ hI536 (b := 12) (hv549)
      have x571 := HI.eqI hI536 (p := 231) (b := 14) (hv551)
      have x572 := HI.eqI hI536 (p := 231) (b := 17) (hv553)
      have x573 := HI.eqI hI536 (p := 231) (b := 23) (hv555)
      have x574 := HI.eqI hI0 (p := 231) (b := 9) (hv2)
      exact ⟨_, rfl, hI536, hF540, _, rfl, by omega, ⟨by omega, by omega, by omega, by omega, c561, by omega, by omega, c564, (fun hbad => by have y := c565 hbad; omega)⟩⟩
    · have c525_ : v519.toInt ≠ 0 := en_k_eq_f c525
      refine At.enter rfl ?_
      refine r_aload_n rfl ?_
      refine r_bipush 30 rfl ?_
      refine q_inlV 38 rfl [.ref 231, .int 30] [] (Nat.le_of_ble_eq_true rfl) rfl ?_
      refine Ev.mk rfl rfl ⟨Nat.le_of_ble_eq_true rfl, Or.inr (q_rc hI517.1 kx_231 rfl)⟩ ?_
      show At _ none _ _ (0, [(0, .ref 231), (1, .int 30)], [], (_, _)) _
      refine At.enter rfl ?_
      refine r_aload_n rfl ?_
      refine r_aload_n rfl ?_
      obtain ⟨v575, hv575⟩ : ∃ v, gI g0 231 24 = v := ⟨_, rfl⟩
      refine q_getI (Sh.int hI517.1 kx_231 rfl) v575 (((hF518.1 231 24 (by decide)).trans (hF499.1 231 24 (by decide))).trans hv575) ?_
      refine r_bipush 8 rfl ?_
      refine r_ics 10 rfl (fun c576 => ?_) (fun c576 => ?_)
      · have c576_ : v575.toInt ≥ 8 := en_i_ge_t c576
        refine At.enter rfl ?_
        refine r_iconst 0 rfl ?_
        refine Ar.fall 15 rfl ?_
        refine At.enter rfl ?_
        have x577 := HI.eqI hI517 (p := 231) (b := 8) ((((hF518.1 231 8 (by decide)).trans (hF499.1 231 8 (by decide))).trans hv1))
        have x578 := HI.eqI hI517 (p := 231) (b := 9) ((((hF518.1 231 9 (by decide)).trans (hF499.1 231 9 (by decide))).trans hv2))
        have x579 := HI.eqI hI517 (p := 231) (b := 10) ((((hF518.1 231 10 (by decide)).trans (hF499.1 231 10 (by decide))).trans hv3))
        have x580 := HI.eqI hI517 (p := 231) (b := 11) ((((hF518.1 231 11 (by decide)).trans (hF499.1 231 11 (by decide))).trans hv4))
        have w26581 := W26.cong hW hI517 (((hF518.1 231 9 (by decide)).trans (hF499.1 231 9 (by decide)))) (((hF518.1 231 10 (by decide)).trans (hF499.1 231 10 (by decide)))) (((hF518.1 231 11 (by decide)).trans (hF499.1 231 11 (by decide)))) (((hF518.2.2 231 12 (by decide)).trans (hF499.2.2 231 12 (by decide))))
        have zv582 : (0 : Int32).toInt = 0 := rfl
        refine r_callV 18 rfl [.ref 231, .int 0] [] (Nat.le_of_ble_eq_true rfl) rfl (T_X11_must_231 _ hI517 0 (by decide) (by refine ⟨?_, ?_, ?_, ?_⟩ <;> omega) w26581) ?_
        rintro _ _ ⟨g583, rfl, hI584, hF585, rfl, hr587⟩
        refine At.stn ?_
        have hF588 := Fr.tr hF521 hF585 rfl rfl
        have zv589 : (0 : Int32).toInt = 0 := rfl
        have x590 := HI.eqI hI517 (p := 231) (b := 8) ((((hF518.1 231 8 (by decide)).trans (hF499.1 231 8 (by decide))).trans hv1))
        have x591 := HI.eqI hI517 (p := 231) (b := 9) ((((hF518.1 231 9 (by decide)).trans (hF499.1 231 9 (by decide))).trans hv2))
        have x592 := HI.eqI hI517 (p := 231) (b := 10) ((((hF518.1 231 10 (by decide)).trans (hF499.1 231 10 (by decide))).trans hv3))
        have x593 := HI.eqI hI517 (p := 231) (b := 11) ((((hF518.1 231 11 (by decide)).trans (hF499.1 231 11 (by decide))).trans hv4))
        have x594 := HI.eqI hI517 (p := 231) (b := 14) ((((hF518.1 231 14 (by decide)).trans (hF499.1 231 14 (by decide))).trans hv6))
        have x595 := HI.eqI hI584 (p := 231) (b := 8) ((((hF585.1 231 8 (by decide)).trans ((hF518.1 231 8 (by decide)).trans (hF499.1 231 8 (by decide)))).trans hv1))
        obtain ⟨v596, hv596⟩ : ∃ v, gI g583 231 9 = v := ⟨_, rfl⟩
        have rv596 := RgF.at hI584.2.1 (p := 231) (b := 9) rfl
        rw [hv596] at rv596
        dsimp only at rv596
        have tv596 := congrArg Int32.toInt hv596
        have x597 := HI.eqI hI584 (p := 231) (b := 9) (hv596)
        obtain ⟨v598, hv598⟩ : ∃ v, gI g583 231 10 = v := ⟨_, rfl⟩
        have rv598 := RgF.at hI584.2.1 (p := 231) (b := 10) rfl
        rw [hv598] at rv598
        dsimp only at rv598
        have tv598 := congrArg Int32.toInt hv598
        have x599 := HI.eqI hI584 (p := 231) (b := 10) (hv598)
        obtain ⟨v600, hv600⟩ : ∃ v, gI g583 231 11 = v := ⟨_, rfl⟩
        have tv600 := congrArg Int32.toInt hv600
        have x601 := HI.eqI hI584 (p := 231) (b := 11) (hv600)
        obtain ⟨v602, hv602⟩ : ∃ v, gI g583 231 14 = v := ⟨_, rfl⟩
        have tv602 := congrArg Int32.toInt hv602
        have x603 := HI.eqI hI584 (p := 231) (b := 14) (hv602)
        obtain ⟨c604, c605, c606, c607, c608, c609, c610⟩ := hr587
        refine At.enter rfl ?_
        refine r_aload_n rfl ?_
        refine q_getI (Sh.int hI584.1 kx_231 rfl) v602 hv602 ?_
        refine r_ifs 25 rfl (fun c611 => ?_) (fun c611 => ?_)
        · have c611_ : v602.toInt ≠ 0 := en_k_ne_t c611
          clear c610
          refine At.enter rfl ?_
          refine q_vret ?_
          refine At.enter rfl ?_
          refine r_iconst 0 rfl ?_
          refine r_ireti ?_
          have x612 := HI.eqI hI584 (p := 231) (b := 8) ((((hF585.1 231 8 (by decide)).trans ((hF518.1 231 8 (by decide)).trans (hF499.1 231 8 (by decide)))).trans hv1))
          have x613 := HI.eqI hI584 (p := 231) (b := 9) (hv596)
          have x614 := HI.eqI hI584 (p := 231) (b := 10) (hv598)
          have x615 := HI.eqI hI584 (p := 231) (b := 11) (hv600)
          obtain ⟨v616, hv616⟩ : ∃ v, gJ g583 231 12 = v := ⟨_, rfl⟩
          have x617 := HI.eqJ hI584 (b := 12) (hv616)
          have x618 := HI.eqI hI584 (p := 231) (b := 14) (hv602)
          have x619 := HI.eqI hI584 (p := 231) (b := 17) ((((hF585.1 231 17 (by decide)).trans ((hF518.1 231 17 (by decide)).trans (hF499.1 231 17 (by decide)))).trans hv7))
          have x620 := HI.eqI hI584 (p := 231) (b := 23) ((((hF585.1 231 23 (by decide)).trans ((hF518.1 231 23 (by decide)).trans (hF499.1 231 23 (by decide)))).trans hv8))
          have x621 := HI.eqI hI0 (p := 231) (b := 9) (hv2)
          have zv622 : (0 : Int32).toInt = 0 := rfl
          have pg623 := PG.cong (hP.1 (by decide)) hI584 (((hF585.2.1 238 (by decide)).trans ((hF518.2.1 238 (by decide)).trans (hF499.2.1 238 (by decide))))) (((hF585.2.1 239 (by decide)).trans ((hF518.2.1 239 (by decide)).trans (hF499.2.1 239 (by decide))))) (((hF585.2.1 240 (by decide)).trans ((hF518.2.1 240 (by decide)).trans (hF499.2.1 240 (by decide))))) (((hF585.2.1 241 (by decide)).trans ((hF518.2.1 241 (by decide)).trans (hF499.2.1 241 (by decide))))) (((hF585.1 231 17 (by decide)).trans ((hF518.1 231 17 (by decide)).trans (hF499.1 231 17 (by decide))))) (((hF585.1 231 23 (by decide)).trans ((hF518.1 231 23 (by decide)).trans (hF499.1 231 23 (by decide)))))
          have nsq624 := NSQ.cong (hP.2.2.1 (by decide) (by decide)) hI584 (((hF585.2.1 240 (by decide)).trans ((hF518.2.1 240 (by decide)).trans (hF499.2.1 240 (by decide))))) (((hF585.1 231 23 (by decide)).trans ((hF518.1 231 23 (by decide)).trans (hF499.1 231 23 (by decide)))))
          exact ⟨_, rfl, hI584, hF588, _, rfl, by decide, ⟨by omega, by omega, by omega, by omega, c609, by omega, by omega, (fun hbad => ⟨by omega, (PT.mk (fun _ => pg623) (fun h => False.elim (by omega)) (fun _ _ => nsq624) (fun h => False.elim (by omega)))⟩), (fun hbad => by omega)⟩⟩
        · have c611_ : v602.toInt = 0 := en_k_ne_f c611
          obtain ⟨i625, i626, i627⟩ := c610 (by omega)
          refine At.enter rfl ?_
          refine r_aload_n rfl ?_
          refine r_dup rfl ?_
          refine q_getI (Sh.int hI584.1 kx_231 rfl) v575 (((hF585.1 231 24 (by decide)).trans ((hF518.1 231 24 (by decide)).trans (hF499.1 231 24 (by decide)))).trans hv575) ?_
          refine r_iconst 1 rfl ?_
          refine q_iaddO (fun v628 _ => ?_)
          refine q_putI (Sh.int hI584.1 kx_231 rfl) rfl ?_
          have hI629 := HI.wI0 hI584 kx_231 rfl (p := 231) (b := 24) (v := v628) rfl
          have hF630 := Fr.wI (p := 231) (b := 24) (v := v628) hF588 rfl
          refine r_aload_n rfl ?_
          refine r_iload_n rfl ?_
          refine r_iconst 0 rfl ?_
          have x631 := HI.eqI hI629 (p := 231) (b := 23) ((((gI_sI_ne (by decide)).trans ((hF585.1 231 23 (by decide)).trans ((hF518.1 231 23 (by decide)).trans (hF499.1 231 23 (by decide))))).trans hv8))
          have zv632 : (30 : Int32).toInt = 30 := rfl
          have zv633 : (0 : Int32).toInt = 0 := rfl
          refine r_callV 41 rfl [.ref 231, .int 30, .int 0] [] (Nat.le_of_ble_eq_true rfl) rfl (T_X11_push_231 _ hI629 30 (by decide) 0 (by decide) (by omega)) ?_
          rintro _ _ ⟨g634, rfl, hI635, hF636, rfl, hr638⟩
          refine At.stn ?_
          have hF639 := Fr.tr hF630 hF636 rfl rfl
          have zv640 : (30 : Int32).toInt = 30 := rfl
          have zv641 : (0 : Int32).toInt = 0 := rfl
          have x642 := HI.eqI hI629 (p := 231) (b := 17) ((((gI_sI_ne (by decide)).trans ((hF585.1 231 17 (by decide)).trans ((hF518.1 231 17 (by decide)).trans (hF499.1 231 17 (by decide))))).trans hv7))
          have x643 := HI.eqI hI629 (p := 231) (b := 23) ((((gI_sI_ne (by decide)).trans ((hF585.1 231 23 (by decide)).trans ((hF518.1 231 23 (by decide)).trans (hF499.1 231 23 (by decide))))).trans hv8))
          have x644 := HI.eqI hI635 (p := 231) (b := 17) ((((hF636.1 231 17 (by decide)).trans ((gI_sI_ne (by decide)).trans ((hF585.1 231 17 (by decide)).trans ((hF518.1 231 17 (by decide)).trans (hF499.1 231 17 (by decide)))))).trans hv7))
          obtain ⟨v645, hv645⟩ : ∃ v, gI g634 231 23 = v := ⟨_, rfl⟩
          have rv645 := RgF.at hI635.2.1 (p := 231) (b := 23) rfl
          rw [hv645] at rv645
          dsimp only at rv645
          have tv645 := congrArg Int32.toInt hv645
          have x646 := HI.eqI hI635 (p := 231) (b := 23) (hv645)
          have y647 : (gI _ 231 23).toInt = (gI _ 231 23).toInt + 1 := hr638.1
          have pg648 := PG.cong (hP.1 (by decide)) hI629 (((gA_sI).trans ((hF585.2.1 238 (by decide)).trans ((hF518.2.1 238 (by decide)).trans (hF499.2.1 238 (by decide)))))) (((gA_sI).trans ((hF585.2.1 239 (by decide)).trans ((hF518.2.1 239 (by decide)).trans (hF499.2.1 239 (by decide)))))) (((gA_sI).trans ((hF585.2.1 240 (by decide)).trans ((hF518.2.1 240 (by decide)).trans (hF499.2.1 240 (by decide)))))) (((gA_sI).trans ((hF585.2.1 241 (by decide)).trans ((hF518.2.1 241 (by decide)).trans (hF499.2.1 241 (by decide)))))) (((gI_sI_ne (by decide)).trans ((hF585.1 231 17 (by decide)).trans ((hF518.1 231 17 (by decide)).trans (hF499.1 231 17 (by decide)))))) (((gI_sI_ne (by decide)).trans ((hF585.1 231 23 (by decide)).trans ((hF518.1 231 23 (by decide)).trans (hF499.1 231 23 (by decide))))))
          have nsq650 := NSQ.cong (hP.2.2.1 (by decide) (by decide)) hI629 (((gA_sI).trans ((hF585.2.1 240 (by decide)).trans ((hF518.2.1 240 (by decide)).trans (hF499.2.1 240 (by decide)))))) (((gI_sI_ne (by decide)).trans ((hF585.1 231 23 (by decide)).trans ((hF518.1 231 23 (by decide)).trans (hF499.1 231 23 (by decide))))))
          have pg649 := PG.push (e' := 0) pg648 hr638 (hF636.2.1 238 (by decide)) (hF636.2.1 239 (by decide)) (hF636.1 231 17 (by decide)) ⟨by omega, by omega⟩ (Or.inr nsq650) (by omega) (by omega)
          have nsq651 := NSQ.push nsq650 hr638 (by omega)
          refine At.enter rfl ?_
          refine q_vret ?_
          refine At.enter rfl ?_
          refine r_iconst 0 rfl ?_
          refine r_ireti ?_
          have x652 := HI.eqI hI635 (p := 231) (b := 8) ((((hF636.1 231 8 (by decide)).trans ((gI_sI_ne (by decide)).trans ((hF585.1 231 8 (by decide)).trans ((hF518.1 231 8 (by decide)).trans (hF499.1 231 8 (by decide)))))).trans hv1))
          have x653 := HI.eqI hI635 (p := 231) (b := 9) ((((hF636.1 231 9 (by decide)).trans (gI_sI_ne (by decide))).trans hv596))
          have x654 := HI.eqI hI635 (p := 231) (b := 10) ((((hF636.1 231 10 (by decide)).trans (gI_sI_ne (by decide))).trans hv598))
          have x655 := HI.eqI hI635 (p := 231) (b := 11) ((((hF636.1 231 11 (by decide)).trans (gI_sI_ne (by decide))).trans hv600))
          obtain ⟨v656, hv656⟩ : ∃ v, gJ g583 231 12 = v := ⟨_, rfl⟩
          have x657 := HI.eqJ hI635 (b := 12) ((((hF636.2.2 231 12 (by decide)).trans (gJ_sI_ne (by decide))).trans hv656))
          have x658 := HI.eqI hI635 (p := 231) (b := 14) ((((hF636.1 231 14 (by decide)).trans (gI_sI_ne (by decide))).trans hv602))
          have x659 := HI.eqI hI635 (p := 231) (b := 17) ((((hF636.1 231 17 (by decide)).trans ((gI_sI_ne (by decide)).trans ((hF585.1 231 17 (by decide)).trans ((hF518.1 231 17 (by decide)).trans (hF499.1 231 17 (by decide)))))).trans hv7))
          have x660 := HI.eqI hI635 (p := 231) (b := 23) (hv645)
          have x661 := HI.eqI hI0 (p := 231) (b := 9) (hv2)
          have zv662 : (0 : Int32).toInt = 0 := rfl
          have w26663 := W26.cong c609 hI635 (((hF636.1 231 9 (by decide)).trans (gI_sI_ne (by decide)))) (((hF636.1 231 10 (by decide)).trans (gI_sI_ne (by decide)))) (((hF636.1 231 11 (by decide)).trans (gI_sI_ne (by decide)))) (((hF636.2.2 231 12 (by decide)).trans (gJ_sI_ne (by decide))))
          exact ⟨_, rfl, hI635, hF639, _, rfl, by decide, ⟨by omega, by omega, by omega, by omega, w26663, by omega, by omega, (fun hbad => ⟨by omega, (PT.mk (fun _ => pg649) (fun h => False.elim (by omega)) (fun _ _ => nsq651) (fun h => False.elim (by omega)))⟩), (fun hbad => by omega)⟩⟩
      · have c576_ : v575.toInt < 8 := en_i_ge_f c576
        refine At.enter rfl ?_
        refine r_iconst 1 rfl ?_
        refine r_goto ?_
        refine At.enter rfl ?_
        have x664 := HI.eqI hI517 (p := 231) (b := 8) ((((hF518.1 231 8 (by decide)).trans (hF499.1 231 8 (by decide))).trans hv1))
        have x665 := HI.eqI hI517 (p := 231) (b := 9) ((((hF518.1 231 9 (by decide)).trans (hF499.1 231 9 (by decide))).trans hv2))
        have x666 := HI.eqI hI517 (p := 231) (b := 10) ((((hF518.1 231 10 (by decide)).trans (hF499.1 231 10 (by decide))).trans hv3))
        have x667 := HI.eqI hI517 (p := 231) (b := 11) ((((hF518.1 231 11 (by decide)).trans (hF499.1 231 11 (by decide))).trans hv4))
        have w26668 := W26.cong hW hI517 (((hF518.1 231 9 (by decide)).trans (hF499.1 231 9 (by decide)))) (((hF518.1 231 10 (by decide)).trans (hF499.1 231 10 (by decide)))) (((hF518.1 231 11 (by decide)).trans (hF499.1 231 11 (by decide)))) (((hF518.2.2 231 12 (by decide)).trans (hF499.2.2 231 12 (by decide))))
        have zv669 : (1 : Int32).toInt = 1 := rfl
        refine r_callV 18 rfl [.ref 231, .int 1] [] (Nat.le_of_ble_eq_true rfl) rfl (T_X11_must_231 _ hI517 1 (by decide) (by refine ⟨?_, ?_, ?_, ?_⟩ <;> omega) w26668) ?_
        rintro _ _ ⟨g670, rfl, hI671, hF672, rfl, hr674⟩
        refine At.stn ?_
        have hF675 := Fr.tr hF521 hF672 rfl rfl
        have zv676 : (1 : Int32).toInt = 1 := rfl
        have x677 := HI.eqI hI517 (p := 231) (b := 8) ((((hF518.1 231 8 (by decide)).trans (hF499.1 231 8 (by decide))).trans hv1))
        have x678 := HI.eqI hI517 (p := 231) (b := 9) ((((hF518.1 231 9 (by decide)).trans (hF499.1 231 9 (by decide))).trans hv2))
        have x679 := HI.eqI hI517 (p := 231) (b := 10) ((((hF518.1 231 10 (by decide)).trans (hF499.1 231 10 (by decide))).trans hv3))
        have x680 := HI.eqI hI517 (p := 231) (b := 11) ((((hF518.1 231 11 (by decide)).trans (hF499.1 231 11 (by decide))).trans hv4))
        have x681 := HI.eqI hI517 (p := 231) (b := 14) ((((hF518.1 231 14 (by decide)).trans (hF499.1 231 14 (by decide))).trans hv6))
        have x682 := HI.eqI hI671 (p := 231) (b := 8) ((((hF672.1 231 8 (by decide)).trans ((hF518.1 231 8 (by decide)).trans (hF499.1 231 8 (by decide)))).trans hv1))
        obtain ⟨v683, hv683⟩ : ∃ v, gI g670 231 9 = v := ⟨_, rfl⟩
        have rv683 := RgF.at hI671.2.1 (p := 231) (b := 9) rfl
        rw [hv683] at rv683
        dsimp only at rv683
        have tv683 := congrArg Int32.toInt hv683
        have x684 := HI.eqI hI671 (p := 231) (b := 9) (hv683)
        obtain ⟨v685, hv685⟩ : ∃ v, gI g670 231 10 = v := ⟨_, rfl⟩
        have rv685 := RgF.at hI671.2.1 (p := 231) (b := 10) rfl
        rw [hv685] at rv685
        dsimp only at rv685
        have tv685 := congrArg Int32.toInt hv685
        have x686 := HI.eqI hI671 (p := 231) (b := 10) (hv685)
        obtain ⟨v687, hv687⟩ : ∃ v, gI g670 231 11 = v := ⟨_, rfl⟩
        have tv687 := congrArg Int32.toInt hv687
        have x688 := HI.eqI hI671 (p := 231) (b := 11) (hv687)
        obtain ⟨v689, hv689⟩ : ∃ v, gI g670 231 14 = v := ⟨_, rfl⟩
        have tv689 := congrArg Int32.toInt hv689
        have x690 := HI.eqI hI671 (p := 231) (b := 14) (hv689)
        obtain ⟨c691, c692, c693, c694, c695, c696, c697⟩ := hr674
        refine At.enter rfl ?_
        refine r_aload_n rfl ?_
        refine q_getI (Sh.int hI671.1 kx_231 rfl) v689 hv689 ?_
        refine r_ifs 25 rfl (fun c698 => ?_) (fun c698 => ?_)
        · have c698_ : v689.toInt ≠ 0 := en_k_ne_t c698
          clear c697
          refine At.enter rfl ?_
          refine q_vret ?_
          refine At.enter rfl ?_
          refine r_iconst 0 rfl ?_
          refine r_ireti ?_
          have x699 := HI.eqI hI671 (p := 231) (b := 8) ((((hF672.1 231 8 (by decide)).trans ((hF518.1 231 8 (by decide)).trans (hF499.1 231 8 (by decide)))).trans hv1))
          have x700 := HI.eqI hI671 (p := 231) (b := 9) (hv683)
          have x701 := HI.eqI hI671 (p := 231) (b := 10) (hv685)
          have x702 := HI.eqI hI671 (p := 231) (b := 11) (hv687)
          obtain ⟨v703, hv703⟩ : ∃ v, gJ g670 231 12 = v := ⟨_, rfl⟩
          have x704 := HI.eqJ hI671 (b := 12) (hv703)
          have x705 := HI.eqI hI671 (p := 231) (b := 14) (hv689)
          have x706 := HI.eqI hI671 (p := 231) (b := 17) ((((hF672.1 231 17 (by decide)).trans ((hF518.1 231 17 (by decide)).trans (hF499.1 231 17 (by decide)))).trans hv7))
          have x707 := HI.eqI hI671 (p := 231) (b := 23) ((((hF672.1 231 23 (by decide)).trans ((hF518.1 231 23 (by decide)).trans (hF499.1 231 23 (by decide)))).trans hv8))
          have x708 := HI.eqI hI0 (p := 231) (b := 9) (hv2)
          have zv709 : (0 : Int32).toInt = 0 := rfl
          have pg710 := PG.cong (hP.1 (by decide)) hI671 (((hF672.2.1 238 (by decide)).trans ((hF518.2.1 238 (by decide)).trans (hF499.2.1 238 (by decide))))) (((hF672.2.1 239 (by decide)).trans ((hF518.2.1 239 (by decide)).trans (hF499.2.1 239 (by decide))))) (((hF672.2.1 240 (by decide)).trans ((hF518.2.1 240 (by decide)).trans (hF499.2.1 240 (by decide))))) (((hF672.2.1 241 (by decide)).trans ((hF518.2.1 241 (by decide)).trans (hF499.2.1 241 (by decide))))) (((hF672.1 231 17 (by decide)).trans ((hF518.1 231 17 (by decide)).trans (hF499.1 231 17 (by decide))))) (((hF672.1 231 23 (by decide)).trans ((hF518.1 231 23 (by decide)).trans (hF499.1 231 23 (by decide)))))
          have nsq711 := NSQ.cong (hP.2.2.1 (by decide) (by decide)) hI671 (((hF672.2.1 240 (by decide)).trans ((hF518.2.1 240 (by decide)).trans (hF499.2.1 240 (by decide))))) (((hF672.1 231 23 (by decide)).trans ((hF518.1 231 23 (by decide)).trans (hF499.1 231 23 (by decide)))))
          exact ⟨_, rfl, hI671, hF675, _, rfl, by decide, ⟨by omega, by omega, by omega, by omega, c696, by omega, by omega, (fun hbad => ⟨by omega, (PT.mk (fun _ => pg710) (fun h => False.elim (by omega)) (fun _ _ => nsq711) (fun h => False.elim (by omega)))⟩), (fun hbad => by omega)⟩⟩
        · have c698_ : v689.toInt = 0 := en_k_ne_f c698
          obtain ⟨i712, i713, i714⟩ := c697 (by omega)
          refine At.enter rfl ?_
          refine r_aload_n rfl ?_
          refine r_dup rfl ?_
          refine q_getI (Sh.int hI671.1 kx_231 rfl) v575 (((hF672.1 231 24 (by decide)).trans ((hF518.1 231 24 (by decide)).trans (hF499.1 231 24 (by decide)))).trans hv575) ?_
          refine r_iconst 1 rfl ?_
          have bv715 := q_bnd v575
          refine q_iadd (v575.toInt + 1) rfl (by omega) (fun v716 hv716 => ?_)
          refine q_putI (Sh.int hI671.1 kx_231 rfl) rfl ?_
          have hI717 := HI.wI0 hI671 kx_231 rfl (p := 231) (b := 24) (v := v716) rfl
          have hF718 := Fr.wI (p := 231) (b := 24) (v := v716) hF675 rfl
          refine r_aload_n rfl ?_
          refine r_iload_n rfl ?_
          refine r_iconst 0 rfl ?_
          have x719 := HI.eqI hI717 (p := 231) (b := 23) ((((gI_sI_ne (by decide)).trans ((hF672.1 231 23 (by decide)).trans ((hF518.1 231 23 (by decide)).trans (hF499.1 231 23 (by decide))))).trans hv8))
          have zv720 : (30 : Int32).toInt = 30 := rfl
          have zv721 : (0 : Int32).toInt = 0 := rfl
          refine r_callV 41 rfl [.ref 231, .int 30, .int 0] [] (Nat.le_of_ble_eq_true rfl) rfl (T_X11_push_231 _ hI717 30 (by decide) 0 (by decide) (by omega)) ?_
          rintro _ _ ⟨g722, rfl, hI723, hF724, rfl, hr726⟩
          refine At.stn ?_
          have hF727 := Fr.tr hF718 hF724 rfl rfl
          have zv728 : (30 : Int32).toInt = 30 := rfl
          have zv729 : (0 : Int32).toInt = 0 := rfl
          have x730 := HI.eqI hI717 (p := 231) (b := 17) ((((gI_sI_ne (by decide)).trans ((hF672.1 231 17 (by decide)).trans ((hF518.1 231 17 (by decide)).trans (hF499.1 231 17 (by decide))))).trans hv7))
          have x731 := HI.eqI hI717 (p := 231) (b := 23) ((((gI_sI_ne (by decide)).trans ((hF672.1 231 23 (by decide)).trans ((hF518.1 231 23 (by decide)).trans (hF499.1 231 23 (by decide))))).trans hv8))
          have x732 := HI.eqI hI723 (p := 231) (b := 17) ((((hF724.1 231 17 (by decide)).trans ((gI_sI_ne (by decide)).trans ((hF672.1 231 17 (by decide)).trans ((hF518.1 231 17 (by decide)).trans (hF499.1 231 17 (by decide)))))).trans hv7))
          obtain ⟨v733, hv733⟩ : ∃ v, gI g722 231 23 = v := ⟨_, rfl⟩
          have rv733 := RgF.at hI723.2.1 (p := 231) (b := 23) rfl
          rw [hv733] at rv733
          dsimp only at rv733
          have tv733 := congrArg Int32.toInt hv733
          have x734 := HI.eqI hI723 (p := 231) (b := 23) (hv733)
          have y735 : (gI _ 231 23).toInt = (gI _ 231 23).toInt + 1 := hr726.1
          have pg736 := PG.cong (hP.1 (by decide)) hI717 (((gA_sI).trans ((hF672.2.1 238 (by decide)).trans ((hF518.2.1 238 (by decide)).trans (hF499.2.1 238 (by decide)))))) (((gA_sI).trans ((hF672.2.1 239 (by decide)).trans ((hF518.2.1 239 (by decide)).trans (hF499.2.1 239 (by decide)))))) (((gA_sI).trans ((hF672.2.1 240 (by decide)).trans ((hF518.2.1 240 (by decide)).trans (hF499.2.1 240 (by decide)))))) (((gA_sI).trans ((hF672.2.1 241 (by decide)).trans ((hF518.2.1 241 (by decide)).trans (hF499.2.1 241 (by decide)))))) (((gI_sI_ne (by decide)).trans ((hF672.1 231 17 (by decide)).trans ((hF518.1 231 17 (by decide)).trans (hF499.1 231 17 (by decide)))))) (((gI_sI_ne (by decide)).trans ((hF672.1 231 23 (by decide)).trans ((hF518.1 231 23 (by decide)).trans (hF499.1 231 23 (by decide))))))
          have nsq738 := NSQ.cong (hP.2.2.1 (by decide) (by decide)) hI717 (((gA_sI).trans ((hF672.2.1 240 (by decide)).trans ((hF518.2.1 240 (by decide)).trans (hF499.2.1 240 (by decide)))))) (((gI_sI_ne (by decide)).trans ((hF672.1 231 23 (by decide)).trans ((hF518.1 231 23 (by decide)).trans (hF499.1 231 23 (by decide))))))
          have pg737 := PG.push (e' := 0) pg736 hr726 (hF724.2.1 238 (by decide)) (hF724.2.1 239 (by decide)) (hF724.1 231 17 (by decide)) ⟨by omega, by omega⟩ (Or.inr nsq738) (by omega) (by omega)
          have nsq739 := NSQ.push nsq738 hr726 (by omega)
          refine At.enter rfl ?_
          refine q_vret ?_
          refine At.enter rfl ?_
          refine r_iconst 0 rfl ?_
          refine r_ireti ?_
          have x740 := HI.eqI hI723 (p := 231) (b := 8) ((((hF724.1 231 8 (by decide)).trans ((gI_sI_ne (by decide)).trans ((hF672.1 231 8 (by decide)).trans ((hF518.1 231 8 (by decide)).trans (hF499.1 231 8 (by decide)))))).trans hv1))
          have x741 := HI.eqI hI723 (p := 231) (b := 9) ((((hF724.1 231 9 (by decide)).trans (gI_sI_ne (by decide))).trans hv683))
          have x742 := HI.eqI hI723 (p := 231) (b := 10) ((((hF724.1 231 10 (by decide)).trans (gI_sI_ne (by decide))).trans hv685))
          have x743 := HI.eqI hI723 (p := 231) (b := 11) ((((hF724.1 231 11 (by decide)).trans (gI_sI_ne (by decide))).trans hv687))
          obtain ⟨v744, hv744⟩ : ∃ v, gJ g670 231 12 = v := ⟨_, rfl⟩
          have x745 := HI.eqJ hI723 (b := 12) ((((hF724.2.2 231 12 (by decide)).trans (gJ_sI_ne (by decide))).trans hv744))
          have x746 := HI.eqI hI723 (p := 231) (b := 14) ((((hF724.1 231 14 (by decide)).trans (gI_sI_ne (by decide))).trans hv689))
          have x747 := HI.eqI hI723 (p := 231) (b := 17) ((((hF724.1 231 17 (by decide)).trans ((gI_sI_ne (by decide)).trans ((hF672.1 231 17 (by decide)).trans ((hF518.1 231 17 (by decide)).trans (hF499.1 231 17 (by decide)))))).trans hv7))
          have x748 := HI.eqI hI723 (p := 231) (b := 23) (hv733)
          have x749 := HI.eqI hI0 (p := 231) (b := 9) (hv2)
          have zv750 : (0 : Int32).toInt = 0 := rfl
          have w26751 := W26.cong c696 hI723 (((hF724.1 231 9 (by decide)).trans (gI_sI_ne (by decide)))) (((hF724.1 231 10 (by decide)).trans (gI_sI_ne (by decide)))) (((hF724.1 231 11 (by decide)).trans (gI_sI_ne (by decide)))) (((hF724.2.2 231 12 (by decide)).trans (gJ_sI_ne (by decide))))
          exact ⟨_, rfl, hI723, hF727, _, rfl, by decide, ⟨by omega, by omega, by omega, by omega, w26751, by omega, by omega, (fun hbad => ⟨by omega, (PT.mk (fun _ => pg737) (fun h => False.elim (by omega)) (fun _ _ => nsq739) (fun h => False.elim (by omega)))⟩), (fun hbad => by omega)⟩⟩
  · have c513_ : v500.toInt ≠ 0 := en_k_eq_f c513
    have i752 := W26.two hW isw511 (by omega) (by decide)
    refine At.enter rfl ?_
    refine r_aload_n rfl ?_
    refine r_bipush 27 rfl ?_
    refine r_iconst 0 rfl ?_
    have x753 := HI.eqI hI498 (p := 231) (b := 23) (((hF499.1 231 23 (by decide)).trans hv8))
    have zv754 : (27 : Int32).toInt = 27 := rfl
    have zv755 : (0 : Int32).toInt = 0 := rfl
    refine r_callV 17 rfl [.ref 231, .int 27, .int 0] [] (Nat.le_of_ble_eq_true rfl) rfl (T_X11_push_231 _ hI498 27 (by decide) 0 (by decide) (by omega)) ?_
    rintro _ _ ⟨g756, rfl, hI757, hF758, rfl, hr760⟩
    refine At.stn ?_
    have hF761 := Fr.tr hF502 hF758 rfl rfl
    have zv762 : (27 : Int32).toInt = 27 := rfl
    have zv763 : (0 : Int32).toInt = 0 := rfl
    have x764 := HI.eqI hI498 (p := 231) (b := 17) (((hF499.1 231 17 (by decide)).trans hv7))
    have x765 := HI.eqI hI498 (p := 231) (b := 23) (((hF499.1 231 23 (by decide)).trans hv8))
    have x766 := HI.eqI hI757 (p := 231) (b := 17) ((((hF758.1 231 17 (by decide)).trans (hF499.1 231 17 (by decide))).trans hv7))
    obtain ⟨v767, hv767⟩ : ∃ v, gI g756 231 23 = v := ⟨_, rfl⟩
    have rv767 := RgF.at hI757.2.1 (p := 231) (b := 23) rfl
    rw [hv767] at rv767
    dsimp only at rv767
    have tv767 := congrArg Int32.toInt hv767
    have x768 := HI.eqI hI757 (p := 231) (b := 23) (hv767)
    have y769 : (gI _ 231 23).toInt = (gI _ 231 23).toInt + 1 := hr760.1
    have pg770 := PG.cong (hP.1 (by decide)) hI498 ((hF499.2.1 238 (by decide))) ((hF499.2.1 239 (by decide))) ((hF499.2.1 240 (by decide))) ((hF499.2.1 241 (by decide))) ((hF499.1 231 17 (by decide))) ((hF499.1 231 23 (by decide)))
    have nsq772 := NSQ.cong (hP.2.2.1 (by decide) (by decide)) hI498 ((hF499.2.1 240 (by decide))) ((hF499.1 231 23 (by decide)))
    have pg771 := PG.push (e' := 0) pg770 hr760 (hF758.2.1 238 (by decide)) (hF758.2.1 239 (by decide)) (hF758.1 231 17 (by decide)) ⟨by omega, by omega⟩ (Or.inr nsq772) (by omega) (by omega)
    have nsq773 := NSQ.push nsq772 hr760 (by omega)
    refine At.enter rfl ?_
    refine r_aload_n rfl ?_
    have x774 := HI.eqI hI757 (p := 231) (b := 8) ((((hF758.1 231 8 (by decide)).trans (hF499.1 231 8 (by decide))).trans hv1))
    have x775 := HI.eqI hI757 (p := 231) (b := 10) ((((hF758.1 231 10 (by decide)).trans (hF499.1 231 10 (by decide))).trans hv3))
    refine r_callV 21 rfl [.ref 231] [] (Nat.le_of_ble_eq_true rfl) rfl (T_X11_next_231 _ hI757 (by omega)) ?_
    rintro _ _ ⟨g776, rfl, hI777, hF778, rfl, hr780⟩
    refine At.stn ?_
    have hF781 := Fr.tr hF761 hF778 rfl rfl
    have x782 := HI.eqI hI757 (p := 231) (b := 8) ((((hF758.1 231 8 (by decide)).trans (hF499.1 231 8 (by decide))).trans hv1))
    have x783 := HI.eqI hI757 (p := 231) (b := 10) ((((hF758.1 231 10 (by decide)).trans (hF499.1 231 10 (by decide))).trans hv3))
    have x784 := HI.eqI hI777 (p := 231) (b := 8) ((((hF778.1 231 8 (by decide)).trans ((hF758.1 231 8 (by decide)).trans (hF499.1 231 8 (by decide)))).trans hv1))
    obtain ⟨v785, hv785⟩ : ∃ v, gI g776 231 9 = v := ⟨_, rfl⟩
    have rv785 := RgF.at hI777.2.1 (p := 231) (b := 9) rfl
    rw [hv785] at rv785
    dsimp only at rv785
    have tv785 := congrArg Int32.toInt hv785
    have x786 := HI.eqI hI777 (p := 231) (b := 9) (hv785)
    obtain ⟨v787, hv787⟩ : ∃ v, gI g776 231 10 = v := ⟨_, rfl⟩
    have rv787 := RgF.at hI777.2.1 (p := 231) (b := 10) rfl
    rw [hv787] at rv787
    dsimp only at rv787
    have tv787 := congrArg Int32.toInt hv787
    have x788 := HI.eqI hI777 (p := 231) (b := 10) (hv787)
    obtain ⟨v789, hv789⟩ : ∃ v, gI g776 231 11 = v := ⟨_, rfl⟩
    have tv789 := congrArg Int32.toInt hv789
    have x790 := HI.eqI hI777 (p := 231) (b := 11) (hv789)
    obtain ⟨c791, c792, c793, c794, c795, c796⟩ := hr780
    refine At.enter rfl ?_
    refine r_iconst 0 rfl ?_
    refine r_ireti ?_
    have x797 := HI.eqI hI777 (p := 231) (b := 8) ((((hF778.1 231 8 (by decide)).trans ((hF758.1 231 8 (by decide)).trans (hF499.1 231 8 (by decide)))).trans hv1))
    have x798 := HI.eqI hI777 (p := 231) (b := 9) (hv785)
    have x799 := HI.eqI hI777 (p := 231) (b := 10) (hv787)
    have x800 := HI.eqI hI777 (p := 231) (b := 11) (hv789)
    obtain ⟨v801, hv801⟩ : ∃ v, gJ g776 231 12 = v := ⟨_, rfl⟩
    have x802 := HI.eqJ hI777 (b := 12) (hv801)
    have x803 := HI.eqI hI777 (p := 231) (b := 14) ((((hF778.1 231 14 (by decide)).trans ((hF758.1 231 14 (by decide)).trans (hF499.1 231 14 (by decide)))).trans hv6))
    have x804 := HI.eqI hI777 (p := 231) (b := 17) ((((hF778.1 231 17 (by decide)).trans ((hF758.1 231 17 (by decide)).trans (hF499.1 231 17 (by decide)))).trans hv7))
    have x805 := HI.eqI hI777 (p := 231) (b := 23) (((hF778.1 231 23 (by decide)).trans hv767))
    have x806 := HI.eqI hI0 (p := 231) (b := 9) (hv2)
    have zv807 : (0 : Int32).toInt = 0 := rfl
    have pg808 := PG.cong pg771 hI777 ((hF778.2.1 238 (by decide))) ((hF778.2.1 239 (by decide))) ((hF778.2.1 240 (by decide))) ((hF778.2.1 241 (by decide))) ((hF778.1 231 17 (by decide))) ((hF778.1 231 23 (by decide)))
    have nsq809 := NSQ.cong nsq773 hI777 ((hF778.2.1 240 (by decide))) ((hF778.1 231 23 (by decide)))
    exact ⟨_, rfl, hI777, hF781, _, rfl, by decide, ⟨by omega, by omega, by omega, by omega, c796, by omega, by omega, (fun hbad => ⟨by omega, (PT.mk (fun _ => pg808) (fun h => False.elim (by omega)) (fun _ _ => nsq809) (fun h => False.elim (by omega)))⟩), (fun hbad => by omega)⟩⟩

def F_X11_behindSum_231 : List (Nat × Nat) := [(231, 9), (231, 10), (231, 11), (231, 12), (231, 13), (231, 14), (231, 17), (231, 23), (231, 24)]
def A_X11_behindSum_231 : List Nat := [238, 239, 240, 241]
set_option maxRecDepth 100000 in
set_option maxHeartbeats 4000000 in
theorem T_X11_behindSum_231 (d : Nat) {N : Nat} {g0 : List en_E} (hI0 : HI g0) (a1 : Int32) (h_a1 : 0 ≤ a1.toInt ∧ a1.toInt ≤ 1) (b : Int) (o0 : Int → Int) (a0 : Int → Int) (h1 : ((gI g0 231 9).toInt ≤ (gI g0 231 10).toInt ∧ (gI g0 231 10).toInt ≤ (gI g0 231 8).toInt ∧ 0 ≤ (gI g0 231 11).toInt ∧ (gI g0 231 11).toInt ≤ 3 * ((gI g0 231 10).toInt - (gI g0 231 9).toInt))) (h2 : (gI g0 231 14).toInt = 0) (h3 : (gI g0 231 17).toInt + (gI g0 231 23).toInt ≤ (gI g0 231 9).toInt) (hW : W26 g0) (hP : PT g0 b 3 o0 a0) : Ev (d + 4) 206 [.ref 231, .int a1] (g0, N) (fun w h' => ∃ g', h' = (g', N) ∧ HI g' ∧ Fr F_X11_behindSum_231 A_X11_behindSum_231 g0 g' ∧ ∃ r : Int32, w = some (.int r) ∧ (1 ≤ r.toInt ∧ r.toInt ≤ 4) ∧ ((gI g' 231 9).toInt ≤ (gI g' 231 10).toInt ∧ (gI g' 231 10).toInt ≤ (gI g' 231 8).toInt ∧ 0 ≤ (gI g' 231 11).toInt ∧ (gI g' 231 11).toInt ≤ 3 * ((gI g' 231 10).toInt - (gI g' 231 9).toInt) ∧ W26 g' ∧ (gI g' 231 17).toInt + (gI g' 231 23).toInt ≤ 400 ∧ (gI g0 231 9).toInt ≤ (gI g' 231 9).toInt ∧ TURN g' b r.toInt o0 a0 ∧ PRG (gI g' 231 14).toInt (gI g0 231 9).toInt (gI g' 231 9).toInt r.toInt 2)) := by
  have hF0 : Fr F_X11_behindSum_231 A_X11_behindSum_231 g0 g0 := Fr.rf
  obtain ⟨v1, hv1⟩ : ∃ v, gI g0 231 8 = v := ⟨_, rfl⟩
  have rv1 := RgF.at hI0.2.1 (p := 231) (b := 8) rfl
  rw [hv1] at rv1
  dsimp only at rv1
  have tv1 := congrArg Int32.toInt hv1
  obtain ⟨v2, hv2⟩ : ∃ v, gI g0 231 9 = v := ⟨_, rfl⟩
  have rv2 := RgF.at hI0.2.1 (p := 231) (b := 9) rfl
  rw [hv2] at rv2
  dsimp only at rv2
  have tv2 := congrArg Int32.toInt hv2
  obtain ⟨v3, hv3⟩ : ∃ v, gI g0 231 10 = v := ⟨_, rfl⟩
  have rv3 := RgF.at hI0.2.1 (p := 231) (b := 10) rfl
  rw [hv3] at rv3
  dsimp only at rv3
  have tv3 := congrArg Int32.toInt hv3
  obtain ⟨v4, hv4⟩ : ∃ v, gI g0 231 11 = v := ⟨_, rfl⟩
  have tv4 := congrArg Int32.toInt hv4
  obtain ⟨v5, hv5⟩ : ∃ v, gJ g0 231 12 = v := ⟨_, rfl⟩
  have tv5 := congrArg Int64.toInt hv5
  obtain ⟨v6, hv6⟩ : ∃ v, gI g0 231 14 = v := ⟨_, rfl⟩
  have tv6 := congrArg Int32.toInt hv6
  obtain ⟨v7, hv7⟩ : ∃ v, gI g0 231 17 = v := ⟨_, rfl⟩
  have rv7 := RgF.at hI0.2.1 (p := 231) (b := 17) rfl
  rw [hv7] at rv7
  dsimp only at rv7
  have tv7 := congrArg Int32.toInt hv7
  obtain ⟨v8, hv8⟩ : ∃ v, gI g0 231 23 = v := ⟨_, rfl⟩
  have rv8 := RgF.at hI0.2.1 (p := 231) (b := 23) rfl
  rw [hv8] at rv8
  dsimp only at rv8
  have tv8 := congrArg Int32.toInt hv8
  refine Ev.mk rfl rfl ⟨Nat.le_of_ble_eq_true rfl, Or.inr (q_rc hI0.1 kx_231 rfl)⟩ ?_
  show At _ none _ _ (0, [(0, .ref 231), (1, .int a1)], [], (_, _)) _
  refine At.enter rfl ?_
  refine r_aload_n rfl ?_
  refine r_bipush 43 rfl ?_
  have x2267 := HI.eqI hI0 (p := 231) (b := 11) (hv4)
  have zv2268 : (43 : Int32).toInt = 43 := rfl
  refine r_callV 6 rfl [.ref 231, .int 43] [] (Nat.le_of_ble_eq_true rfl) rfl (T_X11_isSign_231 _ hI0 43 (by omega)) ?_
  rintro _ _ ⟨g2269, rfl, hI2270, hF2271, v2272, rfl, hr2273⟩
  refine At.sti ?_
  have hF2274 := Fr.tr hF0 hF2271 rfl rfl
  have zv2275 : (43 : Int32).toInt = 43 := rfl
  have x2276 := HI.eqI hI0 (p := 231) (b := 11) (hv4)
  have x2277 := HI.eqI hI2270 (p := 231) (b := 11) (((hF2271.1 231 11 (by decide)).trans hv4))
  refine At.enter rfl ?_
  refine r_ifs 9 rfl (fun c2278 => ?_) (fun c2278 => ?_)
  · have c2278_ : v2272.toInt = 0 := en_k_eq_t c2278
    refine At.enter rfl ?_
    refine r_aload_n rfl ?_
    refine r_bipush 45 rfl ?_
    have x2279 := HI.eqI hI2270 (p := 231) (b := 11) (((hF2271.1 231 11 (by decide)).trans hv4))
    have zv2280 : (45 : Int32).toInt = 45 := rfl
    refine r_callV 20 rfl [.ref 231, .int 45] [] (Nat.le_of_ble_eq_true rfl) rfl (T_X11_isSign_231 _ hI2270 45 (by omega)) ?_
    rintro _ _ ⟨g2281, rfl, hI2282, hF2283, v2284, rfl, hr2285⟩
    refine At.sti ?_
    have hF2286 := Fr.tr hF2274 hF2283 rfl rfl
    have zv2287 : (45 : Int32).toInt = 45 := rfl
    have x2288 := HI.eqI hI2270 (p := 231) (b := 11) (((hF2271.1 231 11 (by decide)).trans hv4))
    have x2289 := HI.eqI hI2282 (p := 231) (b := 11) ((((hF2283.1 231 11 (by decide)).trans (hF2271.1 231 11 (by decide))).trans hv4))
    refine At.enter rfl ?_
    refine r_ifs 23 rfl (fun c2290 => ?_) (fun c2290 => ?_)
    · have c2290_ : v2284.toInt = 0 := en_k_eq_t c2290
      refine At.enter rfl ?_
      refine r_aload_n rfl ?_
      refine r_bipush 42 rfl ?_
      have x2291 := HI.eqI hI2282 (p := 231) (b := 11) ((((hF2283.1 231 11 (by decide)).trans (hF2271.1 231 11 (by decide))).trans hv4))
      have zv2292 : (42 : Int32).toInt = 42 := rfl
      refine r_callV 34 rfl [.ref 231, .int 42] [] (Nat.le_of_ble_eq_true rfl) rfl (T_X11_isSign_231 _ hI2282 42 (by omega)) ?_
      rintro _ _ ⟨g2293, rfl, hI2294, hF2295, v2296, rfl, hr2297⟩
      refine At.sti ?_
      have hF2298 := Fr.tr hF2286 hF2295 rfl rfl
      have zv2299 : (42 : Int32).toInt = 42 := rfl
      have x2300 := HI.eqI hI2282 (p := 231) (b := 11) ((((hF2283.1 231 11 (by decide)).trans (hF2271.1 231 11 (by decide))).trans hv4))
      have x2301 := HI.eqI hI2294 (p := 231) (b := 11) ((((hF2295.1 231 11 (by decide)).trans ((hF2283.1 231 11 (by decide)).trans (hF2271.1 231 11 (by decide)))).trans hv4))
      refine At.enter rfl ?_
      refine r_ifs 37 rfl (fun c2302 => ?_) (fun c2302 => ?_)
      · have c2302_ : v2296.toInt = 0 := en_k_eq_t c2302
        refine At.enter rfl ?_
        refine r_aload_n rfl ?_
        refine r_bipush 47 rfl ?_
        have x2303 := HI.eqI hI2294 (p := 231) (b := 11) ((((hF2295.1 231 11 (by decide)).trans ((hF2283.1 231 11 (by decide)).trans (hF2271.1 231 11 (by decide)))).trans hv4))
        have zv2304 : (47 : Int32).toInt = 47 := rfl
        refine r_callV 48 rfl [.ref 231, .int 47] [] (Nat.le_of_ble_eq_true rfl) rfl (T_X11_isSign_231 _ hI2294 47 (by omega)) ?_
        rintro _ _ ⟨g2305, rfl, hI2306, hF2307, v2308, rfl, hr2309⟩
        refine At.sti ?_
        have hF2310 := Fr.tr hF2298 hF2307 rfl rfl
        have zv2311 : (47 : Int32).toInt = 47 := rfl
        have x2312 := HI.eqI hI2294 (p := 231) (b := 11) ((((hF2295.1 231 11 (by decide)).trans ((hF2283.1 231 11 (by decide)).trans (hF2271.1 231 11 (by decide)))).trans hv4))
        have x2313 := HI.eqI hI2306 (p := 231) (b := 11) ((((hF2307.1 231 11 (by decide)).trans ((hF2295.1 231 11 (by decide)).trans ((hF2283.1 231 11 (by decide)).trans (hF2271.1 231 11 (by decide))))).trans hv4))
        refine At.enter rfl ?_
        refine r_ifs 51 rfl (fun c2314 => ?_) (fun c2314 => ?_)
        · have c2314_ : v2308.toInt = 0 := en_k_eq_t c2314
          refine At.enter rfl ?_
          refine r_iconst (-1) rfl ?_
          refine Ar.fall 57 rfl ?_
          refine At.enter rfl ?_
          refine r_istore_n ([(2, .int (-1)), (0, .ref 231), (1, .int a1)]) rfl ?_
          refine r_iload_n rfl ?_
          refine r_iconst (-1) rfl ?_
          refine r_ict (by decide) ?_
          refine At.enter rfl ?_
          refine r_aload_n rfl ?_
          refine r_callV 87 rfl [.ref 231] [] (Nat.le_of_ble_eq_true rfl) rfl (T_X11_inner_231 _ hI2306) ?_
          rintro _ _ ⟨g2315, rfl, hI2316, hF2317, v2318, rfl, hr2319⟩
          refine At.sti ?_
          have hF2320 := Fr.tr hF2310 hF2317 rfl rfl
          have inn2321 := INN.cong hr2319.2 hI2316 (hF2317.2.1 240 (by decide)) (hF2317.1 231 23 (by decide))
          refine At.enter rfl ?_
          refine r_istore_n ([(3, .int v2318), (2, .int (-1)), (0, .ref 231), (1, .int a1)]) rfl ?_
          refine r_iload_n rfl ?_
          refine r_bipush 31 rfl ?_
          refine r_ics 94 rfl (fun c2322 => ?_) (fun c2322 => ?_)
          · have c2322_ : v2318.toInt ≠ 31 := en_i_ne_t c2322
            refine At.enter rfl ?_
            refine r_iload_n rfl ?_
            refine r_iconst (-1) rfl ?_
            refine r_ics 143 rfl (fun c2323 => ?_) (fun c2323 => ?_)
            · have c2323_ : v2318.toInt ≠ (-1) := en_i_ne_t c2323
              refine At.enter rfl ?_
              refine r_aload_n rfl ?_
              refine r_callV 153 rfl [.ref 231] [] (Nat.le_of_ble_eq_true rfl) rfl (T_X11_isCompared_231 _ hI2316) ?_
              rintro _ _ ⟨g2324, rfl, hI2325, hF2326, v2327, rfl, hr2328⟩
              refine At.sti ?_
              have hF2329 := Fr.tr hF2320 hF2326 rfl rfl
              refine At.enter rfl ?_
              refine r_ifs 156 rfl (fun c2330 => ?_) (fun c2330 => ?_)
              · have c2330_ : v2327.toInt = 0 := en_k_eq_t c2330
                refine At.enter rfl ?_
                refine r_aload_n rfl ?_
                refine r_bipush 60 rfl ?_
                have x2331 := HI.eqI hI2325 (p := 231) (b := 11) ((((hF2326.1 231 11 (by decide)).trans ((hF2317.1 231 11 (by decide)).trans ((hF2307.1 231 11 (by decide)).trans ((hF2295.1 231 11 (by decide)).trans ((hF2283.1 231 11 (by decide)).trans (hF2271.1 231 11 (by decide))))))).trans hv4))
                have zv2332 : (60 : Int32).toInt = 60 := rfl
                refine r_callV 164 rfl [.ref 231, .int 60] [] (Nat.le_of_ble_eq_true rfl) rfl (T_X11_isSign_231 _ hI2325 60 (by omega)) ?_
                rintro _ _ ⟨g2333, rfl, hI2334, hF2335, v2336, rfl, hr2337⟩
                refine At.sti ?_
                have hF2338 := Fr.tr hF2329 hF2335 rfl rfl
                have zv2339 : (60 : Int32).toInt = 60 := rfl
                have x2340 := HI.eqI hI2325 (p := 231) (b := 11) ((((hF2326.1 231 11 (by decide)).trans ((hF2317.1 231 11 (by decide)).trans ((hF2307.1 231 11 (by decide)).trans ((hF2295.1 231 11 (by decide)).trans ((hF2283.1 231 11 (by decide)).trans (hF2271.1 231 11 (by decide))))))).trans hv4))
                have x2341 := HI.eqI hI2334 (p := 231) (b := 11) ((((hF2335.1 231 11 (by decide)).trans ((hF2326.1 231 11 (by decide)).trans ((hF2317.1 231 11 (by decide)).trans ((hF2307.1 231 11 (by decide)).trans ((hF2295.1 231 11 (by decide)).trans ((hF2283.1 231 11 (by decide)).trans (hF2271.1 231 11 (by decide)))))))).trans hv4))
                refine At.enter rfl ?_
                refine r_ifs 167 rfl (fun c2342 => ?_) (fun c2342 => ?_)
                · have c2342_ : v2336.toInt = 0 := en_k_eq_t c2342
                  refine At.enter rfl ?_
                  refine r_aload_n rfl ?_
                  refine r_bipush 62 rfl ?_
                  have x2343 := HI.eqI hI2334 (p := 231) (b := 11) ((((hF2335.1 231 11 (by decide)).trans ((hF2326.1 231 11 (by decide)).trans ((hF2317.1 231 11 (by decide)).trans ((hF2307.1 231 11 (by decide)).trans ((hF2295.1 231 11 (by decide)).trans ((hF2283.1 231 11 (by decide)).trans (hF2271.1 231 11 (by decide)))))))).trans hv4))
                  have zv2344 : (62 : Int32).toInt = 62 := rfl
                  refine r_callV 178 rfl [.ref 231, .int 62] [] (Nat.le_of_ble_eq_true rfl) rfl (T_X11_isSign_231 _ hI2334 62 (by omega)) ?_
                  rintro _ _ ⟨g2345, rfl, hI2346, hF2347, v2348, rfl, hr2349⟩
                  refine At.sti ?_
                  have hF2350 := Fr.tr hF2338 hF2347 rfl rfl
                  have zv2351 : (62 : Int32).toInt = 62 := rfl
                  have x2352 := HI.eqI hI2334 (p := 231) (b := 11) ((((hF2335.1 231 11 (by decide)).trans ((hF2326.1 231 11 (by decide)).trans ((hF2317.1 231 11 (by decide)).trans ((hF2307.1 231 11 (by decide)).trans ((hF2295.1 231 11 (by decide)).trans ((hF2283.1 231 11 (by decide)).trans (hF2271.1 231 11 (by decide)))))))).trans hv4))
                  have x2353 := HI.eqI hI2346 (p := 231) (b := 11) ((((hF2347.1 231 11 (by decide)).trans ((hF2335.1 231 11 (by decide)).trans ((hF2326.1 231 11 (by decide)).trans ((hF2317.1 231 11 (by decide)).trans ((hF2307.1 231 11 (by decide)).trans ((hF2295.1 231 11 (by decide)).trans ((hF2283.1 231 11 (by decide)).trans (hF2271.1 231 11 (by decide))))))))).trans hv4))
                  refine At.enter rfl ?_
                  refine r_ifs 181 rfl (fun c2354 => ?_) (fun c2354 => ?_)
                  · have c2354_ : v2348.toInt = 0 := en_k_eq_t c2354
                    refine At.enter rfl ?_
                    refine r_bipush 26 rfl ?_
                    refine Ar.fall 188 rfl ?_
                    refine At.enter rfl ?_
                    refine r_istore_n ([(2, .int 26), (3, .int v2318), (0, .ref 231), (1, .int a1)]) rfl ?_
                    refine r_aload_n rfl ?_
                    refine r_iload_n rfl ?_
                    refine r_bipush 26 rfl ?_
                    refine r_icf 196 rfl (by decide) ?_
                    refine At.enter rfl ?_
                    refine r_aload_n rfl ?_
                    refine r_bipush 61 rfl ?_
                    have x2355 := HI.eqI hI2346 (p := 231) (b := 11) ((((hF2347.1 231 11 (by decide)).trans ((hF2335.1 231 11 (by decide)).trans ((hF2326.1 231 11 (by decide)).trans ((hF2317.1 231 11 (by decide)).trans ((hF2307.1 231 11 (by decide)).trans ((hF2295.1 231 11 (by decide)).trans ((hF2283.1 231 11 (by decide)).trans (hF2271.1 231 11 (by decide))))))))).trans hv4))
                    have zv2356 : (61 : Int32).toInt = 61 := rfl
                    refine r_callV 202 rfl [.ref 231, .int 61] [.ref 231] (Nat.le_of_ble_eq_true rfl) rfl (T_X11_isSign_231 _ hI2346 61 (by omega)) ?_
                    rintro _ _ ⟨g2357, rfl, hI2358, hF2359, v2360, rfl, hr2361⟩
                    refine At.sti ?_
                    have hF2362 := Fr.tr hF2350 hF2359 rfl rfl
                    have zv2363 : (61 : Int32).toInt = 61 := rfl
                    have x2364 := HI.eqI hI2346 (p := 231) (b := 11) ((((hF2347.1 231 11 (by decide)).trans ((hF2335.1 231 11 (by decide)).trans ((hF2326.1 231 11 (by decide)).trans ((hF2317.1 231 11 (by decide)).trans ((hF2307.1 231 11 (by decide)).trans ((hF2295.1 231 11 (by decide)).trans ((hF2283.1 231 11 (by decide)).trans (hF2271.1 231 11 (by decide))))))))).trans hv4))
                    have x2365 := HI.eqI hI2358 (p := 231) (b := 11) ((((hF2359.1 231 11 (by decide)).trans ((hF2347.1 231 11 (by decide)).trans ((hF2335.1 231 11 (by decide)).trans ((hF2326.1 231 11 (by decide)).trans ((hF2317.1 231 11 (by decide)).trans ((hF2307.1 231 11 (by decide)).trans ((hF2295.1 231 11 (by decide)).trans ((hF2283.1 231 11 (by decide)).trans (hF2271.1 231 11 (by decide)))))))))).trans hv4))
                    refine At.enter rfl ?_
                    refine r_ifs 205 rfl (fun c2366 => ?_) (fun c2366 => ?_)
                    · have c2366_ : v2360.toInt = 0 := en_k_eq_t c2366
                      refine At.enter rfl ?_
                      refine r_iconst 0 rfl ?_
                      refine Ar.fall 210 rfl ?_
                      refine At.enter rfl ?_
                      have x2367 := HI.eqI hI2358 (p := 231) (b := 8) ((((hF2359.1 231 8 (by decide)).trans ((hF2347.1 231 8 (by decide)).trans ((hF2335.1 231 8 (by decide)).trans ((hF2326.1 231 8 (by decide)).trans ((hF2317.1 231 8 (by decide)).trans ((hF2307.1 231 8 (by decide)).trans ((hF2295.1 231 8 (by decide)).trans ((hF2283.1 231 8 (by decide)).trans (hF2271.1 231 8 (by decide)))))))))).trans hv1))
                      have x2368 := HI.eqI hI2358 (p := 231) (b := 9) ((((hF2359.1 231 9 (by decide)).trans ((hF2347.1 231 9 (by decide)).trans ((hF2335.1 231 9 (by decide)).trans ((hF2326.1 231 9 (by decide)).trans ((hF2317.1 231 9 (by decide)).trans ((hF2307.1 231 9 (by decide)).trans ((hF2295.1 231 9 (by decide)).trans ((hF2283.1 231 9 (by decide)).trans (hF2271.1 231 9 (by decide)))))))))).trans hv2))
                      have x2369 := HI.eqI hI2358 (p := 231) (b := 10) ((((hF2359.1 231 10 (by decide)).trans ((hF2347.1 231 10 (by decide)).trans ((hF2335.1 231 10 (by decide)).trans ((hF2326.1 231 10 (by decide)).trans ((hF2317.1 231 10 (by decide)).trans ((hF2307.1 231 10 (by decide)).trans ((hF2295.1 231 10 (by decide)).trans ((hF2283.1 231 10 (by decide)).trans (hF2271.1 231 10 (by decide)))))))))).trans hv3))
                      have x2370 := HI.eqI hI2358 (p := 231) (b := 11) ((((hF2359.1 231 11 (by decide)).trans ((hF2347.1 231 11 (by decide)).trans ((hF2335.1 231 11 (by decide)).trans ((hF2326.1 231 11 (by decide)).trans ((hF2317.1 231 11 (by decide)).trans ((hF2307.1 231 11 (by decide)).trans ((hF2295.1 231 11 (by decide)).trans ((hF2283.1 231 11 (by decide)).trans (hF2271.1 231 11 (by decide)))))))))).trans hv4))
                      have w262371 := W26.cong hW hI2358 (((hF2359.1 231 9 (by decide)).trans ((hF2347.1 231 9 (by decide)).trans ((hF2335.1 231 9 (by decide)).trans ((hF2326.1 231 9 (by decide)).trans ((hF2317.1 231 9 (by decide)).trans ((hF2307.1 231 9 (by decide)).trans ((hF2295.1 231 9 (by decide)).trans ((hF2283.1 231 9 (by decide)).trans (hF2271.1 231 9 (by decide))))))))))) (((hF2359.1 231 10 (by decide)).trans ((hF2347.1 231 10 (by decide)).trans ((hF2335.1 231 10 (by decide)).trans ((hF2326.1 231 10 (by decide)).trans ((hF2317.1 231 10 (by decide)).trans ((hF2307.1 231 10 (by decide)).trans ((hF2295.1 231 10 (by decide)).trans ((hF2283.1 231 10 (by decide)).trans (hF2271.1 231 10 (by decide))))))))))) (((hF2359.1 231 11 (by decide)).trans ((hF2347.1 231 11 (by decide)).trans ((hF2335.1 231 11 (by decide)).trans ((hF2326.1 231 11 (by decide)).trans ((hF2317.1 231 11 (by decide)).trans ((hF2307.1 231 11 (by decide)).trans ((hF2295.1 231 11 (by decide)).trans ((hF2283.1 231 11 (by decide)).trans (hF2271.1 231 11 (by decide))))))))))) (((hF2359.2.2 231 12 (by decide)).trans ((hF2347.2.2 231 12 (by decide)).trans ((hF2335.2.2 231 12 (by decide)).trans ((hF2326.2.2 231 12 (by decide)).trans ((hF2317.2.2 231 12 (by decide)).trans ((hF2307.2.2 231 12 (by decide)).trans ((hF2295.2.2 231 12 (by decide)).trans ((hF2283.2.2 231 12 (by decide)).trans (hF2271.2.2 231 12 (by decide)))))))))))
                      have zv2372 : (0 : Int32).toInt = 0 := rfl
                      refine r_callV 213 rfl [.ref 231, .int 0] [] (Nat.le_of_ble_eq_true rfl) rfl (T_X11_must_231 _ hI2358 0 (by decide) (by refine ⟨?_, ?_, ?_, ?_⟩ <;> omega) w262371) ?_
                      rintro _ _ ⟨g2373, rfl, hI2374, hF2375, rfl, hr2377⟩
                      refine At.stn ?_
                      have hF2378 := Fr.tr hF2362 hF2375 rfl rfl
                      have zv2379 : (0 : Int32).toInt = 0 := rfl
                      have x2380 := HI.eqI hI2358 (p := 231) (b := 8) ((((hF2359.1 231 8 (by decide)).trans ((hF2347.1 231 8 (by decide)).trans ((hF2335.1 231 8 (by decide)).trans ((hF2326.1 231 8 (by decide)).trans ((hF2317.1 231 8 (by decide)).trans ((hF2307.1 231 8 (by decide)).trans ((hF2295.1 231 8 (by decide)).trans ((hF2283.1 231 8 (by decide)).trans (hF2271.1 231 8 (by decide)))))))))).trans hv1))
                      have x2381 := HI.eqI hI2358 (p := 231) (b := 9) ((((hF2359.1 231 9 (by decide)).trans ((hF2347.1 231 9 (by decide)).trans ((hF2335.1 231 9 (by decide)).trans ((hF2326.1 231 9 (by decide)).trans ((hF2317.1 231 9 (by decide)).trans ((hF2307.1 231 9 (by decide)).trans ((hF2295.1 231 9 (by decide)).trans ((hF2283.1 231 9 (by decide)).trans (hF2271.1 231 9 (by decide)))))))))).trans hv2))
                      have x2382 := HI.eqI hI2358 (p := 231) (b := 10) ((((hF2359.1 231 10 (by decide)).trans ((hF2347.1 231 10 (by decide)).trans ((hF2335.1 231 10 (by decide)).trans ((hF2326.1 231 10 (by decide)).trans ((hF2317.1 231 10 (by decide)).trans ((hF2307.1 231 10 (by decide)).trans ((hF2295.1 231 10 (by decide)).trans ((hF2283.1 231 10 (by decide)).trans (hF2271.1 231 10 (by decide)))))))))).trans hv3))
                      have x2383 := HI.eqI hI2358 (p := 231) (b := 11) ((((hF2359.1 231 11 (by decide)).trans ((hF2347.1 231 11 (by decide)).trans ((hF2335.1 231 11 (by decide)).trans ((hF2326.1 231 11 (by decide)).trans ((hF2317.1 231 11 (by decide)).trans ((hF2307.1 231 11 (by decide)).trans ((hF2295.1 231 11 (by decide)).trans ((hF2283.1 231 11 (by decide)).trans (hF2271.1 231 11 (by decide)))))))))).trans hv4))
                      have x2384 := HI.eqI hI2358 (p := 231) (b := 14) ((((hF2359.1 231 14 (by decide)).trans ((hF2347.1 231 14 (by decide)).trans ((hF2335.1 231 14 (by decide)).trans ((hF2326.1 231 14 (by decide)).trans ((hF2317.1 231 14 (by decide)).trans ((hF2307.1 231 14 (by decide)).trans ((hF2295.1 231 14 (by decide)).trans ((hF2283.1 231 14 (by decide)).trans (hF2271.1 231 14 (by decide)))))))))).trans hv6))
                      have x2385 := HI.eqI hI2374 (p := 231) (b := 8) ((((hF2375.1 231 8 (by decide)).trans ((hF2359.1 231 8 (by decide)).trans ((hF2347.1 231 8 (by decide)).trans ((hF2335.1 231 8 (by decide)).trans ((hF2326.1 231 8 (by decide)).trans ((hF2317.1 231 8 (by decide)).trans ((hF2307.1 231 8 (by decide)).trans ((hF2295.1 231 8 (by decide)).trans ((hF2283.1 231 8 (by decide)).trans (hF2271.1 231 8 (by decide))))))))))).trans hv1))
                      obtain ⟨v2386, hv2386⟩ : ∃ v, gI g2373 231 9 = v := ⟨_, rfl⟩
                      have rv2386 := RgF.at hI2374.2.1 (p := 231) (b := 9) rfl
                      rw [hv2386] at rv2386
                      dsimp only at rv2386
                      have tv2386 := congrArg Int32.toInt hv2386
                      have x2387 := HI.eqI hI2374 (p := 231) (b := 9) (hv2386)
                      obtain ⟨v2388, hv2388⟩ : ∃ v, gI g2373 231 10 = v := ⟨_, rfl⟩
                      have rv2388 := RgF.at hI2374.2.1 (p := 231) (b := 10) rfl
                      rw [hv2388] at rv2388
                      dsimp only at rv2388
                      have tv2388 := congrArg Int32.toInt hv2388
                      have x2389 := HI.eqI hI2374 (p := 231) (b := 10) (hv2388)
                      obtain ⟨v2390, hv2390⟩ : ∃ v, gI g2373 231 11 = v := ⟨_, rfl⟩
                      have tv2390 := congrArg Int32.toInt hv2390
                      have x2391 := HI.eqI hI2374 (p := 231) (b := 11) (hv2390)
                      obtain ⟨v2392, hv2392⟩ : ∃ v, gI g2373 231 14 = v := ⟨_, rfl⟩
                      have tv2392 := congrArg Int32.toInt hv2392
                      have x2393 := HI.eqI hI2374 (p := 231) (b := 14) (hv2392)
                      obtain ⟨c2394, c2395, c2396, c2397, c2398, c2399, c2400⟩ := hr2377
                      refine At.enter rfl ?_
                      refine r_aload_n rfl ?_
                      refine q_getI (Sh.int hI2374.1 kx_231 rfl) v2392 hv2392 ?_
                      refine r_ifs 220 rfl (fun c2401 => ?_) (fun c2401 => ?_)
                      · have c2401_ : v2392.toInt ≠ 0 := en_k_ne_t c2401
                        clear c2400
                        refine At.enter rfl ?_
                        refine r_iconst 1 rfl ?_
                        refine r_ireti ?_
                        have x2402 := HI.eqI hI2374 (p := 231) (b := 8) ((((hF2375.1 231 8 (by decide)).trans ((hF2359.1 231 8 (by decide)).trans ((hF2347.1 231 8 (by decide)).trans ((hF2335.1 231 8 (by decide)).trans ((hF2326.1 231 8 (by decide)).trans ((hF2317.1 231 8 (by decide)).trans ((hF2307.1 231 8 (by decide)).trans ((hF2295.1 231 8 (by decide)).trans ((hF2283.1 231 8 (by decide)).trans (hF2271.1 231 8 (by decide))))))))))).trans hv1))
                        have x2403 := HI.eqI hI2374 (p := 231) (b := 9) (hv2386)
                        have x2404 := HI.eqI hI2374 (p := 231) (b := 10) (hv2388)
                        have x2405 := HI.eqI hI2374 (p := 231) (b := 11) (hv2390)
                        obtain ⟨v2406, hv2406⟩ : ∃ v, gJ g2373 231 12 = v := ⟨_, rfl⟩
                        have x2407 := HI.eqJ hI2374 (b := 12) (hv2406)
                        have x2408 := HI.eqI hI2374 (p := 231) (b := 14) (hv2392)
                        have x2409 := HI.eqI hI2374 (p := 231) (b := 17) ((((hF2375.1 231 17 (by decide)).trans ((hF2359.1 231 17 (by decide)).trans ((hF2347.1 231 17 (by decide)).trans ((hF2335.1 231 17 (by decide)).trans ((hF2326.1 231 17 (by decide)).trans ((hF2317.1 231 17 (by decide)).trans ((hF2307.1 231 17 (by decide)).trans ((hF2295.1 231 17 (by decide)).trans ((hF2283.1 231 17 (by decide)).trans (hF2271.1 231 17 (by decide))))))))))).trans hv7))
                        have x2410 := HI.eqI hI2374 (p := 231) (b := 23) ((((hF2375.1 231 23 (by decide)).trans ((hF2359.1 231 23 (by decide)).trans ((hF2347.1 231 23 (by decide)).trans ((hF2335.1 231 23 (by decide)).trans ((hF2326.1 231 23 (by decide)).trans ((hF2317.1 231 23 (by decide)).trans ((hF2307.1 231 23 (by decide)).trans ((hF2295.1 231 23 (by decide)).trans ((hF2283.1 231 23 (by decide)).trans (hF2271.1 231 23 (by decide))))))))))).trans hv8))
                        have x2411 := HI.eqI hI0 (p := 231) (b := 9) (hv2)
                        have zv2412 : (1 : Int32).toInt = 1 := rfl
                        exact ⟨_, rfl, hI2374, hF2378, _, rfl, by decide, ⟨by omega, by omega, by omega, by omega, c2399, by omega, by omega, (fun hbad => ⟨by omega, (PT.mk (fun h => False.elim (by omega)) (fun h => False.elim (by omega)) (fun h h9 => False.elim (by omega)) (fun h => False.elim (by omega)))⟩), (fun hbad => by omega)⟩⟩
                      · have c2401_ : v2392.toInt = 0 := en_k_ne_f c2401
                        obtain ⟨i2413, i2414, i2415⟩ := c2400 (by omega)
                        refine At.enter rfl ?_
                        refine r_aload_n rfl ?_
                        refine r_iconst 5 rfl ?_
                        have x2416 := HI.eqI hI2374 (p := 231) (b := 17) ((((hF2375.1 231 17 (by decide)).trans ((hF2359.1 231 17 (by decide)).trans ((hF2347.1 231 17 (by decide)).trans ((hF2335.1 231 17 (by decide)).trans ((hF2326.1 231 17 (by decide)).trans ((hF2317.1 231 17 (by decide)).trans ((hF2307.1 231 17 (by decide)).trans ((hF2295.1 231 17 (by decide)).trans ((hF2283.1 231 17 (by decide)).trans (hF2271.1 231 17 (by decide))))))))))).trans hv7))
                        have x2417 := HI.eqI hI2374 (p := 231) (b := 23) ((((hF2375.1 231 23 (by decide)).trans ((hF2359.1 231 23 (by decide)).trans ((hF2347.1 231 23 (by decide)).trans ((hF2335.1 231 23 (by decide)).trans ((hF2326.1 231 23 (by decide)).trans ((hF2317.1 231 23 (by decide)).trans ((hF2307.1 231 23 (by decide)).trans ((hF2295.1 231 23 (by decide)).trans ((hF2283.1 231 23 (by decide)).trans (hF2271.1 231 23 (by decide))))))))))).trans hv8))
                        have zv2418 : (5 : Int32).toInt = 5 := rfl
                        refine r_callV 225 rfl [.ref 231, .int 5] [] (Nat.le_of_ble_eq_true rfl) rfl (T_X11_settle_231 _ hI2374 5 (by decide) (by omega)) ?_
                        rintro _ _ ⟨g2419, rfl, hI2420, hF2421, rfl, hr2423⟩
                        refine At.stn ?_
                        have hF2424 := Fr.tr hF2378 hF2421 rfl rfl
                        have zv2425 : (5 : Int32).toInt = 5 := rfl
                        have x2426 := HI.eqI hI2374 (p := 231) (b := 17) ((((hF2375.1 231 17 (by decide)).trans ((hF2359.1 231 17 (by decide)).trans ((hF2347.1 231 17 (by decide)).trans ((hF2335.1 231 17 (by decide)).trans ((hF2326.1 231 17 (by decide)).trans ((hF2317.1 231 17 (by decide)).trans ((hF2307.1 231 17 (by decide)).trans ((hF2295.1 231 17 (by decide)).trans ((hF2283.1 231 17 (by decide)).trans (hF2271.1 231 17 (by decide))))))))))).trans hv7))
                        have x2427 := HI.eqI hI2374 (p := 231) (b := 23) ((((hF2375.1 231 23 (by decide)).trans ((hF2359.1 231 23 (by decide)).trans ((hF2347.1 231 23 (by decide)).trans ((hF2335.1 231 23 (by decide)).trans ((hF2326.1 231 23 (by decide)).trans ((hF2317.1 231 23 (by decide)).trans ((hF2307.1 231 23 (by decide)).trans ((hF2295.1 231 23 (by decide)).trans ((hF2283.1 231 23 (by decide)).trans (hF2271.1 231 23 (by decide))))))))))).trans hv8))
                        obtain ⟨v2428, hv2428⟩ : ∃ v, gI g2419 231 17 = v := ⟨_, rfl⟩
                        have rv2428 := RgF.at hI2420.2.1 (p := 231) (b := 17) rfl
                        rw [hv2428] at rv2428
                        dsimp only at rv2428
                        have tv2428 := congrArg Int32.toInt hv2428
                        have x2429 := HI.eqI hI2420 (p := 231) (b := 17) (hv2428)
                        obtain ⟨v2430, hv2430⟩ : ∃ v, gI g2419 231 23 = v := ⟨_, rfl⟩
                        have rv2430 := RgF.at hI2420.2.1 (p := 231) (b := 23) rfl
                        rw [hv2430] at rv2430
                        dsimp only at rv2430
                        have tv2430 := congrArg Int32.toInt hv2430
                        have x2431 := HI.eqI hI2420 (p := 231) (b := 23) (hv2430)
                        have y2432 : (gI _ 231 23).toInt ≤ (gI _ 231 23).toInt := hr2423.1
                        have y2433 : (gI _ 231 17).toInt + (gI _ 231 23).toInt ≤ (gI _ 231 17).toInt + (gI _ 231 23).toInt := hr2423.2.1
                        have inn2434 := INN.cong inn2321 hI2374 (((hF2375.2.1 240 (by decide)).trans ((hF2359.2.1 240 (by decide)).trans ((hF2347.2.1 240 (by decide)).trans ((hF2335.2.1 240 (by decide)).trans (hF2326.2.1 240 (by decide))))))) (((hF2375.1 231 23 (by decide)).trans ((hF2359.1 231 23 (by decide)).trans ((hF2347.1 231 23 (by decide)).trans ((hF2335.1 231 23 (by decide)).trans (hF2326.1 231 23 (by decide)))))))
                        have pg2435 := PG.cong (hP.2.1 (by decide)) hI2374 (((hF2375.2.1 238 (by decide)).trans ((hF2359.2.1 238 (by decide)).trans ((hF2347.2.1 238 (by decide)).trans ((hF2335.2.1 238 (by decide)).trans ((hF2326.2.1 238 (by decide)).trans ((hF2317.2.1 238 (by decide)).trans ((hF2307.2.1 238 (by decide)).trans ((hF2295.2.1 238 (by decide)).trans ((hF2283.2.1 238 (by decide)).trans (hF2271.2.1 238 (by decide)))))))))))) (((hF2375.2.1 239 (by decide)).trans ((hF2359.2.1 239 (by decide)).trans ((hF2347.2.1 239 (by decide)).trans ((hF2335.2.1 239 (by decide)).trans ((hF2326.2.1 239 (by decide)).trans ((hF2317.2.1 239 (by decide)).trans ((hF2307.2.1 239 (by decide)).trans ((hF2295.2.1 239 (by decide)).trans ((hF2283.2.1 239 (by decide)).trans (hF2271.2.1 239 (by decide)))))))))))) (((hF2375.2.1 240 (by decide)).trans ((hF2359.2.1 240 (by decide)).trans ((hF2347.2.1 240 (by decide)).trans ((hF2335.2.1 240 (by decide)).trans ((hF2326.2.1 240 (by decide)).trans ((hF2317.2.1 240 (by decide)).trans ((hF2307.2.1 240 (by decide)).trans ((hF2295.2.1 240 (by decide)).trans ((hF2283.2.1 240 (by decide)).trans (hF2271.2.1 240 (by decide)))))))))))) (((hF2375.2.1 241 (by decide)).trans ((hF2359.2.1 241 (by decide)).trans ((hF2347.2.1 241 (by decide)).trans ((hF2335.2.1 241 (by decide)).trans ((hF2326.2.1 241 (by decide)).trans ((hF2317.2.1 241 (by decide)).trans ((hF2307.2.1 241 (by decide)).trans ((hF2295.2.1 241 (by decide)).trans ((hF2283.2.1 241 (by decide)).trans (hF2271.2.1 241 (by decide)))))))))))) (((hF2375.1 231 17 (by decide)).trans ((hF2359.1 231 17 (by decide)).trans ((hF2347.1 231 17 (by decide)).trans ((hF2335.1 231 17 (by decide)).trans ((hF2326.1 231 17 (by decide)).trans ((hF2317.1 231 17 (by decide)).trans ((hF2307.1 231 17 (by decide)).trans ((hF2295.1 231 17 (by decide)).trans ((hF2283.1 231 17 (by decide)).trans (hF2271.1 231 17 (by decide)))))))))))) (((hF2375.1 231 23 (by decide)).trans ((hF2359.1 231 23 (by decide)).trans ((hF2347.1 231 23 (by decide)).trans ((hF2335.1 231 23 (by decide)).trans ((hF2326.1 231 23 (by decide)).trans ((hF2317.1 231 23 (by decide)).trans ((hF2307.1 231 23 (by decide)).trans ((hF2295.1 231 23 (by decide)).trans ((hF2283.1 231 23 (by decide)).trans (hF2271.1 231 23 (by decide))))))))))))
                        have nsq2436 := INN.nsq inn2434 pg2435 (by omega)
                        have pg2437 := PG.cong (hP.2.1 (by decide)) hI2374 (((hF2375.2.1 238 (by decide)).trans ((hF2359.2.1 238 (by decide)).trans ((hF2347.2.1 238 (by decide)).trans ((hF2335.2.1 238 (by decide)).trans ((hF2326.2.1 238 (by decide)).trans ((hF2317.2.1 238 (by decide)).trans ((hF2307.2.1 238 (by decide)).trans ((hF2295.2.1 238 (by decide)).trans ((hF2283.2.1 238 (by decide)).trans (hF2271.2.1 238 (by decide)))))))))))) (((hF2375.2.1 239 (by decide)).trans ((hF2359.2.1 239 (by decide)).trans ((hF2347.2.1 239 (by decide)).trans ((hF2335.2.1 239 (by decide)).trans ((hF2326.2.1 239 (by decide)).trans ((hF2317.2.1 239 (by decide)).trans ((hF2307.2.1 239 (by decide)).trans ((hF2295.2.1 239 (by decide)).trans ((hF2283.2.1 239 (by decide)).trans (hF2271.2.1 239 (by decide)))))))))))) (((hF2375.2.1 240 (by decide)).trans ((hF2359.2.1 240 (by decide)).trans ((hF2347.2.1 240 (by decide)).trans ((hF2335.2.1 240 (by decide)).trans ((hF2326.2.1 240 (by decide)).trans ((hF2317.2.1 240 (by decide)).trans ((hF2307.2.1 240 (by decide)).trans ((hF2295.2.1 240 (by decide)).trans ((hF2283.2.1 240 (by decide)).trans (hF2271.2.1 240 (by decide)))))))))))) (((hF2375.2.1 241 (by decide)).trans ((hF2359.2.1 241 (by decide)).trans ((hF2347.2.1 241 (by decide)).trans ((hF2335.2.1 241 (by decide)).trans ((hF2326.2.1 241 (by decide)).trans ((hF2317.2.1 241 (by decide)).trans ((hF2307.2.1 241 (by decide)).trans ((hF2295.2.1 241 (by decide)).trans ((hF2283.2.1 241 (by decide)).trans (hF2271.2.1 241 (by decide)))))))))))) (((hF2375.1 231 17 (by decide)).trans ((hF2359.1 231 17 (by decide)).trans ((hF2347.1 231 17 (by decide)).trans ((hF2335.1 231 17 (by decide)).trans ((hF2326.1 231 17 (by decide)).trans ((hF2317.1 231 17 (by decide)).trans ((hF2307.1 231 17 (by decide)).trans ((hF2295.1 231 17 (by decide)).trans ((hF2283.1 231 17 (by decide)).trans (hF2271.1 231 17 (by decide)))))))))))) (((hF2375.1 231 23 (by decide)).trans ((hF2359.1 231 23 (by decide)).trans ((hF2347.1 231 23 (by decide)).trans ((hF2335.1 231 23 (by decide)).trans ((hF2326.1 231 23 (by decide)).trans ((hF2317.1 231 23 (by decide)).trans ((hF2307.1 231 23 (by decide)).trans ((hF2295.1 231 23 (by decide)).trans ((hF2283.1 231 23 (by decide)).trans (hF2271.1 231 23 (by decide))))))))))))
                        have inn2439 := INN.cong inn2321 hI2374 (((hF2375.2.1 240 (by decide)).trans ((hF2359.2.1 240 (by decide)).trans ((hF2347.2.1 240 (by decide)).trans ((hF2335.2.1 240 (by decide)).trans (hF2326.2.1 240 (by decide))))))) (((hF2375.1 231 23 (by decide)).trans ((hF2359.1 231 23 (by decide)).trans ((hF2347.1 231 23 (by decide)).trans ((hF2335.1 231 23 (by decide)).trans (hF2326.1 231 23 (by decide)))))))
                        have pg2438 := hr2423.2.2.1 _ _ _ pg2437
                        have nsq2441 := NSQ.le nsq2436 hI2420 hr2423.2.2.2.2.1 hr2423.1
                        refine At.enter rfl ?_
                        refine r_aload_n rfl ?_
                        refine r_iload_n rfl ?_
                        refine r_iconst 0 rfl ?_
                        have x2442 := HI.eqI hI2420 (p := 231) (b := 23) (hv2430)
                        have zv2443 : (26 : Int32).toInt = 26 := rfl
                        have zv2444 : (0 : Int32).toInt = 0 := rfl
                        refine r_callV 231 rfl [.ref 231, .int 26, .int 0] [] (Nat.le_of_ble_eq_true rfl) rfl (T_X11_push_231 _ hI2420 26 (by decide) 0 (by decide) (by omega)) ?_
                        rintro _ _ ⟨g2445, rfl, hI2446, hF2447, rfl, hr2449⟩
                        refine At.stn ?_
                        have hF2450 := Fr.tr hF2424 hF2447 rfl rfl
                        have zv2451 : (26 : Int32).toInt = 26 := rfl
                        have zv2452 : (0 : Int32).toInt = 0 := rfl
                        have x2453 := HI.eqI hI2420 (p := 231) (b := 17) (hv2428)
                        have x2454 := HI.eqI hI2420 (p := 231) (b := 23) (hv2430)
                        have x2455 := HI.eqI hI2446 (p := 231) (b := 17) (((hF2447.1 231 17 (by decide)).trans hv2428))
                        obtain ⟨v2456, hv2456⟩ : ∃ v, gI g2445 231 23 = v := ⟨_, rfl⟩
                        have rv2456 := RgF.at hI2446.2.1 (p := 231) (b := 23) rfl
                        rw [hv2456] at rv2456
                        dsimp only at rv2456
                        have tv2456 := congrArg Int32.toInt hv2456
                        have x2457 := HI.eqI hI2446 (p := 231) (b := 23) (hv2456)
                        have y2458 : (gI _ 231 23).toInt = (gI _ 231 23).toInt + 1 := hr2449.1
                        have pg2459 := PG.push (e' := 0) pg2438 hr2449 (hF2447.2.1 238 (by decide)) (hF2447.2.1 239 (by decide)) (hF2447.1 231 17 (by decide)) ⟨by omega, by omega⟩ (Or.inr nsq2441) (by omega) (by omega)
                        have nsq2460 := NSQ.push nsq2441 hr2449 (by omega)
                        refine At.enter rfl ?_
                        refine r_iconst 1 rfl ?_
                        refine r_ireti ?_
                        have x2461 := HI.eqI hI2446 (p := 231) (b := 8) ((((hF2447.1 231 8 (by decide)).trans ((hF2421.1 231 8 (by decide)).trans ((hF2375.1 231 8 (by decide)).trans ((hF2359.1 231 8 (by decide)).trans ((hF2347.1 231 8 (by decide)).trans ((hF2335.1 231 8 (by decide)).trans ((hF2326.1 231 8 (by decide)).trans ((hF2317.1 231 8 (by decide)).trans ((hF2307.1 231 8 (by decide)).trans ((hF2295.1 231 8 (by decide)).trans ((hF2283.1 231 8 (by decide)).trans (hF2271.1 231 8 (by decide))))))))))))).trans hv1))
                        have x2462 := HI.eqI hI2446 (p := 231) (b := 9) ((((hF2447.1 231 9 (by decide)).trans (hF2421.1 231 9 (by decide))).trans hv2386))
                        have x2463 := HI.eqI hI2446 (p := 231) (b := 10) ((((hF2447.1 231 10 (by decide)).trans (hF2421.1 231 10 (by decide))).trans hv2388))
                        have x2464 := HI.eqI hI2446 (p := 231) (b := 11) ((((hF2447.1 231 11 (by decide)).trans (hF2421.1 231 11 (by decide))).trans hv2390))
                        obtain ⟨v2465, hv2465⟩ : ∃ v, gJ g2373 231 12 = v := ⟨_, rfl⟩
                        have x2466 := HI.eqJ hI2446 (b := 12) ((((hF2447.2.2 231 12 (by decide)).trans (hF2421.2.2 231 12 (by decide))).trans hv2465))
                        have x2467 := HI.eqI hI2446 (p := 231) (b := 14) ((((hF2447.1 231 14 (by decide)).trans (hF2421.1 231 14 (by decide))).trans hv2392))
                        have x2468 := HI.eqI hI2446 (p := 231) (b := 17) (((hF2447.1 231 17 (by decide)).trans hv2428))
                        have x2469 := HI.eqI hI2446 (p := 231) (b := 23) (hv2456)
                        have x2470 := HI.eqI hI0 (p := 231) (b := 9) (hv2)
                        have zv2471 : (1 : Int32).toInt = 1 := rfl
                        have w262472 := W26.cong c2399 hI2446 (((hF2447.1 231 9 (by decide)).trans (hF2421.1 231 9 (by decide)))) (((hF2447.1 231 10 (by decide)).trans (hF2421.1 231 10 (by decide)))) (((hF2447.1 231 11 (by decide)).trans (hF2421.1 231 11 (by decide)))) (((hF2447.2.2 231 12 (by decide)).trans (hF2421.2.2 231 12 (by decide))))
                        exact ⟨_, rfl, hI2446, hF2450, _, rfl, by decide, ⟨by omega, by omega, by omega, by omega, w262472, by omega, by omega, (fun hbad => ⟨by omega, (PT.mk (fun _ => pg2459) (fun h => False.elim (by omega)) (fun h h9 => False.elim (by omega)) (fun h => False.elim (by omega)))⟩), (fun hbad => by omega)⟩⟩
                    · have c2366_ : v2360.toInt ≠ 0 := en_k_eq_f c2366
                      refine At.enter rfl ?_
                      refine r_iconst 1 rfl ?_
                      refine r_goto ?_
                      refine At.enter rfl ?_
                      have x2473 := HI.eqI hI2358 (p := 231) (b := 8) ((((hF2359.1 231 8 (by decide)).trans ((hF2347.1 231 8 (by decide)).trans ((hF2335.1 231 8 (by decide)).trans ((hF2326.1 231 8 (by decide)).trans ((hF2317.1 231 8 (by decide)).trans ((hF2307.1 231 8 (by decide)).trans ((hF2295.1 231 8 (by decide)).trans ((hF2283.1 231 8 (by decide)).trans (hF2271.1 231 8 (by decide)))))))))).trans hv1))
                      have x2474 := HI.eqI hI2358 (p := 231) (b := 9) ((((hF2359.1 231 9 (by decide)).trans ((hF2347.1 231 9 (by decide)).trans ((hF2335.1 231 9 (by decide)).trans ((hF2326.1 231 9 (by decide)).trans ((hF2317.1 231 9 (by decide)).trans ((hF2307.1 231 9 (by decide)).trans ((hF2295.1 231 9 (by decide)).trans ((hF2283.1 231 9 (by decide)).trans (hF2271.1 231 9 (by decide)))))))))).trans hv2))
                      have x2475 := HI.eqI hI2358 (p := 231) (b := 10) ((((hF2359.1 231 10 (by decide)).trans ((hF2347.1 231 10 (by decide)).trans ((hF2335.1 231 10 (by decide)).trans ((hF2326.1 231 10 (by decide)).trans ((hF2317.1 231 10 (by decide)).trans ((hF2307.1 231 10 (by decide)).trans ((hF2295.1 231 10 (by decide)).trans ((hF2283.1 231 10 (by decide)).trans (hF2271.1 231 10 (by decide)))))))))).trans hv3))
                      have x2476 := HI.eqI hI2358 (p := 231) (b := 11) ((((hF2359.1 231 11 (by decide)).trans ((hF2347.1 231 11 (by decide)).trans ((hF2335.1 231 11 (by decide)).trans ((hF2326.1 231 11 (by decide)).trans ((hF2317.1 231 11 (by decide)).trans ((hF2307.1 231 11 (by decide)).trans ((hF2295.1 231 11 (by decide)).trans ((hF2283.1 231 11 (by decide)).trans (hF2271.1 231 11 (by decide)))))))))).trans hv4))
                      have w262477 := W26.cong hW hI2358 (((hF2359.1 231 9 (by decide)).trans ((hF2347.1 231 9 (by decide)).trans ((hF2335.1 231 9 (by decide)).trans ((hF2326.1 231 9 (by decide)).trans ((hF2317.1 231 9 (by decide)).trans ((hF2307.1 231 9 (by decide)).trans ((hF2295.1 231 9 (by decide)).trans ((hF2283.1 231 9 (by decide)).trans (hF2271.1 231 9 (by decide))))))))))) (((hF2359.1 231 10 (by decide)).trans ((hF2347.1 231 10 (by decide)).trans ((hF2335.1 231 10 (by decide)).trans ((hF2326.1 231 10 (by decide)).trans ((hF2317.1 231 10 (by decide)).trans ((hF2307.1 231 10 (by decide)).trans ((hF2295.1 231 10 (by decide)).trans ((hF2283.1 231 10 (by decide)).trans (hF2271.1 231 10 (by decide))))))))))) (((hF2359.1 231 11 (by decide)).trans ((hF2347.1 231 11 (by decide)).trans ((hF2335.1 231 11 (by decide)).trans ((hF2326.1 231 11 (by decide)).trans ((hF2317.1 231 11 (by decide)).trans ((hF2307.1 231 11 (by decide)).trans ((hF2295.1 231 11 (by decide)).trans ((hF2283.1 231 11 (by decide)).trans (hF2271.1 231 11 (by decide))))))))))) (((hF2359.2.2 231 12 (by decide)).trans ((hF2347.2.2 231 12 (by decide)).trans ((hF2335.2.2 231 12 (by decide)).trans ((hF2326.2.2 231 12 (by decide)).trans ((hF2317.2.2 231 12 (by decide)).trans ((hF2307.2.2 231 12 (by decide)).trans ((hF2295.2.2 231 12 (by decide)).trans ((hF2283.2.2 231 12 (by decide)).trans (hF2271.2.2 231 12 (by decide)))))))))))
                      have zv2478 : (1 : Int32).toInt = 1 := rfl
                      refine r_callV 213 rfl [.ref 231, .int 1] [] (Nat.le_of_ble_eq_true rfl) rfl (T_X11_must_231 _ hI2358 1 (by decide) (by refine ⟨?_, ?_, ?_, ?_⟩ <;> omega) w262477) ?_
                      rintro _ _ ⟨g2479, rfl, hI2480, hF2481, rfl, hr2483⟩
                      refine At.stn ?_
                      have hF2484 := Fr.tr hF2362 hF2481 rfl rfl
                      have zv2485 : (1 : Int32).toInt = 1 := rfl
                      have x2486 := HI.eqI hI2358 (p := 231) (b := 8) ((((hF2359.1 231 8 (by decide)).trans ((hF2347.1 231 8 (by decide)).trans ((hF2335.1 231 8 (by decide)).trans ((hF2326.1 231 8 (by decide)).trans ((hF2317.1 231 8 (by decide)).trans ((hF2307.1 231 8 (by decide)).trans ((hF2295.1 231 8 (by decide)).trans ((hF2283.1 231 8 (by decide)).trans (hF2271.1 231 8 (by decide)))))))))).trans hv1))
                      have x2487 := HI.eqI hI2358 (p := 231) (b := 9) ((((hF2359.1 231 9 (by decide)).trans ((hF2347.1 231 9 (by decide)).trans ((hF2335.1 231 9 (by decide)).trans ((hF2326.1 231 9 (by decide)).trans ((hF2317.1 231 9 (by decide)).trans ((hF2307.1 231 9 (by decide)).trans ((hF2295.1 231 9 (by decide)).trans ((hF2283.1 231 9 (by decide)).trans (hF2271.1 231 9 (by decide)))))))))).trans hv2))
                      have x2488 := HI.eqI hI2358 (p := 231) (b := 10) ((((hF2359.1 231 10 (by decide)).trans ((hF2347.1 231 10 (by decide)).trans ((hF2335.1 231 10 (by decide)).trans ((hF2326.1 231 10 (by decide)).trans ((hF2317.1 231 10 (by decide)).trans ((hF2307.1 231 10 (by decide)).trans ((hF2295.1 231 10 (by decide)).trans ((hF2283.1 231 10 (by decide)).trans (hF2271.1 231 10 (by decide)))))))))).trans hv3))
                      have x2489 := HI.eqI hI2358 (p := 231) (b := 11) ((((hF2359.1 231 11 (by decide)).trans ((hF2347.1 231 11 (by decide)).trans ((hF2335.1 231 11 (by decide)).trans ((hF2326.1 231 11 (by decide)).trans ((hF2317.1 231 11 (by decide)).trans ((hF2307.1 231 11 (by decide)).trans ((hF2295.1 231 11 (by decide)).trans ((hF2283.1 231 11 (by decide)).trans (hF2271.1 231 11 (by decide)))))))))).trans hv4))
                      have x2490 := HI.eqI hI2358 (p := 231) (b := 14) ((((hF2359.1 231 14 (by decide)).trans ((hF2347.1 231 14 (by decide)).trans ((hF2335.1 231 14 (by decide)).trans ((hF2326.1 231 14 (by decide)).trans ((hF2317.1 231 14 (by decide)).trans ((hF2307.1 231 14 (by decide)).trans ((hF2295.1 231 14 (by decide)).trans ((hF2283.1 231 14 (by decide)).trans (hF2271.1 231 14 (by decide)))))))))).trans hv6))
                      have x2491 := HI.eqI hI2480 (p := 231) (b := 8) ((((hF2481.1 231 8 (by decide)).trans ((hF2359.1 231 8 (by decide)).trans ((hF2347.1 231 8 (by decide)).trans ((hF2335.1 231 8 (by decide)).trans ((hF2326.1 231 8 (by decide)).trans ((hF2317.1 231 8 (by decide)).trans ((hF2307.1 231 8 (by decide)).trans ((hF2295.1 231 8 (by decide)).trans ((hF2283.1 231 8 (by decide)).trans (hF2271.1 231 8 (by decide))))))))))).trans hv1))
                      obtain ⟨v2492, hv2492⟩ : ∃ v, gI g2479 231 9 = v := ⟨_, rfl⟩
                      have rv2492 := RgF.at hI2480.2.1 (p := 231) (b := 9) rfl
                      rw [hv2492] at rv2492
                      dsimp only at rv2492
                      have tv2492 := congrArg Int32.toInt hv2492
                      have x2493 := HI.eqI hI2480 (p := 231) (b := 9) (hv2492)
                      obtain ⟨v2494, hv2494⟩ : ∃ v, gI g2479 231 10 = v := ⟨_, rfl⟩
                      have rv2494 := RgF.at hI2480.2.1 (p := 231) (b := 10) rfl
                      rw [hv2494] at rv2494
                      dsimp only at rv2494
                      have tv2494 := congrArg Int32.toInt hv2494
                      have x2495 := HI.eqI hI2480 (p := 231) (b := 10) (hv2494)
                      obtain ⟨v2496, hv2496⟩ : ∃ v, gI g2479 231 11 = v := ⟨_, rfl⟩
                      have tv2496 := congrArg Int32.toInt hv2496
                      have x2497 := HI.eqI hI2480 (p := 231) (b := 11) (hv2496)
                      obtain ⟨v2498, hv2498⟩ : ∃ v, gI g2479 231 14 = v := ⟨_, rfl⟩
                      have tv2498 := congrArg Int32.toInt hv2498
                      have x2499 := HI.eqI hI2480 (p := 231) (b := 14) (hv2498)
                      obtain ⟨c2500, c2501, c2502, c2503, c2504, c2505, c2506⟩ := hr2483
                      refine At.enter rfl ?_
                      refine r_aload_n rfl ?_
                      refine q_getI (Sh.int hI2480.1 kx_231 rfl) v2498 hv2498 ?_
                      refine r_ifs 220 rfl (fun c2507 => ?_) (fun c2507 => ?_)
                      · have c2507_ : v2498.toInt ≠ 0 := en_k_ne_t c2507
                        clear c2506
                        refine At.enter rfl ?_
                        refine r_iconst 1 rfl ?_
                        refine r_ireti ?_
                        have x2508 := HI.eqI hI2480 (p := 231) (b := 8) ((((hF2481.1 231 8 (by decide)).trans ((hF2359.1 231 8 (by decide)).trans ((hF2347.1 231 8 (by decide)).trans ((hF2335.1 231 8 (by decide)).trans ((hF2326.1 231 8 (by decide)).trans ((hF2317.1 231 8 (by decide)).trans ((hF2307.1 231 8 (by decide)).trans ((hF2295.1 231 8 (by decide)).trans ((hF2283.1 231 8 (by decide)).trans (hF2271.1 231 8 (by decide))))))))))).trans hv1))
                        have x2509 := HI.eqI hI2480 (p := 231) (b := 9) (hv2492)
                        have x2510 := HI.eqI hI2480 (p := 231) (b := 10) (hv2494)
                        have x2511 := HI.eqI hI2480 (p := 231) (b := 11) (hv2496)
                        obtain ⟨v2512, hv2512⟩ : ∃ v, gJ g2479 231 12 = v := ⟨_, rfl⟩
                        have x2513 := HI.eqJ hI2480 (b := 12) (hv2512)
                        have x2514 := HI.eqI hI2480 (p := 231) (b := 14) (hv2498)
                        have x2515 := HI.eqI hI2480 (p := 231) (b := 17) ((((hF2481.1 231 17 (by decide)).trans ((hF2359.1 231 17 (by decide)).trans ((hF2347.1 231 17 (by decide)).trans ((hF2335.1 231 17 (by decide)).trans ((hF2326.1 231 17 (by decide)).trans ((hF2317.1 231 17 (by decide)).trans ((hF2307.1 231 17 (by decide)).trans ((hF2295.1 231 17 (by decide)).trans ((hF2283.1 231 17 (by decide)).trans (hF2271.1 231 17 (by decide))))))))))).trans hv7))
                        have x2516 := HI.eqI hI2480 (p := 231) (b := 23) ((((hF2481.1 231 23 (by decide)).trans ((hF2359.1 231 23 (by decide)).trans ((hF2347.1 231 23 (by decide)).trans ((hF2335.1 231 23 (by decide)).trans ((hF2326.1 231 23 (by decide)).trans ((hF2317.1 231 23 (by decide)).trans ((hF2307.1 231 23 (by decide)).trans ((hF2295.1 231 23 (by decide)).trans ((hF2283.1 231 23 (by decide)).trans (hF2271.1 231 23 (by decide))))))))))).trans hv8))
                        have x2517 := HI.eqI hI0 (p := 231) (b := 9) (hv2)
                        have zv2518 : (1 : Int32).toInt = 1 := rfl
                        exact ⟨_, rfl, hI2480, hF2484, _, rfl, by decide, ⟨by omega, by omega, by omega, by omega, c2505, by omega, by omega, (fun hbad => ⟨by omega, (PT.mk (fun h => False.elim (by omega)) (fun h => False.elim (by omega)) (fun h h9 => False.elim (by omega)) (fun h => False.elim (by omega)))⟩), (fun hbad => by omega)⟩⟩
                      · have c2507_ : v2498.toInt = 0 := en_k_ne_f c2507
                        obtain ⟨i2519, i2520, i2521⟩ := c2506 (by omega)
                        refine At.enter rfl ?_
                        refine r_aload_n rfl ?_
                        refine r_iconst 5 rfl ?_
                        have x2522 := HI.eqI hI2480 (p := 231) (b := 17) ((((hF2481.1 231 17 (by decide)).trans ((hF2359.1 231 17 (by decide)).trans ((hF2347.1 231 17 (by decide)).trans ((hF2335.1 231 17 (by decide)).trans ((hF2326.1 231 17 (by decide)).trans ((hF2317.1 231 17 (by decide)).trans ((hF2307.1 231 17 (by decide)).trans ((hF2295.1 231 17 (by decide)).trans ((hF2283.1 231 17 (by decide)).trans (hF2271.1 231 17 (by decide))))))))))).trans hv7))
                        have x2523 := HI.eqI hI2480 (p := 231) (b := 23) ((((hF2481.1 231 23 (by decide)).trans ((hF2359.1 231 23 (by decide)).trans ((hF2347.1 231 23 (by decide)).trans ((hF2335.1 231 23 (by decide)).trans ((hF2326.1 231 23 (by decide)).trans ((hF2317.1 231 23 (by decide)).trans ((hF2307.1 231 23 (by decide)).trans ((hF2295.1 231 23 (by decide)).trans ((hF2283.1 231 23 (by decide)).trans (hF2271.1 231 23 (by decide))))))))))).trans hv8))
                        have zv2524 : (5 : Int32).toInt = 5 := rfl
                        refine r_callV 225 rfl [.ref 231, .int 5] [] (Nat.le_of_ble_eq_true rfl) rfl (T_X11_settle_231 _ hI2480 5 (by decide) (by omega)) ?_
                        rintro _ _ ⟨g2525, rfl, hI2526, hF2527, rfl, hr2529⟩
                        refine At.stn ?_
                        have hF2530 := Fr.tr hF2484 hF2527 rfl rfl
                        have zv2531 : (5 : Int32).toInt = 5 := rfl
                        have x2532 := HI.eqI hI2480 (p := 231) (b := 17) ((((hF2481.1 231 17 (by decide)).trans ((hF2359.1 231 17 (by decide)).trans ((hF2347.1 231 17 (by decide)).trans ((hF2335.1 231 17 (by decide)).trans ((hF2326.1 231 17 (by decide)).trans ((hF2317.1 231 17 (by decide)).trans ((hF2307.1 231 17 (by decide)).trans ((hF2295.1 231 17 (by decide)).trans ((hF2283.1 231 17 (by decide)).trans (hF2271.1 231 17 (by decide))))))))))).trans hv7))
                        have x2533 := HI.eqI hI2480 (p := 231) (b := 23) ((((hF2481.1 231 23 (by decide)).trans ((hF2359.1 231 23 (by decide)).trans ((hF2347.1 231 23 (by decide)).trans ((hF2335.1 231 23 (by decide)).trans ((hF2326.1 231 23 (by decide)).trans ((hF2317.1 231 23 (by decide)).trans ((hF2307.1 231 23 (by decide)).trans ((hF2295.1 231 23 (by decide)).trans ((hF2283.1 231 23 (by decide)).trans (hF2271.1 231 23 (by decide))))))))))).trans hv8))
                        obtain ⟨v2534, hv2534⟩ : ∃ v, gI g2525 231 17 = v := ⟨_, rfl⟩
                        have rv2534 := RgF.at hI2526.2.1 (p := 231) (b := 17) rfl
                        rw [hv2534] at rv2534
                        dsimp only at rv2534
                        have tv2534 := congrArg Int32.toInt hv2534
                        have x2535 := HI.eqI hI2526 (p := 231) (b := 17) (hv2534)
                        obtain ⟨v2536, hv2536⟩ : ∃ v, gI g2525 231 23 = v := ⟨_, rfl⟩
                        have rv2536 := RgF.at hI2526.2.1 (p := 231) (b := 23) rfl
                        rw [hv2536] at rv2536
                        dsimp only at rv2536
                        have tv2536 := congrArg Int32.toInt hv2536
                        have x2537 := HI.eqI hI2526 (p := 231) (b := 23) (hv2536)
                        have y2538 : (gI _ 231 23).toInt ≤ (gI _ 231 23).toInt := hr2529.1
                        have y2539 : (gI _ 231 17).toInt + (gI _ 231 23).toInt ≤ (gI _ 231 17).toInt + (gI _ 231 23).toInt := hr2529.2.1
                        have inn2540 := INN.cong inn2321 hI2480 (((hF2481.2.1 240 (by decide)).trans ((hF2359.2.1 240 (by decide)).trans ((hF2347.2.1 240 (by decide)).trans ((hF2335.2.1 240 (by decide)).trans (hF2326.2.1 240 (by decide))))))) (((hF2481.1 231 23 (by decide)).trans ((hF2359.1 231 23 (by decide)).trans ((hF2347.1 231 23 (by decide)).trans ((hF2335.1 231 23 (by decide)).trans (hF2326.1 231 23 (by decide)))))))
                        have pg2541 := PG.cong (hP.2.1 (by decide)) hI2480 (((hF2481.2.1 238 (by decide)).trans ((hF2359.2.1 238 (by decide)).trans ((hF2347.2.1 238 (by decide)).trans ((hF2335.2.1 238 (by decide)).trans ((hF2326.2.1 238 (by decide)).trans ((hF2317.2.1 238 (by decide)).trans ((hF2307.2.1 238 (by decide)).trans ((hF2295.2.1 238 (by decide)).trans ((hF2283.2.1 238 (by decide)).trans (hF2271.2.1 238 (by decide)))))))))))) (((hF2481.2.1 239 (by decide)).trans ((hF2359.2.1 239 (by decide)).trans ((hF2347.2.1 239 (by decide)).trans ((hF2335.2.1 239 (by decide)).trans ((hF2326.2.1 239 (by decide)).trans ((hF2317.2.1 239 (by decide)).trans ((hF2307.2.1 239 (by decide)).trans ((hF2295.2.1 239 (by decide)).trans ((hF2283.2.1 239 (by decide)).trans (hF2271.2.1 239 (by decide)))))))))))) (((hF2481.2.1 240 (by decide)).trans ((hF2359.2.1 240 (by decide)).trans ((hF2347.2.1 240 (by decide)).trans ((hF2335.2.1 240 (by decide)).trans ((hF2326.2.1 240 (by decide)).trans ((hF2317.2.1 240 (by decide)).trans ((hF2307.2.1 240 (by decide)).trans ((hF2295.2.1 240 (by decide)).trans ((hF2283.2.1 240 (by decide)).trans (hF2271.2.1 240 (by decide)))))))))))) (((hF2481.2.1 241 (by decide)).trans ((hF2359.2.1 241 (by decide)).trans ((hF2347.2.1 241 (by decide)).trans ((hF2335.2.1 241 (by decide)).trans ((hF2326.2.1 241 (by decide)).trans ((hF2317.2.1 241 (by decide)).trans ((hF2307.2.1 241 (by decide)).trans ((hF2295.2.1 241 (by decide)).trans ((hF2283.2.1 241 (by decide)).trans (hF2271.2.1 241 (by decide)))))))))))) (((hF2481.1 231 17 (by decide)).trans ((hF2359.1 231 17 (by decide)).trans ((hF2347.1 231 17 (by decide)).trans ((hF2335.1 231 17 (by decide)).trans ((hF2326.1 231 17 (by decide)).trans ((hF2317.1 231 17 (by decide)).trans ((hF2307.1 231 17 (by decide)).trans ((hF2295.1 231 17 (by decide)).trans ((hF2283.1 231 17 (by decide)).trans (hF2271.1 231 17 (by decide)))))))))))) (((hF2481.1 231 23 (by decide)).trans ((hF2359.1 231 23 (by decide)).trans ((hF2347.1 231 23 (by decide)).trans ((hF2335.1 231 23 (by decide)).trans ((hF2326.1 231 23 (by decide)).trans ((hF2317.1 231 23 (by decide)).trans ((hF2307.1 231 23 (by decide)).trans ((hF2295.1 231 23 (by decide)).trans ((hF2283.1 231 23 (by decide)).trans (hF2271.1 231 23 (by decide))))))))))))
                        have nsq2542 := INN.nsq inn2540 pg2541 (by omega)
                        have pg2543 := PG.cong (hP.2.1 (by decide)) hI2480 (((hF2481.2.1 238 (by decide)).trans ((hF2359.2.1 238 (by decide)).trans ((hF2347.2.1 238 (by decide)).trans ((hF2335.2.1 238 (by decide)).trans ((hF2326.2.1 238 (by decide)).trans ((hF2317.2.1 238 (by decide)).trans ((hF2307.2.1 238 (by decide)).trans ((hF2295.2.1 238 (by decide)).trans ((hF2283.2.1 238 (by decide)).trans (hF2271.2.1 238 (by decide)))))))))))) (((hF2481.2.1 239 (by decide)).trans ((hF2359.2.1 239 (by decide)).trans ((hF2347.2.1 239 (by decide)).trans ((hF2335.2.1 239 (by decide)).trans ((hF2326.2.1 239 (by decide)).trans ((hF2317.2.1 239 (by decide)).trans ((hF2307.2.1 239 (by decide)).trans ((hF2295.2.1 239 (by decide)).trans ((hF2283.2.1 239 (by decide)).trans (hF2271.2.1 239 (by decide)))))))))))) (((hF2481.2.1 240 (by decide)).trans ((hF2359.2.1 240 (by decide)).trans ((hF2347.2.1 240 (by decide)).trans ((hF2335.2.1 240 (by decide)).trans ((hF2326.2.1 240 (by decide)).trans ((hF2317.2.1 240 (by decide)).trans ((hF2307.2.1 240 (by decide)).trans ((hF2295.2.1 240 (by decide)).trans ((hF2283.2.1 240 (by decide)).trans (hF2271.2.1 240 (by decide)))))))))))) (((hF2481.2.1 241 (by decide)).trans ((hF2359.2.1 241 (by decide)).trans ((hF2347.2.1 241 (by decide)).trans ((hF2335.2.1 241 (by decide)).trans ((hF2326.2.1 241 (by decide)).trans ((hF2317.2.1 241 (by decide)).trans ((hF2307.2.1 241 (by decide)).trans ((hF2295.2.1 241 (by decide)).trans ((hF2283.2.1 241 (by decide)).trans (hF2271.2.1 241 (by decide)))))))))))) (((hF2481.1 231 17 (by decide)).trans ((hF2359.1 231 17 (by decide)).trans ((hF2347.1 231 17 (by decide)).trans ((hF2335.1 231 17 (by decide)).trans ((hF2326.1 231 17 (by decide)).trans ((hF2317.1 231 17 (by decide)).trans ((hF2307.1 231 17 (by decide)).trans ((hF2295.1 231 17 (by decide)).trans ((hF2283.1 231 17 (by decide)).trans (hF2271.1 231 17 (by decide)))))))))))) (((hF2481.1 231 23 (by decide)).trans ((hF2359.1 231 23 (by decide)).trans ((hF2347.1 231 23 (by decide)).trans ((hF2335.1 231 23 (by decide)).trans ((hF2326.1 231 23 (by decide)).trans ((hF2317.1 231 23 (by decide)).trans ((hF2307.1 231 23 (by decide)).trans ((hF2295.1 231 23 (by decide)).trans ((hF2283.1 231 23 (by decide)).trans (hF2271.1 231 23 (by decide))))))))))))
                        have inn2545 := INN.cong inn2321 hI2480 (((hF2481.2.1 240 (by decide)).trans ((hF2359.2.1 240 (by decide)).trans ((hF2347.2.1 240 (by decide)).trans ((hF2335.2.1 240 (by decide)).trans (hF2326.2.1 240 (by decide))))))) (((hF2481.1 231 23 (by decide)).trans ((hF2359.1 231 23 (by decide)).trans ((hF2347.1 231 23 (by decide)).trans ((hF2335.1 231 23 (by decide)).trans (hF2326.1 231 23 (by decide)))))))
                        have pg2544 := hr2529.2.2.1 _ _ _ pg2543
                        have nsq2547 := NSQ.le nsq2542 hI2526 hr2529.2.2.2.2.1 hr2529.1
                        refine At.enter rfl ?_
                        refine r_aload_n rfl ?_
                        refine r_iload_n rfl ?_
                        refine r_iconst 0 rfl ?_
                        have x2548 := HI.eqI hI2526 (p := 231) (b := 23) (hv2536)
                        have zv2549 : (26 : Int32).toInt = 26 := rfl
                        have zv2550 : (0 : Int32).toInt = 0 := rfl
                        refine r_callV 231 rfl [.ref 231, .int 26, .int 0] [] (Nat.le_of_ble_eq_true rfl) rfl (T_X11_push_231 _ hI2526 26 (by decide) 0 (by decide) (by omega)) ?_
                        rintro _ _ ⟨g2551, rfl, hI2552, hF2553, rfl, hr2555⟩
                        refine At.stn ?_
                        have hF2556 := Fr.tr hF2530 hF2553 rfl rfl
                        have zv2557 : (26 : Int32).toInt = 26 := rfl
                        have zv2558 : (0 : Int32).toInt = 0 := rfl
                        have x2559 := HI.eqI hI2526 (p := 231) (b := 17) (hv2534)
                        have x2560 := HI.eqI hI2526 (p := 231) (b := 23) (hv2536)
                        have x2561 := HI.eqI hI2552 (p := 231) (b := 17) (((hF2553.1 231 17 (by decide)).trans hv2534))
                        obtain ⟨v2562, hv2562⟩ : ∃ v, gI g2551 231 23 = v := ⟨_, rfl⟩
                        have rv2562 := RgF.at hI2552.2.1 (p := 231) (b := 23) rfl
                        rw [hv2562] at rv2562
                        dsimp only at rv2562
                        have tv2562 := congrArg Int32.toInt hv2562
                        have x2563 := HI.eqI hI2552 (p := 231) (b := 23) (hv2562)
                        have y2564 : (gI _ 231 23).toInt = (gI _ 231 23).toInt + 1 := hr2555.1
                        have pg2565 := PG.push (e' := 0) pg2544 hr2555 (hF2553.2.1 238 (by decide)) (hF2553.2.1 239 (by decide)) (hF2553.1 231 17 (by decide)) ⟨by omega, by omega⟩ (Or.inr nsq2547) (by omega) (by omega)
                        have nsq2566 := NSQ.push nsq2547 hr2555 (by omega)
                        refine At.enter rfl ?_
                        refine r_iconst 1 rfl ?_
                        refine r_ireti ?_
                        have x2567 := HI.eqI hI2552 (p := 231) (b := 8) ((((hF2553.1 231 8 (by decide)).trans ((hF2527.1 231 8 (by decide)).trans ((hF2481.1 231 8 (by decide)).trans ((hF2359.1 231 8 (by decide)).trans ((hF2347.1 231 8 (by decide)).trans ((hF2335.1 231 8 (by decide)).trans ((hF2326.1 231 8 (by decide)).trans ((hF2317.1 231 8 (by decide)).trans ((hF2307.1 231 8 (by decide)).trans ((hF2295.1 231 8 (by decide)).trans ((hF2283.1 231 8 (by decide)).trans (hF2271.1 231 8 (by decide))))))))))))).trans hv1))
                        have x2568 := HI.eqI hI2552 (p := 231) (b := 9) ((((hF2553.1 231 9 (by decide)).trans (hF2527.1 231 9 (by decide))).trans hv2492))
                        have x2569 := HI.eqI hI2552 (p := 231) (b := 10) ((((hF2553.1 231 10 (by decide)).trans (hF2527.1 231 10 (by decide))).trans hv2494))
                        have x2570 := HI.eqI hI2552 (p := 231) (b := 11) ((((hF2553.1 231 11 (by decide)).trans (hF2527.1 231 11 (by decide))).trans hv2496))
                        obtain ⟨v2571, hv2571⟩ : ∃ v, gJ g2479 231 12 = v := ⟨_, rfl⟩
                        have x2572 := HI.eqJ hI2552 (b := 12) ((((hF2553.2.2 231 12 (by decide)).trans (hF2527.2.2 231 12 (by decide))).trans hv2571))
                        have x2573 := HI.eqI hI2552 (p := 231) (b := 14) ((((hF2553.1 231 14 (by decide)).trans (hF2527.1 231 14 (by decide))).trans hv2498))
                        have x2574 := HI.eqI hI2552 (p := 231) (b := 17) (((hF2553.1 231 17 (by decide)).trans hv2534))
                        have x2575 := HI.eqI hI2552 (p := 231) (b := 23) (hv2562)
                        have x2576 := HI.eqI hI0 (p := 231) (b := 9) (hv2)
                        have zv2577 : (1 : Int32).toInt = 1 := rfl
                        have w262578 := W26.cong c2505 hI2552 (((hF2553.1 231 9 (by decide)).trans (hF2527.1 231 9 (by decide)))) (((hF2553.1 231 10 (by decide)).trans (hF2527.1 231 10 (by decide)))) (((hF2553.1 231 11 (by decide)).trans (hF2527.1 231 11 (by decide)))) (((hF2553.2.2 231 12 (by decide)).trans (hF2527.2.2 231 12 (by decide))))
                        exact ⟨_, rfl, hI2552, hF2556, _, rfl, by decide, ⟨by omega, by omega, by omega, by omega, w262578, by omega, by omega, (fun hbad => ⟨by omega, (PT.mk (fun _ => pg2565) (fun h => False.elim (by omega)) (fun h h9 => False.elim (by omega)) (fun h => False.elim (by omega)))⟩), (fun hbad => by omega)⟩⟩
                  · have c2354_ : v2348.toInt ≠ 0 := en_k_eq_f c2354
                    refine At.enter rfl ?_
                    refine r_bipush 25 rfl ?_
                    refine r_goto ?_
                    refine At.enter rfl ?_
                    refine r_istore_n ([(2, .int 25), (3, .int v2318), (0, .ref 231), (1, .int a1)]) rfl ?_
                    refine r_aload_n rfl ?_
                    refine r_iload_n rfl ?_
                    refine r_bipush 26 rfl ?_
                    refine r_ict (by decide) ?_
                    refine At.enter rfl ?_
                    refine r_iconst 1 rfl ?_
                    refine r_goto ?_
                    refine At.enter rfl ?_
                    have x2579 := HI.eqI hI2346 (p := 231) (b := 8) ((((hF2347.1 231 8 (by decide)).trans ((hF2335.1 231 8 (by decide)).trans ((hF2326.1 231 8 (by decide)).trans ((hF2317.1 231 8 (by decide)).trans ((hF2307.1 231 8 (by decide)).trans ((hF2295.1 231 8 (by decide)).trans ((hF2283.1 231 8 (by decide)).trans (hF2271.1 231 8 (by decide))))))))).trans hv1))
                    have x2580 := HI.eqI hI2346 (p := 231) (b := 9) ((((hF2347.1 231 9 (by decide)).trans ((hF2335.1 231 9 (by decide)).trans ((hF2326.1 231 9 (by decide)).trans ((hF2317.1 231 9 (by decide)).trans ((hF2307.1 231 9 (by decide)).trans ((hF2295.1 231 9 (by decide)).trans ((hF2283.1 231 9 (by decide)).trans (hF2271.1 231 9 (by decide))))))))).trans hv2))
                    have x2581 := HI.eqI hI2346 (p := 231) (b := 10) ((((hF2347.1 231 10 (by decide)).trans ((hF2335.1 231 10 (by decide)).trans ((hF2326.1 231 10 (by decide)).trans ((hF2317.1 231 10 (by decide)).trans ((hF2307.1 231 10 (by decide)).trans ((hF2295.1 231 10 (by decide)).trans ((hF2283.1 231 10 (by decide)).trans (hF2271.1 231 10 (by decide))))))))).trans hv3))
                    have x2582 := HI.eqI hI2346 (p := 231) (b := 11) ((((hF2347.1 231 11 (by decide)).trans ((hF2335.1 231 11 (by decide)).trans ((hF2326.1 231 11 (by decide)).trans ((hF2317.1 231 11 (by decide)).trans ((hF2307.1 231 11 (by decide)).trans ((hF2295.1 231 11 (by decide)).trans ((hF2283.1 231 11 (by decide)).trans (hF2271.1 231 11 (by decide))))))))).trans hv4))
                    have w262583 := W26.cong hW hI2346 (((hF2347.1 231 9 (by decide)).trans ((hF2335.1 231 9 (by decide)).trans ((hF2326.1 231 9 (by decide)).trans ((hF2317.1 231 9 (by decide)).trans ((hF2307.1 231 9 (by decide)).trans ((hF2295.1 231 9 (by decide)).trans ((hF2283.1 231 9 (by decide)).trans (hF2271.1 231 9 (by decide)))))))))) (((hF2347.1 231 10 (by decide)).trans ((hF2335.1 231 10 (by decide)).trans ((hF2326.1 231 10 (by decide)).trans ((hF2317.1 231 10 (by decide)).trans ((hF2307.1 231 10 (by decide)).trans ((hF2295.1 231 10 (by decide)).trans ((hF2283.1 231 10 (by decide)).trans (hF2271.1 231 10 (by decide)))))))))) (((hF2347.1 231 11 (by decide)).trans ((hF2335.1 231 11 (by decide)).trans ((hF2326.1 231 11 (by decide)).trans ((hF2317.1 231 11 (by decide)).trans ((hF2307.1 231 11 (by decide)).trans ((hF2295.1 231 11 (by decide)).trans ((hF2283.1 231 11 (by decide)).trans (hF2271.1 231 11 (by decide)))))))))) (((hF2347.2.2 231 12 (by decide)).trans ((hF2335.2.2 231 12 (by decide)).trans ((hF2326.2.2 231 12 (by decide)).trans ((hF2317.2.2 231 12 (by decide)).trans ((hF2307.2.2 231 12 (by decide)).trans ((hF2295.2.2 231 12 (by decide)).trans ((hF2283.2.2 231 12 (by decide)).trans (hF2271.2.2 231 12 (by decide))))))))))
                    have zv2584 : (1 : Int32).toInt = 1 := rfl
                    refine r_callV 213 rfl [.ref 231, .int 1] [] (Nat.le_of_ble_eq_true rfl) rfl (T_X11_must_231 _ hI2346 1 (by decide) (by refine ⟨?_, ?_, ?_, ?_⟩ <;> omega) w262583) ?_
                    rintro _ _ ⟨g2585, rfl, hI2586, hF2587, rfl, hr2589⟩
                    refine At.stn ?_
                    have hF2590 := Fr.tr hF2350 hF2587 rfl rfl
                    have zv2591 : (1 : Int32).toInt = 1 := rfl
                    have x2592 := HI.eqI hI2346 (p := 231) (b := 8) ((((hF2347.1 231 8 (by decide)).trans ((hF2335.1 231 8 (by decide)).trans ((hF2326.1 231 8 (by decide)).trans ((hF2317.1 231 8 (by decide)).trans ((hF2307.1 231 8 (by decide)).trans ((hF2295.1 231 8 (by decide)).trans ((hF2283.1 231 8 (by decide)).trans (hF2271.1 231 8 (by decide))))))))).trans hv1))
                    have x2593 := HI.eqI hI2346 (p := 231) (b := 9) ((((hF2347.1 231 9 (by decide)).trans ((hF2335.1 231 9 (by decide)).trans ((hF2326.1 231 9 (by decide)).trans ((hF2317.1 231 9 (by decide)).trans ((hF2307.1 231 9 (by decide)).trans ((hF2295.1 231 9 (by decide)).trans ((hF2283.1 231 9 (by decide)).trans (hF2271.1 231 9 (by decide))))))))).trans hv2))
                    have x2594 := HI.eqI hI2346 (p := 231) (b := 10) ((((hF2347.1 231 10 (by decide)).trans ((hF2335.1 231 10 (by decide)).trans ((hF2326.1 231 10 (by decide)).trans ((hF2317.1 231 10 (by decide)).trans ((hF2307.1 231 10 (by decide)).trans ((hF2295.1 231 10 (by decide)).trans ((hF2283.1 231 10 (by decide)).trans (hF2271.1 231 10 (by decide))))))))).trans hv3))
                    have x2595 := HI.eqI hI2346 (p := 231) (b := 11) ((((hF2347.1 231 11 (by decide)).trans ((hF2335.1 231 11 (by decide)).trans ((hF2326.1 231 11 (by decide)).trans ((hF2317.1 231 11 (by decide)).trans ((hF2307.1 231 11 (by decide)).trans ((hF2295.1 231 11 (by decide)).trans ((hF2283.1 231 11 (by decide)).trans (hF2271.1 231 11 (by decide))))))))).trans hv4))
                    have x2596 := HI.eqI hI2346 (p := 231) (b := 14) ((((hF2347.1 231 14 (by decide)).trans ((hF2335.1 231 14 (by decide)).trans ((hF2326.1 231 14 (by decide)).trans ((hF2317.1 231 14 (by decide)).trans ((hF2307.1 231 14 (by decide)).trans ((hF2295.1 231 14 (by decide)).trans ((hF2283.1 231 14 (by decide)).trans (hF2271.1 231 14 (by decide))))))))).trans hv6))
                    have x2597 := HI.eqI hI2586 (p := 231) (b := 8) ((((hF2587.1 231 8 (by decide)).trans ((hF2347.1 231 8 (by decide)).trans ((hF2335.1 231 8 (by decide)).trans ((hF2326.1 231 8 (by decide)).trans ((hF2317.1 231 8 (by decide)).trans ((hF2307.1 231 8 (by decide)).trans ((hF2295.1 231 8 (by decide)).trans ((hF2283.1 231 8 (by decide)).trans (hF2271.1 231 8 (by decide)))))))))).trans hv1))
                    obtain ⟨v2598, hv2598⟩ : ∃ v, gI g2585 231 9 = v := ⟨_, rfl⟩
                    have rv2598 := RgF.at hI2586.2.1 (p := 231) (b := 9) rfl
                    rw [hv2598] at rv2598
                    dsimp only at rv2598
                    have tv2598 := congrArg Int32.toInt hv2598
                    have x2599 := HI.eqI hI2586 (p := 231) (b := 9) (hv2598)
                    obtain ⟨v2600, hv2600⟩ : ∃ v, gI g2585 231 10 = v := ⟨_, rfl⟩
                    have rv2600 := RgF.at hI2586.2.1 (p := 231) (b := 10) rfl
                    rw [hv2600] at rv2600
                    dsimp only at rv2600
                    have tv2600 := congrArg Int32.toInt hv2600
                    have x2601 := HI.eqI hI2586 (p := 231) (b := 10) (hv2600)
                    obtain ⟨v2602, hv2602⟩ : ∃ v, gI g2585 231 11 = v := ⟨_, rfl⟩
                    have tv2602 := congrArg Int32.toInt hv2602
                    have x2603 := HI.eqI hI2586 (p := 231) (b := 11) (hv2602)
                    obtain ⟨v2604, hv2604⟩ : ∃ v, gI g2585 231 14 = v := ⟨_, rfl⟩
                    have tv2604 := congrArg Int32.toInt hv2604
                    have x2605 := HI.eqI hI2586 (p := 231) (b := 14) (hv2604)
                    obtain ⟨c2606, c2607, c2608, c2609, c2610, c2611, c2612⟩ := hr2589
                    refine At.enter rfl ?_
                    refine r_aload_n rfl ?_
                    refine q_getI (Sh.int hI2586.1 kx_231 rfl) v2604 hv2604 ?_
                    refine r_ifs 220 rfl (fun c2613 => ?_) (fun c2613 => ?_)
                    · have c2613_ : v2604.toInt ≠ 0 := en_k_ne_t c2613
                      clear c2612
                      refine At.enter rfl ?_
                      refine r_iconst 1 rfl ?_
                      refine r_ireti ?_
                      have x2614 := HI.eqI hI2586 (p := 231) (b := 8) ((((hF2587.1 231 8 (by decide)).trans ((hF2347.1 231 8 (by decide)).trans ((hF2335.1 231 8 (by decide)).trans ((hF2326.1 231 8 (by decide)).trans ((hF2317.1 231 8 (by decide)).trans ((hF2307.1 231 8 (by decide)).trans ((hF2295.1 231 8 (by decide)).trans ((hF2283.1 231 8 (by decide)).trans (hF2271.1 231 8 (by decide)))))))))).trans hv1))
                      have x2615 := HI.eqI hI2586 (p := 231) (b := 9) (hv2598)
                      have x2616 := HI.eqI hI2586 (p := 231) (b := 10) (hv2600)
                      have x2617 := HI.eqI hI2586 (p := 231) (b := 11) (hv2602)
                      obtain ⟨v2618, hv2618⟩ : ∃ v, gJ g2585 231 12 = v := ⟨_, rfl⟩
                      have x2619 := HI.eqJ hI2586 (b := 12) (hv2618)
                      have x2620 := HI.eqI hI2586 (p := 231) (b := 14) (hv2604)
                      have x2621 := HI.eqI hI2586 (p := 231) (b := 17) ((((hF2587.1 231 17 (by decide)).trans ((hF2347.1 231 17 (by decide)).trans ((hF2335.1 231 17 (by decide)).trans ((hF2326.1 231 17 (by decide)).trans ((hF2317.1 231 17 (by decide)).trans ((hF2307.1 231 17 (by decide)).trans ((hF2295.1 231 17 (by decide)).trans ((hF2283.1 231 17 (by decide)).trans (hF2271.1 231 17 (by decide)))))))))).trans hv7))
                      have x2622 := HI.eqI hI2586 (p := 231) (b := 23) ((((hF2587.1 231 23 (by decide)).trans ((hF2347.1 231 23 (by decide)).trans ((hF2335.1 231 23 (by decide)).trans ((hF2326.1 231 23 (by decide)).trans ((hF2317.1 231 23 (by decide)).trans ((hF2307.1 231 23 (by decide)).trans ((hF2295.1 231 23 (by decide)).trans ((hF2283.1 231 23 (by decide)).trans (hF2271.1 231 23 (by decide)))))))))).trans hv8))
                      have x2623 := HI.eqI hI0 (p := 231) (b := 9) (hv2)
                      have zv2624 : (1 : Int32).toInt = 1 := rfl
                      exact ⟨_, rfl, hI2586, hF2590, _, rfl, by decide, ⟨by omega, by omega, by omega, by omega, c2611, by omega, by omega, (fun hbad => ⟨by omega, (PT.mk (fun h => False.elim (by omega)) (fun h => False.elim (by omega)) (fun h h9 => False.elim (by omega)) (fun h => False.elim (by omega)))⟩), (fun hbad => by omega)⟩⟩
                    · have c2613_ : v2604.toInt = 0 := en_k_ne_f c2613
                      obtain ⟨i2625, i2626, i2627⟩ := c2612 (by omega)
                      refine At.enter rfl ?_
                      refine r_aload_n rfl ?_
                      refine r_iconst 5 rfl ?_
                      have x2628 := HI.eqI hI2586 (p := 231) (b := 17) ((((hF2587.1 231 17 (by decide)).trans ((hF2347.1 231 17 (by decide)).trans ((hF2335.1 231 17 (by decide)).trans ((hF2326.1 231 17 (by decide)).trans ((hF2317.1 231 17 (by decide)).trans ((hF2307.1 231 17 (by decide)).trans ((hF2295.1 231 17 (by decide)).trans ((hF2283.1 231 17 (by decide)).trans (hF2271.1 231 17 (by decide)))))))))).trans hv7))
                      have x2629 := HI.eqI hI2586 (p := 231) (b := 23) ((((hF2587.1 231 23 (by decide)).trans ((hF2347.1 231 23 (by decide)).trans ((hF2335.1 231 23 (by decide)).trans ((hF2326.1 231 23 (by decide)).trans ((hF2317.1 231 23 (by decide)).trans ((hF2307.1 231 23 (by decide)).trans ((hF2295.1 231 23 (by decide)).trans ((hF2283.1 231 23 (by decide)).trans (hF2271.1 231 23 (by decide)))))))))).trans hv8))
                      have zv2630 : (5 : Int32).toInt = 5 := rfl
                      refine r_callV 225 rfl [.ref 231, .int 5] [] (Nat.le_of_ble_eq_true rfl) rfl (T_X11_settle_231 _ hI2586 5 (by decide) (by omega)) ?_
                      rintro _ _ ⟨g2631, rfl, hI2632, hF2633, rfl, hr2635⟩
                      refine At.stn ?_
                      have hF2636 := Fr.tr hF2590 hF2633 rfl rfl
                      have zv2637 : (5 : Int32).toInt = 5 := rfl
                      have x2638 := HI.eqI hI2586 (p := 231) (b := 17) ((((hF2587.1 231 17 (by decide)).trans ((hF2347.1 231 17 (by decide)).trans ((hF2335.1 231 17 (by decide)).trans ((hF2326.1 231 17 (by decide)).trans ((hF2317.1 231 17 (by decide)).trans ((hF2307.1 231 17 (by decide)).trans ((hF2295.1 231 17 (by decide)).trans ((hF2283.1 231 17 (by decide)).trans (hF2271.1 231 17 (by decide)))))))))).trans hv7))
                      have x2639 := HI.eqI hI2586 (p := 231) (b := 23) ((((hF2587.1 231 23 (by decide)).trans ((hF2347.1 231 23 (by decide)).trans ((hF2335.1 231 23 (by decide)).trans ((hF2326.1 231 23 (by decide)).trans ((hF2317.1 231 23 (by decide)).trans ((hF2307.1 231 23 (by decide)).trans ((hF2295.1 231 23 (by decide)).trans ((hF2283.1 231 23 (by decide)).trans (hF2271.1 231 23 (by decide)))))))))).trans hv8))
                      obtain ⟨v2640, hv2640⟩ : ∃ v, gI g2631 231 17 = v := ⟨_, rfl⟩
                      have rv2640 := RgF.at hI2632.2.1 (p := 231) (b := 17) rfl
                      rw [hv2640] at rv2640
                      dsimp only at rv2640
                      have tv2640 := congrArg Int32.toInt hv2640
                      have x2641 := HI.eqI hI2632 (p := 231) (b := 17) (hv2640)
                      obtain ⟨v2642, hv2642⟩ : ∃ v, gI g2631 231 23 = v := ⟨_, rfl⟩
                      have rv2642 := RgF.at hI2632.2.1 (p := 231) (b := 23) rfl
                      rw [hv2642] at rv2642
                      dsimp only at rv2642
                      have tv2642 := congrArg Int32.toInt hv2642
                      have x2643 := HI.eqI hI2632 (p := 231) (b := 23) (hv2642)
                      have y2644 : (gI _ 231 23).toInt ≤ (gI _ 231 23).toInt := hr2635.1
                      have y2645 : (gI _ 231 17).toInt + (gI _ 231 23).toInt ≤ (gI _ 231 17).toInt + (gI _ 231 23).toInt := hr2635.2.1
                      have inn2646 := INN.cong inn2321 hI2586 (((hF2587.2.1 240 (by decide)).trans ((hF2347.2.1 240 (by decide)).trans ((hF2335.2.1 240 (by decide)).trans (hF2326.2.1 240 (by decide)))))) (((hF2587.1 231 23 (by decide)).trans ((hF2347.1 231 23 (by decide)).trans ((hF2335.1 231 23 (by decide)).trans (hF2326.1 231 23 (by decide))))))
                      have pg2647 := PG.cong (hP.2.1 (by decide)) hI2586 (((hF2587.2.1 238 (by decide)).trans ((hF2347.2.1 238 (by decide)).trans ((hF2335.2.1 238 (by decide)).trans ((hF2326.2.1 238 (by decide)).trans ((hF2317.2.1 238 (by decide)).trans ((hF2307.2.1 238 (by decide)).trans ((hF2295.2.1 238 (by decide)).trans ((hF2283.2.1 238 (by decide)).trans (hF2271.2.1 238 (by decide))))))))))) (((hF2587.2.1 239 (by decide)).trans ((hF2347.2.1 239 (by decide)).trans ((hF2335.2.1 239 (by decide)).trans ((hF2326.2.1 239 (by decide)).trans ((hF2317.2.1 239 (by decide)).trans ((hF2307.2.1 239 (by decide)).trans ((hF2295.2.1 239 (by decide)).trans ((hF2283.2.1 239 (by decide)).trans (hF2271.2.1 239 (by decide))))))))))) (((hF2587.2.1 240 (by decide)).trans ((hF2347.2.1 240 (by decide)).trans ((hF2335.2.1 240 (by decide)).trans ((hF2326.2.1 240 (by decide)).trans ((hF2317.2.1 240 (by decide)).trans ((hF2307.2.1 240 (by decide)).trans ((hF2295.2.1 240 (by decide)).trans ((hF2283.2.1 240 (by decide)).trans (hF2271.2.1 240 (by decide))))))))))) (((hF2587.2.1 241 (by decide)).trans ((hF2347.2.1 241 (by decide)).trans ((hF2335.2.1 241 (by decide)).trans ((hF2326.2.1 241 (by decide)).trans ((hF2317.2.1 241 (by decide)).trans ((hF2307.2.1 241 (by decide)).trans ((hF2295.2.1 241 (by decide)).trans ((hF2283.2.1 241 (by decide)).trans (hF2271.2.1 241 (by decide))))))))))) (((hF2587.1 231 17 (by decide)).trans ((hF2347.1 231 17 (by decide)).trans ((hF2335.1 231 17 (by decide)).trans ((hF2326.1 231 17 (by decide)).trans ((hF2317.1 231 17 (by decide)).trans ((hF2307.1 231 17 (by decide)).trans ((hF2295.1 231 17 (by decide)).trans ((hF2283.1 231 17 (by decide)).trans (hF2271.1 231 17 (by decide))))))))))) (((hF2587.1 231 23 (by decide)).trans ((hF2347.1 231 23 (by decide)).trans ((hF2335.1 231 23 (by decide)).trans ((hF2326.1 231 23 (by decide)).trans ((hF2317.1 231 23 (by decide)).trans ((hF2307.1 231 23 (by decide)).trans ((hF2295.1 231 23 (by decide)).trans ((hF2283.1 231 23 (by decide)).trans (hF2271.1 231 23 (by decide)))))))))))
                      have nsq2648 := INN.nsq inn2646 pg2647 (by omega)
                      have pg2649 := PG.cong (hP.2.1 (by decide)) hI2586 (((hF2587.2.1 238 (by decide)).trans ((hF2347.2.1 238 (by decide)).trans ((hF2335.2.1 238 (by decide)).trans ((hF2326.2.1 238 (by decide)).trans ((hF2317.2.1 238 (by decide)).trans ((hF2307.2.1 238 (by decide)).trans ((hF2295.2.1 238 (by decide)).trans ((hF2283.2.1 238 (by decide)).trans (hF2271.2.1 238 (by decide))))))))))) (((hF2587.2.1 239 (by decide)).trans ((hF2347.2.1 239 (by decide)).trans ((hF2335.2.1 239 (by decide)).trans ((hF2326.2.1 239 (by decide)).trans ((hF2317.2.1 239 (by decide)).trans ((hF2307.2.1 239 (by decide)).trans ((hF2295.2.1 239 (by decide)).trans ((hF2283.2.1 239 (by decide)).trans (hF2271.2.1 239 (by decide))))))))))) (((hF2587.2.1 240 (by decide)).trans ((hF2347.2.1 240 (by decide)).trans ((hF2335.2.1 240 (by decide)).trans ((hF2326.2.1 240 (by decide)).trans ((hF2317.2.1 240 (by decide)).trans ((hF2307.2.1 240 (by decide)).trans ((hF2295.2.1 240 (by decide)).trans ((hF2283.2.1 240 (by decide)).trans (hF2271.2.1 240 (by decide))))))))))) (((hF2587.2.1 241 (by decide)).trans ((hF2347.2.1 241 (by decide)).trans ((hF2335.2.1 241 (by decide)).trans ((hF2326.2.1 241 (by decide)).trans ((hF2317.2.1 241 (by decide)).trans ((hF2307.2.1 241 (by decide)).trans ((hF2295.2.1 241 (by decide)).trans ((hF2283.2.1 241 (by decide)).trans (hF2271.2.1 241 (by decide))))))))))) (((hF2587.1 231 17 (by decide)).trans ((hF2347.1 231 17 (by decide)).trans ((hF2335.1 231 17 (by decide)).trans ((hF2326.1 231 17 (by decide)).trans ((hF2317.1 231 17 (by decide)).trans ((hF2307.1 231 17 (by decide)).trans ((hF2295.1 231 17 (by decide)).trans ((hF2283.1 231 17 (by decide)).trans (hF2271.1 231 17 (by decide))))))))))) (((hF2587.1 231 23 (by decide)).trans ((hF2347.1 231 23 (by decide)).trans ((hF2335.1 231 23 (by decide)).trans ((hF2326.1 231 23 (by decide)).trans ((hF2317.1 231 23 (by decide)).trans ((hF2307.1 231 23 (by decide)).trans ((hF2295.1 231 23 (by decide)).trans ((hF2283.1 231 23 (by decide)).trans (hF2271.1 231 23 (by decide)))))))))))
                      have inn2651 := INN.cong inn2321 hI2586 (((hF2587.2.1 240 (by decide)).trans ((hF2347.2.1 240 (by decide)).trans ((hF2335.2.1 240 (by decide)).trans (hF2326.2.1 240 (by decide)))))) (((hF2587.1 231 23 (by decide)).trans ((hF2347.1 231 23 (by decide)).trans ((hF2335.1 231 23 (by decide)).trans (hF2326.1 231 23 (by decide))))))
                      have pg2650 := hr2635.2.2.1 _ _ _ pg2649
                      have nsq2653 := NSQ.le nsq2648 hI2632 hr2635.2.2.2.2.1 hr2635.1
                      refine At.enter rfl ?_
                      refine r_aload_n rfl ?_
                      refine r_iload_n rfl ?_
                      refine r_iconst 0 rfl ?_
                      have x2654 := HI.eqI hI2632 (p := 231) (b := 23) (hv2642)
                      have zv2655 : (25 : Int32).toInt = 25 := rfl
                      have zv2656 : (0 : Int32).toInt = 0 := rfl
                      refine r_callV 231 rfl [.ref 231, .int 25, .int 0] [] (Nat.le_of_ble_eq_true rfl) rfl (T_X11_push_231 _ hI2632 25 (by decide) 0 (by decide) (by omega)) ?_
                      rintro _ _ ⟨g2657, rfl, hI2658, hF2659, rfl, hr2661⟩
                      refine At.stn ?_
                      have hF2662 := Fr.tr hF2636 hF2659 rfl rfl
                      have zv2663 : (25 : Int32).toInt = 25 := rfl
                      have zv2664 : (0 : Int32).toInt = 0 := rfl
                      have x2665 := HI.eqI hI2632 (p := 231) (b := 17) (hv2640)
                      have x2666 := HI.eqI hI2632 (p := 231) (b := 23) (hv2642)
                      have x2667 := HI.eqI hI2658 (p := 231) (b := 17) (((hF2659.1 231 17 (by decide)).trans hv2640))
                      obtain ⟨v2668, hv2668⟩ : ∃ v, gI g2657 231 23 = v := ⟨_, rfl⟩
                      have rv2668 := RgF.at hI2658.2.1 (p := 231) (b := 23) rfl
                      rw [hv2668] at rv2668
                      dsimp only at rv2668
                      have tv2668 := congrArg Int32.toInt hv2668
                      have x2669 := HI.eqI hI2658 (p := 231) (b := 23) (hv2668)
                      have y2670 : (gI _ 231 23).toInt = (gI _ 231 23).toInt + 1 := hr2661.1
                      have pg2671 := PG.push (e' := 0) pg2650 hr2661 (hF2659.2.1 238 (by decide)) (hF2659.2.1 239 (by decide)) (hF2659.1 231 17 (by decide)) ⟨by omega, by omega⟩ (Or.inr nsq2653) (by omega) (by omega)
                      have nsq2672 := NSQ.push nsq2653 hr2661 (by omega)
                      refine At.enter rfl ?_
                      refine r_iconst 1 rfl ?_
                      refine r_ireti ?_
                      have x2673 := HI.eqI hI2658 (p := 231) (b := 8) ((((hF2659.1 231 8 (by decide)).trans ((hF2633.1 231 8 (by decide)).trans ((hF2587.1 231 8 (by decide)).trans ((hF2347.1 231 8 (by decide)).trans ((hF2335.1 231 8 (by decide)).trans ((hF2326.1 231 8 (by decide)).trans ((hF2317.1 231 8 (by decide)).trans ((hF2307.1 231 8 (by decide)).trans ((hF2295.1 231 8 (by decide)).trans ((hF2283.1 231 8 (by decide)).trans (hF2271.1 231 8 (by decide)))))))))))).trans hv1))
                      have x2674 := HI.eqI hI2658 (p := 231) (b := 9) ((((hF2659.1 231 9 (by decide)).trans (hF2633.1 231 9 (by decide))).trans hv2598))
                      have x2675 := HI.eqI hI2658 (p := 231) (b := 10) ((((hF2659.1 231 10 (by decide)).trans (hF2633.1 231 10 (by decide))).trans hv2600))
                      have x2676 := HI.eqI hI2658 (p := 231) (b := 11) ((((hF2659.1 231 11 (by decide)).trans (hF2633.1 231 11 (by decide))).trans hv2602))
                      obtain ⟨v2677, hv2677⟩ : ∃ v, gJ g2585 231 12 = v := ⟨_, rfl⟩
                      have x2678 := HI.eqJ hI2658 (b := 12) ((((hF2659.2.2 231 12 (by decide)).trans (hF2633.2.2 231 12 (by decide))).trans hv2677))
                      have x2679 := HI.eqI hI2658 (p := 231) (b := 14) ((((hF2659.1 231 14 (by decide)).trans (hF2633.1 231 14 (by decide))).trans hv2604))
                      have x2680 := HI.eqI hI2658 (p := 231) (b := 17) (((hF2659.1 231 17 (by decide)).trans hv2640))
                      have x2681 := HI.eqI hI2658 (p := 231) (b := 23) (hv2668)
                      have x2682 := HI.eqI hI0 (p := 231) (b := 9) (hv2)
                      have zv2683 : (1 : Int32).toInt = 1 := rfl
                      have w262684 := W26.cong c2611 hI2658 (((hF2659.1 231 9 (by decide)).trans (hF2633.1 231 9 (by decide)))) (((hF2659.1 231 10 (by decide)).trans (hF2633.1 231 10 (by decide)))) (((hF2659.1 231 11 (by decide)).trans (hF2633.1 231 11 (by decide)))) (((hF2659.2.2 231 12 (by decide)).trans (hF2633.2.2 231 12 (by decide))))
                      exact ⟨_, rfl, hI2658, hF2662, _, rfl, by decide, ⟨by omega, by omega, by omega, by omega, w262684, by omega, by omega, (fun hbad => ⟨by omega, (PT.mk (fun _ => pg2671) (fun h => False.elim (by omega)) (fun h h9 => False.elim (by omega)) (fun h => False.elim (by omega)))⟩), (fun hbad => by omega)⟩⟩
                · have c2342_ : v2336.toInt ≠ 0 := en_k_eq_f c2342
                  refine At.enter rfl ?_
                  refine r_bipush 24 rfl ?_
                  refine r_goto ?_
                  refine At.enter rfl ?_
                  refine r_istore_n ([(2, .int 24), (3, .int v2318), (0, .ref 231), (1, .int a1)]) rfl ?_
                  refine r_aload_n rfl ?_
                  refine r_iload_n rfl ?_
                  refine r_bipush 26 rfl ?_
                  refine r_ict (by decide) ?_
                  refine At.enter rfl ?_
                  refine r_iconst 1 rfl ?_
                  refine r_goto ?_
                  refine At.enter rfl ?_
                  have x2685 := HI.eqI hI2334 (p := 231) (b := 8) ((((hF2335.1 231 8 (by decide)).trans ((hF2326.1 231 8 (by decide)).trans ((hF2317.1 231 8 (by decide)).trans ((hF2307.1 231 8 (by decide)).trans ((hF2295.1 231 8 (by decide)).trans ((hF2283.1 231 8 (by decide)).trans (hF2271.1 231 8 (by decide)))))))).trans hv1))
                  have x2686 := HI.eqI hI2334 (p := 231) (b := 9) ((((hF2335.1 231 9 (by decide)).trans ((hF2326.1 231 9 (by decide)).trans ((hF2317.1 231 9 (by decide)).trans ((hF2307.1 231 9 (by decide)).trans ((hF2295.1 231 9 (by decide)).trans ((hF2283.1 231 9 (by decide)).trans (hF2271.1 231 9 (by decide)))))))).trans hv2))
                  have x2687 := HI.eqI hI2334 (p := 231) (b := 10) ((((hF2335.1 231 10 (by decide)).trans ((hF2326.1 231 10 (by decide)).trans ((hF2317.1 231 10 (by decide)).trans ((hF2307.1 231 10 (by decide)).trans ((hF2295.1 231 10 (by decide)).trans ((hF2283.1 231 10 (by decide)).trans (hF2271.1 231 10 (by decide)))))))).trans hv3))
                  have x2688 := HI.eqI hI2334 (p := 231) (b := 11) ((((hF2335.1 231 11 (by decide)).trans ((hF2326.1 231 11 (by decide)).trans ((hF2317.1 231 11 (by decide)).trans ((hF2307.1 231 11 (by decide)).trans ((hF2295.1 231 11 (by decide)).trans ((hF2283.1 231 11 (by decide)).trans (hF2271.1 231 11 (by decide)))))))).trans hv4))
                  have w262689 := W26.cong hW hI2334 (((hF2335.1 231 9 (by decide)).trans ((hF2326.1 231 9 (by decide)).trans ((hF2317.1 231 9 (by decide)).trans ((hF2307.1 231 9 (by decide)).trans ((hF2295.1 231 9 (by decide)).trans ((hF2283.1 231 9 (by decide)).trans (hF2271.1 231 9 (by decide))))))))) (((hF2335.1 231 10 (by decide)).trans ((hF2326.1 231 10 (by decide)).trans ((hF2317.1 231 10 (by decide)).trans ((hF2307.1 231 10 (by decide)).trans ((hF2295.1 231 10 (by decide)).trans ((hF2283.1 231 10 (by decide)).trans (hF2271.1 231 10 (by decide))))))))) (((hF2335.1 231 11 (by decide)).trans ((hF2326.1 231 11 (by decide)).trans ((hF2317.1 231 11 (by decide)).trans ((hF2307.1 231 11 (by decide)).trans ((hF2295.1 231 11 (by decide)).trans ((hF2283.1 231 11 (by decide)).trans (hF2271.1 231 11 (by decide))))))))) (((hF2335.2.2 231 12 (by decide)).trans ((hF2326.2.2 231 12 (by decide)).trans ((hF2317.2.2 231 12 (by decide)).trans ((hF2307.2.2 231 12 (by decide)).trans ((hF2295.2.2 231 12 (by decide)).trans ((hF2283.2.2 231 12 (by decide)).trans (hF2271.2.2 231 12 (by decide)))))))))
                  have zv2690 : (1 : Int32).toInt = 1 := rfl
                  refine r_callV 213 rfl [.ref 231, .int 1] [] (Nat.le_of_ble_eq_true rfl) rfl (T_X11_must_231 _ hI2334 1 (by decide) (by refine ⟨?_, ?_, ?_, ?_⟩ <;> omega) w262689) ?_
                  rintro _ _ ⟨g2691, rfl, hI2692, hF2693, rfl, hr2695⟩
                  refine At.stn ?_
                  have hF2696 := Fr.tr hF2338 hF2693 rfl rfl
                  have zv2697 : (1 : Int32).toInt = 1 := rfl
                  have x2698 := HI.eqI hI2334 (p := 231) (b := 8) ((((hF2335.1 231 8 (by decide)).trans ((hF2326.1 231 8 (by decide)).trans ((hF2317.1 231 8 (by decide)).trans ((hF2307.1 231 8 (by decide)).trans ((hF2295.1 231 8 (by decide)).trans ((hF2283.1 231 8 (by decide)).trans (hF2271.1 231 8 (by decide)))))))).trans hv1))
                  have x2699 := HI.eqI hI2334 (p := 231) (b := 9) ((((hF2335.1 231 9 (by decide)).trans ((hF2326.1 231 9 (by decide)).trans ((hF2317.1 231 9 (by decide)).trans ((hF2307.1 231 9 (by decide)).trans ((hF2295.1 231 9 (by decide)).trans ((hF2283.1 231 9 (by decide)).trans (hF2271.1 231 9 (by decide)))))))).trans hv2))
                  have x2700 := HI.eqI hI2334 (p := 231) (b := 10) ((((hF2335.1 231 10 (by decide)).trans ((hF2326.1 231 10 (by decide)).trans ((hF2317.1 231 10 (by decide)).trans ((hF2307.1 231 10 (by decide)).trans ((hF2295.1 231 10 (by decide)).trans ((hF2283.1 231 10 (by decide)).trans (hF2271.1 231 10 (by decide)))))))).trans hv3))
                  have x2701 := HI.eqI hI2334 (p := 231) (b := 11) ((((hF2335.1 231 11 (by decide)).trans ((hF2326.1 231 11 (by decide)).trans ((hF2317.1 231 11 (by decide)).trans ((hF2307.1 231 11 (by decide)).trans ((hF2295.1 231 11 (by decide)).trans ((hF2283.1 231 11 (by decide)).trans (hF2271.1 231 11 (by decide)))))))).trans hv4))
                  have x2702 := HI.eqI hI2334 (p := 231) (b := 14) ((((hF2335.1 231 14 (by decide)).trans ((hF2326.1 231 14 (by decide)).trans ((hF2317.1 231 14 (by decide)).trans ((hF2307.1 231 14 (by decide)).trans ((hF2295.1 231 14 (by decide)).trans ((hF2283.1 231 14 (by decide)).trans (hF2271.1 231 14 (by decide)))))))).trans hv6))
                  have x2703 := HI.eqI hI2692 (p := 231) (b := 8) ((((hF2693.1 231 8 (by decide)).trans ((hF2335.1 231 8 (by decide)).trans ((hF2326.1 231 8 (by decide)).trans ((hF2317.1 231 8 (by decide)).trans ((hF2307.1 231 8 (by decide)).trans ((hF2295.1 231 8 (by decide)).trans ((hF2283.1 231 8 (by decide)).trans (hF2271.1 231 8 (by decide))))))))).trans hv1))
                  obtain ⟨v2704, hv2704⟩ : ∃ v, gI g2691 231 9 = v := ⟨_, rfl⟩
                  have rv2704 := RgF.at hI2692.2.1 (p := 231) (b := 9) rfl
                  rw [hv2704] at rv2704
                  dsimp only at rv2704
                  have tv2704 := congrArg Int32.toInt hv2704
                  have x2705 := HI.eqI hI2692 (p := 231) (b := 9) (hv2704)
                  obtain ⟨v2706, hv2706⟩ : ∃ v, gI g2691 231 10 = v := ⟨_, rfl⟩
                  have rv2706 := RgF.at hI2692.2.1 (p := 231) (b := 10) rfl
                  rw [hv2706] at rv2706
                  dsimp only at rv2706
                  have tv2706 := congrArg Int32.toInt hv2706
                  have x2707 := HI.eqI hI2692 (p := 231) (b := 10) (hv2706)
                  obtain ⟨v2708, hv2708⟩ : ∃ v, gI g2691 231 11 = v := ⟨_, rfl⟩
                  have tv2708 := congrArg Int32.toInt hv2708
                  have x2709 := HI.eqI hI2692 (p := 231) (b := 11) (hv2708)
                  obtain ⟨v2710, hv2710⟩ : ∃ v, gI g2691 231 14 = v := ⟨_, rfl⟩
                  have tv2710 := congrArg Int32.toInt hv2710
                  have x2711 := HI.eqI hI2692 (p := 231) (b := 14) (hv2710)
                  obtain ⟨c2712, c2713, c2714, c2715, c2716, c2717, c2718⟩ := hr2695
                  refine At.enter rfl ?_
                  refine r_aload_n rfl ?_
                  refine q_getI (Sh.int hI2692.1 kx_231 rfl) v2710 hv2710 ?_
                  refine r_ifs 220 rfl (fun c2719 => ?_) (fun c2719 => ?_)
                  · have c2719_ : v2710.toInt ≠ 0 := en_k_ne_t c2719
                    clear c2718
                    refine At.enter rfl ?_
                    refine r_iconst 1 rfl ?_
                    refine r_ireti ?_
                    have x2720 := HI.eqI hI2692 (p := 231) (b := 8) ((((hF2693.1 231 8 (by decide)).trans ((hF2335.1 231 8 (by decide)).trans ((hF2326.1 231 8 (by decide)).trans ((hF2317.1 231 8 (by decide)).trans ((hF2307.1 231 8 (by decide)).trans ((hF2295.1 231 8 (by decide)).trans ((hF2283.1 231 8 (by decide)).trans (hF2271.1 231 8 (by decide))))))))).trans hv1))
                    have x2721 := HI.eqI hI2692 (p := 231) (b := 9) (hv2704)
                    have x2722 := HI.eqI hI2692 (p := 231) (b := 10) (hv2706)
                    have x2723 := HI.eqI hI2692 (p := 231) (b := 11) (hv2708)
                    obtain ⟨v2724, hv2724⟩ : ∃ v, gJ g2691 231 12 = v := ⟨_, rfl⟩
                    have x2725 := HI.eqJ hI2692 (b := 12) (hv2724)
                    have x2726 := HI.eqI hI2692 (p := 231) (b := 14) (hv2710)
                    have x2727 := HI.eqI hI2692 (p := 231) (b := 17) ((((hF2693.1 231 17 (by decide)).trans ((hF2335.1 231 17 (by decide)).trans ((hF2326.1 231 17 (by decide)).trans ((hF2317.1 231 17 (by decide)).trans ((hF2307.1 231 17 (by decide)).trans ((hF2295.1 231 17 (by decide)).trans ((hF2283.1 231 17 (by decide)).trans (hF2271.1 231 17 (by decide))))))))).trans hv7))
                    have x2728 := HI.eqI hI2692 (p := 231) (b := 23) ((((hF2693.1 231 23 (by decide)).trans ((hF2335.1 231 23 (by decide)).trans ((hF2326.1 231 23 (by decide)).trans ((hF2317.1 231 23 (by decide)).trans ((hF2307.1 231 23 (by decide)).trans ((hF2295.1 231 23 (by decide)).trans ((hF2283.1 231 23 (by decide)).trans (hF2271.1 231 23 (by decide))))))))).trans hv8))
                    have x2729 := HI.eqI hI0 (p := 231) (b := 9) (hv2)
                    have zv2730 : (1 : Int32).toInt = 1 := rfl
                    exact ⟨_, rfl, hI2692, hF2696, _, rfl, by decide, ⟨by omega, by omega, by omega, by omega, c2717, by omega, by omega, (fun hbad => ⟨by omega, (PT.mk (fun h => False.elim (by omega)) (fun h => False.elim (by omega)) (fun h h9 => False.elim (by omega)) (fun h => False.elim (by omega)))⟩), (fun hbad => by omega)⟩⟩
                  · have c2719_ : v2710.toInt = 0 := en_k_ne_f c2719
                    obtain ⟨i2731, i2732, i2733⟩ := c2718 (by omega)
                    refine At.enter rfl ?_
                    refine r_aload_n rfl ?_
                    refine r_iconst 5 rfl ?_
                    have x2734 := HI.eqI hI2692 (p := 231) (b := 17) ((((hF2693.1 231 17 (by decide)).trans ((hF2335.1 231 17 (by decide)).trans ((hF2326.1 231 17 (by decide)).trans ((hF2317.1 231 17 (by decide)).trans ((hF2307.1 231 17 (by decide)).trans ((hF2295.1 231 17 (by decide)).trans ((hF2283.1 231 17 (by decide)).trans (hF2271.1 231 17 (by decide))))))))).trans hv7))
                    have x2735 := HI.eqI hI2692 (p := 231) (b := 23) ((((hF2693.1 231 23 (by decide)).trans ((hF2335.1 231 23 (by decide)).trans ((hF2326.1 231 23 (by decide)).trans ((hF2317.1 231 23 (by decide)).trans ((hF2307.1 231 23 (by decide)).trans ((hF2295.1 231 23 (by decide)).trans ((hF2283.1 231 23 (by decide)).trans (hF2271.1 231 23 (by decide))))))))).trans hv8))
                    have zv2736 : (5 : Int32).toInt = 5 := rfl
                    refine r_callV 225 rfl [.ref 231, .int 5] [] (Nat.le_of_ble_eq_true rfl) rfl (T_X11_settle_231 _ hI2692 5 (by decide) (by omega)) ?_
                    rintro _ _ ⟨g2737, rfl, hI2738, hF2739, rfl, hr2741⟩
                    refine At.stn ?_
                    have hF2742 := Fr.tr hF2696 hF2739 rfl rfl
                    have zv2743 : (5 : Int32).toInt = 5 := rfl
                    have x2744 := HI.eqI hI2692 (p := 231) (b := 17) ((((hF2693.1 231 17 (by decide)).trans ((hF2335.1 231 17 (by decide)).trans ((hF2326.1 231 17 (by decide)).trans ((hF2317.1 231 17 (by decide)).trans ((hF2307.1 231 17 (by decide)).trans ((hF2295.1 231 17 (by decide)).trans ((hF2283.1 231 17 (by decide)).trans (hF2271.1 231 17 (by decide))))))))).trans hv7))
                    have x2745 := HI.eqI hI2692 (p := 231) (b := 23) ((((hF2693.1 231 23 (by decide)).trans ((hF2335.1 231 23 (by decide)).trans ((hF2326.1 231 23 (by decide)).trans ((hF2317.1 231 23 (by decide)).trans ((hF2307.1 231 23 (by decide)).trans ((hF2295.1 231 23 (by decide)).trans ((hF2283.1 231 23 (by decide)).trans (hF2271.1 231 23 (by decide))))))))).trans hv8))
                    obtain ⟨v2746, hv2746⟩ : ∃ v, gI g2737 231 17 = v := ⟨_, rfl⟩
                    have rv2746 := RgF.at hI2738.2.1 (p := 231) (b := 17) rfl
                    rw [hv2746] at rv2746
                    dsimp only at rv2746
                    have tv2746 := congrArg Int32.toInt hv2746
                    have x2747 := HI.eqI hI2738 (p := 231) (b := 17) (hv2746)
                    obtain ⟨v2748, hv2748⟩ : ∃ v, gI g2737 231 23 = v := ⟨_, rfl⟩
                    have rv2748 := RgF.at hI2738.2.1 (p := 231) (b := 23) rfl
                    rw [hv2748] at rv2748
                    dsimp only at rv2748
                    have tv2748 := congrArg Int32.toInt hv2748
                    have x2749 := HI.eqI hI2738 (p := 231) (b := 23) (hv2748)
                    have y2750 : (gI _ 231 23).toInt ≤ (gI _ 231 23).toInt := hr2741.1
                    have y2751 : (gI _ 231 17).toInt + (gI _ 231 23).toInt ≤ (gI _ 231 17).toInt + (gI _ 231 23).toInt := hr2741.2.1
                    have inn2752 := INN.cong inn2321 hI2692 (((hF2693.2.1 240 (by decide)).trans ((hF2335.2.1 240 (by decide)).trans (hF2326.2.1 240 (by decide))))) (((hF2693.1 231 23 (by decide)).trans ((hF2335.1 231 23 (by decide)).trans (hF2326.1 231 23 (by decide)))))
                    have pg2753 := PG.cong (hP.2.1 (by decide)) hI2692 (((hF2693.2.1 238 (by decide)).trans ((hF2335.2.1 238 (by decide)).trans ((hF2326.2.1 238 (by decide)).trans ((hF2317.2.1 238 (by decide)).trans ((hF2307.2.1 238 (by decide)).trans ((hF2295.2.1 238 (by decide)).trans ((hF2283.2.1 238 (by decide)).trans (hF2271.2.1 238 (by decide)))))))))) (((hF2693.2.1 239 (by decide)).trans ((hF2335.2.1 239 (by decide)).trans ((hF2326.2.1 239 (by decide)).trans ((hF2317.2.1 239 (by decide)).trans ((hF2307.2.1 239 (by decide)).trans ((hF2295.2.1 239 (by decide)).trans ((hF2283.2.1 239 (by decide)).trans (hF2271.2.1 239 (by decide)))))))))) (((hF2693.2.1 240 (by decide)).trans ((hF2335.2.1 240 (by decide)).trans ((hF2326.2.1 240 (by decide)).trans ((hF2317.2.1 240 (by decide)).trans ((hF2307.2.1 240 (by decide)).trans ((hF2295.2.1 240 (by decide)).trans ((hF2283.2.1 240 (by decide)).trans (hF2271.2.1 240 (by decide)))))))))) (((hF2693.2.1 241 (by decide)).trans ((hF2335.2.1 241 (by decide)).trans ((hF2326.2.1 241 (by decide)).trans ((hF2317.2.1 241 (by decide)).trans ((hF2307.2.1 241 (by decide)).trans ((hF2295.2.1 241 (by decide)).trans ((hF2283.2.1 241 (by decide)).trans (hF2271.2.1 241 (by decide)))))))))) (((hF2693.1 231 17 (by decide)).trans ((hF2335.1 231 17 (by decide)).trans ((hF2326.1 231 17 (by decide)).trans ((hF2317.1 231 17 (by decide)).trans ((hF2307.1 231 17 (by decide)).trans ((hF2295.1 231 17 (by decide)).trans ((hF2283.1 231 17 (by decide)).trans (hF2271.1 231 17 (by decide)))))))))) (((hF2693.1 231 23 (by decide)).trans ((hF2335.1 231 23 (by decide)).trans ((hF2326.1 231 23 (by decide)).trans ((hF2317.1 231 23 (by decide)).trans ((hF2307.1 231 23 (by decide)).trans ((hF2295.1 231 23 (by decide)).trans ((hF2283.1 231 23 (by decide)).trans (hF2271.1 231 23 (by decide))))))))))
                    have nsq2754 := INN.nsq inn2752 pg2753 (by omega)
                    have pg2755 := PG.cong (hP.2.1 (by decide)) hI2692 (((hF2693.2.1 238 (by decide)).trans ((hF2335.2.1 238 (by decide)).trans ((hF2326.2.1 238 (by decide)).trans ((hF2317.2.1 238 (by decide)).trans ((hF2307.2.1 238 (by decide)).trans ((hF2295.2.1 238 (by decide)).trans ((hF2283.2.1 238 (by decide)).trans (hF2271.2.1 238 (by decide)))))))))) (((hF2693.2.1 239 (by decide)).trans ((hF2335.2.1 239 (by decide)).trans ((hF2326.2.1 239 (by decide)).trans ((hF2317.2.1 239 (by decide)).trans ((hF2307.2.1 239 (by decide)).trans ((hF2295.2.1 239 (by decide)).trans ((hF2283.2.1 239 (by decide)).trans (hF2271.2.1 239 (by decide)))))))))) (((hF2693.2.1 240 (by decide)).trans ((hF2335.2.1 240 (by decide)).trans ((hF2326.2.1 240 (by decide)).trans ((hF2317.2.1 240 (by decide)).trans ((hF2307.2.1 240 (by decide)).trans ((hF2295.2.1 240 (by decide)).trans ((hF2283.2.1 240 (by decide)).trans (hF2271.2.1 240 (by decide)))))))))) (((hF2693.2.1 241 (by decide)).trans ((hF2335.2.1 241 (by decide)).trans ((hF2326.2.1 241 (by decide)).trans ((hF2317.2.1 241 (by decide)).trans ((hF2307.2.1 241 (by decide)).trans ((hF2295.2.1 241 (by decide)).trans ((hF2283.2.1 241 (by decide)).trans (hF2271.2.1 241 (by decide)))))))))) (((hF2693.1 231 17 (by decide)).trans ((hF2335.1 231 17 (by decide)).trans ((hF2326.1 231 17 (by decide)).trans ((hF2317.1 231 17 (by decide)).trans ((hF2307.1 231 17 (by decide)).trans ((hF2295.1 231 17 (by decide)).trans ((hF2283.1 231 17 (by decide)).trans (hF2271.1 231 17 (by decide)))))))))) (((hF2693.1 231 23 (by decide)).trans ((hF2335.1 231 23 (by decide)).trans ((hF2326.1 231 23 (by decide)).trans ((hF2317.1 231 23 (by decide)).trans ((hF2307.1 231 23 (by decide)).trans ((hF2295.1 231 23 (by decide)).trans ((hF2283.1 231 23 (by decide)).trans (hF2271.1 231 23 (by decide))))))))))
                    have inn2757 := INN.cong inn2321 hI2692 (((hF2693.2.1 240 (by decide)).trans ((hF2335.2.1 240 (by decide)).trans (hF2326.2.1 240 (by decide))))) (((hF2693.1 231 23 (by decide)).trans ((hF2335.1 231 23 (by decide)).trans (hF2326.1 231 23 (by decide)))))
                    have pg2756 := hr2741.2.2.1 _ _ _ pg2755
                    have nsq2759 := NSQ.le nsq2754 hI2738 hr2741.2.2.2.2.1 hr2741.1
                    refine At.enter rfl ?_
                    refine r_aload_n rfl ?_
                    refine r_iload_n rfl ?_
                    refine r_iconst 0 rfl ?_
                    have x2760 := HI.eqI hI2738 (p := 231) (b := 23) (hv2748)
                    have zv2761 : (24 : Int32).toInt = 24 := rfl
                    have zv2762 : (0 : Int32).toInt = 0 := rfl
                    refine r_callV 231 rfl [.ref 231, .int 24, .int 0] [] (Nat.le_of_ble_eq_true rfl) rfl (T_X11_push_231 _ hI2738 24 (by decide) 0 (by decide) (by omega)) ?_
                    rintro _ _ ⟨g2763, rfl, hI2764, hF2765, rfl, hr2767⟩
                    refine At.stn ?_
                    have hF2768 := Fr.tr hF2742 hF2765 rfl rfl
                    have zv2769 : (24 : Int32).toInt = 24 := rfl
                    have zv2770 : (0 : Int32).toInt = 0 := rfl
                    have x2771 := HI.eqI hI2738 (p := 231) (b := 17) (hv2746)
                    have x2772 := HI.eqI hI2738 (p := 231) (b := 23) (hv2748)
                    have x2773 := HI.eqI hI2764 (p := 231) (b := 17) (((hF2765.1 231 17 (by decide)).trans hv2746))
                    obtain ⟨v2774, hv2774⟩ : ∃ v, gI g2763 231 23 = v := ⟨_, rfl⟩
                    have rv2774 := RgF.at hI2764.2.1 (p := 231) (b := 23) rfl
                    rw [hv2774] at rv2774
                    dsimp only at rv2774
                    have tv2774 := congrArg Int32.toInt hv2774
                    have x2775 := HI.eqI hI2764 (p := 231) (b := 23) (hv2774)
                    have y2776 : (gI _ 231 23).toInt = (gI _ 231 23).toInt + 1 := hr2767.1
                    have pg2777 := PG.push (e' := 0) pg2756 hr2767 (hF2765.2.1 238 (by decide)) (hF2765.2.1 239 (by decide)) (hF2765.1 231 17 (by decide)) ⟨by omega, by omega⟩ (Or.inr nsq2759) (by omega) (by omega)
                    have nsq2778 := NSQ.push nsq2759 hr2767 (by omega)
                    refine At.enter rfl ?_
                    refine r_iconst 1 rfl ?_
                    refine r_ireti ?_
                    have x2779 := HI.eqI hI2764 (p := 231) (b := 8) ((((hF2765.1 231 8 (by decide)).trans ((hF2739.1 231 8 (by decide)).trans ((hF2693.1 231 8 (by decide)).trans ((hF2335.1 231 8 (by decide)).trans ((hF2326.1 231 8 (by decide)).trans ((hF2317.1 231 8 (by decide)).trans ((hF2307.1 231 8 (by decide)).trans ((hF2295.1 231 8 (by decide)).trans ((hF2283.1 231 8 (by decide)).trans (hF2271.1 231 8 (by decide))))))))))).trans hv1))
                    have x2780 := HI.eqI hI2764 (p := 231) (b := 9) ((((hF2765.1 231 9 (by decide)).trans (hF2739.1 231 9 (by decide))).trans hv2704))
                    have x2781 := HI.eqI hI2764 (p := 231) (b := 10) ((((hF2765.1 231 10 (by decide)).trans (hF2739.1 231 10 (by decide))).trans hv2706))
                    have x2782 := HI.eqI hI2764 (p := 231) (b := 11) ((((hF2765.1 231 11 (by decide)).trans (hF2739.1 231 11 (by decide))).trans hv2708))
                    obtain ⟨v2783, hv2783⟩ : ∃ v, gJ g2691 231 12 = v := ⟨_, rfl⟩
                    have x2784 := HI.eqJ hI2764 (b := 12) ((((hF2765.2.2 231 12 (by decide)).trans (hF2739.2.2 231 12 (by decide))).trans hv2783))
                    have x2785 := HI.eqI hI2764 (p := 231) (b := 14) ((((hF2765.1 231 14 (by decide)).trans (hF2739.1 231 14 (by decide))).trans hv2710))
                    have x2786 := HI.eqI hI2764 (p := 231) (b := 17) (((hF2765.1 231 17 (by decide)).trans hv2746))
                    have x2787 := HI.eqI hI2764 (p := 231) (b := 23) (hv2774)
                    have x2788 := HI.eqI hI0 (p := 231) (b := 9) (hv2)
                    have zv2789 : (1 : Int32).toInt = 1 := rfl
                    have w262790 := W26.cong c2717 hI2764 (((hF2765.1 231 9 (by decide)).trans (hF2739.1 231 9 (by decide)))) (((hF2765.1 231 10 (by decide)).trans (hF2739.1 231 10 (by decide)))) (((hF2765.1 231 11 (by decide)).trans (hF2739.1 231 11 (by decide)))) (((hF2765.2.2 231 12 (by decide)).trans (hF2739.2.2 231 12 (by decide))))
                    exact ⟨_, rfl, hI2764, hF2768, _, rfl, by decide, ⟨by omega, by omega, by omega, by omega, w262790, by omega, by omega, (fun hbad => ⟨by omega, (PT.mk (fun _ => pg2777) (fun h => False.elim (by omega)) (fun h h9 => False.elim (by omega)) (fun h => False.elim (by omega)))⟩), (fun hbad => by omega)⟩⟩
              · have c2330_ : v2327.toInt ≠ 0 := en_k_eq_f c2330
                refine At.enter rfl ?_
                refine r_iconst 2 rfl ?_
                refine r_ireti ?_
                have x2791 := HI.eqI hI2325 (p := 231) (b := 8) ((((hF2326.1 231 8 (by decide)).trans ((hF2317.1 231 8 (by decide)).trans ((hF2307.1 231 8 (by decide)).trans ((hF2295.1 231 8 (by decide)).trans ((hF2283.1 231 8 (by decide)).trans (hF2271.1 231 8 (by decide))))))).trans hv1))
                have x2792 := HI.eqI hI2325 (p := 231) (b := 9) ((((hF2326.1 231 9 (by decide)).trans ((hF2317.1 231 9 (by decide)).trans ((hF2307.1 231 9 (by decide)).trans ((hF2295.1 231 9 (by decide)).trans ((hF2283.1 231 9 (by decide)).trans (hF2271.1 231 9 (by decide))))))).trans hv2))
                have x2793 := HI.eqI hI2325 (p := 231) (b := 10) ((((hF2326.1 231 10 (by decide)).trans ((hF2317.1 231 10 (by decide)).trans ((hF2307.1 231 10 (by decide)).trans ((hF2295.1 231 10 (by decide)).trans ((hF2283.1 231 10 (by decide)).trans (hF2271.1 231 10 (by decide))))))).trans hv3))
                have x2794 := HI.eqI hI2325 (p := 231) (b := 11) ((((hF2326.1 231 11 (by decide)).trans ((hF2317.1 231 11 (by decide)).trans ((hF2307.1 231 11 (by decide)).trans ((hF2295.1 231 11 (by decide)).trans ((hF2283.1 231 11 (by decide)).trans (hF2271.1 231 11 (by decide))))))).trans hv4))
                have x2795 := HI.eqJ hI2325 (b := 12) ((((hF2326.2.2 231 12 (by decide)).trans ((hF2317.2.2 231 12 (by decide)).trans ((hF2307.2.2 231 12 (by decide)).trans ((hF2295.2.2 231 12 (by decide)).trans ((hF2283.2.2 231 12 (by decide)).trans (hF2271.2.2 231 12 (by decide))))))).trans hv5))
                have x2796 := HI.eqI hI2325 (p := 231) (b := 14) ((((hF2326.1 231 14 (by decide)).trans ((hF2317.1 231 14 (by decide)).trans ((hF2307.1 231 14 (by decide)).trans ((hF2295.1 231 14 (by decide)).trans ((hF2283.1 231 14 (by decide)).trans (hF2271.1 231 14 (by decide))))))).trans hv6))
                have x2797 := HI.eqI hI2325 (p := 231) (b := 17) ((((hF2326.1 231 17 (by decide)).trans ((hF2317.1 231 17 (by decide)).trans ((hF2307.1 231 17 (by decide)).trans ((hF2295.1 231 17 (by decide)).trans ((hF2283.1 231 17 (by decide)).trans (hF2271.1 231 17 (by decide))))))).trans hv7))
                have x2798 := HI.eqI hI2325 (p := 231) (b := 23) ((((hF2326.1 231 23 (by decide)).trans ((hF2317.1 231 23 (by decide)).trans ((hF2307.1 231 23 (by decide)).trans ((hF2295.1 231 23 (by decide)).trans ((hF2283.1 231 23 (by decide)).trans (hF2271.1 231 23 (by decide))))))).trans hv8))
                have x2799 := HI.eqI hI0 (p := 231) (b := 9) (hv2)
                have zv2800 : (2 : Int32).toInt = 2 := rfl
                have pg2801 := PG.cong (hP.2.1 (by decide)) hI2325 (((hF2326.2.1 238 (by decide)).trans ((hF2317.2.1 238 (by decide)).trans ((hF2307.2.1 238 (by decide)).trans ((hF2295.2.1 238 (by decide)).trans ((hF2283.2.1 238 (by decide)).trans (hF2271.2.1 238 (by decide)))))))) (((hF2326.2.1 239 (by decide)).trans ((hF2317.2.1 239 (by decide)).trans ((hF2307.2.1 239 (by decide)).trans ((hF2295.2.1 239 (by decide)).trans ((hF2283.2.1 239 (by decide)).trans (hF2271.2.1 239 (by decide)))))))) (((hF2326.2.1 240 (by decide)).trans ((hF2317.2.1 240 (by decide)).trans ((hF2307.2.1 240 (by decide)).trans ((hF2295.2.1 240 (by decide)).trans ((hF2283.2.1 240 (by decide)).trans (hF2271.2.1 240 (by decide)))))))) (((hF2326.2.1 241 (by decide)).trans ((hF2317.2.1 241 (by decide)).trans ((hF2307.2.1 241 (by decide)).trans ((hF2295.2.1 241 (by decide)).trans ((hF2283.2.1 241 (by decide)).trans (hF2271.2.1 241 (by decide)))))))) (((hF2326.1 231 17 (by decide)).trans ((hF2317.1 231 17 (by decide)).trans ((hF2307.1 231 17 (by decide)).trans ((hF2295.1 231 17 (by decide)).trans ((hF2283.1 231 17 (by decide)).trans (hF2271.1 231 17 (by decide)))))))) (((hF2326.1 231 23 (by decide)).trans ((hF2317.1 231 23 (by decide)).trans ((hF2307.1 231 23 (by decide)).trans ((hF2295.1 231 23 (by decide)).trans ((hF2283.1 231 23 (by decide)).trans (hF2271.1 231 23 (by decide))))))))
                have inn2802 := INN.cong inn2321 hI2325 ((hF2326.2.1 240 (by decide))) ((hF2326.1 231 23 (by decide)))
                have pg2803 := PG.cong (hP.2.1 (by decide)) hI2325 (((hF2326.2.1 238 (by decide)).trans ((hF2317.2.1 238 (by decide)).trans ((hF2307.2.1 238 (by decide)).trans ((hF2295.2.1 238 (by decide)).trans ((hF2283.2.1 238 (by decide)).trans (hF2271.2.1 238 (by decide)))))))) (((hF2326.2.1 239 (by decide)).trans ((hF2317.2.1 239 (by decide)).trans ((hF2307.2.1 239 (by decide)).trans ((hF2295.2.1 239 (by decide)).trans ((hF2283.2.1 239 (by decide)).trans (hF2271.2.1 239 (by decide)))))))) (((hF2326.2.1 240 (by decide)).trans ((hF2317.2.1 240 (by decide)).trans ((hF2307.2.1 240 (by decide)).trans ((hF2295.2.1 240 (by decide)).trans ((hF2283.2.1 240 (by decide)).trans (hF2271.2.1 240 (by decide)))))))) (((hF2326.2.1 241 (by decide)).trans ((hF2317.2.1 241 (by decide)).trans ((hF2307.2.1 241 (by decide)).trans ((hF2295.2.1 241 (by decide)).trans ((hF2283.2.1 241 (by decide)).trans (hF2271.2.1 241 (by decide)))))))) (((hF2326.1 231 17 (by decide)).trans ((hF2317.1 231 17 (by decide)).trans ((hF2307.1 231 17 (by decide)).trans ((hF2295.1 231 17 (by decide)).trans ((hF2283.1 231 17 (by decide)).trans (hF2271.1 231 17 (by decide)))))))) (((hF2326.1 231 23 (by decide)).trans ((hF2317.1 231 23 (by decide)).trans ((hF2307.1 231 23 (by decide)).trans ((hF2295.1 231 23 (by decide)).trans ((hF2283.1 231 23 (by decide)).trans (hF2271.1 231 23 (by decide))))))))
                have nsq2804 := INN.nsq inn2802 pg2803 (by omega)
                have w262805 := W26.cong hW hI2325 (((hF2326.1 231 9 (by decide)).trans ((hF2317.1 231 9 (by decide)).trans ((hF2307.1 231 9 (by decide)).trans ((hF2295.1 231 9 (by decide)).trans ((hF2283.1 231 9 (by decide)).trans (hF2271.1 231 9 (by decide)))))))) (((hF2326.1 231 10 (by decide)).trans ((hF2317.1 231 10 (by decide)).trans ((hF2307.1 231 10 (by decide)).trans ((hF2295.1 231 10 (by decide)).trans ((hF2283.1 231 10 (by decide)).trans (hF2271.1 231 10 (by decide)))))))) (((hF2326.1 231 11 (by decide)).trans ((hF2317.1 231 11 (by decide)).trans ((hF2307.1 231 11 (by decide)).trans ((hF2295.1 231 11 (by decide)).trans ((hF2283.1 231 11 (by decide)).trans (hF2271.1 231 11 (by decide)))))))) (((hF2326.2.2 231 12 (by decide)).trans ((hF2317.2.2 231 12 (by decide)).trans ((hF2307.2.2 231 12 (by decide)).trans ((hF2295.2.2 231 12 (by decide)).trans ((hF2283.2.2 231 12 (by decide)).trans (hF2271.2.2 231 12 (by decide))))))))
                exact ⟨_, rfl, hI2325, hF2329, _, rfl, by decide, ⟨by omega, by omega, by omega, by omega, w262805, by omega, by omega, (fun hbad => ⟨by omega, (PT.mk (fun h => False.elim (by omega)) (fun _ => pg2801) (fun _ _ => nsq2804) (fun h => False.elim (by omega)))⟩), (fun hbad => by omega)⟩⟩
            · have c2323_ : v2318.toInt = (-1) := en_i_ne_f c2323
              refine At.enter rfl ?_
              refine r_iload_n rfl ?_
              refine r_ifs 147 rfl (fun c2806 => ?_) (fun c2806 => ?_)
              · have c2806_ : a1.toInt ≠ 0 := en_k_ne_t c2806
                refine At.enter rfl ?_
                refine r_aload_n rfl ?_
                refine r_callV 153 rfl [.ref 231] [] (Nat.le_of_ble_eq_true rfl) rfl (T_X11_isCompared_231 _ hI2316) ?_
                rintro _ _ ⟨g2807, rfl, hI2808, hF2809, v2810, rfl, hr2811⟩
                refine At.sti ?_
                have hF2812 := Fr.tr hF2320 hF2809 rfl rfl
                refine At.enter rfl ?_
                refine r_ifs 156 rfl (fun c2813 => ?_) (fun c2813 => ?_)
                · have c2813_ : v2810.toInt = 0 := en_k_eq_t c2813
                  refine At.enter rfl ?_
                  refine r_aload_n rfl ?_
                  refine r_bipush 60 rfl ?_
                  have x2814 := HI.eqI hI2808 (p := 231) (b := 11) ((((hF2809.1 231 11 (by decide)).trans ((hF2317.1 231 11 (by decide)).trans ((hF2307.1 231 11 (by decide)).trans ((hF2295.1 231 11 (by decide)).trans ((hF2283.1 231 11 (by decide)).trans (hF2271.1 231 11 (by decide))))))).trans hv4))
                  have zv2815 : (60 : Int32).toInt = 60 := rfl
                  refine r_callV 164 rfl [.ref 231, .int 60] [] (Nat.le_of_ble_eq_true rfl) rfl (T_X11_isSign_231 _ hI2808 60 (by omega)) ?_
                  rintro _ _ ⟨g2816, rfl, hI2817, hF2818, v2819, rfl, hr2820⟩
                  refine At.sti ?_
                  have hF2821 := Fr.tr hF2812 hF2818 rfl rfl
                  have zv2822 : (60 : Int32).toInt = 60 := rfl
                  have x2823 := HI.eqI hI2808 (p := 231) (b := 11) ((((hF2809.1 231 11 (by decide)).trans ((hF2317.1 231 11 (by decide)).trans ((hF2307.1 231 11 (by decide)).trans ((hF2295.1 231 11 (by decide)).trans ((hF2283.1 231 11 (by decide)).trans (hF2271.1 231 11 (by decide))))))).trans hv4))
                  have x2824 := HI.eqI hI2817 (p := 231) (b := 11) ((((hF2818.1 231 11 (by decide)).trans ((hF2809.1 231 11 (by decide)).trans ((hF2317.1 231 11 (by decide)).trans ((hF2307.1 231 11 (by decide)).trans ((hF2295.1 231 11 (by decide)).trans ((hF2283.1 231 11 (by decide)).trans (hF2271.1 231 11 (by decide)))))))).trans hv4))
                  refine At.enter rfl ?_
                  refine r_ifs 167 rfl (fun c2825 => ?_) (fun c2825 => ?_)
                  · have c2825_ : v2819.toInt = 0 := en_k_eq_t c2825
                    refine At.enter rfl ?_
                    refine r_aload_n rfl ?_
                    refine r_bipush 62 rfl ?_
                    have x2826 := HI.eqI hI2817 (p := 231) (b := 11) ((((hF2818.1 231 11 (by decide)).trans ((hF2809.1 231 11 (by decide)).trans ((hF2317.1 231 11 (by decide)).trans ((hF2307.1 231 11 (by decide)).trans ((hF2295.1 231 11 (by decide)).trans ((hF2283.1 231 11 (by decide)).trans (hF2271.1 231 11 (by decide)))))))).trans hv4))
                    have zv2827 : (62 : Int32).toInt = 62 := rfl
                    refine r_callV 178 rfl [.ref 231, .int 62] [] (Nat.le_of_ble_eq_true rfl) rfl (T_X11_isSign_231 _ hI2817 62 (by omega)) ?_
                    rintro _ _ ⟨g2828, rfl, hI2829, hF2830, v2831, rfl, hr2832⟩
                    refine At.sti ?_
                    have hF2833 := Fr.tr hF2821 hF2830 rfl rfl
                    have zv2834 : (62 : Int32).toInt = 62 := rfl
                    have x2835 := HI.eqI hI2817 (p := 231) (b := 11) ((((hF2818.1 231 11 (by decide)).trans ((hF2809.1 231 11 (by decide)).trans ((hF2317.1 231 11 (by decide)).trans ((hF2307.1 231 11 (by decide)).trans ((hF2295.1 231 11 (by decide)).trans ((hF2283.1 231 11 (by decide)).trans (hF2271.1 231 11 (by decide)))))))).trans hv4))
                    have x2836 := HI.eqI hI2829 (p := 231) (b := 11) ((((hF2830.1 231 11 (by decide)).trans ((hF2818.1 231 11 (by decide)).trans ((hF2809.1 231 11 (by decide)).trans ((hF2317.1 231 11 (by decide)).trans ((hF2307.1 231 11 (by decide)).trans ((hF2295.1 231 11 (by decide)).trans ((hF2283.1 231 11 (by decide)).trans (hF2271.1 231 11 (by decide))))))))).trans hv4))
                    refine At.enter rfl ?_
                    refine r_ifs 181 rfl (fun c2837 => ?_) (fun c2837 => ?_)
                    · have c2837_ : v2831.toInt = 0 := en_k_eq_t c2837
                      refine At.enter rfl ?_
                      refine r_bipush 26 rfl ?_
                      refine Ar.fall 188 rfl ?_
                      refine At.enter rfl ?_
                      refine r_istore_n ([(2, .int 26), (3, .int v2318), (0, .ref 231), (1, .int a1)]) rfl ?_
                      refine r_aload_n rfl ?_
                      refine r_iload_n rfl ?_
                      refine r_bipush 26 rfl ?_
                      refine r_icf 196 rfl (by decide) ?_
                      refine At.enter rfl ?_
                      refine r_aload_n rfl ?_
                      refine r_bipush 61 rfl ?_
                      have x2838 := HI.eqI hI2829 (p := 231) (b := 11) ((((hF2830.1 231 11 (by decide)).trans ((hF2818.1 231 11 (by decide)).trans ((hF2809.1 231 11 (by decide)).trans ((hF2317.1 231 11 (by decide)).trans ((hF2307.1 231 11 (by decide)).trans ((hF2295.1 231 11 (by decide)).trans ((hF2283.1 231 11 (by decide)).trans (hF2271.1 231 11 (by decide))))))))).trans hv4))
                      have zv2839 : (61 : Int32).toInt = 61 := rfl
                      refine r_callV 202 rfl [.ref 231, .int 61] [.ref 231] (Nat.le_of_ble_eq_true rfl) rfl (T_X11_isSign_231 _ hI2829 61 (by omega)) ?_
                      rintro _ _ ⟨g2840, rfl, hI2841, hF2842, v2843, rfl, hr2844⟩
                      refine At.sti ?_
                      have hF2845 := Fr.tr hF2833 hF2842 rfl rfl
                      have zv2846 : (61 : Int32).toInt = 61 := rfl
                      have x2847 := HI.eqI hI2829 (p := 231) (b := 11) ((((hF2830.1 231 11 (by decide)).trans ((hF2818.1 231 11 (by decide)).trans ((hF2809.1 231 11 (by decide)).trans ((hF2317.1 231 11 (by decide)).trans ((hF2307.1 231 11 (by decide)).trans ((hF2295.1 231 11 (by decide)).trans ((hF2283.1 231 11 (by decide)).trans (hF2271.1 231 11 (by decide))))))))).trans hv4))
                      have x2848 := HI.eqI hI2841 (p := 231) (b := 11) ((((hF2842.1 231 11 (by decide)).trans ((hF2830.1 231 11 (by decide)).trans ((hF2818.1 231 11 (by decide)).trans ((hF2809.1 231 11 (by decide)).trans ((hF2317.1 231 11 (by decide)).trans ((hF2307.1 231 11 (by decide)).trans ((hF2295.1 231 11 (by decide)).trans ((hF2283.1 231 11 (by decide)).trans (hF2271.1 231 11 (by decide)))))))))).trans hv4))
                      refine At.enter rfl ?_
                      refine r_ifs 205 rfl (fun c2849 => ?_) (fun c2849 => ?_)
                      · have c2849_ : v2843.toInt = 0 := en_k_eq_t c2849
                        refine At.enter rfl ?_
                        refine r_iconst 0 rfl ?_
                        refine Ar.fall 210 rfl ?_
                        refine At.enter rfl ?_
                        have x2850 := HI.eqI hI2841 (p := 231) (b := 8) ((((hF2842.1 231 8 (by decide)).trans ((hF2830.1 231 8 (by decide)).trans ((hF2818.1 231 8 (by decide)).trans ((hF2809.1 231 8 (by decide)).trans ((hF2317.1 231 8 (by decide)).trans ((hF2307.1 231 8 (by decide)).trans ((hF2295.1 231 8 (by decide)).trans ((hF2283.1 231 8 (by decide)).trans (hF2271.1 231 8 (by decide)))))))))).trans hv1))
                        have x2851 := HI.eqI hI2841 (p := 231) (b := 9) ((((hF2842.1 231 9 (by decide)).trans ((hF2830.1 231 9 (by decide)).trans ((hF2818.1 231 9 (by decide)).trans ((hF2809.1 231 9 (by decide)).trans ((hF2317.1 231 9 (by decide)).trans ((hF2307.1 231 9 (by decide)).trans ((hF2295.1 231 9 (by decide)).trans ((hF2283.1 231 9 (by decide)).trans (hF2271.1 231 9 (by decide)))))))))).trans hv2))
                        have x2852 := HI.eqI hI2841 (p := 231) (b := 10) ((((hF2842.1 231 10 (by decide)).trans ((hF2830.1 231 10 (by decide)).trans ((hF2818.1 231 10 (by decide)).trans ((hF2809.1 231 10 (by decide)).trans ((hF2317.1 231 10 (by decide)).trans ((hF2307.1 231 10 (by decide)).trans ((hF2295.1 231 10 (by decide)).trans ((hF2283.1 231 10 (by decide)).trans (hF2271.1 231 10 (by decide)))))))))).trans hv3))
                        have x2853 := HI.eqI hI2841 (p := 231) (b := 11) ((((hF2842.1 231 11 (by decide)).trans ((hF2830.1 231 11 (by decide)).trans ((hF2818.1 231 11 (by decide)).trans ((hF2809.1 231 11 (by decide)).trans ((hF2317.1 231 11 (by decide)).trans ((hF2307.1 231 11 (by decide)).trans ((hF2295.1 231 11 (by decide)).trans ((hF2283.1 231 11 (by decide)).trans (hF2271.1 231 11 (by decide)))))))))).trans hv4))
                        have w262854 := W26.cong hW hI2841 (((hF2842.1 231 9 (by decide)).trans ((hF2830.1 231 9 (by decide)).trans ((hF2818.1 231 9 (by decide)).trans ((hF2809.1 231 9 (by decide)).trans ((hF2317.1 231 9 (by decide)).trans ((hF2307.1 231 9 (by decide)).trans ((hF2295.1 231 9 (by decide)).trans ((hF2283.1 231 9 (by decide)).trans (hF2271.1 231 9 (by decide))))))))))) (((hF2842.1 231 10 (by decide)).trans ((hF2830.1 231 10 (by decide)).trans ((hF2818.1 231 10 (by decide)).trans ((hF2809.1 231 10 (by decide)).trans ((hF2317.1 231 10 (by decide)).trans ((hF2307.1 231 10 (by decide)).trans ((hF2295.1 231 10 (by decide)).trans ((hF2283.1 231 10 (by decide)).trans (hF2271.1 231 10 (by decide))))))))))) (((hF2842.1 231 11 (by decide)).trans ((hF2830.1 231 11 (by decide)).trans ((hF2818.1 231 11 (by decide)).trans ((hF2809.1 231 11 (by decide)).trans ((hF2317.1 231 11 (by decide)).trans ((hF2307.1 231 11 (by decide)).trans ((hF2295.1 231 11 (by decide)).trans ((hF2283.1 231 11 (by decide)).trans (hF2271.1 231 11 (by decide))))))))))) (((hF2842.2.2 231 12 (by decide)).trans ((hF2830.2.2 231 12 (by decide)).trans ((hF2818.2.2 231 12 (by decide)).trans ((hF2809.2.2 231 12 (by decide)).trans ((hF2317.2.2 231 12 (by decide)).trans ((hF2307.2.2 231 12 (by decide)).trans ((hF2295.2.2 231 12 (by decide)).trans ((hF2283.2.2 231 12 (by decide)).trans (hF2271.2.2 231 12 (by decide)))))))))))
                        have zv2855 : (0 : Int32).toInt = 0 := rfl
                        refine r_callV 213 rfl [.ref 231, .int 0] [] (Nat.le_of_ble_eq_true rfl) rfl (T_X11_must_231 _ hI2841 0 (by decide) (by refine ⟨?_, ?_, ?_, ?_⟩ <;> omega) w262854) ?_
                        rintro _ _ ⟨g2856, rfl, hI2857, hF2858, rfl, hr2860⟩
                        refine At.stn ?_
                        have hF2861 := Fr.tr hF2845 hF2858 rfl rfl
                        have zv2862 : (0 : Int32).toInt = 0 := rfl
                        have x2863 := HI.eqI hI2841 (p := 231) (b := 8) ((((hF2842.1 231 8 (by decide)).trans ((hF2830.1 231 8 (by decide)).trans ((hF2818.1 231 8 (by decide)).trans ((hF2809.1 231 8 (by decide)).trans ((hF2317.1 231 8 (by decide)).trans ((hF2307.1 231 8 (by decide)).trans ((hF2295.1 231 8 (by decide)).trans ((hF2283.1 231 8 (by decide)).trans (hF2271.1 231 8 (by decide)))))))))).trans hv1))
                        have x2864 := HI.eqI hI2841 (p := 231) (b := 9) ((((hF2842.1 231 9 (by decide)).trans ((hF2830.1 231 9 (by decide)).trans ((hF2818.1 231 9 (by decide)).trans ((hF2809.1 231 9 (by decide)).trans ((hF2317.1 231 9 (by decide)).trans ((hF2307.1 231 9 (by decide)).trans ((hF2295.1 231 9 (by decide)).trans ((hF2283.1 231 9 (by decide)).trans (hF2271.1 231 9 (by decide)))))))))).trans hv2))
                        have x2865 := HI.eqI hI2841 (p := 231) (b := 10) ((((hF2842.1 231 10 (by decide)).trans ((hF2830.1 231 10 (by decide)).trans ((hF2818.1 231 10 (by decide)).trans ((hF2809.1 231 10 (by decide)).trans ((hF2317.1 231 10 (by decide)).trans ((hF2307.1 231 10 (by decide)).trans ((hF2295.1 231 10 (by decide)).trans ((hF2283.1 231 10 (by decide)).trans (hF2271.1 231 10 (by decide)))))))))).trans hv3))
                        have x2866 := HI.eqI hI2841 (p := 231) (b := 11) ((((hF2842.1 231 11 (by decide)).trans ((hF2830.1 231 11 (by decide)).trans ((hF2818.1 231 11 (by decide)).trans ((hF2809.1 231 11 (by decide)).trans ((hF2317.1 231 11 (by decide)).trans ((hF2307.1 231 11 (by decide)).trans ((hF2295.1 231 11 (by decide)).trans ((hF2283.1 231 11 (by decide)).trans (hF2271.1 231 11 (by decide)))))))))).trans hv4))
                        have x2867 := HI.eqI hI2841 (p := 231) (b := 14) ((((hF2842.1 231 14 (by decide)).trans ((hF2830.1 231 14 (by decide)).trans ((hF2818.1 231 14 (by decide)).trans ((hF2809.1 231 14 (by decide)).trans ((hF2317.1 231 14 (by decide)).trans ((hF2307.1 231 14 (by decide)).trans ((hF2295.1 231 14 (by decide)).trans ((hF2283.1 231 14 (by decide)).trans (hF2271.1 231 14 (by decide)))))))))).trans hv6))
                        have x2868 := HI.eqI hI2857 (p := 231) (b := 8) ((((hF2858.1 231 8 (by decide)).trans ((hF2842.1 231 8 (by decide)).trans ((hF2830.1 231 8 (by decide)).trans ((hF2818.1 231 8 (by decide)).trans ((hF2809.1 231 8 (by decide)).trans ((hF2317.1 231 8 (by decide)).trans ((hF2307.1 231 8 (by decide)).trans ((hF2295.1 231 8 (by decide)).trans ((hF2283.1 231 8 (by decide)).trans (hF2271.1 231 8 (by decide))))))))))).trans hv1))
                        obtain ⟨v2869, hv2869⟩ : ∃ v, gI g2856 231 9 = v := ⟨_, rfl⟩
                        have rv2869 := RgF.at hI2857.2.1 (p := 231) (b := 9) rfl
                        rw [hv2869] at rv2869
                        dsimp only at rv2869
                        have tv2869 := congrArg Int32.toInt hv2869
                        have x2870 := HI.eqI hI2857 (p := 231) (b := 9) (hv2869)
                        obtain ⟨v2871, hv2871⟩ : ∃ v, gI g2856 231 10 = v := ⟨_, rfl⟩
                        have rv2871 := RgF.at hI2857.2.1 (p := 231) (b := 10) rfl
                        rw [hv2871] at rv2871
                        dsimp only at rv2871
                        have tv2871 := congrArg Int32.toInt hv2871
                        have x2872 := HI.eqI hI2857 (p := 231) (b := 10) (hv2871)
                        obtain ⟨v2873, hv2873⟩ : ∃ v, gI g2856 231 11 = v := ⟨_, rfl⟩
                        have tv2873 := congrArg Int32.toInt hv2873
                        have x2874 := HI.eqI hI2857 (p := 231) (b := 11) (hv2873)
                        obtain ⟨v2875, hv2875⟩ : ∃ v, gI g2856 231 14 = v := ⟨_, rfl⟩
                        have tv2875 := congrArg Int32.toInt hv2875
                        have x2876 := HI.eqI hI2857 (p := 231) (b := 14) (hv2875)
                        obtain ⟨c2877, c2878, c2879, c2880, c2881, c2882, c2883⟩ := hr2860
                        refine At.enter rfl ?_
                        refine r_aload_n rfl ?_
                        refine q_getI (Sh.int hI2857.1 kx_231 rfl) v2875 hv2875 ?_
                        refine r_ifs 220 rfl (fun c2884 => ?_) (fun c2884 => ?_)
                        · have c2884_ : v2875.toInt ≠ 0 := en_k_ne_t c2884
                          clear c2883
                          refine At.enter rfl ?_
                          refine r_iconst 1 rfl ?_
                          refine r_ireti ?_
                          have x2885 := HI.eqI hI2857 (p := 231) (b := 8) ((((hF2858.1 231 8 (by decide)).trans ((hF2842.1 231 8 (by decide)).trans ((hF2830.1 231 8 (by decide)).trans ((hF2818.1 231 8 (by decide)).trans ((hF2809.1 231 8 (by decide)).trans ((hF2317.1 231 8 (by decide)).trans ((hF2307.1 231 8 (by decide)).trans ((hF2295.1 231 8 (by decide)).trans ((hF2283.1 231 8 (by decide)).trans (hF2271.1 231 8 (by decide))))))))))).trans hv1))
                          have x2886 := HI.eqI hI2857 (p := 231) (b := 9) (hv2869)
                          have x2887 := HI.eqI hI2857 (p := 231) (b := 10) (hv2871)
                          have x2888 := HI.eqI hI2857 (p := 231) (b := 11) (hv2873)
                          obtain ⟨v2889, hv2889⟩ : ∃ v, gJ g2856 231 12 = v := ⟨_, rfl⟩
                          have x2890 := HI.eqJ hI2857 (b := 12) (hv2889)
                          have x2891 := HI.eqI hI2857 (p := 231) (b := 14) (hv2875)
                          have x2892 := HI.eqI hI2857 (p := 231) (b := 17) ((((hF2858.1 231 17 (by decide)).trans ((hF2842.1 231 17 (by decide)).trans ((hF2830.1 231 17 (by decide)).trans ((hF2818.1 231 17 (by decide)).trans ((hF2809.1 231 17 (by decide)).trans ((hF2317.1 231 17 (by decide)).trans ((hF2307.1 231 17 (by decide)).trans ((hF2295.1 231 17 (by decide)).trans ((hF2283.1 231 17 (by decide)).trans (hF2271.1 231 17 (by decide))))))))))).trans hv7))
                          have x2893 := HI.eqI hI2857 (p := 231) (b := 23) ((((hF2858.1 231 23 (by decide)).trans ((hF2842.1 231 23 (by decide)).trans ((hF2830.1 231 23 (by decide)).trans ((hF2818.1 231 23 (by decide)).trans ((hF2809.1 231 23 (by decide)).trans ((hF2317.1 231 23 (by decide)).trans ((hF2307.1 231 23 (by decide)).trans ((hF2295.1 231 23 (by decide)).trans ((hF2283.1 231 23 (by decide)).trans (hF2271.1 231 23 (by decide))))))))))).trans hv8))
                          have x2894 := HI.eqI hI0 (p := 231) (b := 9) (hv2)
                          have zv2895 : (1 : Int32).toInt = 1 := rfl
                          exact ⟨_, rfl, hI2857, hF2861, _, rfl, by decide, ⟨by omega, by omega, by omega, by omega, c2882, by omega, by omega, (fun hbad => ⟨by omega, (PT.mk (fun h => False.elim (by omega)) (fun h => False.elim (by omega)) (fun h h9 => False.elim (by omega)) (fun h => False.elim (by omega)))⟩), (fun hbad => by omega)⟩⟩
                        · have c2884_ : v2875.toInt = 0 := en_k_ne_f c2884
                          obtain ⟨i2896, i2897, i2898⟩ := c2883 (by omega)
                          refine At.enter rfl ?_
                          refine r_aload_n rfl ?_
                          refine r_iconst 5 rfl ?_
                          have x2899 := HI.eqI hI2857 (p := 231) (b := 17) ((((hF2858.1 231 17 (by decide)).trans ((hF2842.1 231 17 (by decide)).trans ((hF2830.1 231 17 (by decide)).trans ((hF2818.1 231 17 (by decide)).trans ((hF2809.1 231 17 (by decide)).trans ((hF2317.1 231 17 (by decide)).trans ((hF2307.1 231 17 (by decide)).trans ((hF2295.1 231 17 (by decide)).trans ((hF2283.1 231 17 (by decide)).trans (hF2271.1 231 17 (by decide))))))))))).trans hv7))
                          have x2900 := HI.eqI hI2857 (p := 231) (b := 23) ((((hF2858.1 231 23 (by decide)).trans ((hF2842.1 231 23 (by decide)).trans ((hF2830.1 231 23 (by decide)).trans ((hF2818.1 231 23 (by decide)).trans ((hF2809.1 231 23 (by decide)).trans ((hF2317.1 231 23 (by decide)).trans ((hF2307.1 231 23 (by decide)).trans ((hF2295.1 231 23 (by decide)).trans ((hF2283.1 231 23 (by decide)).trans (hF2271.1 231 23 (by decide))))))))))).trans hv8))
                          have zv2901 : (5 : Int32).toInt = 5 := rfl
                          refine r_callV 225 rfl [.ref 231, .int 5] [] (Nat.le_of_ble_eq_true rfl) rfl (T_X11_settle_231 _ hI2857 5 (by decide) (by omega)) ?_
                          rintro _ _ ⟨g2902, rfl, hI2903, hF2904, rfl, hr2906⟩
                          refine At.stn ?_
                          have hF2907 := Fr.tr hF2861 hF2904 rfl rfl
                          have zv2908 : (5 : Int32).toInt = 5 := rfl
                          have x2909 := HI.eqI hI2857 (p := 231) (b := 17) ((((hF2858.1 231 17 (by decide)).trans ((hF2842.1 231 17 (by decide)).trans ((hF2830.1 231 17 (by decide)).trans ((hF2818.1 231 17 (by decide)).trans ((hF2809.1 231 17 (by decide)).trans ((hF2317.1 231 17 (by decide)).trans ((hF2307.1 231 17 (by decide)).trans ((hF2295.1 231 17 (by decide)).trans ((hF2283.1 231 17 (by decide)).trans (hF2271.1 231 17 (by decide))))))))))).trans hv7))
                          have x2910 := HI.eqI hI2857 (p := 231) (b := 23) ((((hF2858.1 231 23 (by decide)).trans ((hF2842.1 231 23 (by decide)).trans ((hF2830.1 231 23 (by decide)).trans ((hF2818.1 231 23 (by decide)).trans ((hF2809.1 231 23 (by decide)).trans ((hF2317.1 231 23 (by decide)).trans ((hF2307.1 231 23 (by decide)).trans ((hF2295.1 231 23 (by decide)).trans ((hF2283.1 231 23 (by decide)).trans (hF2271.1 231 23 (by decide))))))))))).trans hv8))
                          obtain ⟨v2911, hv2911⟩ : ∃ v, gI g2902 231 17 = v := ⟨_, rfl⟩
                          have rv2911 := RgF.at hI2903.2.1 (p := 231) (b := 17) rfl
                          rw [hv2911] at rv2911
                          dsimp only at rv2911
                          have tv2911 := congrArg Int32.toInt hv2911
                          have x2912 := HI.eqI hI2903 (p := 231) (b := 17) (hv2911)
                          obtain ⟨v2913, hv2913⟩ : ∃ v, gI g2902 231 23 = v := ⟨_, rfl⟩
                          have rv2913 := RgF.at hI2903.2.1 (p := 231) (b := 23) rfl
                          rw [hv2913] at rv2913
                          dsimp only at rv2913
                          have tv2913 := congrArg Int32.toInt hv2913
                          have x2914 := HI.eqI hI2903 (p := 231) (b := 23) (hv2913)
                          have y2915 : (gI _ 231 23).toInt ≤ (gI _ 231 23).toInt := hr2906.1
                          have y2916 : (gI _ 231 17).toInt + (gI _ 231 23).toInt ≤ (gI _ 231 17).toInt + (gI _ 231 23).toInt := hr2906.2.1
                          have inn2917 := INN.cong inn2321 hI2857 (((hF2858.2.1 240 (by decide)).trans ((hF2842.2.1 240 (by decide)).trans ((hF2830.2.1 240 (by decide)).trans ((hF2818.2.1 240 (by decide)).trans (hF2809.2.1 240 (by decide))))))) (((hF2858.1 231 23 (by decide)).trans ((hF2842.1 231 23 (by decide)).trans ((hF2830.1 231 23 (by decide)).trans ((hF2818.1 231 23 (by decide)).trans (hF2809.1 231 23 (by decide)))))))
                          have pg2918 := PG.cong (hP.2.1 (by decide)) hI2857 (((hF2858.2.1 238 (by decide)).trans ((hF2842.2.1 238 (by decide)).trans ((hF2830.2.1 238 (by decide)).trans ((hF2818.2.1 238 (by decide)).trans ((hF2809.2.1 238 (by decide)).trans ((hF2317.2.1 238 (by decide)).trans ((hF2307.2.1 238 (by decide)).trans ((hF2295.2.1 238 (by decide)).trans ((hF2283.2.1 238 (by decide)).trans (hF2271.2.1 238 (by decide)))))))))))) (((hF2858.2.1 239 (by decide)).trans ((hF2842.2.1 239 (by decide)).trans ((hF2830.2.1 239 (by decide)).trans ((hF2818.2.1 239 (by decide)).trans ((hF2809.2.1 239 (by decide)).trans ((hF2317.2.1 239 (by decide)).trans ((hF2307.2.1 239 (by decide)).trans ((hF2295.2.1 239 (by decide)).trans ((hF2283.2.1 239 (by decide)).trans (hF2271.2.1 239 (by decide)))))))))))) (((hF2858.2.1 240 (by decide)).trans ((hF2842.2.1 240 (by decide)).trans ((hF2830.2.1 240 (by decide)).trans ((hF2818.2.1 240 (by decide)).trans ((hF2809.2.1 240 (by decide)).trans ((hF2317.2.1 240 (by decide)).trans ((hF2307.2.1 240 (by decide)).trans ((hF2295.2.1 240 (by decide)).trans ((hF2283.2.1 240 (by decide)).trans (hF2271.2.1 240 (by decide)))))))))))) (((hF2858.2.1 241 (by decide)).trans ((hF2842.2.1 241 (by decide)).trans ((hF2830.2.1 241 (by decide)).trans ((hF2818.2.1 241 (by decide)).trans ((hF2809.2.1 241 (by decide)).trans ((hF2317.2.1 241 (by decide)).trans ((hF2307.2.1 241 (by decide)).trans ((hF2295.2.1 241 (by decide)).trans ((hF2283.2.1 241 (by decide)).trans (hF2271.2.1 241 (by decide)))))))))))) (((hF2858.1 231 17 (by decide)).trans ((hF2842.1 231 17 (by decide)).trans ((hF2830.1 231 17 (by decide)).trans ((hF2818.1 231 17 (by decide)).trans ((hF2809.1 231 17 (by decide)).trans ((hF2317.1 231 17 (by decide)).trans ((hF2307.1 231 17 (by decide)).trans ((hF2295.1 231 17 (by decide)).trans ((hF2283.1 231 17 (by decide)).trans (hF2271.1 231 17 (by decide)))))))))))) (((hF2858.1 231 23 (by decide)).trans ((hF2842.1 231 23 (by decide)).trans ((hF2830.1 231 23 (by decide)).trans ((hF2818.1 231 23 (by decide)).trans ((hF2809.1 231 23 (by decide)).trans ((hF2317.1 231 23 (by decide)).trans ((hF2307.1 231 23 (by decide)).trans ((hF2295.1 231 23 (by decide)).trans ((hF2283.1 231 23 (by decide)).trans (hF2271.1 231 23 (by decide))))))))))))
                          have nsq2919 := INN.nsq inn2917 pg2918 (by omega)
                          have pg2920 := PG.cong (hP.2.1 (by decide)) hI2857 (((hF2858.2.1 238 (by decide)).trans ((hF2842.2.1 238 (by decide)).trans ((hF2830.2.1 238 (by decide)).trans ((hF2818.2.1 238 (by decide)).trans ((hF2809.2.1 238 (by decide)).trans ((hF2317.2.1 238 (by decide)).trans ((hF2307.2.1 238 (by decide)).trans ((hF2295.2.1 238 (by decide)).trans ((hF2283.2.1 238 (by decide)).trans (hF2271.2.1 238 (by decide)))))))))))) (((hF2858.2.1 239 (by decide)).trans ((hF2842.2.1 239 (by decide)).trans ((hF2830.2.1 239 (by decide)).trans ((hF2818.2.1 239 (by decide)).trans ((hF2809.2.1 239 (by decide)).trans ((hF2317.2.1 239 (by decide)).trans ((hF2307.2.1 239 (by decide)).trans ((hF2295.2.1 239 (by decide)).trans ((hF2283.2.1 239 (by decide)).trans (hF2271.2.1 239 (by decide)))))))))))) (((hF2858.2.1 240 (by decide)).trans ((hF2842.2.1 240 (by decide)).trans ((hF2830.2.1 240 (by decide)).trans ((hF2818.2.1 240 (by decide)).trans ((hF2809.2.1 240 (by decide)).trans ((hF2317.2.1 240 (by decide)).trans ((hF2307.2.1 240 (by decide)).trans ((hF2295.2.1 240 (by decide)).trans ((hF2283.2.1 240 (by decide)).trans (hF2271.2.1 240 (by decide)))))))))))) (((hF2858.2.1 241 (by decide)).trans ((hF2842.2.1 241 (by decide)).trans ((hF2830.2.1 241 (by decide)).trans ((hF2818.2.1 241 (by decide)).trans ((hF2809.2.1 241 (by decide)).trans ((hF2317.2.1 241 (by decide)).trans ((hF2307.2.1 241 (by decide)).trans ((hF2295.2.1 241 (by decide)).trans ((hF2283.2.1 241 (by decide)).trans (hF2271.2.1 241 (by decide)))))))))))) (((hF2858.1 231 17 (by decide)).trans ((hF2842.1 231 17 (by decide)).trans ((hF2830.1 231 17 (by decide)).trans ((hF2818.1 231 17 (by decide)).trans ((hF2809.1 231 17 (by decide)).trans ((hF2317.1 231 17 (by decide)).trans ((hF2307.1 231 17 (by decide)).trans ((hF2295.1 231 17 (by decide)).trans ((hF2283.1 231 17 (by decide)).trans (hF2271.1 231 17 (by decide)))))))))))) (((hF2858.1 231 23 (by decide)).trans ((hF2842.1 231 23 (by decide)).trans ((hF2830.1 231 23 (by decide)).trans ((hF2818.1 231 23 (by decide)).trans ((hF2809.1 231 23 (by decide)).trans ((hF2317.1 231 23 (by decide)).trans ((hF2307.1 231 23 (by decide)).trans ((hF2295.1 231 23 (by decide)).trans ((hF2283.1 231 23 (by decide)).trans (hF2271.1 231 23 (by decide))))))))))))
                          have inn2922 := INN.cong inn2321 hI2857 (((hF2858.2.1 240 (by decide)).trans ((hF2842.2.1 240 (by decide)).trans ((hF2830.2.1 240 (by decide)).trans ((hF2818.2.1 240 (by decide)).trans (hF2809.2.1 240 (by decide))))))) (((hF2858.1 231 23 (by decide)).trans ((hF2842.1 231 23 (by decide)).trans ((hF2830.1 231 23 (by decide)).trans ((hF2818.1 231 23 (by decide)).trans (hF2809.1 231 23 (by decide)))))))
                          have pg2921 := hr2906.2.2.1 _ _ _ pg2920
                          have nsq2924 := NSQ.le nsq2919 hI2903 hr2906.2.2.2.2.1 hr2906.1
                          refine At.enter rfl ?_
                          refine r_aload_n rfl ?_
                          refine r_iload_n rfl ?_
                          refine r_iconst 0 rfl ?_
                          have x2925 := HI.eqI hI2903 (p := 231) (b := 23) (hv2913)
                          have zv2926 : (26 : Int32).toInt = 26 := rfl
                          have zv2927 : (0 : Int32).toInt = 0 := rfl
                          refine r_callV 231 rfl [.ref 231, .int 26, .int 0] [] (Nat.le_of_ble_eq_true rfl) rfl (T_X11_push_231 _ hI2903 26 (by decide) 0 (by decide) (by omega)) ?_
                          rintro _ _ ⟨g2928, rfl, hI2929, hF2930, rfl, hr2932⟩
                          refine At.stn ?_
                          have hF2933 := Fr.tr hF2907 hF2930 rfl rfl
                          have zv2934 : (26 : Int32).toInt = 26 := rfl
                          have zv2935 : (0 : Int32).toInt = 0 := rfl
                          have x2936 := HI.eqI hI2903 (p := 231) (b := 17) (hv2911)
                          have x2937 := HI.eqI hI2903 (p := 231) (b := 23) (hv2913)
                          have x2938 := HI.eqI hI2929 (p := 231) (b := 17) (((hF2930.1 231 17 (by decide)).trans hv2911))
                          obtain ⟨v2939, hv2939⟩ : ∃ v, gI g2928 231 23 = v := ⟨_, rfl⟩
                          have rv2939 := RgF.at hI2929.2.1 (p := 231) (b := 23) rfl
                          rw [hv2939] at rv2939
                          dsimp only at rv2939
                          have tv2939 := congrArg Int32.toInt hv2939
                          have x2940 := HI.eqI hI2929 (p := 231) (b := 23) (hv2939)
                          have y2941 : (gI _ 231 23).toInt = (gI _ 231 23).toInt + 1 := hr2932.1
                          have pg2942 := PG.push (e' := 0) pg2921 hr2932 (hF2930.2.1 238 (by decide)) (hF2930.2.1 239 (by decide)) (hF2930.1 231 17 (by decide)) ⟨by omega, by omega⟩ (Or.inr nsq2924) (by omega) (by omega)
                          have nsq2943 := NSQ.push nsq2924 hr2932 (by omega)
                          refine At.enter rfl ?_
                          refine r_iconst 1 rfl ?_
                          refine r_ireti ?_
                          have x2944 := HI.eqI hI2929 (p := 231) (b := 8) ((((hF2930.1 231 8 (by decide)).trans ((hF2904.1 231 8 (by decide)).trans ((hF2858.1 231 8 (by decide)).trans ((hF2842.1 231 8 (by decide)).trans ((hF2830.1 231 8 (by decide)).trans ((hF2818.1 231 8 (by decide)).trans ((hF2809.1 231 8 (by decide)).trans ((hF2317.1 231 8 (by decide)).trans ((hF2307.1 231 8 (by decide)).trans ((hF2295.1 231 8 (by decide)).trans ((hF2283.1 231 8 (by decide)).trans (hF2271.1 231 8 (by decide))))))))))))).trans hv1))
                          have x2945 := HI.eqI hI2929 (p := 231) (b := 9) ((((hF2930.1 231 9 (by decide)).trans (hF2904.1 231 9 (by decide))).trans hv2869))
                          have x2946 := HI.eqI hI2929 (p := 231) (b := 10) ((((hF2930.1 231 10 (by decide)).trans (hF2904.1 231 10 (by decide))).trans hv2871))
                          have x2947 := HI.eqI hI2929 (p := 231) (b := 11) ((((hF2930.1 231 11 (by decide)).trans (hF2904.1 231 11 (by decide))).trans hv2873))
                          obtain ⟨v2948, hv2948⟩ : ∃ v, gJ g2856 231 12 = v := ⟨_, rfl⟩
                          have x2949 := HI.eqJ hI2929 (b := 12) ((((hF2930.2.2 231 12 (by decide)).trans (hF2904.2.2 231 12 (by decide))).trans hv2948))
                          have x2950 := HI.eqI hI2929 (p := 231) (b := 14) ((((hF2930.1 231 14 (by decide)).trans (hF2904.1 231 14 (by decide))).trans hv2875))
                          have x2951 := HI.eqI hI2929 (p := 231) (b := 17) (((hF2930.1 231 17 (by decide)).trans hv2911))
                          have x2952 := HI.eqI hI2929 (p := 231) (b := 23) (hv2939)
                          have x2953 := HI.eqI hI0 (p := 231) (b := 9) (hv2)
                          have zv2954 : (1 : Int32).toInt = 1 := rfl
                          have w262955 := W26.cong c2882 hI2929 (((hF2930.1 231 9 (by decide)).trans (hF2904.1 231 9 (by decide)))) (((hF2930.1 231 10 (by decide)).trans (hF2904.1 231 10 (by decide)))) (((hF2930.1 231 11 (by decide)).trans (hF2904.1 231 11 (by decide)))) (((hF2930.2.2 231 12 (by decide)).trans (hF2904.2.2 231 12 (by decide))))
                          exact ⟨_, rfl, hI2929, hF2933, _, rfl, by decide, ⟨by omega, by omega, by omega, by omega, w262955, by omega, by omega, (fun hbad => ⟨by omega, (PT.mk (fun _ => pg2942) (fun h => False.elim (by omega)) (fun h h9 => False.elim (by omega)) (fun h => False.elim (by omega)))⟩), (fun hbad => by omega)⟩⟩
                      · have c2849_ : v2843.toInt ≠ 0 := en_k_eq_f c2849
                        refine At.enter rfl ?_
                        refine r_iconst 1 rfl ?_
                        refine r_goto ?_
                        refine At.enter rfl ?_
                        have x2956 := HI.eqI hI2841 (p := 231) (b := 8) ((((hF2842.1 231 8 (by decide)).trans ((hF2830.1 231 8 (by decide)).trans ((hF2818.1 231 8 (by decide)).trans ((hF2809.1 231 8 (by decide)).trans ((hF2317.1 231 8 (by decide)).trans ((hF2307.1 231 8 (by decide)).trans ((hF2295.1 231 8 (by decide)).trans ((hF2283.1 231 8 (by decide)).trans (hF2271.1 231 8 (by decide)))))))))).trans hv1))
                        have x2957 := HI.eqI hI2841 (p := 231) (b := 9) ((((hF2842.1 231 9 (by decide)).trans ((hF2830.1 231 9 (by decide)).trans ((hF2818.1 231 9 (by decide)).trans ((hF2809.1 231 9 (by decide)).trans ((hF2317.1 231 9 (by decide)).trans ((hF2307.1 231 9 (by decide)).trans ((hF2295.1 231 9 (by decide)).trans ((hF2283.1 231 9 (by decide)).trans (hF2271.1 231 9 (by decide)))))))))).trans hv2))
                        have x2958 := HI.eqI hI2841 (p := 231) (b := 10) ((((hF2842.1 231 10 (by decide)).trans ((hF2830.1 231 10 (by decide)).trans ((hF2818.1 231 10 (by decide)).trans ((hF2809.1 231 10 (by decide)).trans ((hF2317.1 231 10 (by decide)).trans ((hF2307.1 231 10 (by decide)).trans ((hF2295.1 231 10 (by decide)).trans ((hF2283.1 231 10 (by decide)).trans (hF2271.1 231 10 (by decide)))))))))).trans hv3))
                        have x2959 := HI.eqI hI2841 (p := 231) (b := 11) ((((hF2842.1 231 11 (by decide)).trans ((hF2830.1 231 11 (by decide)).trans ((hF2818.1 231 11 (by decide)).trans ((hF2809.1 231 11 (by decide)).trans ((hF2317.1 231 11 (by decide)).trans ((hF2307.1 231 11 (by decide)).trans ((hF2295.1 231 11 (by decide)).trans ((hF2283.1 231 11 (by decide)).trans (hF2271.1 231 11 (by decide)))))))))).trans hv4))
                        have w262960 := W26.cong hW hI2841 (((hF2842.1 231 9 (by decide)).trans ((hF2830.1 231 9 (by decide)).trans ((hF2818.1 231 9 (by decide)).trans ((hF2809.1 231 9 (by decide)).trans ((hF2317.1 231 9 (by decide)).trans ((hF2307.1 231 9 (by decide)).trans ((hF2295.1 231 9 (by decide)).trans ((hF2283.1 231 9 (by decide)).trans (hF2271.1 231 9 (by decide))))))))))) (((hF2842.1 231 10 (by decide)).trans ((hF2830.1 231 10 (by decide)).trans ((hF2818.1 231 10 (by decide)).trans ((hF2809.1 231 10 (by decide)).trans ((hF2317.1 231 10 (by decide)).trans ((hF2307.1 231 10 (by decide)).trans ((hF2295.1 231 10 (by decide)).trans ((hF2283.1 231 10 (by decide)).trans (hF2271.1 231 10 (by decide))))))))))) (((hF2842.1 231 11 (by decide)).trans ((hF2830.1 231 11 (by decide)).trans ((hF2818.1 231 11 (by decide)).trans ((hF2809.1 231 11 (by decide)).trans ((hF2317.1 231 11 (by decide)).trans ((hF2307.1 231 11 (by decide)).trans ((hF2295.1 231 11 (by decide)).trans ((hF2283.1 231 11 (by decide)).trans (hF2271.1 231 11 (by decide))))))))))) (((hF2842.2.2 231 12 (by decide)).trans ((hF2830.2.2 231 12 (by decide)).trans ((hF2818.2.2 231 12 (by decide)).trans ((hF2809.2.2 231 12 (by decide)).trans ((hF2317.2.2 231 12 (by decide)).trans ((hF2307.2.2 231 12 (by decide)).trans ((hF2295.2.2 231 12 (by decide)).trans ((hF2283.2.2 231 12 (by decide)).trans (hF2271.2.2 231 12 (by decide)))))))))))
                        have zv2961 : (1 : Int32).toInt = 1 := rfl
                        refine r_callV 213 rfl [.ref 231, .int 1] [] (Nat.le_of_ble_eq_true rfl) rfl (T_X11_must_231 _ hI2841 1 (by decide) (by refine ⟨?_, ?_, ?_, ?_⟩ <;> omega) w262960) ?_
                        rintro _ _ ⟨g2962, rfl, hI2963, hF2964, rfl, hr2966⟩
                        refine At.stn ?_
                        have hF2967 := Fr.tr hF2845 hF2964 rfl rfl
                        have zv2968 : (1 : Int32).toInt = 1 := rfl
                        have x2969 := HI.eqI hI2841 (p := 231) (b := 8) ((((hF2842.1 231 8 (by decide)).trans ((hF2830.1 231 8 (by decide)).trans ((hF2818.1 231 8 (by decide)).trans ((hF2809.1 231 8 (by decide)).trans ((hF2317.1 231 8 (by decide)).trans ((hF2307.1 231 8 (by decide)).trans ((hF2295.1 231 8 (by decide)).trans ((hF2283.1 231 8 (by decide)).trans (hF2271.1 231 8 (by decide)))))))))).trans hv1))
                        have x2970 := HI.eqI hI2841 (p := 231) (b := 9) ((((hF2842.1 231 9 (by decide)).trans ((hF2830.1 231 9 (by decide)).trans ((hF2818.1 231 9 (by decide)).trans ((hF2809.1 231 9 (by decide)).trans ((hF2317.1 231 9 (by decide)).trans ((hF2307.1 231 9 (by decide)).trans ((hF2295.1 231 9 (by decide)).trans ((hF2283.1 231 9 (by decide)).trans (hF2271.1 231 9 (by decide)))))))))).trans hv2))
                        have x2971 := HI.eqI hI2841 (p := 231) (b := 10) ((((hF2842.1 231 10 (by decide)).trans ((hF2830.1 231 10 (by decide)).trans ((hF2818.1 231 10 (by decide)).trans ((hF2809.1 231 10 (by decide)).trans ((hF2317.1 231 10 (by decide)).trans ((hF2307.1 231 10 (by decide)).trans ((hF2295.1 231 10 (by decide)).trans ((hF2283.1 231 10 (by decide)).trans (hF2271.1 231 10 (by decide)))))))))).trans hv3))
                        have x2972 := HI.eqI hI2841 (p := 231) (b := 11) ((((hF2842.1 231 11 (by decide)).trans ((hF2830.1 231 11 (by decide)).trans ((hF2818.1 231 11 (by decide)).trans ((hF2809.1 231 11 (by decide)).trans ((hF2317.1 231 11 (by decide)).trans ((hF2307.1 231 11 (by decide)).trans ((hF2295.1 231 11 (by decide)).trans ((hF2283.1 231 11 (by decide)).trans (hF2271.1 231 11 (by decide)))))))))).trans hv4))
                        have x2973 := HI.eqI hI2841 (p := 231) (b := 14) ((((hF2842.1 231 14 (by decide)).trans ((hF2830.1 231 14 (by decide)).trans ((hF2818.1 231 14 (by decide)).trans ((hF2809.1 231 14 (by decide)).trans ((hF2317.1 231 14 (by decide)).trans ((hF2307.1 231 14 (by decide)).trans ((hF2295.1 231 14 (by decide)).trans ((hF2283.1 231 14 (by decide)).trans (hF2271.1 231 14 (by decide)))))))))).trans hv6))
                        have x2974 := HI.eqI hI2963 (p := 231) (b := 8) ((((hF2964.1 231 8 (by decide)).trans ((hF2842.1 231 8 (by decide)).trans ((hF2830.1 231 8 (by decide)).trans ((hF2818.1 231 8 (by decide)).trans ((hF2809.1 231 8 (by decide)).trans ((hF2317.1 231 8 (by decide)).trans ((hF2307.1 231 8 (by decide)).trans ((hF2295.1 231 8 (by decide)).trans ((hF2283.1 231 8 (by decide)).trans (hF2271.1 231 8 (by decide))))))))))).trans hv1))
                        obtain ⟨v2975, hv2975⟩ : ∃ v, gI g2962 231 9 = v := ⟨_, rfl⟩
                        have rv2975 := RgF.at hI2963.2.1 (p := 231) (b := 9) rfl
                        rw [hv2975] at rv2975
                        dsimp only at rv2975
                        have tv2975 := congrArg Int32.toInt hv2975
                        have x2976 := HI.eqI hI2963 (p := 231) (b := 9) (hv2975)
                        obtain ⟨v2977, hv2977⟩ : ∃ v, gI g2962 231 10 = v := ⟨_, rfl⟩
                        have rv2977 := RgF.at hI2963.2.1 (p := 231) (b := 10) rfl
                        rw [hv2977] at rv2977
                        dsimp only at rv2977
                        have tv2977 := congrArg Int32.toInt hv2977
                        have x2978 := HI.eqI hI2963 (p := 231) (b := 10) (hv2977)
                        obtain ⟨v2979, hv2979⟩ : ∃ v, gI g2962 231 11 = v := ⟨_, rfl⟩
                        have tv2979 := congrArg Int32.toInt hv2979
                        have x2980 := HI.eqI hI2963 (p := 231) (b := 11) (hv2979)
                        obtain ⟨v2981, hv2981⟩ : ∃ v, gI g2962 231 14 = v := ⟨_, rfl⟩
                        have tv2981 := congrArg Int32.toInt hv2981
                        have x2982 := HI.eqI hI2963 (p := 231) (b := 14) (hv2981)
                        obtain ⟨c2983, c2984, c2985, c2986, c2987, c2988, c2989⟩ := hr2966
                        refine At.enter rfl ?_
                        refine r_aload_n rfl ?_
                        refine q_getI (Sh.int hI2963.1 kx_231 rfl) v2981 hv2981 ?_
                        refine r_ifs 220 rfl (fun c2990 => ?_) (fun c2990 => ?_)
                        · have c2990_ : v2981.toInt ≠ 0 := en_k_ne_t c2990
                          clear c2989
                          refine At.enter rfl ?_
                          refine r_iconst 1 rfl ?_
                          refine r_ireti ?_
                          have x2991 := HI.eqI hI2963 (p := 231) (b := 8) ((((hF2964.1 231 8 (by decide)).trans ((hF2842.1 231 8 (by decide)).trans ((hF2830.1 231 8 (by decide)).trans ((hF2818.1 231 8 (by decide)).trans ((hF2809.1 231 8 (by decide)).trans ((hF2317.1 231 8 (by decide)).trans ((hF2307.1 231 8 (by decide)).trans ((hF2295.1 231 8 (by decide)).trans ((hF2283.1 231 8 (by decide)).trans (hF2271.1 231 8 (by decide))))))))))).trans hv1))
                          have x2992 := HI.eqI hI2963 (p := 231) (b := 9) (hv2975)
                          have x2993 := HI.eqI hI2963 (p := 231) (b := 10) (hv2977)
                          have x2994 := HI.eqI hI2963 (p := 231) (b := 11) (hv2979)
                          obtain ⟨v2995, hv2995⟩ : ∃ v, gJ g2962 231 12 = v := ⟨_, rfl⟩
                          have x2996 := HI.eqJ hI2963 (b := 12) (hv2995)
                          have x2997 := HI.eqI hI2963 (p := 231) (b := 14) (hv2981)
                          have x2998 := HI.eqI hI2963 (p := 231) (b := 17) ((((hF2964.1 231 17 (by decide)).trans ((hF2842.1 231 17 (by decide)).trans ((hF2830.1 231 17 (by decide)).trans ((hF2818.1 231 17 (by decide)).trans ((hF2809.1 231 17 (by decide)).trans ((hF2317.1 231 17 (by decide)).trans ((hF2307.1 231 17 (by decide)).trans ((hF2295.1 231 17 (by decide)).trans ((hF2283.1 231 17 (by decide)).trans (hF2271.1 231 17 (by decide))))))))))).trans hv7))
                          have x2999 := HI.eqI hI2963 (p := 231) (b := 23) ((((hF2964.1 231 23 (by decide)).trans ((hF2842.1 231 23 (by decide)).trans ((hF2830.1 231 23 (by decide)).trans ((hF2818.1 231 23 (by decide)).trans ((hF2809.1 231 23 (by decide)).trans ((hF2317.1 231 23 (by decide)).trans ((hF2307.1 231 23 (by decide)).trans ((hF2295.1 231 23 (by decide)).trans ((hF2283.1 231 23 (by decide)).trans (hF2271.1 231 23 (by decide))))))))))).trans hv8))
                          have x3000 := HI.eqI hI0 (p := 231) (b := 9) (hv2)
                          have zv3001 : (1 : Int32).toInt = 1 := rfl
                          exact ⟨_, rfl, hI2963, hF2967, _, rfl, by decide, ⟨by omega, by omega, by omega, by omega, c2988, by omega, by omega, (fun hbad => ⟨by omega, (PT.mk (fun h => False.elim (by omega)) (fun h => False.elim (by omega)) (fun h h9 => False.elim (by omega)) (fun h => False.elim (by omega)))⟩), (fun hbad => by omega)⟩⟩
                        · have c2990_ : v2981.toInt = 0 := en_k_ne_f c2990
                          obtain ⟨i3002, i3003, i3004⟩ := c2989 (by omega)
                          refine At.enter rfl ?_
                          refine r_aload_n rfl ?_
                          refine r_iconst 5 rfl ?_
                          have x3005 := HI.eqI hI2963 (p := 231) (b := 17) ((((hF2964.1 231 17 (by decide)).trans ((hF2842.1 231 17 (by decide)).trans ((hF2830.1 231 17 (by decide)).trans ((hF2818.1 231 17 (by decide)).trans ((hF2809.1 231 17 (by decide)).trans ((hF2317.1 231 17 (by decide)).trans ((hF2307.1 231 17 (by decide)).trans ((hF2295.1 231 17 (by decide)).trans ((hF2283.1 231 17 (by decide)).trans (hF2271.1 231 17 (by decide))))))))))).trans hv7))
                          have x3006 := HI.eqI hI2963 (p := 231) (b := 23) ((((hF2964.1 231 23 (by decide)).trans ((hF2842.1 231 23 (by decide)).trans ((hF2830.1 231 23 (by decide)).trans ((hF2818.1 231 23 (by decide)).trans ((hF2809.1 231 23 (by decide)).trans ((hF2317.1 231 23 (by decide)).trans ((hF2307.1 231 23 (by decide)).trans ((hF2295.1 231 23 (by decide)).trans ((hF2283.1 231 23 (by decide)).trans (hF2271.1 231 23 (by decide))))))))))).trans hv8))
                          have zv3007 : (5 : Int32).toInt = 5 := rfl
                          refine r_callV 225 rfl [.ref 231, .int 5] [] (Nat.le_of_ble_eq_true rfl) rfl (T_X11_settle_231 _ hI2963 5 (by decide) (by omega)) ?_
                          rintro _ _ ⟨g3008, rfl, hI3009, hF3010, rfl, hr3012⟩
                          refine At.stn ?_
                          have hF3013 := Fr.tr hF2967 hF3010 rfl rfl
                          have zv3014 : (5 : Int32).toInt = 5 := rfl
                          have x3015 := HI.eqI hI2963 (p := 231) (b := 17) ((((hF2964.1 231 17 (by decide)).trans ((hF2842.1 231 17 (by decide)).trans ((hF2830.1 231 17 (by decide)).trans ((hF2818.1 231 17 (by decide)).trans ((hF2809.1 231 17 (by decide)).trans ((hF2317.1 231 17 (by decide)).trans ((hF2307.1 231 17 (by decide)).trans ((hF2295.1 231 17 (by decide)).trans ((hF2283.1 231 17 (by decide)).trans (hF2271.1 231 17 (by decide))))))))))).trans hv7))
                          have x3016 := HI.eqI hI2963 (p := 231) (b := 23) ((((hF2964.1 231 23 (by decide)).trans ((hF2842.1 231 23 (by decide)).trans ((hF2830.1 231 23 (by decide)).trans ((hF2818.1 231 23 (by decide)).trans ((hF2809.1 231 23 (by decide)).trans ((hF2317.1 231 23 (by decide)).trans ((hF2307.1 231 23 (by decide)).trans ((hF2295.1 231 23 (by decide)).trans ((hF2283.1 231 23 (by decide)).trans (hF2271.1 231 23 (by decide))))))))))).trans hv8))
                          obtain ⟨v3017, hv3017⟩ : ∃ v, gI g3008 231 17 = v := ⟨_, rfl⟩
                          have rv3017 := RgF.at hI3009.2.1 (p := 231) (b := 17) rfl
                          rw [hv3017] at rv3017
                          dsimp only at rv3017
                          have tv3017 := congrArg Int32.toInt hv3017
                          have x3018 := HI.eqI hI3009 (p := 231) (b := 17) (hv3017)
                          obtain ⟨v3019, hv3019⟩ : ∃ v, gI g3008 231 23 = v := ⟨_, rfl⟩
                          have rv3019 := RgF.at hI3009.2.1 (p := 231) (b := 23) rfl
                          rw [hv3019] at rv3019
                          dsimp only at rv3019
                          have tv3019 := congrArg Int32.toInt hv3019
                          have x3020 := HI.eqI hI3009 (p := 231) (b := 23) (hv3019)
                          have y3021 : (gI _ 231 23).toInt ≤ (gI _ 231 23).toInt := hr3012.1
                          have y3022 : (gI _ 231 17).toInt + (gI _ 231 23).toInt ≤ (gI _ 231 17).toInt + (gI _ 231 23).toInt := hr3012.2.1
                          have inn3023 := INN.cong inn2321 hI2963 (((hF2964.2.1 240 (by decide)).trans ((hF2842.2.1 240 (by decide)).trans ((hF2830.2.1 240 (by decide)).trans ((hF2818.2.1 240 (by decide)).trans (hF2809.2.1 240 (by decide))))))) (((hF2964.1 231 23 (by decide)).trans ((hF2842.1 231 23 (by decide)).trans ((hF2830.1 231 23 (by decide)).trans ((hF2818.1 231 23 (by decide)).trans (hF2809.1 231 23 (by decide)))))))
                          have pg3024 := PG.cong (hP.2.1 (by decide)) hI2963 (((hF2964.2.1 238 (by decide)).trans ((hF2842.2.1 238 (by decide)).trans ((hF2830.2.1 238 (by decide)).trans ((hF2818.2.1 238 (by decide)).trans ((hF2809.2.1 238 (by decide)).trans ((hF2317.2.1 238 (by decide)).trans ((hF2307.2.1 238 (by decide)).trans ((hF2295.2.1 238 (by decide)).trans ((hF2283.2.1 238 (by decide)).trans (hF2271.2.1 238 (by decide)))))))))))) (((hF2964.2.1 239 (by decide)).trans ((hF2842.2.1 239 (by decide)).trans ((hF2830.2.1 239 (by decide)).trans ((hF2818.2.1 239 (by decide)).trans ((hF2809.2.1 239 (by decide)).trans ((hF2317.2.1 239 (by decide)).trans ((hF2307.2.1 239 (by decide)).trans ((hF2295.2.1 239 (by decide)).trans ((hF2283.2.1 239 (by decide)).trans (hF2271.2.1 239 (by decide)))))))))))) (((hF2964.2.1 240 (by decide)).trans ((hF2842.2.1 240 (by decide)).trans ((hF2830.2.1 240 (by decide)).trans ((hF2818.2.1 240 (by decide)).trans ((hF2809.2.1 240 (by decide)).trans ((hF2317.2.1 240 (by decide)).trans ((hF2307.2.1 240 (by decide)).trans ((hF2295.2.1 240 (by decide)).trans ((hF2283.2.1 240 (by decide)).trans (hF2271.2.1 240 (by decide)))))))))))) (((hF2964.2.1 241 (by decide)).trans ((hF2842.2.1 241 (by decide)).trans ((hF2830.2.1 241 (by decide)).trans ((hF2818.2.1 241 (by decide)).trans ((hF2809.2.1 241 (by decide)).trans ((hF2317.2.1 241 (by decide)).trans ((hF2307.2.1 241 (by decide)).trans ((hF2295.2.1 241 (by decide)).trans ((hF2283.2.1 241 (by decide)).trans (hF2271.2.1 241 (by decide)))))))))))) (((hF2964.1 231 17 (by decide)).trans ((hF2842.1 231 17 (by decide)).trans ((hF2830.1 231 17 (by decide)).trans ((hF2818.1 231 17 (by decide)).trans ((hF2809.1 231 17 (by decide)).trans ((hF2317.1 231 17 (by decide)).trans ((hF2307.1 231 17 (by decide)).trans ((hF2295.1 231 17 (by decide)).trans ((hF2283.1 231 17 (by decide)).trans (hF2271.1 231 17 (by decide)))))))))))) (((hF2964.1 231 23 (by decide)).trans ((hF2842.1 231 23 (by decide)).trans ((hF2830.1 231 23 (by decide)).trans ((hF2818.1 231 23 (by decide)).trans ((hF2809.1 231 23 (by decide)).trans ((hF2317.1 231 23 (by decide)).trans ((hF2307.1 231 23 (by decide)).trans ((hF2295.1 231 23 (by decide)).trans ((hF2283.1 231 23 (by decide)).trans (hF2271.1 231 23 (by decide))))))))))))
                          have nsq3025 := INN.nsq inn3023 pg3024 (by omega)
                          have pg3026 := PG.cong (hP.2.1 (by decide)) hI2963 (((hF2964.2.1 238 (by decide)).trans ((hF2842.2.1 238 (by decide)).trans ((hF2830.2.1 238 (by decide)).trans ((hF2818.2.1 238 (by decide)).trans ((hF2809.2.1 238 (by decide)).trans ((hF2317.2.1 238 (by decide)).trans ((hF2307.2.1 238 (by decide)).trans ((hF2295.2.1 238 (by decide)).trans ((hF2283.2.1 238 (by decide)).trans (hF2271.2.1 238 (by decide)))))))))))) (((hF2964.2.1 239 (by decide)).trans ((hF2842.2.1 239 (by decide)).trans ((hF2830.2.1 239 (by decide)).trans ((hF2818.2.1 239 (by decide)).trans ((hF2809.2.1 239 (by decide)).trans ((hF2317.2.1 239 (by decide)).trans ((hF2307.2.1 239 (by decide)).trans ((hF2295.2.1 239 (by decide)).trans ((hF2283.2.1 239 (by decide)).trans (hF2271.2.1 239 (by decide)))))))))))) (((hF2964.2.1 240 (by decide)).trans ((hF2842.2.1 240 (by decide)).trans ((hF2830.2.1 240 (by decide)).trans ((hF2818.2.1 240 (by decide)).trans ((hF2809.2.1 240 (by decide)).trans ((hF2317.2.1 240 (by decide)).trans ((hF2307.2.1 240 (by decide)).trans ((hF2295.2.1 240 (by decide)).trans ((hF2283.2.1 240 (by decide)).trans (hF2271.2.1 240 (by decide)))))))))))) (((hF2964.2.1 241 (by decide)).trans ((hF2842.2.1 241 (by decide)).trans ((hF2830.2.1 241 (by decide)).trans ((hF2818.2.1 241 (by decide)).trans ((hF2809.2.1 241 (by decide)).trans ((hF2317.2.1 241 (by decide)).trans ((hF2307.2.1 241 (by decide)).trans ((hF2295.2.1 241 (by decide)).trans ((hF2283.2.1 241 (by decide)).trans (hF2271.2.1 241 (by decide)))))))))))) (((hF2964.1 231 17 (by decide)).trans ((hF2842.1 231 17 (by decide)).trans ((hF2830.1 231 17 (by decide)).trans ((hF2818.1 231 17 (by decide)).trans ((hF2809.1 231 17 (by decide)).trans ((hF2317.1 231 17 (by decide)).trans ((hF2307.1 231 17 (by decide)).trans ((hF2295.1 231 17 (by decide)).trans ((hF2283.1 231 17 (by decide)).trans (hF2271.1 231 17 (by decide)))))))))))) (((hF2964.1 231 23 (by decide)).trans ((hF2842.1 231 23 (by decide)).trans ((hF2830.1 231 23 (by decide)).trans ((hF2818.1 231 23 (by decide)).trans ((hF2809.1 231 23 (by decide)).trans ((hF2317.1 231 23 (by decide)).trans ((hF2307.1 231 23 (by decide)).trans ((hF2295.1 231 23 (by decide)).trans ((hF2283.1 231 23 (by decide)).trans (hF2271.1 231 23 (by decide))))))))))))
                          have inn3028 := INN.cong inn2321 hI2963 (((hF2964.2.1 240 (by decide)).trans ((hF2842.2.1 240 (by decide)).trans ((hF2830.2.1 240 (by decide)).trans ((hF2818.2.1 240 (by decide)).trans (hF2809.2.1 240 (by decide))))))) (((hF2964.1 231 23 (by decide)).trans ((hF2842.1 231 23 (by decide)).trans ((hF2830.1 231 23 (by decide)).trans ((hF2818.1 231 23 (by decide)).trans (hF2809.1 231 23 (by decide)))))))
                          have pg3027 := hr3012.2.2.1 _ _ _ pg3026
                          have nsq3030 := NSQ.le nsq3025 hI3009 hr3012.2.2.2.2.1 hr3012.1
                          refine At.enter rfl ?_
                          refine r_aload_n rfl ?_
                          refine r_iload_n rfl ?_
                          refine r_iconst 0 rfl ?_
                          have x3031 := HI.eqI hI3009 (p := 231) (b := 23) (hv3019)
                          have zv3032 : (26 : Int32).toInt = 26 := rfl
                          have zv3033 : (0 : Int32).toInt = 0 := rfl
                          refine r_callV 231 rfl [.ref 231, .int 26, .int 0] [] (Nat.le_of_ble_eq_true rfl) rfl (T_X11_push_231 _ hI3009 26 (by decide) 0 (by decide) (by omega)) ?_
                          rintro _ _ ⟨g3034, rfl, hI3035, hF3036, rfl, hr3038⟩
                          refine At.stn ?_
                          have hF3039 := Fr.tr hF3013 hF3036 rfl rfl
                          have zv3040 : (26 : Int32).toInt = 26 := rfl
                          have zv3041 : (0 : Int32).toInt = 0 := rfl
                          have x3042 := HI.eqI hI3009 (p := 231) (b := 17) (hv3017)
                          have x3043 := HI.eqI hI3009 (p := 231) (b := 23) (hv3019)
                          have x3044 := HI.eqI hI3035 (p := 231) (b := 17) (((hF3036.1 231 17 (by decide)).trans hv3017))
                          obtain ⟨v3045, hv3045⟩ : ∃ v, gI g3034 231 23 = v := ⟨_, rfl⟩
                          have rv3045 := RgF.at hI3035.2.1 (p := 231) (b := 23) rfl
                          rw [hv3045] at rv3045
                          dsimp only at rv3045
                          have tv3045 := congrArg Int32.toInt hv3045
                          have x3046 := HI.eqI hI3035 (p := 231) (b := 23) (hv3045)
                          have y3047 : (gI _ 231 23).toInt = (gI _ 231 23).toInt + 1 := hr3038.1
                          have pg3048 := PG.push (e' := 0) pg3027 hr3038 (hF3036.2.1 238 (by decide)) (hF3036.2.1 239 (by decide)) (hF3036.1 231 17 (by decide)) ⟨by omega, by omega⟩ (Or.inr nsq3030) (by omega) (by omega)
                          have nsq3049 := NSQ.push nsq3030 hr3038 (by omega)
                          refine At.enter rfl ?_
                          refine r_iconst 1 rfl ?_
                          refine r_ireti ?_
                          have x3050 := HI.eqI hI3035 (p := 231) (b := 8) ((((hF3036.1 231 8 (by decide)).trans ((hF3010.1 231 8 (by decide)).trans ((hF2964.1 231 8 (by decide)).trans ((hF2842.1 231 8 (by decide)).trans ((hF2830.1 231 8 (by decide)).trans ((hF2818.1 231 8 (by decide)).trans ((hF2809.1 231 8 (by decide)).trans ((hF2317.1 231 8 (by decide)).trans ((hF2307.1 231 8 (by decide)).trans ((hF2295.1 231 8 (by decide)).trans ((hF2283.1 231 8 (by decide)).trans (hF2271.1 231 8 (by decide))))))))))))).trans hv1))
                          have x3051 := HI.eqI hI3035 (p := 231) (b := 9) ((((hF3036.1 231 9 (by decide)).trans (hF3010.1 231 9 (by decide))).trans hv2975))
                          have x3052 := HI.eqI hI3035 (p := 231) (b := 10) ((((hF3036.1 231 10 (by decide)).trans (hF3010.1 231 10 (by decide))).trans hv2977))
                          have x3053 := HI.eqI hI3035 (p := 231) (b := 11) ((((hF3036.1 231 11 (by decide)).trans (hF3010.1 231 11 (by decide))).trans hv2979))
                          obtain ⟨v3054, hv3054⟩ : ∃ v, gJ g2962 231 12 = v := ⟨_, rfl⟩
                          have x3055 := HI.eqJ hI3035 (b := 12) ((((hF3036.2.2 231 12 (by decide)).trans (hF3010.2.2 231 12 (by decide))).trans hv3054))
                          have x3056 := HI.eqI hI3035 (p := 231) (b := 14) ((((hF3036.1 231 14 (by decide)).trans (hF3010.1 231 14 (by decide))).trans hv2981))
                          have x3057 := HI.eqI hI3035 (p := 231) (b := 17) (((hF3036.1 231 17 (by decide)).trans hv3017))
                          have x3058 := HI.eqI hI3035 (p := 231) (b := 23) (hv3045)
                          have x3059 := HI.eqI hI0 (p := 231) (b := 9) (hv2)
                          have zv3060 : (1 : Int32).toInt = 1 := rfl
                          have w263061 := W26.cong c2988 hI3035 (((hF3036.1 231 9 (by decide)).trans (hF3010.1 231 9 (by decide)))) (((hF3036.1 231 10 (by decide)).trans (hF3010.1 231 10 (by decide)))) (((hF3036.1 231 11 (by decide)).trans (hF3010.1 231 11 (by decide)))) (((hF3036.2.2 231 12 (by decide)).trans (hF3010.2.2 231 12 (by decide))))
                          exact ⟨_, rfl, hI3035, hF3039, _, rfl, by decide, ⟨by omega, by omega, by omega, by omega, w263061, by omega, by omega, (fun hbad => ⟨by omega, (PT.mk (fun _ => pg3048) (fun h => False.elim (by omega)) (fun h h9 => False.elim (by omega)) (fun h => False.elim (by omega)))⟩), (fun hbad => by omega)⟩⟩
                    · have c2837_ : v2831.toInt ≠ 0 := en_k_eq_f c2837
                      refine At.enter rfl ?_
                      refine r_bipush 25 rfl ?_
                      refine r_goto ?_
                      refine At.enter rfl ?_
                      refine r_istore_n ([(2, .int 25), (3, .int v2318), (0, .ref 231), (1, .int a1)]) rfl ?_
                      refine r_aload_n rfl ?_
                      refine r_iload_n rfl ?_
                      refine r_bipush 26 rfl ?_
                      refine r_ict (by decide) ?_
                      refine At.enter rfl ?_
                      refine r_iconst 1 rfl ?_
                      refine r_goto ?_
                      refine At.enter rfl ?_
                      have x3062 := HI.eqI hI2829 (p := 231) (b := 8) ((((hF2830.1 231 8 (by decide)).trans ((hF2818.1 231 8 (by decide)).trans ((hF2809.1 231 8 (by decide)).trans ((hF2317.1 231 8 (by decide)).trans ((hF2307.1 231 8 (by decide)).trans ((hF2295.1 231 8 (by decide)).trans ((hF2283.1 231 8 (by decide)).trans (hF2271.1 231 8 (by decide))))))))).trans hv1))
                      have x3063 := HI.eqI hI2829 (p := 231) (b := 9) ((((hF2830.1 231 9 (by decide)).trans ((hF2818.1 231 9 (by decide)).trans ((hF2809.1 231 9 (by decide)).trans ((hF2317.1 231 9 (by decide)).trans ((hF2307.1 231 9 (by decide)).trans ((hF2295.1 231 9 (by decide)).trans ((hF2283.1 231 9 (by decide)).trans (hF2271.1 231 9 (by decide))))))))).trans hv2))
                      have x3064 := HI.eqI hI2829 (p := 231) (b := 10) ((((hF2830.1 231 10 (by decide)).trans ((hF2818.1 231 10 (by decide)).trans ((hF2809.1 231 10 (by decide)).trans ((hF2317.1 231 10 (by decide)).trans ((hF2307.1 231 10 (by decide)).trans ((hF2295.1 231 10 (by decide)).trans ((hF2283.1 231 10 (by decide)).trans (hF2271.1 231 10 (by decide))))))))).trans hv3))
                      have x3065 := HI.eqI hI2829 (p := 231) (b := 11) ((((hF2830.1 231 11 (by decide)).trans ((hF2818.1 231 11 (by decide)).trans ((hF2809.1 231 11 (by decide)).trans ((hF2317.1 231 11 (by decide)).trans ((hF2307.1 231 11 (by decide)).trans ((hF2295.1 231 11 (by decide)).trans ((hF2283.1 231 11 (by decide)).trans (hF2271.1 231 11 (by decide))))))))).trans hv4))
                      have w263066 := W26.cong hW hI2829 (((hF2830.1 231 9 (by decide)).trans ((hF2818.1 231 9 (by decide)).trans ((hF2809.1 231 9 (by decide)).trans ((hF2317.1 231 9 (by decide)).trans ((hF2307.1 231 9 (by decide)).trans ((hF2295.1 231 9 (by decide)).trans ((hF2283.1 231 9 (by decide)).trans (hF2271.1 231 9 (by decide)))))))))) (((hF2830.1 231 10 (by decide)).trans ((hF2818.1 231 10 (by decide)).trans ((hF2809.1 231 10 (by decide)).trans ((hF2317.1 231 10 (by decide)).trans ((hF2307.1 231 10 (by decide)).trans ((hF2295.1 231 10 (by decide)).trans ((hF2283.1 231 10 (by decide)).trans (hF2271.1 231 10 (by decide)))))))))) (((hF2830.1 231 11 (by decide)).trans ((hF2818.1 231 11 (by decide)).trans ((hF2809.1 231 11 (by decide)).trans ((hF2317.1 231 11 (by decide)).trans ((hF2307.1 231 11 (by decide)).trans ((hF2295.1 231 11 (by decide)).trans ((hF2283.1 231 11 (by decide)).trans (hF2271.1 231 11 (by decide)))))))))) (((hF2830.2.2 231 12 (by decide)).trans ((hF2818.2.2 231 12 (by decide)).trans ((hF2809.2.2 231 12 (by decide)).trans ((hF2317.2.2 231 12 (by decide)).trans ((hF2307.2.2 231 12 (by decide)).trans ((hF2295.2.2 231 12 (by decide)).trans ((hF2283.2.2 231 12 (by decide)).trans (hF2271.2.2 231 12 (by decide))))))))))
                      have zv3067 : (1 : Int32).toInt = 1 := rfl
                      refine r_callV 213 rfl [.ref 231, .int 1] [] (Nat.le_of_ble_eq_true rfl) rfl (T_X11_must_231 _ hI2829 1 (by decide) (by refine ⟨?_, ?_, ?_, ?_⟩ <;> omega) w263066) ?_
                      rintro _ _ ⟨g3068, rfl, hI3069, hF3070, rfl, hr3072⟩
                      refine At.stn ?_
                      have hF3073 := Fr.tr hF2833 hF3070 rfl rfl
                      have zv3074 : (1 : Int32).toInt = 1 := rfl
                      have x3075 := HI.eqI hI2829 (p := 231) (b := 8) ((((hF2830.1 231 8 (by decide)).trans ((hF2818.1 231 8 (by decide)).trans ((hF2809.1 231 8 (by decide)).trans ((hF2317.1 231 8 (by decide)).trans ((hF2307.1 231 8 (by decide)).trans ((hF2295.1 231 8 (by decide)).trans ((hF2283.1 231 8 (by decide)).trans (hF2271.1 231 8 (by decide))))))))).trans hv1))
                      have x3076 := HI.eqI hI2829 (p := 231) (b := 9) ((((hF2830.1 231 9 (by decide)).trans ((hF2818.1 231 9 (by decide)).trans ((hF2809.1 231 9 (by decide)).trans ((hF2317.1 231 9 (by decide)).trans ((hF2307.1 231 9 (by decide)).trans ((hF2295.1 231 9 (by decide)).trans ((hF2283.1 231 9 (by decide)).trans (hF2271.1 231 9 (by decide))))))))).trans hv2))
                      have x3077 := HI.eqI hI2829 (p := 231) (b := 10) ((((hF2830.1 231 10 (by decide)).trans ((hF2818.1 231 10 (by decide)).trans ((hF2809.1 231 10 (by decide)).trans ((hF2317.1 231 10 (by decide)).trans ((hF2307.1 231 10 (by decide)).trans ((hF2295.1 231 10 (by decide)).trans ((hF2283.1 231 10 (by decide)).trans (hF2271.1 231 10 (by decide))))))))).trans hv3))
                      have x3078 := HI.eqI hI2829 (p := 231) (b := 11) ((((hF2830.1 231 11 (by decide)).trans ((hF2818.1 231 11 (by decide)).trans ((hF2809.1 231 11 (by decide)).trans ((hF2317.1 231 11 (by decide)).trans ((hF2307.1 231 11 (by decide)).trans ((hF2295.1 231 11 (by decide)).trans ((hF2283.1 231 11 (by decide)).trans (hF2271.1 231 11 (by decide))))))))).trans hv4))
                      have x3079 := HI.eqI hI2829 (p := 231) (b := 14) ((((hF2830.1 231 14 (by decide)).trans ((hF2818.1 231 14 (by decide)).trans ((hF2809.1 231 14 (by decide)).trans ((hF2317.1 231 14 (by decide)).trans ((hF2307.1 231 14 (by decide)).trans ((hF2295.1 231 14 (by decide)).trans ((hF2283.1 231 14 (by decide)).trans (hF2271.1 231 14 (by decide))))))))).trans hv6))
                      have x3080 := HI.eqI hI3069 (p := 231) (b := 8) ((((hF3070.1 231 8 (by decide)).trans ((hF2830.1 231 8 (by decide)).trans ((hF2818.1 231 8 (by decide)).trans ((hF2809.1 231 8 (by decide)).trans ((hF2317.1 231 8 (by decide)).trans ((hF2307.1 231 8 (by decide)).trans ((hF2295.1 231 8 (by decide)).trans ((hF2283.1 231 8 (by decide)).trans (hF2271.1 231 8 (by decide)))))))))).trans hv1))
                      obtain ⟨v3081, hv3081⟩ : ∃ v, gI g3068 231 9 = v := ⟨_, rfl⟩
                      have rv3081 := RgF.at hI3069.2.1 (p := 231) (b := 9) rfl
                      rw [hv3081] at rv3081
                      dsimp only at rv3081
                      have tv3081 := congrArg Int32.toInt hv3081
                      have x3082 := HI.eqI hI3069 (p := 231) (b := 9) (hv3081)
                      obtain ⟨v3083, hv3083⟩ : ∃ v, gI g3068 231 10 = v := ⟨_, rfl⟩
                      have rv3083 := RgF.at hI3069.2.1 (p := 231) (b := 10) rfl
                      rw [hv3083] at rv3083
                      dsimp only at rv3083
                      have tv3083 := congrArg Int32.toInt hv3083
                      have x3084 := HI.eqI hI3069 (p := 231) (b := 10) (hv3083)
                      obtain ⟨v3085, hv3085⟩ : ∃ v, gI g3068 231 11 = v := ⟨_, rfl⟩
                      have tv3085 := congrArg Int32.toInt hv3085
                      have x3086 := HI.eqI hI3069 (p := 231) (b := 11) (hv3085)
                      obtain ⟨v3087, hv3087⟩ : ∃ v, gI g3068 231 14 = v := ⟨_, rfl⟩
                      have tv3087 := congrArg Int32.toInt hv3087
                      have x3088 := HI.eqI hI3069 (p := 231) (b := 14) (hv3087)
                      obtain ⟨c3089, c3090, c3091, c3092, c3093, c3094, c3095⟩ := hr3072
                      refine At.enter rfl ?_
                      refine r_aload_n rfl ?_
                      refine q_getI (Sh.int hI3069.1 kx_231 rfl) v3087 hv3087 ?_
                      refine r_ifs 220 rfl (fun c3096 => ?_) (fun c3096 => ?_)
                      · have c3096_ : v3087.toInt ≠ 0 := en_k_ne_t c3096
                        clear c3095
                        refine At.enter rfl ?_
                        refine r_iconst 1 rfl ?_
                        refine r_ireti ?_
                        have x3097 := HI.eqI hI3069 (p := 231) (b := 8) ((((hF3070.1 231 8 (by decide)).trans ((hF2830.1 231 8 (by decide)).trans ((hF2818.1 231 8 (by decide)).trans ((hF2809.1 231 8 (by decide)).trans ((hF2317.1 231 8 (by decide)).trans ((hF2307.1 231 8 (by decide)).trans ((hF2295.1 231 8 (by decide)).trans ((hF2283.1 231 8 (by decide)).trans (hF2271.1 231 8 (by decide)))))))))).trans hv1))
                        have x3098 := HI.eqI hI3069 (p := 231) (b := 9) (hv3081)
                        have x3099 := HI.eqI hI3069 (p := 231) (b := 10) (hv3083)
                        have x3100 := HI.eqI hI3069 (p := 231) (b := 11) (hv3085)
                        obtain ⟨v3101, hv3101⟩ : ∃ v, gJ g3068 231 12 = v := ⟨_, rfl⟩
                        have x3102 := HI.eqJ hI3069 (b := 12) (hv3101)
                        have x3103 := HI.eqI hI3069 (p := 231) (b := 14) (hv3087)
                        have x3104 := HI.eqI hI3069 (p := 231) (b := 17) ((((hF3070.1 231 17 (by decide)).trans ((hF2830.1 231 17 (by decide)).trans ((hF2818.1 231 17 (by decide)).trans ((hF2809.1 231 17 (by decide)).trans ((hF2317.1 231 17 (by decide)).trans ((hF2307.1 231 17 (by decide)).trans ((hF2295.1 231 17 (by decide)).trans ((hF2283.1 231 17 (by decide)).trans (hF2271.1 231 17 (by decide)))))))))).trans hv7))
                        have x3105 := HI.eqI hI3069 (p := 231) (b := 23) ((((hF3070.1 231 23 (by decide)).trans ((hF2830.1 231 23 (by decide)).trans ((hF2818.1 231 23 (by decide)).trans ((hF2809.1 231 23 (by decide)).trans ((hF2317.1 231 23 (by decide)).trans ((hF2307.1 231 23 (by decide)).trans ((hF2295.1 231 23 (by decide)).trans ((hF2283.1 231 23 (by decide)).trans (hF2271.1 231 23 (by decide)))))))))).trans hv8))
                        have x3106 := HI.eqI hI0 (p := 231) (b := 9) (hv2)
                        have zv3107 : (1 : Int32).toInt = 1 := rfl
                        exact ⟨_, rfl, hI3069, hF3073, _, rfl, by decide, ⟨by omega, by omega, by omega, by omega, c3094, by omega, by omega, (fun hbad => ⟨by omega, (PT.mk (fun h => False.elim (by omega)) (fun h => False.elim (by omega)) (fun h h9 => False.elim (by omega)) (fun h => False.elim (by omega)))⟩), (fun hbad => by omega)⟩⟩
                      · have c3096_ : v3087.toInt = 0 := en_k_ne_f c3096
                        obtain ⟨i3108, i3109, i3110⟩ := c3095 (by omega)
                        refine At.enter rfl ?_
                        refine r_aload_n rfl ?_
                        refine r_iconst 5 rfl ?_
                        have x3111 := HI.eqI hI3069 (p := 231) (b := 17) ((((hF3070.1 231 17 (by decide)).trans ((hF2830.1 231 17 (by decide)).trans ((hF2818.1 231 17 (by decide)).trans ((hF2809.1 231 17 (by decide)).trans ((hF2317.1 231 17 (by decide)).trans ((hF2307.1 231 17 (by decide)).trans ((hF2295.1 231 17 (by decide)).trans ((hF2283.1 231 17 (by decide)).trans (hF2271.1 231 17 (by decide)))))))))).trans hv7))
                        have x3112 := HI.eqI hI3069 (p := 231) (b := 23) ((((hF3070.1 231 23 (by decide)).trans ((hF2830.1 231 23 (by decide)).trans ((hF2818.1 231 23 (by decide)).trans ((hF2809.1 231 23 (by decide)).trans ((hF2317.1 231 23 (by decide)).trans ((hF2307.1 231 23 (by decide)).trans ((hF2295.1 231 23 (by decide)).trans ((hF2283.1 231 23 (by decide)).trans (hF2271.1 231 23 (by decide)))))))))).trans hv8))
                        have zv3113 : (5 : Int32).toInt = 5 := rfl
                        refine r_callV 225 rfl [.ref 231, .int 5] [] (Nat.le_of_ble_eq_true rfl) rfl (T_X11_settle_231 _ hI3069 5 (by decide) (by omega)) ?_
                        rintro _ _ ⟨g3114, rfl, hI3115, hF3116, rfl, hr3118⟩
                        refine At.stn ?_
                        have hF3119 := Fr.tr hF3073 hF3116 rfl rfl
                        have zv3120 : (5 : Int32).toInt = 5 := rfl
                        have x3121 := HI.eqI hI3069 (p := 231) (b := 17) ((((hF3070.1 231 17 (by decide)).trans ((hF2830.1 231 17 (by decide)).trans ((hF2818.1 231 17 (by decide)).trans ((hF2809.1 231 17 (by decide)).trans ((hF2317.1 231 17 (by decide)).trans ((hF2307.1 231 17 (by decide)).trans ((hF2295.1 231 17 (by decide)).trans ((hF2283.1 231 17 (by decide)).trans (hF2271.1 231 17 (by decide)))))))))).trans hv7))
                        have x3122 := HI.eqI hI3069 (p := 231) (b := 23) ((((hF3070.1 231 23 (by decide)).trans ((hF2830.1 231 23 (by decide)).trans ((hF2818.1 231 23 (by decide)).trans ((hF2809.1 231 23 (by decide)).trans ((hF2317.1 231 23 (by decide)).trans ((hF2307.1 231 23 (by decide)).trans ((hF2295.1 231 23 (by decide)).trans ((hF2283.1 231 23 (by decide)).trans (hF2271.1 231 23 (by decide)))))))))).trans hv8))
                        obtain ⟨v3123, hv3123⟩ : ∃ v, gI g3114 231 17 = v := ⟨_, rfl⟩
                        have rv3123 := RgF.at hI3115.2.1 (p := 231) (b := 17) rfl
                        rw [hv3123] at rv3123
                        dsimp only at rv3123
                        have tv3123 := congrArg Int32.toInt hv3123
                        have x3124 := HI.eqI hI3115 (p := 231) (b := 17) (hv3123)
                        obtain ⟨v3125, hv3125⟩ : ∃ v, gI g3114 231 23 = v := ⟨_, rfl⟩
                        have rv3125 := RgF.at hI3115.2.1 (p := 231) (b := 23) rfl
                        rw [hv3125] at rv3125
                        dsimp only at rv3125
                        have tv3125 := congrArg Int32.toInt hv3125
                        have x3126 := HI.eqI hI3115 (p := 231) (b := 23) (hv3125)
                        have y3127 : (gI _ 231 23).toInt ≤ (gI _ 231 23).toInt := hr3118.1
                        have y3128 : (gI _ 231 17).toInt + (gI _ 231 23).toInt ≤ (gI _ 231 17).toInt + (gI _ 231 23).toInt := hr3118.2.1
                        have inn3129 := INN.cong inn2321 hI3069 (((hF3070.2.1 240 (by decide)).trans ((hF2830.2.1 240 (by decide)).trans ((hF2818.2.1 240 (by decide)).trans (hF2809.2.1 240 (by decide)))))) (((hF3070.1 231 23 (by decide)).trans ((hF2830.1 231 23 (by decide)).trans ((hF2818.1 231 23 (by decide)).trans (hF2809.1 231 23 (by decide))))))
                        have pg3130 := PG.cong (hP.2.1 (by decide)) hI3069 (((hF3070.2.1 238 (by decide)).trans ((hF2830.2.1 238 (by decide)).trans ((hF2818.2.1 238 (by decide)).trans ((hF2809.2.1 238 (by decide)).trans ((hF2317.2.1 238 (by decide)).trans ((hF2307.2.1 238 (by decide)).trans ((hF2295.2.1 238 (by decide)).trans ((hF2283.2.1 238 (by decide)).trans (hF2271.2.1 238 (by decide))))))))))) (((hF3070.2.1 239 (by decide)).trans ((hF2830.2.1 239 (by decide)).trans ((hF2818.2.1 239 (by decide)).trans ((hF2809.2.1 239 (by decide)).trans ((hF2317.2.1 239 (by decide)).trans ((hF2307.2.1 239 (by decide)).trans ((hF2295.2.1 239 (by decide)).trans ((hF2283.2.1 239 (by decide)).trans (hF2271.2.1 239 (by decide))))))))))) (((hF3070.2.1 240 (by decide)).trans ((hF2830.2.1 240 (by decide)).trans ((hF2818.2.1 240 (by decide)).trans ((hF2809.2.1 240 (by decide)).trans ((hF2317.2.1 240 (by decide)).trans ((hF2307.2.1 240 (by decide)).trans ((hF2295.2.1 240 (by decide)).trans ((hF2283.2.1 240 (by decide)).trans (hF2271.2.1 240 (by decide))))))))))) (((hF3070.2.1 241 (by decide)).trans ((hF2830.2.1 241 (by decide)).trans ((hF2818.2.1 241 (by decide)).trans ((hF2809.2.1 241 (by decide)).trans ((hF2317.2.1 241 (by decide)).trans ((hF2307.2.1 241 (by decide)).trans ((hF2295.2.1 241 (by decide)).trans ((hF2283.2.1 241 (by decide)).trans (hF2271.2.1 241 (by decide))))))))))) (((hF3070.1 231 17 (by decide)).trans ((hF2830.1 231 17 (by decide)).trans ((hF2818.1 231 17 (by decide)).trans ((hF2809.1 231 17 (by decide)).trans ((hF2317.1 231 17 (by decide)).trans ((hF2307.1 231 17 (by decide)).trans ((hF2295.1 231 17 (by decide)).trans ((hF2283.1 231 17 (by decide)).trans (hF2271.1 231 17 (by decide))))))))))) (((hF3070.1 231 23 (by decide)).trans ((hF2830.1 231 23 (by decide)).trans ((hF2818.1 231 23 (by decide)).trans ((hF2809.1 231 23 (by decide)).trans ((hF2317.1 231 23 (by decide)).trans ((hF2307.1 231 23 (by decide)).trans ((hF2295.1 231 23 (by decide)).trans ((hF2283.1 231 23 (by decide)).trans (hF2271.1 231 23 (by decide)))))))))))
                        have nsq3131 := INN.nsq inn3129 pg3130 (by omega)
                        have pg3132 := PG.cong (hP.2.1 (by decide)) hI3069 (((hF3070.2.1 238 (by decide)).trans ((hF2830.2.1 238 (by decide)).trans ((hF2818.2.1 238 (by decide)).trans ((hF2809.2.1 238 (by decide)).trans ((hF2317.2.1 238 (by decide)).trans ((hF2307.2.1 238 (by decide)).trans ((hF2295.2.1 238 (by decide)).trans ((hF2283.2.1 238 (by decide)).trans (hF2271.2.1 238 (by decide))))))))))) (((hF3070.2.1 239 (by decide)).trans ((hF2830.2.1 239 (by decide)).trans ((hF2818.2.1 239 (by decide)).trans ((hF2809.2.1 239 (by decide)).trans ((hF2317.2.1 239 (by decide)).trans ((hF2307.2.1 239 (by decide)).trans ((hF2295.2.1 239 (by decide)).trans ((hF2283.2.1 239 (by decide)).trans (hF2271.2.1 239 (by decide))))))))))) (((hF3070.2.1 240 (by decide)).trans ((hF2830.2.1 240 (by decide)).trans ((hF2818.2.1 240 (by decide)).trans ((hF2809.2.1 240 (by decide)).trans ((hF2317.2.1 240 (by decide)).trans ((hF2307.2.1 240 (by decide)).trans ((hF2295.2.1 240 (by decide)).trans ((hF2283.2.1 240 (by decide)).trans (hF2271.2.1 240 (by decide))))))))))) (((hF3070.2.1 241 (by decide)).trans ((hF2830.2.1 241 (by decide)).trans ((hF2818.2.1 241 (by decide)).trans ((hF2809.2.1 241 (by decide)).trans ((hF2317.2.1 241 (by decide)).trans ((hF2307.2.1 241 (by decide)).trans ((hF2295.2.1 241 (by decide)).trans ((hF2283.2.1 241 (by decide)).trans (hF2271.2.1 241 (by decide))))))))))) (((hF3070.1 231 17 (by decide)).trans ((hF2830.1 231 17 (by decide)).trans ((hF2818.1 231 17 (by decide)).trans ((hF2809.1 231 17 (by decide)).trans ((hF2317.1 231 17 (by decide)).trans ((hF2307.1 231 17 (by decide)).trans ((hF2295.1 231 17 (by decide)).trans ((hF2283.1 231 17 (by decide)).trans (hF2271.1 231 17 (by decide))))))))))) (((hF3070.1 231 23 (by decide)).trans ((hF2830.1 231 23 (by decide)).trans ((hF2818.1 231 23 (by decide)).trans ((hF2809.1 231 23 (by decide)).trans ((hF2317.1 231 23 (by decide)).trans ((hF2307.1 231 23 (by decide)).trans ((hF2295.1 231 23 (by decide)).trans ((hF2283.1 231 23 (by decide)).trans (hF2271.1 231 23 (by decide)))))))))))
                        have inn3134 := INN.cong inn2321 hI3069 (((hF3070.2.1 240 (by decide)).trans ((hF2830.2.1 240 (by decide)).trans ((hF2818.2.1 240 (by decide)).trans (hF2809.2.1 240 (by decide)))))) (((hF3070.1 231 23 (by decide)).trans ((hF2830.1 231 23 (by decide)).trans ((hF2818.1 231 23 (by decide)).trans (hF2809.1 231 23 (by decide))))))
                        have pg3133 := hr3118.2.2.1 _ _ _ pg3132
                        have nsq3136 := NSQ.le nsq3131 hI3115 hr3118.2.2.2.2.1 hr3118.1
                        refine At.enter rfl ?_
                        refine r_aload_n rfl ?_
                        refine r_iload_n rfl ?_
                        refine r_iconst 0 rfl ?_
                        have x3137 := HI.eqI hI3115 (p := 231) (b := 23) (hv3125)
                        have zv3138 : (25 : Int32).toInt = 25 := rfl
                        have zv3139 : (0 : Int32).toInt = 0 := rfl
                        refine r_callV 231 rfl [.ref 231, .int 25, .int 0] [] (Nat.le_of_ble_eq_true rfl) rfl (T_X11_push_231 _ hI3115 25 (by decide) 0 (by decide) (by omega)) ?_
                        rintro _ _ ⟨g3140, rfl, hI3141, hF3142, rfl, hr3144⟩
                        refine At.stn ?_
                        have hF3145 := Fr.tr hF3119 hF3142 rfl rfl
                        have zv3146 : (25 : Int32).toInt = 25 := rfl
                        have zv3147 : (0 : Int32).toInt = 0 := rfl
                        have x3148 := HI.eqI hI3115 (p := 231) (b := 17) (hv3123)
                        have x3149 := HI.eqI hI3115 (p := 231) (b := 23) (hv3125)
                        have x3150 := HI.eqI hI3141 (p := 231) (b := 17) (((hF3142.1 231 17 (by decide)).trans hv3123))
                        obtain ⟨v3151, hv3151⟩ : ∃ v, gI g3140 231 23 = v := ⟨_, rfl⟩
                        have rv3151 := RgF.at hI3141.2.1 (p := 231) (b := 23) rfl
                        rw [hv3151] at rv3151
                        dsimp only at rv3151
                        have tv3151 := congrArg Int32.toInt hv3151
                        have x3152 := HI.eqI hI3141 (p := 231) (b := 23) (hv3151)
                        have y3153 : (gI _ 231 23).toInt = (gI _ 231 23).toInt + 1 := hr3144.1
                        have pg3154 := PG.push (e' := 0) pg3133 hr3144 (hF3142.2.1 238 (by decide)) (hF3142.2.1 239 (by decide)) (hF3142.1 231 17 (by decide)) ⟨by omega, by omega⟩ (Or.inr nsq3136) (by omega) (by omega)
                        have nsq3155 := NSQ.push nsq3136 hr3144 (by omega)
                        refine At.enter rfl ?_
                        refine r_iconst 1 rfl ?_
                        refine r_ireti ?_
                        have x3156 := HI.eqI hI3141 (p := 231) (b := 8) ((((hF3142.1 231 8 (by decide)).trans ((hF3116.1 231 8 (by decide)).trans ((hF3070.1 231 8 (by decide)).trans ((hF2830.1 231 8 (by decide)).trans ((hF2818.1 231 8 (by decide)).trans ((hF2809.1 231 8 (by decide)).trans ((hF2317.1 231 8 (by decide)).trans ((hF2307.1 231 8 (by decide)).trans ((hF2295.1 231 8 (by decide)).trans ((hF2283.1 231 8 (by decide)).trans (hF2271.1 231 8 (by decide)))))))))))).trans hv1))
                        have x3157 := HI.eqI hI3141 (p := 231) (b := 9) ((((hF3142.1 231 9 (by decide)).trans (hF3116.1 231 9 (by decide))).trans hv3081))
                        have x3158 := HI.eqI hI3141 (p := 231) (b := 10) ((((hF3142.1 231 10 (by decide)).trans (hF3116.1 231 10 (by decide))).trans hv3083))
                        have x3159 := HI.eqI hI3141 (p := 231) (b := 11) ((((hF3142.1 231 11 (by decide)).trans (hF3116.1 231 11 (by decide))).trans hv3085))
                        obtain ⟨v3160, hv3160⟩ : ∃ v, gJ g3068 231 12 = v := ⟨_, rfl⟩
                        have x3161 := HI.eqJ hI3141 (b := 12) ((((hF3142.2.2 231 12 (by decide)).trans (hF3116.2.2 231 12 (by decide))).trans hv3160))
                        have x3162 := HI.eqI hI3141 (p := 231) (b := 14) ((((hF3142.1 231 14 (by decide)).trans (hF3116.1 231 14 (by decide))).trans hv3087))
                        have x3163 := HI.eqI hI3141 (p := 231) (b := 17) (((hF3142.1 231 17 (by decide)).trans hv3123))
                        have x3164 := HI.eqI hI3141 (p := 231) (b := 23) (hv3151)
                        have x3165 := HI.eqI hI0 (p := 231) (b := 9) (hv2)
                        have zv3166 : (1 : Int32).toInt = 1 := rfl
                        have w263167 := W26.cong c3094 hI3141 (((hF3142.1 231 9 (by decide)).trans (hF3116.1 231 9 (by decide)))) (((hF3142.1 231 10 (by decide)).trans (hF3116.1 231 10 (by decide)))) (((hF3142.1 231 11 (by decide)).trans (hF3116.1 231 11 (by decide)))) (((hF3142.2.2 231 12 (by decide)).trans (hF3116.2.2 231 12 (by decide))))
                        exact ⟨_, rfl, hI3141, hF3145, _, rfl, by decide, ⟨by omega, by omega, by omega, by omega, w263167, by omega, by omega, (fun hbad => ⟨by omega, (PT.mk (fun _ => pg3154) (fun h => False.elim (by omega)) (fun h h9 => False.elim (by omega)) (fun h => False.elim (by omega)))⟩), (fun hbad => by omega)⟩⟩
                  · have c2825_ : v2819.toInt ≠ 0 := en_k_eq_f c2825
                    refine At.enter rfl ?_
                    refine r_bipush 24 rfl ?_
                    refine r_goto ?_
                    refine At.enter rfl ?_
                    refine r_istore_n ([(2, .int 24), (3, .int v2318), (0, .ref 231), (1, .int a1)]) rfl ?_
                    refine r_aload_n rfl ?_
                    refine r_iload_n rfl ?_
                    refine r_bipush 26 rfl ?_
                    refine r_ict (by decide) ?_
                    refine At.enter rfl ?_
                    refine r_iconst 1 rfl ?_
                    refine r_goto ?_
                    refine At.enter rfl ?_
                    have x3168 := HI.eqI hI2817 (p := 231) (b := 8) ((((hF2818.1 231 8 (by decide)).trans ((hF2809.1 231 8 (by decide)).trans ((hF2317.1 231 8 (by decide)).trans ((hF2307.1 231 8 (by decide)).trans ((hF2295.1 231 8 (by decide)).trans ((hF2283.1 231 8 (by decide)).trans (hF2271.1 231 8 (by decide)))))))).trans hv1))
                    have x3169 := HI.eqI hI2817 (p := 231) (b := 9) ((((hF2818.1 231 9 (by decide)).trans ((hF2809.1 231 9 (by decide)).trans ((hF2317.1 231 9 (by decide)).trans ((hF2307.1 231 9 (by decide)).trans ((hF2295.1 231 9 (by decide)).trans ((hF2283.1 231 9 (by decide)).trans (hF2271.1 231 9 (by decide)))))))).trans hv2))
                    have x3170 := HI.eqI hI2817 (p := 231) (b := 10) ((((hF2818.1 231 10 (by decide)).trans ((hF2809.1 231 10 (by decide)).trans ((hF2317.1 231 10 (by decide)).trans ((hF2307.1 231 10 (by decide)).trans ((hF2295.1 231 10 (by decide)).trans ((hF2283.1 231 10 (by decide)).trans (hF2271.1 231 10 (by decide)))))))).trans hv3))
                    have x3171 := HI.eqI hI2817 (p := 231) (b := 11) ((((hF2818.1 231 11 (by decide)).trans ((hF2809.1 231 11 (by decide)).trans ((hF2317.1 231 11 (by decide)).trans ((hF2307.1 231 11 (by decide)).trans ((hF2295.1 231 11 (by decide)).trans ((hF2283.1 231 11 (by decide)).trans (hF2271.1 231 11 (by decide)))))))).trans hv4))
                    have w263172 := W26.cong hW hI2817 (((hF2818.1 231 9 (by decide)).trans ((hF2809.1 231 9 (by decide)).trans ((hF2317.1 231 9 (by decide)).trans ((hF2307.1 231 9 (by decide)).trans ((hF2295.1 231 9 (by decide)).trans ((hF2283.1 231 9 (by decide)).trans (hF2271.1 231 9 (by decide))))))))) (((hF2818.1 231 10 (by decide)).trans ((hF2809.1 231 10 (by decide)).trans ((hF2317.1 231 10 (by decide)).trans ((hF2307.1 231 10 (by decide)).trans ((hF2295.1 231 10 (by decide)).trans ((hF2283.1 231 10 (by decide)).trans (hF2271.1 231 10 (by decide))))))))) (((hF2818.1 231 11 (by decide)).trans ((hF2809.1 231 11 (by decide)).trans ((hF2317.1 231 11 (by decide)).trans ((hF2307.1 231 11 (by decide)).trans ((hF2295.1 231 11 (by decide)).trans ((hF2283.1 231 11 (by decide)).trans (hF2271.1 231 11 (by decide))))))))) (((hF2818.2.2 231 12 (by decide)).trans ((hF2809.2.2 231 12 (by decide)).trans ((hF2317.2.2 231 12 (by decide)).trans ((hF2307.2.2 231 12 (by decide)).trans ((hF2295.2.2 231 12 (by decide)).trans ((hF2283.2.2 231 12 (by decide)).trans (hF2271.2.2 231 12 (by decide)))))))))
                    have zv3173 : (1 : Int32).toInt = 1 := rfl
                    refine r_callV 213 rfl [.ref 231, .int 1] [] (Nat.le_of_ble_eq_true rfl) rfl (T_X11_must_231 _ hI2817 1 (by decide) (by refine ⟨?_, ?_, ?_, ?_⟩ <;> omega) w263172) ?_
                    rintro _ _ ⟨g3174, rfl, hI3175, hF3176, rfl, hr3178⟩
                    refine At.stn ?_
                    have hF3179 := Fr.tr hF2821 hF3176 rfl rfl
                    have zv3180 : (1 : Int32).toInt = 1 := rfl
                    have x3181 := HI.eqI hI2817 (p := 231) (b := 8) ((((hF2818.1 231 8 (by decide)).trans ((hF2809.1 231 8 (by decide)).trans ((hF2317.1 231 8 (by decide)).trans ((hF2307.1 231 8 (by decide)).trans ((hF2295.1 231 8 (by decide)).trans ((hF2283.1 231 8 (by decide)).trans (hF2271.1 231 8 (by decide)))))))).trans hv1))
                    have x3182 := HI.eqI hI2817 (p := 231) (b := 9) ((((hF2818.1 231 9 (by decide)).trans ((hF2809.1 231 9 (by decide)).trans ((hF2317.1 231 9 (by decide)).trans ((hF2307.1 231 9 (by decide)).trans ((hF2295.1 231 9 (by decide)).trans ((hF2283.1 231 9 (by decide)).trans (hF2271.1 231 9 (by decide)))))))).trans hv2))
                    have x3183 := HI.eqI hI2817 (p := 231) (b := 10) ((((hF2818.1 231 10 (by decide)).trans ((hF2809.1 231 10 (by decide)).trans ((hF2317.1 231 10 (by decide)).trans ((hF2307.1 231 10 (by decide)).trans ((hF2295.1 231 10 (by decide)).trans ((hF2283.1 231 10 (by decide)).trans (hF2271.1 231 10 (by decide)))))))).trans hv3))
                    have x3184 := HI.eqI hI2817 (p := 231) (b := 11) ((((hF2818.1 231 11 (by decide)).trans ((hF2809.1 231 11 (by decide)).trans ((hF2317.1 231 11 (by decide)).trans ((hF2307.1 231 11 (by decide)).trans ((hF2295.1 231 11 (by decide)).trans ((hF2283.1 231 11 (by decide)).trans (hF2271.1 231 11 (by decide)))))))).trans hv4))
                    have x3185 := HI.eqI hI2817 (p := 231) (b := 14) ((((hF2818.1 231 14 (by decide)).trans ((hF2809.1 231 14 (by decide)).trans ((hF2317.1 231 14 (by decide)).trans ((hF2307.1 231 14 (by decide)).trans ((hF2295.1 231 14 (by decide)).trans ((hF2283.1 231 14 (by decide)).trans (hF2271.1 231 14 (by decide)))))))).trans hv6))
                    have x3186 := HI.eqI hI3175 (p := 231) (b := 8) ((((hF3176.1 231 8 (by decide)).trans ((hF2818.1 231 8 (by decide)).trans ((hF2809.1 231 8 (by decide)).trans ((hF2317.1 231 8 (by decide)).trans ((hF2307.1 231 8 (by decide)).trans ((hF2295.1 231 8 (by decide)).trans ((hF2283.1 231 8 (by decide)).trans (hF2271.1 231 8 (by decide))))))))).trans hv1))
                    obtain ⟨v3187, hv3187⟩ : ∃ v, gI g3174 231 9 = v := ⟨_, rfl⟩
                    have rv3187 := RgF.at hI3175.2.1 (p := 231) (b := 9) rfl
                    rw [hv3187] at rv3187
                    dsimp only at rv3187
                    have tv3187 := congrArg Int32.toInt hv3187
                    have x3188 := HI.eqI hI3175 (p := 231) (b := 9) (hv3187)
                    obtain ⟨v3189, hv3189⟩ : ∃ v, gI g3174 231 10 = v := ⟨_, rfl⟩
                    have rv3189 := RgF.at hI3175.2.1 (p := 231) (b := 10) rfl
                    rw [hv3189] at rv3189
                    dsimp only at rv3189
                    have tv3189 := congrArg Int32.toInt hv3189
                    have x3190 := HI.eqI hI3175 (p := 231) (b := 10) (hv3189)
                    obtain ⟨v3191, hv3191⟩ : ∃ v, gI g3174 231 11 = v := ⟨_, rfl⟩
                    have tv3191 := congrArg Int32.toInt hv3191
                    have x3192 := HI.eqI hI3175 (p := 231) (b := 11) (hv3191)
                    obtain ⟨v3193, hv3193⟩ : ∃ v, gI g3174 231 14 = v := ⟨_, rfl⟩
                    have tv3193 := congrArg Int32.toInt hv3193
                    have x3194 := HI.eqI hI3175 (p := 231) (b := 14) (hv3193)
                    obtain ⟨c3195, c3196, c3197, c3198, c3199, c3200, c3201⟩ := hr3178
                    refine At.enter rfl ?_
                    refine r_aload_n rfl ?_
                    refine q_getI (Sh.int hI3175.1 kx_231 rfl) v3193 hv3193 ?_
                    refine r_ifs 220 rfl (fun c3202 => ?_) (fun c3202 => ?_)
                    · have c3202_ : v3193.toInt ≠ 0 := en_k_ne_t c3202
                      clear c3201
                      refine At.enter rfl ?_
                      refine r_iconst 1 rfl ?_
                      refine r_ireti ?_
                      have x3203 := HI.eqI hI3175 (p := 231) (b := 8) ((((hF3176.1 231 8 (by decide)).trans ((hF2818.1 231 8 (by decide)).trans ((hF2809.1 231 8 (by decide)).trans ((hF2317.1 231 8 (by decide)).trans ((hF2307.1 231 8 (by decide)).trans ((hF2295.1 231 8 (by decide)).trans ((hF2283.1 231 8 (by decide)).trans (hF2271.1 231 8 (by decide))))))))).trans hv1))
                      have x3204 := HI.eqI hI3175 (p := 231) (b := 9) (hv3187)
                      have x3205 := HI.eqI hI3175 (p := 231) (b := 10) (hv3189)
                      have x3206 := HI.eqI hI3175 (p := 231) (b := 11) (hv3191)
                      obtain ⟨v3207, hv3207⟩ : ∃ v, gJ g3174 231 12 = v := ⟨_, rfl⟩
                      have x3208 := HI.eqJ hI3175 (b := 12) (hv3207)
                      have x3209 := HI.eqI hI3175 (p := 231) (b := 14) (hv3193)
                      have x3210 := HI.eqI hI3175 (p := 231) (b := 17) ((((hF3176.1 231 17 (by decide)).trans ((hF2818.1 231 17 (by decide)).trans ((hF2809.1 231 17 (by decide)).trans ((hF2317.1 231 17 (by decide)).trans ((hF2307.1 231 17 (by decide)).trans ((hF2295.1 231 17 (by decide)).trans ((hF2283.1 231 17 (by decide)).trans (hF2271.1 231 17 (by decide))))))))).trans hv7))
                      have x3211 := HI.eqI hI3175 (p := 231) (b := 23) ((((hF3176.1 231 23 (by decide)).trans ((hF2818.1 231 23 (by decide)).trans ((hF2809.1 231 23 (by decide)).trans ((hF2317.1 231 23 (by decide)).trans ((hF2307.1 231 23 (by decide)).trans ((hF2295.1 231 23 (by decide)).trans ((hF2283.1 231 23 (by decide)).trans (hF2271.1 231 23 (by decide))))))))).trans hv8))
                      have x3212 := HI.eqI hI0 (p := 231) (b := 9) (hv2)
                      have zv3213 : (1 : Int32).toInt = 1 := rfl
                      exact ⟨_, rfl, hI3175, hF3179, _, rfl, by decide, ⟨by omega, by omega, by omega, by omega, c3200, by omega, by omega, (fun hbad => ⟨by omega, (PT.mk (fun h => False.elim (by omega)) (fun h => False.elim (by omega)) (fun h h9 => False.elim (by omega)) (fun h => False.elim (by omega)))⟩), (fun hbad => by omega)⟩⟩
                    · have c3202_ : v3193.toInt = 0 := en_k_ne_f c3202
                      obtain ⟨i3214, i3215, i3216⟩ := c3201 (by omega)
                      refine At.enter rfl ?_
                      refine r_aload_n rfl ?_
                      refine r_iconst 5 rfl ?_
                      have x3217 := HI.eqI hI3175 (p := 231) (b := 17) ((((hF3176.1 231 17 (by decide)).trans ((hF2818.1 231 17 (by decide)).trans ((hF2809.1 231 17 (by decide)).trans ((hF2317.1 231 17 (by decide)).trans ((hF2307.1 231 17 (by decide)).trans ((hF2295.1 231 17 (by decide)).trans ((hF2283.1 231 17 (by decide)).trans (hF2271.1 231 17 (by decide))))))))).trans hv7))
                      have x3218 := HI.eqI hI3175 (p := 231) (b := 23) ((((hF3176.1 231 23 (by decide)).trans ((hF2818.1 231 23 (by decide)).trans ((hF2809.1 231 23 (by decide)).trans ((hF2317.1 231 23 (by decide)).trans ((hF2307.1 231 23 (by decide)).trans ((hF2295.1 231 23 (by decide)).trans ((hF2283.1 231 23 (by decide)).trans (hF2271.1 231 23 (by decide))))))))).trans hv8))
                      have zv3219 : (5 : Int32).toInt = 5 := rfl
                      refine r_callV 225 rfl [.ref 231, .int 5] [] (Nat.le_of_ble_eq_true rfl) rfl (T_X11_settle_231 _ hI3175 5 (by decide) (by omega)) ?_
                      rintro _ _ ⟨g3220, rfl, hI3221, hF3222, rfl, hr3224⟩
                      refine At.stn ?_
                      have hF3225 := Fr.tr hF3179 hF3222 rfl rfl
                      have zv3226 : (5 : Int32).toInt = 5 := rfl
                      have x3227 := HI.eqI hI3175 (p := 231) (b := 17) ((((hF3176.1 231 17 (by decide)).trans ((hF2818.1 231 17 (by decide)).trans ((hF2809.1 231 17 (by decide)).trans ((hF2317.1 231 17 (by decide)).trans ((hF2307.1 231 17 (by decide)).trans ((hF2295.1 231 17 (by decide)).trans ((hF2283.1 231 17 (by decide)).trans (hF2271.1 231 17 (by decide))))))))).trans hv7))
                      have x3228 := HI.eqI hI3175 (p := 231) (b := 23) ((((hF3176.1 231 23 (by decide)).trans ((hF2818.1 231 23 (by decide)).trans ((hF2809.1 231 23 (by decide)).trans ((hF2317.1 231 23 (by decide)).trans ((hF2307.1 231 23 (by decide)).trans ((hF2295.1 231 23 (by decide)).trans ((hF2283.1 231 23 (by decide)).trans (hF2271.1 231 23 (by decide))))))))).trans hv8))
                      obtain ⟨v3229, hv3229⟩ : ∃ v, gI g3220 231 17 = v := ⟨_, rfl⟩
                      have rv3229 := RgF.at hI3221.2.1 (p := 231) (b := 17) rfl
                      rw [hv3229] at rv3229
                      dsimp only at rv3229
                      have tv3229 := congrArg Int32.toInt hv3229
                      have x3230 := HI.eqI hI3221 (p := 231) (b := 17) (hv3229)
                      obtain ⟨v3231, hv3231⟩ : ∃ v, gI g3220 231 23 = v := ⟨_, rfl⟩
                      have rv3231 := RgF.at hI3221.2.1 (p := 231) (b := 23) rfl
                      rw [hv3231] at rv3231
                      dsimp only at rv3231
                      have tv3231 := congrArg Int32.toInt hv3231
                      have x3232 := HI.eqI hI3221 (p := 231) (b := 23) (hv3231)
                      have y3233 : (gI _ 231 23).toInt ≤ (gI _ 231 23).toInt := hr3224.1
                      have y3234 : (gI _ 231 17).toInt + (gI _ 231 23).toInt ≤ (gI _ 231 17).toInt + (gI _ 231 23).toInt := hr3224.2.1
                      have inn3235 := INN.cong inn2321 hI3175 (((hF3176.2.1 240 (by decide)).trans ((hF2818.2.1 240 (by decide)).trans (hF2809.2.1 240 (by decide))))) (((hF3176.1 231 23 (by decide)).trans ((hF2818.1 231 23 (by decide)).trans (hF2809.1 231 23 (by decide)))))
                      have pg3236 := PG.cong (hP.2.1 (by decide)) hI3175 (((hF3176.2.1 238 (by decide)).trans ((hF2818.2.1 238 (by decide)).trans ((hF2809.2.1 238 (by decide)).trans ((hF2317.2.1 238 (by decide)).trans ((hF2307.2.1 238 (by decide)).trans ((hF2295.2.1 238 (by decide)).trans ((hF2283.2.1 238 (by decide)).trans (hF2271.2.1 238 (by decide)))))))))) (((hF3176.2.1 239 (by decide)).trans ((hF2818.2.1 239 (by decide)).trans ((hF2809.2.1 239 (by decide)).trans ((hF2317.2.1 239 (by decide)).trans ((hF2307.2.1 239 (by decide)).trans ((hF2295.2.1 239 (by decide)).trans ((hF2283.2.1 239 (by decide)).trans (hF2271.2.1 239 (by decide)))))))))) (((hF3176.2.1 240 (by decide)).trans ((hF2818.2.1 240 (by decide)).trans ((hF2809.2.1 240 (by decide)).trans ((hF2317.2.1 240 (by decide)).trans ((hF2307.2.1 240 (by decide)).trans ((hF2295.2.1 240 (by decide)).trans ((hF2283.2.1 240 (by decide)).trans (hF2271.2.1 240 (by decide)))))))))) (((hF3176.2.1 241 (by decide)).trans ((hF2818.2.1 241 (by decide)).trans ((hF2809.2.1 241 (by decide)).trans ((hF2317.2.1 241 (by decide)).trans ((hF2307.2.1 241 (by decide)).trans ((hF2295.2.1 241 (by decide)).trans ((hF2283.2.1 241 (by decide)).trans (hF2271.2.1 241 (by decide)))))))))) (((hF3176.1 231 17 (by decide)).trans ((hF2818.1 231 17 (by decide)).trans ((hF2809.1 231 17 (by decide)).trans ((hF2317.1 231 17 (by decide)).trans ((hF2307.1 231 17 (by decide)).trans ((hF2295.1 231 17 (by decide)).trans ((hF2283.1 231 17 (by decide)).trans (hF2271.1 231 17 (by decide)))))))))) (((hF3176.1 231 23 (by decide)).trans ((hF2818.1 231 23 (by decide)).trans ((hF2809.1 231 23 (by decide)).trans ((hF2317.1 231 23 (by decide)).trans ((hF2307.1 231 23 (by decide)).trans ((hF2295.1 231 23 (by decide)).trans ((hF2283.1 231 23 (by decide)).trans (hF2271.1 231 23 (by decide))))))))))
                      have nsq3237 := INN.nsq inn3235 pg3236 (by omega)
                      have pg3238 := PG.cong (hP.2.1 (by decide)) hI3175 (((hF3176.2.1 238 (by decide)).trans ((hF2818.2.1 238 (by decide)).trans ((hF2809.2.1 238 (by decide)).trans ((hF2317.2.1 238 (by decide)).trans ((hF2307.2.1 238 (by decide)).trans ((hF2295.2.1 238 (by decide)).trans ((hF2283.2.1 238 (by decide)).trans (hF2271.2.1 238 (by decide)))))))))) (((hF3176.2.1 239 (by decide)).trans ((hF2818.2.1 239 (by decide)).trans ((hF2809.2.1 239 (by decide)).trans ((hF2317.2.1 239 (by decide)).trans ((hF2307.2.1 239 (by decide)).trans ((hF2295.2.1 239 (by decide)).trans ((hF2283.2.1 239 (by decide)).trans (hF2271.2.1 239 (by decide)))))))))) (((hF3176.2.1 240 (by decide)).trans ((hF2818.2.1 240 (by decide)).trans ((hF2809.2.1 240 (by decide)).trans ((hF2317.2.1 240 (by decide)).trans ((hF2307.2.1 240 (by decide)).trans ((hF2295.2.1 240 (by decide)).trans ((hF2283.2.1 240 (by decide)).trans (hF2271.2.1 240 (by decide)))))))))) (((hF3176.2.1 241 (by decide)).trans ((hF2818.2.1 241 (by decide)).trans ((hF2809.2.1 241 (by decide)).trans ((hF2317.2.1 241 (by decide)).trans ((hF2307.2.1 241 (by decide)).trans ((hF2295.2.1 241 (by decide)).trans ((hF2283.2.1 241 (by decide)).trans (hF2271.2.1 241 (by decide)))))))))) (((hF3176.1 231 17 (by decide)).trans ((hF2818.1 231 17 (by decide)).trans ((hF2809.1 231 17 (by decide)).trans ((hF2317.1 231 17 (by decide)).trans ((hF2307.1 231 17 (by decide)).trans ((hF2295.1 231 17 (by decide)).trans ((hF2283.1 231 17 (by decide)).trans (hF2271.1 231 17 (by decide)))))))))) (((hF3176.1 231 23 (by decide)).trans ((hF2818.1 231 23 (by decide)).trans ((hF2809.1 231 23 (by decide)).trans ((hF2317.1 231 23 (by decide)).trans ((hF2307.1 231 23 (by decide)).trans ((hF2295.1 231 23 (by decide)).trans ((hF2283.1 231 23 (by decide)).trans (hF2271.1 231 23 (by decide))))))))))
                      have inn3240 := INN.cong inn2321 hI3175 (((hF3176.2.1 240 (by decide)).trans ((hF2818.2.1 240 (by decide)).trans (hF2809.2.1 240 (by decide))))) (((hF3176.1 231 23 (by decide)).trans ((hF2818.1 231 23 (by decide)).trans (hF2809.1 231 23 (by decide)))))
                      have pg3239 := hr3224.2.2.1 _ _ _ pg3238
                      have nsq3242 := NSQ.le nsq3237 hI3221 hr3224.2.2.2.2.1 hr3224.1
                      refine At.enter rfl ?_
                      refine r_aload_n rfl ?_
                      refine r_iload_n rfl ?_
                      refine r_iconst 0 rfl ?_
                      have x3243 := HI.eqI hI3221 (p := 231) (b := 23) (hv3231)
                      have zv3244 : (24 : Int32).toInt = 24 := rfl
                      have zv3245 : (0 : Int32).toInt = 0 := rfl
                      refine r_callV 231 rfl [.ref 231, .int 24, .int 0] [] (Nat.le_of_ble_eq_true rfl) rfl (T_X11_push_231 _ hI3221 24 (by decide) 0 (by decide) (by omega)) ?_
                      rintro _ _ ⟨g3246, rfl, hI3247, hF3248, rfl, hr3250⟩
                      refine At.stn ?_
                      have hF3251 := Fr.tr hF3225 hF3248 rfl rfl
                      have zv3252 : (24 : Int32).toInt = 24 := rfl
                      have zv3253 : (0 : Int32).toInt = 0 := rfl
                      have x3254 := HI.eqI hI3221 (p := 231) (b := 17) (hv3229)
                      have x3255 := HI.eqI hI3221 (p := 231) (b := 23) (hv3231)
                      have x3256 := HI.eqI hI3247 (p := 231) (b := 17) (((hF3248.1 231 17 (by decide)).trans hv3229))
                      obtain ⟨v3257, hv3257⟩ : ∃ v, gI g3246 231 23 = v := ⟨_, rfl⟩
                      have rv3257 := RgF.at hI3247.2.1 (p := 231) (b := 23) rfl
                      rw [hv3257] at rv3257
                      dsimp only at rv3257
                      have tv3257 := congrArg Int32.toInt hv3257
                      have x3258 := HI.eqI hI3247 (p := 231) (b := 23) (hv3257)
                      have y3259 : (gI _ 231 23).toInt = (gI _ 231 23).toInt + 1 := hr3250.1
                      have pg3260 := PG.push (e' := 0) pg3239 hr3250 (hF3248.2.1 238 (by decide)) (hF3248.2.1 239 (by decide)) (hF3248.1 231 17 (by decide)) ⟨by omega, by omega⟩ (Or.inr nsq3242) (by omega) (by omega)
                      have nsq3261 := NSQ.push nsq3242 hr3250 (by omega)
                      refine At.enter rfl ?_
                      refine r_iconst 1 rfl ?_
                      refine r_ireti ?_
                      have x3262 := HI.eqI hI3247 (p := 231) (b := 8) ((((hF3248.1 231 8 (by decide)).trans ((hF3222.1 231 8 (by decide)).trans ((hF3176.1 231 8 (by decide)).trans ((hF2818.1 231 8 (by decide)).trans ((hF2809.1 231 8 (by decide)).trans ((hF2317.1 231 8 (by decide)).trans ((hF2307.1 231 8 (by decide)).trans ((hF2295.1 231 8 (by decide)).trans ((hF2283.1 231 8 (by decide)).trans (hF2271.1 231 8 (by decide))))))))))).trans hv1))
                      have x3263 := HI.eqI hI3247 (p := 231) (b := 9) ((((hF3248.1 231 9 (by decide)).trans (hF3222.1 231 9 (by decide))).trans hv3187))
                      have x3264 := HI.eqI hI3247 (p := 231) (b := 10) ((((hF3248.1 231 10 (by decide)).trans (hF3222.1 231 10 (by decide))).trans hv3189))
                      have x3265 := HI.eqI hI3247 (p := 231) (b := 11) ((((hF3248.1 231 11 (by decide)).trans (hF3222.1 231 11 (by decide))).trans hv3191))
                      obtain ⟨v3266, hv3266⟩ : ∃ v, gJ g3174 231 12 = v := ⟨_, rfl⟩
                      have x3267 := HI.eqJ hI3247 (b := 12) ((((hF3248.2.2 231 12 (by decide)).trans (hF3222.2.2 231 12 (by decide))).trans hv3266))
                      have x3268 := HI.eqI hI3247 (p := 231) (b := 14) ((((hF3248.1 231 14 (by decide)).trans (hF3222.1 231 14 (by decide))).trans hv3193))
                      have x3269 := HI.eqI hI3247 (p := 231) (b := 17) (((hF3248.1 231 17 (by decide)).trans hv3229))
                      have x3270 := HI.eqI hI3247 (p := 231) (b := 23) (hv3257)
                      have x3271 := HI.eqI hI0 (p := 231) (b := 9) (hv2)
                      have zv3272 : (1 : Int32).toInt = 1 := rfl
                      have w263273 := W26.cong c3200 hI3247 (((hF3248.1 231 9 (by decide)).trans (hF3222.1 231 9 (by decide)))) (((hF3248.1 231 10 (by decide)).trans (hF3222.1 231 10 (by decide)))) (((hF3248.1 231 11 (by decide)).trans (hF3222.1 231 11 (by decide)))) (((hF3248.2.2 231 12 (by decide)).trans (hF3222.2.2 231 12 (by decide))))
                      exact ⟨_, rfl, hI3247, hF3251, _, rfl, by decide, ⟨by omega, by omega, by omega, by omega, w263273, by omega, by omega, (fun hbad => ⟨by omega, (PT.mk (fun _ => pg3260) (fun h => False.elim (by omega)) (fun h h9 => False.elim (by omega)) (fun h => False.elim (by omega)))⟩), (fun hbad => by omega)⟩⟩
                · have c2813_ : v2810.toInt ≠ 0 := en_k_eq_f c2813
                  refine At.enter rfl ?_
                  refine r_iconst 2 rfl ?_
                  refine r_ireti ?_
                  have x3274 := HI.eqI hI2808 (p := 231) (b := 8) ((((hF2809.1 231 8 (by decide)).trans ((hF2317.1 231 8 (by decide)).trans ((hF2307.1 231 8 (by decide)).trans ((hF2295.1 231 8 (by decide)).trans ((hF2283.1 231 8 (by decide)).trans (hF2271.1 231 8 (by decide))))))).trans hv1))
                  have x3275 := HI.eqI hI2808 (p := 231) (b := 9) ((((hF2809.1 231 9 (by decide)).trans ((hF2317.1 231 9 (by decide)).trans ((hF2307.1 231 9 (by decide)).trans ((hF2295.1 231 9 (by decide)).trans ((hF2283.1 231 9 (by decide)).trans (hF2271.1 231 9 (by decide))))))).trans hv2))
                  have x3276 := HI.eqI hI2808 (p := 231) (b := 10) ((((hF2809.1 231 10 (by decide)).trans ((hF2317.1 231 10 (by decide)).trans ((hF2307.1 231 10 (by decide)).trans ((hF2295.1 231 10 (by decide)).trans ((hF2283.1 231 10 (by decide)).trans (hF2271.1 231 10 (by decide))))))).trans hv3))
                  have x3277 := HI.eqI hI2808 (p := 231) (b := 11) ((((hF2809.1 231 11 (by decide)).trans ((hF2317.1 231 11 (by decide)).trans ((hF2307.1 231 11 (by decide)).trans ((hF2295.1 231 11 (by decide)).trans ((hF2283.1 231 11 (by decide)).trans (hF2271.1 231 11 (by decide))))))).trans hv4))
                  have x3278 := HI.eqJ hI2808 (b := 12) ((((hF2809.2.2 231 12 (by decide)).trans ((hF2317.2.2 231 12 (by decide)).trans ((hF2307.2.2 231 12 (by decide)).trans ((hF2295.2.2 231 12 (by decide)).trans ((hF2283.2.2 231 12 (by decide)).trans (hF2271.2.2 231 12 (by decide))))))).trans hv5))
                  have x3279 := HI.eqI hI2808 (p := 231) (b := 14) ((((hF2809.1 231 14 (by decide)).trans ((hF2317.1 231 14 (by decide)).trans ((hF2307.1 231 14 (by decide)).trans ((hF2295.1 231 14 (by decide)).trans ((hF2283.1 231 14 (by decide)).trans (hF2271.1 231 14 (by decide))))))).trans hv6))
                  have x3280 := HI.eqI hI2808 (p := 231) (b := 17) ((((hF2809.1 231 17 (by decide)).trans ((hF2317.1 231 17 (by decide)).trans ((hF2307.1 231 17 (by decide)).trans ((hF2295.1 231 17 (by decide)).trans ((hF2283.1 231 17 (by decide)).trans (hF2271.1 231 17 (by decide))))))).trans hv7))
                  have x3281 := HI.eqI hI2808 (p := 231) (b := 23) ((((hF2809.1 231 23 (by decide)).trans ((hF2317.1 231 23 (by decide)).trans ((hF2307.1 231 23 (by decide)).trans ((hF2295.1 231 23 (by decide)).trans ((hF2283.1 231 23 (by decide)).trans (hF2271.1 231 23 (by decide))))))).trans hv8))
                  have x3282 := HI.eqI hI0 (p := 231) (b := 9) (hv2)
                  have zv3283 : (2 : Int32).toInt = 2 := rfl
                  have pg3284 := PG.cong (hP.2.1 (by decide)) hI2808 (((hF2809.2.1 238 (by decide)).trans ((hF2317.2.1 238 (by decide)).trans ((hF2307.2.1 238 (by decide)).trans ((hF2295.2.1 238 (by decide)).trans ((hF2283.2.1 238 (by decide)).trans (hF2271.2.1 238 (by decide)))))))) (((hF2809.2.1 239 (by decide)).trans ((hF2317.2.1 239 (by decide)).trans ((hF2307.2.1 239 (by decide)).trans ((hF2295.2.1 239 (by decide)).trans ((hF2283.2.1 239 (by decide)).trans (hF2271.2.1 239 (by decide)))))))) (((hF2809.2.1 240 (by decide)).trans ((hF2317.2.1 240 (by decide)).trans ((hF2307.2.1 240 (by decide)).trans ((hF2295.2.1 240 (by decide)).trans ((hF2283.2.1 240 (by decide)).trans (hF2271.2.1 240 (by decide)))))))) (((hF2809.2.1 241 (by decide)).trans ((hF2317.2.1 241 (by decide)).trans ((hF2307.2.1 241 (by decide)).trans ((hF2295.2.1 241 (by decide)).trans ((hF2283.2.1 241 (by decide)).trans (hF2271.2.1 241 (by decide)))))))) (((hF2809.1 231 17 (by decide)).trans ((hF2317.1 231 17 (by decide)).trans ((hF2307.1 231 17 (by decide)).trans ((hF2295.1 231 17 (by decide)).trans ((hF2283.1 231 17 (by decide)).trans (hF2271.1 231 17 (by decide)))))))) (((hF2809.1 231 23 (by decide)).trans ((hF2317.1 231 23 (by decide)).trans ((hF2307.1 231 23 (by decide)).trans ((hF2295.1 231 23 (by decide)).trans ((hF2283.1 231 23 (by decide)).trans (hF2271.1 231 23 (by decide))))))))
                  have inn3285 := INN.cong inn2321 hI2808 ((hF2809.2.1 240 (by decide))) ((hF2809.1 231 23 (by decide)))
                  have pg3286 := PG.cong (hP.2.1 (by decide)) hI2808 (((hF2809.2.1 238 (by decide)).trans ((hF2317.2.1 238 (by decide)).trans ((hF2307.2.1 238 (by decide)).trans ((hF2295.2.1 238 (by decide)).trans ((hF2283.2.1 238 (by decide)).trans (hF2271.2.1 238 (by decide)))))))) (((hF2809.2.1 239 (by decide)).trans ((hF2317.2.1 239 (by decide)).trans ((hF2307.2.1 239 (by decide)).trans ((hF2295.2.1 239 (by decide)).trans ((hF2283.2.1 239 (by decide)).trans (hF2271.2.1 239 (by decide)))))))) (((hF2809.2.1 240 (by decide)).trans ((hF2317.2.1 240 (by decide)).trans ((hF2307.2.1 240 (by decide)).trans ((hF2295.2.1 240 (by decide)).trans ((hF2283.2.1 240 (by decide)).trans (hF2271.2.1 240 (by decide)))))))) (((hF2809.2.1 241 (by decide)).trans ((hF2317.2.1 241 (by decide)).trans ((hF2307.2.1 241 (by decide)).trans ((hF2295.2.1 241 (by decide)).trans ((hF2283.2.1 241 (by decide)).trans (hF2271.2.1 241 (by decide)))))))) (((hF2809.1 231 17 (by decide)).trans ((hF2317.1 231 17 (by decide)).trans ((hF2307.1 231 17 (by decide)).trans ((hF2295.1 231 17 (by decide)).trans ((hF2283.1 231 17 (by decide)).trans (hF2271.1 231 17 (by decide)))))))) (((hF2809.1 231 23 (by decide)).trans ((hF2317.1 231 23 (by decide)).trans ((hF2307.1 231 23 (by decide)).trans ((hF2295.1 231 23 (by decide)).trans ((hF2283.1 231 23 (by decide)).trans (hF2271.1 231 23 (by decide))))))))
                  have nsq3287 := INN.nsq inn3285 pg3286 (by omega)
                  have w263288 := W26.cong hW hI2808 (((hF2809.1 231 9 (by decide)).trans ((hF2317.1 231 9 (by decide)).trans ((hF2307.1 231 9 (by decide)).trans ((hF2295.1 231 9 (by decide)).trans ((hF2283.1 231 9 (by decide)).trans (hF2271.1 231 9 (by decide)))))))) (((hF2809.1 231 10 (by decide)).trans ((hF2317.1 231 10 (by decide)).trans ((hF2307.1 231 10 (by decide)).trans ((hF2295.1 231 10 (by decide)).trans ((hF2283.1 231 10 (by decide)).trans (hF2271.1 231 10 (by decide)))))))) (((hF2809.1 231 11 (by decide)).trans ((hF2317.1 231 11 (by decide)).trans ((hF2307.1 231 11 (by decide)).trans ((hF2295.1 231 11 (by decide)).trans ((hF2283.1 231 11 (by decide)).trans (hF2271.1 231 11 (by decide)))))))) (((hF2809.2.2 231 12 (by decide)).trans ((hF2317.2.2 231 12 (by decide)).trans ((hF2307.2.2 231 12 (by decide)).trans ((hF2295.2.2 231 12 (by decide)).trans ((hF2283.2.2 231 12 (by decide)).trans (hF2271.2.2 231 12 (by decide))))))))
                  exact ⟨_, rfl, hI2808, hF2812, _, rfl, by decide, ⟨by omega, by omega, by omega, by omega, w263288, by omega, by omega, (fun hbad => ⟨by omega, (PT.mk (fun h => False.elim (by omega)) (fun _ => pg3284) (fun _ _ => nsq3287) (fun h => False.elim (by omega)))⟩), (fun hbad => by omega)⟩⟩
              · have c2806_ : a1.toInt = 0 := en_k_ne_f c2806
                refine At.enter rfl ?_
                refine r_iconst 4 rfl ?_
                refine r_ireti ?_
                have x3289 := HI.eqI hI2316 (p := 231) (b := 8) ((((hF2317.1 231 8 (by decide)).trans ((hF2307.1 231 8 (by decide)).trans ((hF2295.1 231 8 (by decide)).trans ((hF2283.1 231 8 (by decide)).trans (hF2271.1 231 8 (by decide)))))).trans hv1))
                have x3290 := HI.eqI hI2316 (p := 231) (b := 9) ((((hF2317.1 231 9 (by decide)).trans ((hF2307.1 231 9 (by decide)).trans ((hF2295.1 231 9 (by decide)).trans ((hF2283.1 231 9 (by decide)).trans (hF2271.1 231 9 (by decide)))))).trans hv2))
                have x3291 := HI.eqI hI2316 (p := 231) (b := 10) ((((hF2317.1 231 10 (by decide)).trans ((hF2307.1 231 10 (by decide)).trans ((hF2295.1 231 10 (by decide)).trans ((hF2283.1 231 10 (by decide)).trans (hF2271.1 231 10 (by decide)))))).trans hv3))
                have x3292 := HI.eqI hI2316 (p := 231) (b := 11) ((((hF2317.1 231 11 (by decide)).trans ((hF2307.1 231 11 (by decide)).trans ((hF2295.1 231 11 (by decide)).trans ((hF2283.1 231 11 (by decide)).trans (hF2271.1 231 11 (by decide)))))).trans hv4))
                have x3293 := HI.eqJ hI2316 (b := 12) ((((hF2317.2.2 231 12 (by decide)).trans ((hF2307.2.2 231 12 (by decide)).trans ((hF2295.2.2 231 12 (by decide)).trans ((hF2283.2.2 231 12 (by decide)).trans (hF2271.2.2 231 12 (by decide)))))).trans hv5))
                have x3294 := HI.eqI hI2316 (p := 231) (b := 14) ((((hF2317.1 231 14 (by decide)).trans ((hF2307.1 231 14 (by decide)).trans ((hF2295.1 231 14 (by decide)).trans ((hF2283.1 231 14 (by decide)).trans (hF2271.1 231 14 (by decide)))))).trans hv6))
                have x3295 := HI.eqI hI2316 (p := 231) (b := 17) ((((hF2317.1 231 17 (by decide)).trans ((hF2307.1 231 17 (by decide)).trans ((hF2295.1 231 17 (by decide)).trans ((hF2283.1 231 17 (by decide)).trans (hF2271.1 231 17 (by decide)))))).trans hv7))
                have x3296 := HI.eqI hI2316 (p := 231) (b := 23) ((((hF2317.1 231 23 (by decide)).trans ((hF2307.1 231 23 (by decide)).trans ((hF2295.1 231 23 (by decide)).trans ((hF2283.1 231 23 (by decide)).trans (hF2271.1 231 23 (by decide)))))).trans hv8))
                have x3297 := HI.eqI hI0 (p := 231) (b := 9) (hv2)
                have zv3298 : (4 : Int32).toInt = 4 := rfl
                have pg3299 := PG.cong (hP.2.1 (by decide)) hI2316 (((hF2317.2.1 238 (by decide)).trans ((hF2307.2.1 238 (by decide)).trans ((hF2295.2.1 238 (by decide)).trans ((hF2283.2.1 238 (by decide)).trans (hF2271.2.1 238 (by decide))))))) (((hF2317.2.1 239 (by decide)).trans ((hF2307.2.1 239 (by decide)).trans ((hF2295.2.1 239 (by decide)).trans ((hF2283.2.1 239 (by decide)).trans (hF2271.2.1 239 (by decide))))))) (((hF2317.2.1 240 (by decide)).trans ((hF2307.2.1 240 (by decide)).trans ((hF2295.2.1 240 (by decide)).trans ((hF2283.2.1 240 (by decide)).trans (hF2271.2.1 240 (by decide))))))) (((hF2317.2.1 241 (by decide)).trans ((hF2307.2.1 241 (by decide)).trans ((hF2295.2.1 241 (by decide)).trans ((hF2283.2.1 241 (by decide)).trans (hF2271.2.1 241 (by decide))))))) (((hF2317.1 231 17 (by decide)).trans ((hF2307.1 231 17 (by decide)).trans ((hF2295.1 231 17 (by decide)).trans ((hF2283.1 231 17 (by decide)).trans (hF2271.1 231 17 (by decide))))))) (((hF2317.1 231 23 (by decide)).trans ((hF2307.1 231 23 (by decide)).trans ((hF2295.1 231 23 (by decide)).trans ((hF2283.1 231 23 (by decide)).trans (hF2271.1 231 23 (by decide)))))))
                have pg3300 := PG.cong (hP.2.1 (by decide)) hI2316 (((hF2317.2.1 238 (by decide)).trans ((hF2307.2.1 238 (by decide)).trans ((hF2295.2.1 238 (by decide)).trans ((hF2283.2.1 238 (by decide)).trans (hF2271.2.1 238 (by decide))))))) (((hF2317.2.1 239 (by decide)).trans ((hF2307.2.1 239 (by decide)).trans ((hF2295.2.1 239 (by decide)).trans ((hF2283.2.1 239 (by decide)).trans (hF2271.2.1 239 (by decide))))))) (((hF2317.2.1 240 (by decide)).trans ((hF2307.2.1 240 (by decide)).trans ((hF2295.2.1 240 (by decide)).trans ((hF2283.2.1 240 (by decide)).trans (hF2271.2.1 240 (by decide))))))) (((hF2317.2.1 241 (by decide)).trans ((hF2307.2.1 241 (by decide)).trans ((hF2295.2.1 241 (by decide)).trans ((hF2283.2.1 241 (by decide)).trans (hF2271.2.1 241 (by decide))))))) (((hF2317.1 231 17 (by decide)).trans ((hF2307.1 231 17 (by decide)).trans ((hF2295.1 231 17 (by decide)).trans ((hF2283.1 231 17 (by decide)).trans (hF2271.1 231 17 (by decide))))))) (((hF2317.1 231 23 (by decide)).trans ((hF2307.1 231 23 (by decide)).trans ((hF2295.1 231 23 (by decide)).trans ((hF2283.1 231 23 (by decide)).trans (hF2271.1 231 23 (by decide)))))))
                have nsq3301 := INN.nsq inn2321 pg3300 (by omega)
                have w263302 := W26.cong hW hI2316 (((hF2317.1 231 9 (by decide)).trans ((hF2307.1 231 9 (by decide)).trans ((hF2295.1 231 9 (by decide)).trans ((hF2283.1 231 9 (by decide)).trans (hF2271.1 231 9 (by decide))))))) (((hF2317.1 231 10 (by decide)).trans ((hF2307.1 231 10 (by decide)).trans ((hF2295.1 231 10 (by decide)).trans ((hF2283.1 231 10 (by decide)).trans (hF2271.1 231 10 (by decide))))))) (((hF2317.1 231 11 (by decide)).trans ((hF2307.1 231 11 (by decide)).trans ((hF2295.1 231 11 (by decide)).trans ((hF2283.1 231 11 (by decide)).trans (hF2271.1 231 11 (by decide))))))) (((hF2317.2.2 231 12 (by decide)).trans ((hF2307.2.2 231 12 (by decide)).trans ((hF2295.2.2 231 12 (by decide)).trans ((hF2283.2.2 231 12 (by decide)).trans (hF2271.2.2 231 12 (by decide)))))))
                exact ⟨_, rfl, hI2316, hF2320, _, rfl, by decide, ⟨by omega, by omega, by omega, by omega, w263302, by omega, by omega, (fun hbad => ⟨by omega, (PT.mk (fun h => False.elim (by omega)) (fun _ => pg3299) (fun _ _ => nsq3301) (fun _ => INN.nbr (INN.eq inn2321 (by omega))))⟩), (fun hbad => by omega)⟩⟩
          · have c2322_ : v2318.toInt = 31 := en_i_ne_f c2322
            refine At.enter rfl ?_
            refine r_aload_n rfl ?_
            refine r_aload_n rfl ?_
            refine r_bipush 93 rfl ?_
            have x3303 := HI.eqI hI2316 (p := 231) (b := 11) ((((hF2317.1 231 11 (by decide)).trans ((hF2307.1 231 11 (by decide)).trans ((hF2295.1 231 11 (by decide)).trans ((hF2283.1 231 11 (by decide)).trans (hF2271.1 231 11 (by decide)))))).trans hv4))
            have zv3304 : (93 : Int32).toInt = 93 := rfl
            refine r_callV 101 rfl [.ref 231, .int 93] [.ref 231] (Nat.le_of_ble_eq_true rfl) rfl (T_X11_isSign_231 _ hI2316 93 (by omega)) ?_
            rintro _ _ ⟨g3305, rfl, hI3306, hF3307, v3308, rfl, hr3309⟩
            refine At.sti ?_
            have hF3310 := Fr.tr hF2320 hF3307 rfl rfl
            have zv3311 : (93 : Int32).toInt = 93 := rfl
            have x3312 := HI.eqI hI2316 (p := 231) (b := 11) ((((hF2317.1 231 11 (by decide)).trans ((hF2307.1 231 11 (by decide)).trans ((hF2295.1 231 11 (by decide)).trans ((hF2283.1 231 11 (by decide)).trans (hF2271.1 231 11 (by decide)))))).trans hv4))
            have x3313 := HI.eqI hI3306 (p := 231) (b := 11) ((((hF3307.1 231 11 (by decide)).trans ((hF2317.1 231 11 (by decide)).trans ((hF2307.1 231 11 (by decide)).trans ((hF2295.1 231 11 (by decide)).trans ((hF2283.1 231 11 (by decide)).trans (hF2271.1 231 11 (by decide))))))).trans hv4))
            refine At.enter rfl ?_
            have x3314 := HI.eqI hI3306 (p := 231) (b := 8) ((((hF3307.1 231 8 (by decide)).trans ((hF2317.1 231 8 (by decide)).trans ((hF2307.1 231 8 (by decide)).trans ((hF2295.1 231 8 (by decide)).trans ((hF2283.1 231 8 (by decide)).trans (hF2271.1 231 8 (by decide))))))).trans hv1))
            have x3315 := HI.eqI hI3306 (p := 231) (b := 9) ((((hF3307.1 231 9 (by decide)).trans ((hF2317.1 231 9 (by decide)).trans ((hF2307.1 231 9 (by decide)).trans ((hF2295.1 231 9 (by decide)).trans ((hF2283.1 231 9 (by decide)).trans (hF2271.1 231 9 (by decide))))))).trans hv2))
            have x3316 := HI.eqI hI3306 (p := 231) (b := 10) ((((hF3307.1 231 10 (by decide)).trans ((hF2317.1 231 10 (by decide)).trans ((hF2307.1 231 10 (by decide)).trans ((hF2295.1 231 10 (by decide)).trans ((hF2283.1 231 10 (by decide)).trans (hF2271.1 231 10 (by decide))))))).trans hv3))
            have x3317 := HI.eqI hI3306 (p := 231) (b := 11) ((((hF3307.1 231 11 (by decide)).trans ((hF2317.1 231 11 (by decide)).trans ((hF2307.1 231 11 (by decide)).trans ((hF2295.1 231 11 (by decide)).trans ((hF2283.1 231 11 (by decide)).trans (hF2271.1 231 11 (by decide))))))).trans hv4))
            have w263318 := W26.cong hW hI3306 (((hF3307.1 231 9 (by decide)).trans ((hF2317.1 231 9 (by decide)).trans ((hF2307.1 231 9 (by decide)).trans ((hF2295.1 231 9 (by decide)).trans ((hF2283.1 231 9 (by decide)).trans (hF2271.1 231 9 (by decide)))))))) (((hF3307.1 231 10 (by decide)).trans ((hF2317.1 231 10 (by decide)).trans ((hF2307.1 231 10 (by decide)).trans ((hF2295.1 231 10 (by decide)).trans ((hF2283.1 231 10 (by decide)).trans (hF2271.1 231 10 (by decide)))))))) (((hF3307.1 231 11 (by decide)).trans ((hF2317.1 231 11 (by decide)).trans ((hF2307.1 231 11 (by decide)).trans ((hF2295.1 231 11 (by decide)).trans ((hF2283.1 231 11 (by decide)).trans (hF2271.1 231 11 (by decide)))))))) (((hF3307.2.2 231 12 (by decide)).trans ((hF2317.2.2 231 12 (by decide)).trans ((hF2307.2.2 231 12 (by decide)).trans ((hF2295.2.2 231 12 (by decide)).trans ((hF2283.2.2 231 12 (by decide)).trans (hF2271.2.2 231 12 (by decide))))))))
            refine r_callV 104 rfl [.ref 231, .int v3308] [] (Nat.le_of_ble_eq_true rfl) rfl (T_X11_must_231 _ hI3306 v3308 (by omega) (by refine ⟨?_, ?_, ?_, ?_⟩ <;> omega) w263318) ?_
            rintro _ _ ⟨g3319, rfl, hI3320, hF3321, rfl, hr3323⟩
            refine At.stn ?_
            have hF3324 := Fr.tr hF3310 hF3321 rfl rfl
            have x3325 := HI.eqI hI3306 (p := 231) (b := 8) ((((hF3307.1 231 8 (by decide)).trans ((hF2317.1 231 8 (by decide)).trans ((hF2307.1 231 8 (by decide)).trans ((hF2295.1 231 8 (by decide)).trans ((hF2283.1 231 8 (by decide)).trans (hF2271.1 231 8 (by decide))))))).trans hv1))
            have x3326 := HI.eqI hI3306 (p := 231) (b := 9) ((((hF3307.1 231 9 (by decide)).trans ((hF2317.1 231 9 (by decide)).trans ((hF2307.1 231 9 (by decide)).trans ((hF2295.1 231 9 (by decide)).trans ((hF2283.1 231 9 (by decide)).trans (hF2271.1 231 9 (by decide))))))).trans hv2))
            have x3327 := HI.eqI hI3306 (p := 231) (b := 10) ((((hF3307.1 231 10 (by decide)).trans ((hF2317.1 231 10 (by decide)).trans ((hF2307.1 231 10 (by decide)).trans ((hF2295.1 231 10 (by decide)).trans ((hF2283.1 231 10 (by decide)).trans (hF2271.1 231 10 (by decide))))))).trans hv3))
            have x3328 := HI.eqI hI3306 (p := 231) (b := 11) ((((hF3307.1 231 11 (by decide)).trans ((hF2317.1 231 11 (by decide)).trans ((hF2307.1 231 11 (by decide)).trans ((hF2295.1 231 11 (by decide)).trans ((hF2283.1 231 11 (by decide)).trans (hF2271.1 231 11 (by decide))))))).trans hv4))
            have x3329 := HI.eqI hI3306 (p := 231) (b := 14) ((((hF3307.1 231 14 (by decide)).trans ((hF2317.1 231 14 (by decide)).trans ((hF2307.1 231 14 (by decide)).trans ((hF2295.1 231 14 (by decide)).trans ((hF2283.1 231 14 (by decide)).trans (hF2271.1 231 14 (by decide))))))).trans hv6))
            have x3330 := HI.eqI hI3320 (p := 231) (b := 8) ((((hF3321.1 231 8 (by decide)).trans ((hF3307.1 231 8 (by decide)).trans ((hF2317.1 231 8 (by decide)).trans ((hF2307.1 231 8 (by decide)).trans ((hF2295.1 231 8 (by decide)).trans ((hF2283.1 231 8 (by decide)).trans (hF2271.1 231 8 (by decide)))))))).trans hv1))
            obtain ⟨v3331, hv3331⟩ : ∃ v, gI g3319 231 9 = v := ⟨_, rfl⟩
            have rv3331 := RgF.at hI3320.2.1 (p := 231) (b := 9) rfl
            rw [hv3331] at rv3331
            dsimp only at rv3331
            have tv3331 := congrArg Int32.toInt hv3331
            have x3332 := HI.eqI hI3320 (p := 231) (b := 9) (hv3331)
            obtain ⟨v3333, hv3333⟩ : ∃ v, gI g3319 231 10 = v := ⟨_, rfl⟩
            have rv3333 := RgF.at hI3320.2.1 (p := 231) (b := 10) rfl
            rw [hv3333] at rv3333
            dsimp only at rv3333
            have tv3333 := congrArg Int32.toInt hv3333
            have x3334 := HI.eqI hI3320 (p := 231) (b := 10) (hv3333)
            obtain ⟨v3335, hv3335⟩ : ∃ v, gI g3319 231 11 = v := ⟨_, rfl⟩
            have tv3335 := congrArg Int32.toInt hv3335
            have x3336 := HI.eqI hI3320 (p := 231) (b := 11) (hv3335)
            obtain ⟨v3337, hv3337⟩ : ∃ v, gI g3319 231 14 = v := ⟨_, rfl⟩
            have tv3337 := congrArg Int32.toInt hv3337
            have x3338 := HI.eqI hI3320 (p := 231) (b := 14) (hv3337)
            obtain ⟨c3339, c3340, c3341, c3342, c3343, c3344, c3345⟩ := hr3323
            refine At.enter rfl ?_
            refine r_aload_n rfl ?_
            refine q_getI (Sh.int hI3320.1 kx_231 rfl) v3337 hv3337 ?_
            refine r_ifs 111 rfl (fun c3346 => ?_) (fun c3346 => ?_)
            · have c3346_ : v3337.toInt ≠ 0 := en_k_ne_t c3346
              clear c3345
              refine At.enter rfl ?_
              refine r_iconst 3 rfl ?_
              refine r_ireti ?_
              have x3347 := HI.eqI hI3320 (p := 231) (b := 8) ((((hF3321.1 231 8 (by decide)).trans ((hF3307.1 231 8 (by decide)).trans ((hF2317.1 231 8 (by decide)).trans ((hF2307.1 231 8 (by decide)).trans ((hF2295.1 231 8 (by decide)).trans ((hF2283.1 231 8 (by decide)).trans (hF2271.1 231 8 (by decide)))))))).trans hv1))
              have x3348 := HI.eqI hI3320 (p := 231) (b := 9) (hv3331)
              have x3349 := HI.eqI hI3320 (p := 231) (b := 10) (hv3333)
              have x3350 := HI.eqI hI3320 (p := 231) (b := 11) (hv3335)
              obtain ⟨v3351, hv3351⟩ : ∃ v, gJ g3319 231 12 = v := ⟨_, rfl⟩
              have x3352 := HI.eqJ hI3320 (b := 12) (hv3351)
              have x3353 := HI.eqI hI3320 (p := 231) (b := 14) (hv3337)
              have x3354 := HI.eqI hI3320 (p := 231) (b := 17) ((((hF3321.1 231 17 (by decide)).trans ((hF3307.1 231 17 (by decide)).trans ((hF2317.1 231 17 (by decide)).trans ((hF2307.1 231 17 (by decide)).trans ((hF2295.1 231 17 (by decide)).trans ((hF2283.1 231 17 (by decide)).trans (hF2271.1 231 17 (by decide)))))))).trans hv7))
              have x3355 := HI.eqI hI3320 (p := 231) (b := 23) ((((hF3321.1 231 23 (by decide)).trans ((hF3307.1 231 23 (by decide)).trans ((hF2317.1 231 23 (by decide)).trans ((hF2307.1 231 23 (by decide)).trans ((hF2295.1 231 23 (by decide)).trans ((hF2283.1 231 23 (by decide)).trans (hF2271.1 231 23 (by decide)))))))).trans hv8))
              have x3356 := HI.eqI hI0 (p := 231) (b := 9) (hv2)
              have zv3357 : (3 : Int32).toInt = 3 := rfl
              have pg3358 := PG.cong (hP.2.1 (by decide)) hI3320 (((hF3321.2.1 238 (by decide)).trans ((hF3307.2.1 238 (by decide)).trans ((hF2317.2.1 238 (by decide)).trans ((hF2307.2.1 238 (by decide)).trans ((hF2295.2.1 238 (by decide)).trans ((hF2283.2.1 238 (by decide)).trans (hF2271.2.1 238 (by decide))))))))) (((hF3321.2.1 239 (by decide)).trans ((hF3307.2.1 239 (by decide)).trans ((hF2317.2.1 239 (by decide)).trans ((hF2307.2.1 239 (by decide)).trans ((hF2295.2.1 239 (by decide)).trans ((hF2283.2.1 239 (by decide)).trans (hF2271.2.1 239 (by decide))))))))) (((hF3321.2.1 240 (by decide)).trans ((hF3307.2.1 240 (by decide)).trans ((hF2317.2.1 240 (by decide)).trans ((hF2307.2.1 240 (by decide)).trans ((hF2295.2.1 240 (by decide)).trans ((hF2283.2.1 240 (by decide)).trans (hF2271.2.1 240 (by decide))))))))) (((hF3321.2.1 241 (by decide)).trans ((hF3307.2.1 241 (by decide)).trans ((hF2317.2.1 241 (by decide)).trans ((hF2307.2.1 241 (by decide)).trans ((hF2295.2.1 241 (by decide)).trans ((hF2283.2.1 241 (by decide)).trans (hF2271.2.1 241 (by decide))))))))) (((hF3321.1 231 17 (by decide)).trans ((hF3307.1 231 17 (by decide)).trans ((hF2317.1 231 17 (by decide)).trans ((hF2307.1 231 17 (by decide)).trans ((hF2295.1 231 17 (by decide)).trans ((hF2283.1 231 17 (by decide)).trans (hF2271.1 231 17 (by decide))))))))) (((hF3321.1 231 23 (by decide)).trans ((hF3307.1 231 23 (by decide)).trans ((hF2317.1 231 23 (by decide)).trans ((hF2307.1 231 23 (by decide)).trans ((hF2295.1 231 23 (by decide)).trans ((hF2283.1 231 23 (by decide)).trans (hF2271.1 231 23 (by decide)))))))))
              exact ⟨_, rfl, hI3320, hF3324, _, rfl, by decide, ⟨by omega, by omega, by omega, by omega, c3344, by omega, by omega, (fun hbad => ⟨by omega, (PT.mk (fun h => False.elim (by omega)) (fun _ => pg3358) (fun h h9 => False.elim (by omega)) (fun h => False.elim (by omega)))⟩), (fun hbad => by omega)⟩⟩
            · have c3346_ : v3337.toInt = 0 := en_k_ne_f c3346
              obtain ⟨i3359, i3360, i3361⟩ := c3345 (by omega)
              refine At.enter rfl ?_
              refine r_aload_n rfl ?_
              refine r_iconst 5 rfl ?_
              have x3362 := HI.eqI hI3320 (p := 231) (b := 17) ((((hF3321.1 231 17 (by decide)).trans ((hF3307.1 231 17 (by decide)).trans ((hF2317.1 231 17 (by decide)).trans ((hF2307.1 231 17 (by decide)).trans ((hF2295.1 231 17 (by decide)).trans ((hF2283.1 231 17 (by decide)).trans (hF2271.1 231 17 (by decide)))))))).trans hv7))
              have x3363 := HI.eqI hI3320 (p := 231) (b := 23) ((((hF3321.1 231 23 (by decide)).trans ((hF3307.1 231 23 (by decide)).trans ((hF2317.1 231 23 (by decide)).trans ((hF2307.1 231 23 (by decide)).trans ((hF2295.1 231 23 (by decide)).trans ((hF2283.1 231 23 (by decide)).trans (hF2271.1 231 23 (by decide)))))))).trans hv8))
              have zv3364 : (5 : Int32).toInt = 5 := rfl
              refine r_callV 116 rfl [.ref 231, .int 5] [] (Nat.le_of_ble_eq_true rfl) rfl (T_X11_settle_231 _ hI3320 5 (by decide) (by omega)) ?_
              rintro _ _ ⟨g3365, rfl, hI3366, hF3367, rfl, hr3369⟩
              refine At.stn ?_
              have hF3370 := Fr.tr hF3324 hF3367 rfl rfl
              have zv3371 : (5 : Int32).toInt = 5 := rfl
              have x3372 := HI.eqI hI3320 (p := 231) (b := 17) ((((hF3321.1 231 17 (by decide)).trans ((hF3307.1 231 17 (by decide)).trans ((hF2317.1 231 17 (by decide)).trans ((hF2307.1 231 17 (by decide)).trans ((hF2295.1 231 17 (by decide)).trans ((hF2283.1 231 17 (by decide)).trans (hF2271.1 231 17 (by decide)))))))).trans hv7))
              have x3373 := HI.eqI hI3320 (p := 231) (b := 23) ((((hF3321.1 231 23 (by decide)).trans ((hF3307.1 231 23 (by decide)).trans ((hF2317.1 231 23 (by decide)).trans ((hF2307.1 231 23 (by decide)).trans ((hF2295.1 231 23 (by decide)).trans ((hF2283.1 231 23 (by decide)).trans (hF2271.1 231 23 (by decide)))))))).trans hv8))
              obtain ⟨v3374, hv3374⟩ : ∃ v, gI g3365 231 17 = v := ⟨_, rfl⟩
              have rv3374 := RgF.at hI3366.2.1 (p := 231) (b := 17) rfl
              rw [hv3374] at rv3374
              dsimp only at rv3374
              have tv3374 := congrArg Int32.toInt hv3374
              have x3375 := HI.eqI hI3366 (p := 231) (b := 17) (hv3374)
              obtain ⟨v3376, hv3376⟩ : ∃ v, gI g3365 231 23 = v := ⟨_, rfl⟩
              have rv3376 := RgF.at hI3366.2.1 (p := 231) (b := 23) rfl
              rw [hv3376] at rv3376
              dsimp only at rv3376
              have tv3376 := congrArg Int32.toInt hv3376
              have x3377 := HI.eqI hI3366 (p := 231) (b := 23) (hv3376)
              have y3378 : (gI _ 231 23).toInt ≤ (gI _ 231 23).toInt := hr3369.1
              have y3379 : (gI _ 231 17).toInt + (gI _ 231 23).toInt ≤ (gI _ 231 17).toInt + (gI _ 231 23).toInt := hr3369.2.1
              have pg3380 := PG.cong (hP.2.1 (by decide)) hI3320 (((hF3321.2.1 238 (by decide)).trans ((hF3307.2.1 238 (by decide)).trans ((hF2317.2.1 238 (by decide)).trans ((hF2307.2.1 238 (by decide)).trans ((hF2295.2.1 238 (by decide)).trans ((hF2283.2.1 238 (by decide)).trans (hF2271.2.1 238 (by decide))))))))) (((hF3321.2.1 239 (by decide)).trans ((hF3307.2.1 239 (by decide)).trans ((hF2317.2.1 239 (by decide)).trans ((hF2307.2.1 239 (by decide)).trans ((hF2295.2.1 239 (by decide)).trans ((hF2283.2.1 239 (by decide)).trans (hF2271.2.1 239 (by decide))))))))) (((hF3321.2.1 240 (by decide)).trans ((hF3307.2.1 240 (by decide)).trans ((hF2317.2.1 240 (by decide)).trans ((hF2307.2.1 240 (by decide)).trans ((hF2295.2.1 240 (by decide)).trans ((hF2283.2.1 240 (by decide)).trans (hF2271.2.1 240 (by decide))))))))) (((hF3321.2.1 241 (by decide)).trans ((hF3307.2.1 241 (by decide)).trans ((hF2317.2.1 241 (by decide)).trans ((hF2307.2.1 241 (by decide)).trans ((hF2295.2.1 241 (by decide)).trans ((hF2283.2.1 241 (by decide)).trans (hF2271.2.1 241 (by decide))))))))) (((hF3321.1 231 17 (by decide)).trans ((hF3307.1 231 17 (by decide)).trans ((hF2317.1 231 17 (by decide)).trans ((hF2307.1 231 17 (by decide)).trans ((hF2295.1 231 17 (by decide)).trans ((hF2283.1 231 17 (by decide)).trans (hF2271.1 231 17 (by decide))))))))) (((hF3321.1 231 23 (by decide)).trans ((hF3307.1 231 23 (by decide)).trans ((hF2317.1 231 23 (by decide)).trans ((hF2307.1 231 23 (by decide)).trans ((hF2295.1 231 23 (by decide)).trans ((hF2283.1 231 23 (by decide)).trans (hF2271.1 231 23 (by decide)))))))))
              have inn3382 := INN.cong inn2321 hI3320 (((hF3321.2.1 240 (by decide)).trans (hF3307.2.1 240 (by decide)))) (((hF3321.1 231 23 (by decide)).trans (hF3307.1 231 23 (by decide))))
              have top3383 := SETP.close5 hr3369 (by omega) inn3382 (by omega) pg3380
              have y3384 : 1 ≤ (gI _ 231 23).toInt := top3383.1
              have pg3381 := hr3369.2.2.1 _ _ _ pg3380
              refine At.enter rfl ?_
              refine r_aload_n rfl ?_
              refine r_dup rfl ?_
              refine q_getI (Sh.int hI3366.1 kx_231 rfl) v3376 hv3376 ?_
              refine r_iconst 1 rfl ?_
              refine q_isub (v3376.toInt - 1) rfl (by omega) (fun v3385 hv3385 => ?_)
              refine q_putI (Sh.int hI3366.1 kx_231 rfl) rfl ?_
              have hI3386 := HI.wI1 hI3366 kx_231 rfl (p := 231) (b := 23) (v := v3385) rfl (by dsimp only; omega)
              have hF3387 := Fr.wI (p := 231) (b := 23) (v := v3385) hF3370 rfl
              refine r_aload_n rfl ?_
              refine r_dup rfl ?_
              obtain ⟨v3388, hv3388⟩ : ∃ v, gI g0 231 24 = v := ⟨_, rfl⟩
              refine q_getI (Sh.int hI3386.1 kx_231 rfl) v3388 (((gI_sI_ne (by decide)).trans ((hF3367.1 231 24 (by decide)).trans ((hF3321.1 231 24 (by decide)).trans ((hF3307.1 231 24 (by decide)).trans ((hF2317.1 231 24 (by decide)).trans ((hF2307.1 231 24 (by decide)).trans ((hF2295.1 231 24 (by decide)).trans ((hF2283.1 231 24 (by decide)).trans (hF2271.1 231 24 (by decide)))))))))).trans hv3388) ?_
              refine r_iconst 1 rfl ?_
              refine q_isubO (fun v3389 _ => ?_)
              refine q_putI (Sh.int hI3386.1 kx_231 rfl) rfl ?_
              have hI3390 := HI.wI0 hI3386 kx_231 rfl (p := 231) (b := 24) (v := v3389) rfl
              have hF3391 := Fr.wI (p := 231) (b := 24) (v := v3389) hF3387 rfl
              refine Ar.fall 136 rfl ?_
              refine At.enter rfl ?_
              refine r_iconst 3 rfl ?_
              refine r_ireti ?_
              have x3392 := HI.eqI hI3390 (p := 231) (b := 8) ((((gI_sI_ne (by decide)).trans ((gI_sI_ne (by decide)).trans ((hF3367.1 231 8 (by decide)).trans ((hF3321.1 231 8 (by decide)).trans ((hF3307.1 231 8 (by decide)).trans ((hF2317.1 231 8 (by decide)).trans ((hF2307.1 231 8 (by decide)).trans ((hF2295.1 231 8 (by decide)).trans ((hF2283.1 231 8 (by decide)).trans (hF2271.1 231 8 (by decide))))))))))).trans hv1))
              have x3393 := HI.eqI hI3390 (p := 231) (b := 9) ((((gI_sI_ne (by decide)).trans ((gI_sI_ne (by decide)).trans (hF3367.1 231 9 (by decide)))).trans hv3331))
              have x3394 := HI.eqI hI3390 (p := 231) (b := 10) ((((gI_sI_ne (by decide)).trans ((gI_sI_ne (by decide)).trans (hF3367.1 231 10 (by decide)))).trans hv3333))
              have x3395 := HI.eqI hI3390 (p := 231) (b := 11) ((((gI_sI_ne (by decide)).trans ((gI_sI_ne (by decide)).trans (hF3367.1 231 11 (by decide)))).trans hv3335))
              obtain ⟨v3396, hv3396⟩ : ∃ v, gJ g3319 231 12 = v := ⟨_, rfl⟩
              have x3397 := HI.eqJ hI3390 (b := 12) ((((gJ_sI_ne (by decide)).trans ((gJ_sI_ne (by decide)).trans (hF3367.2.2 231 12 (by decide)))).trans hv3396))
              have x3398 := HI.eqI hI3390 (p := 231) (b := 14) ((((gI_sI_ne (by decide)).trans ((gI_sI_ne (by decide)).trans (hF3367.1 231 14 (by decide)))).trans hv3337))
              have x3399 := HI.eqI hI3390 (p := 231) (b := 17) ((((gI_sI_ne (by decide)).trans (gI_sI_ne (by decide))).trans hv3374))
              have x3400 := HI.eqI hI3390 (p := 231) (b := 23) (((gI_sI_ne (by decide)).trans (gI_sI_eq hI3366.1 kx_231 rfl _)))
              have x3401 := HI.eqI hI0 (p := 231) (b := 9) (hv2)
              have zv3402 : (3 : Int32).toInt = 3 := rfl
              have x3404 := HI.eqI hI3390 (p := 231) (b := 23) (((gI_sI_ne (by decide)).trans (gI_sI_eq hI3366.1 kx_231 rfl _)))
              have pg3403 := PG.popB pg3381 hI3390 (((gA_sI).trans (gA_sI))) (((gA_sI).trans (gA_sI))) (((gA_sI).trans (gA_sI))) (((gA_sI).trans (gA_sI))) (((gI_sI_ne (by decide)).trans (gI_sI_ne (by decide)))) (by show (gI _ 231 23).toInt = (gI _ 231 23).toInt - 1; omega) top3383.1 top3383.2
              have w263405 := W26.cong c3344 hI3390 (((gI_sI_ne (by decide)).trans ((gI_sI_ne (by decide)).trans (hF3367.1 231 9 (by decide))))) (((gI_sI_ne (by decide)).trans ((gI_sI_ne (by decide)).trans (hF3367.1 231 10 (by decide))))) (((gI_sI_ne (by decide)).trans ((gI_sI_ne (by decide)).trans (hF3367.1 231 11 (by decide))))) (((gJ_sI_ne (by decide)).trans ((gJ_sI_ne (by decide)).trans (hF3367.2.2 231 12 (by decide)))))
              exact ⟨_, rfl, hI3390, hF3391, _, rfl, by decide, ⟨by omega, by omega, by omega, by omega, w263405, by omega, by omega, (fun hbad => ⟨by omega, (PT.mk (fun h => False.elim (by omega)) (fun _ => pg3403) (fun h h9 => False.elim (by omega)) (fun h => False.elim (by omega)))⟩), (fun hbad => by omega)⟩⟩
        · have c2314_ : v2308.toInt ≠ 0 := en_k_eq_f c2314
          refine At.enter rfl ?_
          refine r_bipush 23 rfl ?_
          refine r_goto ?_
          refine At.enter rfl ?_
          refine r_istore_n ([(2, .int 23), (0, .ref 231), (1, .int a1)]) rfl ?_
          refine r_iload_n rfl ?_
          refine r_iconst (-1) rfl ?_
          refine r_icf 63 rfl (by decide) ?_
          refine At.enter rfl ?_
          refine r_aload_n rfl ?_
          refine r_iload_n rfl ?_
          refine q_inlS 68 rfl [.int 23] [.ref 231] (Nat.le_of_ble_eq_true rfl) rfl ?_
          refine Ev.mk rfl rfl ⟨Nat.le_of_ble_eq_true rfl, Or.inl rfl⟩ ?_
          show At _ none _ _ (0, [(0, .int 23)], [], (_, _)) _
          refine At.enter rfl ?_
          refine r_iload_n rfl ?_
          refine r_bipush 30 rfl ?_
          refine r_ict (by decide) ?_
          refine At.enter rfl ?_
          refine r_iload_n rfl ?_
          refine r_bipush 29 rfl ?_
          refine r_ict (by decide) ?_
          refine At.enter rfl ?_
          refine r_iload_n rfl ?_
          refine r_bipush 28 rfl ?_
          refine r_ict (by decide) ?_
          refine At.enter rfl ?_
          refine r_iload_n rfl ?_
          refine r_bipush 27 rfl ?_
          refine r_ict (by decide) ?_
          refine At.enter rfl ?_
          refine r_iload_n rfl ?_
          refine r_bipush 24 rfl ?_
          refine r_ict (by decide) ?_
          refine At.enter rfl ?_
          refine r_iload_n rfl ?_
          refine r_bipush 22 rfl ?_
          refine r_icf 56 rfl (by decide) ?_
          refine At.enter rfl ?_
          refine r_bipush 6 rfl ?_
          refine r_goto ?_
          refine At.enter rfl ?_
          refine q_ireti ?_
          refine At.enter rfl ?_
          have x3406 := HI.eqI hI2306 (p := 231) (b := 17) ((((hF2307.1 231 17 (by decide)).trans ((hF2295.1 231 17 (by decide)).trans ((hF2283.1 231 17 (by decide)).trans (hF2271.1 231 17 (by decide))))).trans hv7))
          have x3407 := HI.eqI hI2306 (p := 231) (b := 23) ((((hF2307.1 231 23 (by decide)).trans ((hF2295.1 231 23 (by decide)).trans ((hF2283.1 231 23 (by decide)).trans (hF2271.1 231 23 (by decide))))).trans hv8))
          have zv3408 : (6 : Int32).toInt = 6 := rfl
          refine r_callV 71 rfl [.ref 231, .int 6] [] (Nat.le_of_ble_eq_true rfl) rfl (T_X11_settle_231 _ hI2306 6 (by decide) (by omega)) ?_
          rintro _ _ ⟨g3409, rfl, hI3410, hF3411, rfl, hr3413⟩
          refine At.stn ?_
          have hF3414 := Fr.tr hF2310 hF3411 rfl rfl
          have zv3415 : (6 : Int32).toInt = 6 := rfl
          have x3416 := HI.eqI hI2306 (p := 231) (b := 17) ((((hF2307.1 231 17 (by decide)).trans ((hF2295.1 231 17 (by decide)).trans ((hF2283.1 231 17 (by decide)).trans (hF2271.1 231 17 (by decide))))).trans hv7))
          have x3417 := HI.eqI hI2306 (p := 231) (b := 23) ((((hF2307.1 231 23 (by decide)).trans ((hF2295.1 231 23 (by decide)).trans ((hF2283.1 231 23 (by decide)).trans (hF2271.1 231 23 (by decide))))).trans hv8))
          obtain ⟨v3418, hv3418⟩ : ∃ v, gI g3409 231 17 = v := ⟨_, rfl⟩
          have rv3418 := RgF.at hI3410.2.1 (p := 231) (b := 17) rfl
          rw [hv3418] at rv3418
          dsimp only at rv3418
          have tv3418 := congrArg Int32.toInt hv3418
          have x3419 := HI.eqI hI3410 (p := 231) (b := 17) (hv3418)
          obtain ⟨v3420, hv3420⟩ : ∃ v, gI g3409 231 23 = v := ⟨_, rfl⟩
          have rv3420 := RgF.at hI3410.2.1 (p := 231) (b := 23) rfl
          rw [hv3420] at rv3420
          dsimp only at rv3420
          have tv3420 := congrArg Int32.toInt hv3420
          have x3421 := HI.eqI hI3410 (p := 231) (b := 23) (hv3420)
          have y3422 : (gI _ 231 23).toInt ≤ (gI _ 231 23).toInt := hr3413.1
          have y3423 : (gI _ 231 17).toInt + (gI _ 231 23).toInt ≤ (gI _ 231 17).toInt + (gI _ 231 23).toInt := hr3413.2.1
          have pg3424 := PG.cong (hP.2.1 (by decide)) hI2306 (((hF2307.2.1 238 (by decide)).trans ((hF2295.2.1 238 (by decide)).trans ((hF2283.2.1 238 (by decide)).trans (hF2271.2.1 238 (by decide)))))) (((hF2307.2.1 239 (by decide)).trans ((hF2295.2.1 239 (by decide)).trans ((hF2283.2.1 239 (by decide)).trans (hF2271.2.1 239 (by decide)))))) (((hF2307.2.1 240 (by decide)).trans ((hF2295.2.1 240 (by decide)).trans ((hF2283.2.1 240 (by decide)).trans (hF2271.2.1 240 (by decide)))))) (((hF2307.2.1 241 (by decide)).trans ((hF2295.2.1 241 (by decide)).trans ((hF2283.2.1 241 (by decide)).trans (hF2271.2.1 241 (by decide)))))) (((hF2307.1 231 17 (by decide)).trans ((hF2295.1 231 17 (by decide)).trans ((hF2283.1 231 17 (by decide)).trans (hF2271.1 231 17 (by decide)))))) (((hF2307.1 231 23 (by decide)).trans ((hF2295.1 231 23 (by decide)).trans ((hF2283.1 231 23 (by decide)).trans (hF2271.1 231 23 (by decide))))))
          have pg3425 := hr3413.2.2.1 _ _ _ pg3424
          refine At.enter rfl ?_
          refine r_aload_n rfl ?_
          refine r_iload_n rfl ?_
          refine r_iconst 0 rfl ?_
          have x3426 := HI.eqI hI3410 (p := 231) (b := 23) (hv3420)
          have zv3427 : (23 : Int32).toInt = 23 := rfl
          have zv3428 : (0 : Int32).toInt = 0 := rfl
          refine r_callV 77 rfl [.ref 231, .int 23, .int 0] [] (Nat.le_of_ble_eq_true rfl) rfl (T_X11_push_231 _ hI3410 23 (by decide) 0 (by decide) (by omega)) ?_
          rintro _ _ ⟨g3429, rfl, hI3430, hF3431, rfl, hr3433⟩
          refine At.stn ?_
          have hF3434 := Fr.tr hF3414 hF3431 rfl rfl
          have zv3435 : (23 : Int32).toInt = 23 := rfl
          have zv3436 : (0 : Int32).toInt = 0 := rfl
          have x3437 := HI.eqI hI3410 (p := 231) (b := 17) (hv3418)
          have x3438 := HI.eqI hI3410 (p := 231) (b := 23) (hv3420)
          have x3439 := HI.eqI hI3430 (p := 231) (b := 17) (((hF3431.1 231 17 (by decide)).trans hv3418))
          obtain ⟨v3440, hv3440⟩ : ∃ v, gI g3429 231 23 = v := ⟨_, rfl⟩
          have rv3440 := RgF.at hI3430.2.1 (p := 231) (b := 23) rfl
          rw [hv3440] at rv3440
          dsimp only at rv3440
          have tv3440 := congrArg Int32.toInt hv3440
          have x3441 := HI.eqI hI3430 (p := 231) (b := 23) (hv3440)
          have y3442 : (gI _ 231 23).toInt = (gI _ 231 23).toInt + 1 := hr3433.1
          have pg3443 := PG.push (e' := 0) pg3425 hr3433 (hF3431.2.1 238 (by decide)) (hF3431.2.1 239 (by decide)) (hF3431.1 231 17 (by decide)) ⟨by omega, by omega⟩ (Or.inl (by omega)) (by omega) (by omega)
          refine At.enter rfl ?_
          refine r_aload_n rfl ?_
          have x3444 := HI.eqI hI3430 (p := 231) (b := 8) ((((hF3431.1 231 8 (by decide)).trans ((hF3411.1 231 8 (by decide)).trans ((hF2307.1 231 8 (by decide)).trans ((hF2295.1 231 8 (by decide)).trans ((hF2283.1 231 8 (by decide)).trans (hF2271.1 231 8 (by decide))))))).trans hv1))
          have x3445 := HI.eqI hI3430 (p := 231) (b := 10) ((((hF3431.1 231 10 (by decide)).trans ((hF3411.1 231 10 (by decide)).trans ((hF2307.1 231 10 (by decide)).trans ((hF2295.1 231 10 (by decide)).trans ((hF2283.1 231 10 (by decide)).trans (hF2271.1 231 10 (by decide))))))).trans hv3))
          refine r_callV 81 rfl [.ref 231] [] (Nat.le_of_ble_eq_true rfl) rfl (T_X11_next_231 _ hI3430 (by omega)) ?_
          rintro _ _ ⟨g3446, rfl, hI3447, hF3448, rfl, hr3450⟩
          refine At.stn ?_
          have hF3451 := Fr.tr hF3434 hF3448 rfl rfl
          have x3452 := HI.eqI hI3430 (p := 231) (b := 8) ((((hF3431.1 231 8 (by decide)).trans ((hF3411.1 231 8 (by decide)).trans ((hF2307.1 231 8 (by decide)).trans ((hF2295.1 231 8 (by decide)).trans ((hF2283.1 231 8 (by decide)).trans (hF2271.1 231 8 (by decide))))))).trans hv1))
          have x3453 := HI.eqI hI3430 (p := 231) (b := 10) ((((hF3431.1 231 10 (by decide)).trans ((hF3411.1 231 10 (by decide)).trans ((hF2307.1 231 10 (by decide)).trans ((hF2295.1 231 10 (by decide)).trans ((hF2283.1 231 10 (by decide)).trans (hF2271.1 231 10 (by decide))))))).trans hv3))
          have x3454 := HI.eqI hI3447 (p := 231) (b := 8) ((((hF3448.1 231 8 (by decide)).trans ((hF3431.1 231 8 (by decide)).trans ((hF3411.1 231 8 (by decide)).trans ((hF2307.1 231 8 (by decide)).trans ((hF2295.1 231 8 (by decide)).trans ((hF2283.1 231 8 (by decide)).trans (hF2271.1 231 8 (by decide)))))))).trans hv1))
          obtain ⟨v3455, hv3455⟩ : ∃ v, gI g3446 231 9 = v := ⟨_, rfl⟩
          have rv3455 := RgF.at hI3447.2.1 (p := 231) (b := 9) rfl
          rw [hv3455] at rv3455
          dsimp only at rv3455
          have tv3455 := congrArg Int32.toInt hv3455
          have x3456 := HI.eqI hI3447 (p := 231) (b := 9) (hv3455)
          obtain ⟨v3457, hv3457⟩ : ∃ v, gI g3446 231 10 = v := ⟨_, rfl⟩
          have rv3457 := RgF.at hI3447.2.1 (p := 231) (b := 10) rfl
          rw [hv3457] at rv3457
          dsimp only at rv3457
          have tv3457 := congrArg Int32.toInt hv3457
          have x3458 := HI.eqI hI3447 (p := 231) (b := 10) (hv3457)
          obtain ⟨v3459, hv3459⟩ : ∃ v, gI g3446 231 11 = v := ⟨_, rfl⟩
          have tv3459 := congrArg Int32.toInt hv3459
          have x3460 := HI.eqI hI3447 (p := 231) (b := 11) (hv3459)
          obtain ⟨c3461, c3462, c3463, c3464, c3465, c3466⟩ := hr3450
          refine At.enter rfl ?_
          refine r_iconst 1 rfl ?_
          refine r_ireti ?_
          have x3467 := HI.eqI hI3447 (p := 231) (b := 8) ((((hF3448.1 231 8 (by decide)).trans ((hF3431.1 231 8 (by decide)).trans ((hF3411.1 231 8 (by decide)).trans ((hF2307.1 231 8 (by decide)).trans ((hF2295.1 231 8 (by decide)).trans ((hF2283.1 231 8 (by decide)).trans (hF2271.1 231 8 (by decide)))))))).trans hv1))
          have x3468 := HI.eqI hI3447 (p := 231) (b := 9) (hv3455)
          have x3469 := HI.eqI hI3447 (p := 231) (b := 10) (hv3457)
          have x3470 := HI.eqI hI3447 (p := 231) (b := 11) (hv3459)
          obtain ⟨v3471, hv3471⟩ : ∃ v, gJ g3446 231 12 = v := ⟨_, rfl⟩
          have x3472 := HI.eqJ hI3447 (b := 12) (hv3471)
          have x3473 := HI.eqI hI3447 (p := 231) (b := 14) ((((hF3448.1 231 14 (by decide)).trans ((hF3431.1 231 14 (by decide)).trans ((hF3411.1 231 14 (by decide)).trans ((hF2307.1 231 14 (by decide)).trans ((hF2295.1 231 14 (by decide)).trans ((hF2283.1 231 14 (by decide)).trans (hF2271.1 231 14 (by decide)))))))).trans hv6))
          have x3474 := HI.eqI hI3447 (p := 231) (b := 17) ((((hF3448.1 231 17 (by decide)).trans (hF3431.1 231 17 (by decide))).trans hv3418))
          have x3475 := HI.eqI hI3447 (p := 231) (b := 23) (((hF3448.1 231 23 (by decide)).trans hv3440))
          have x3476 := HI.eqI hI0 (p := 231) (b := 9) (hv2)
          have zv3477 : (1 : Int32).toInt = 1 := rfl
          have pg3478 := PG.cong pg3443 hI3447 ((hF3448.2.1 238 (by decide))) ((hF3448.2.1 239 (by decide))) ((hF3448.2.1 240 (by decide))) ((hF3448.2.1 241 (by decide))) ((hF3448.1 231 17 (by decide))) ((hF3448.1 231 23 (by decide)))
          exact ⟨_, rfl, hI3447, hF3451, _, rfl, by decide, ⟨by omega, by omega, by omega, by omega, c3466, by omega, by omega, (fun hbad => ⟨by omega, (PT.mk (fun _ => pg3478) (fun h => False.elim (by omega)) (fun h h9 => False.elim (by omega)) (fun h => False.elim (by omega)))⟩), (fun hbad => by omega)⟩⟩
      · have c2302_ : v2296.toInt ≠ 0 := en_k_eq_f c2302
        refine At.enter rfl ?_
        refine r_bipush 22 rfl ?_
        refine r_goto ?_
        refine At.enter rfl ?_
        refine r_istore_n ([(2, .int 22), (0, .ref 231), (1, .int a1)]) rfl ?_
        refine r_iload_n rfl ?_
        refine r_iconst (-1) rfl ?_
        refine r_icf 63 rfl (by decide) ?_
        refine At.enter rfl ?_
        refine r_aload_n rfl ?_
        refine r_iload_n rfl ?_
        refine q_inlS 68 rfl [.int 22] [.ref 231] (Nat.le_of_ble_eq_true rfl) rfl ?_
        refine Ev.mk rfl rfl ⟨Nat.le_of_ble_eq_true rfl, Or.inl rfl⟩ ?_
        show At _ none _ _ (0, [(0, .int 22)], [], (_, _)) _
        refine At.enter rfl ?_
        refine r_iload_n rfl ?_
        refine r_bipush 30 rfl ?_
        refine r_ict (by decide) ?_
        refine At.enter rfl ?_
        refine r_iload_n rfl ?_
        refine r_bipush 29 rfl ?_
        refine r_ict (by decide) ?_
        refine At.enter rfl ?_
        refine r_iload_n rfl ?_
        refine r_bipush 28 rfl ?_
        refine r_ict (by decide) ?_
        refine At.enter rfl ?_
        refine r_iload_n rfl ?_
        refine r_bipush 27 rfl ?_
        refine r_ict (by decide) ?_
        refine At.enter rfl ?_
        refine r_iload_n rfl ?_
        refine r_bipush 24 rfl ?_
        refine r_ict (by decide) ?_
        refine At.enter rfl ?_
        refine r_iload_n rfl ?_
        refine r_bipush 22 rfl ?_
        refine r_icf 56 rfl (by decide) ?_
        refine At.enter rfl ?_
        refine r_bipush 6 rfl ?_
        refine r_goto ?_
        refine At.enter rfl ?_
        refine q_ireti ?_
        refine At.enter rfl ?_
        have x3479 := HI.eqI hI2294 (p := 231) (b := 17) ((((hF2295.1 231 17 (by decide)).trans ((hF2283.1 231 17 (by decide)).trans (hF2271.1 231 17 (by decide)))).trans hv7))
        have x3480 := HI.eqI hI2294 (p := 231) (b := 23) ((((hF2295.1 231 23 (by decide)).trans ((hF2283.1 231 23 (by decide)).trans (hF2271.1 231 23 (by decide)))).trans hv8))
        have zv3481 : (6 : Int32).toInt = 6 := rfl
        refine r_callV 71 rfl [.ref 231, .int 6] [] (Nat.le_of_ble_eq_true rfl) rfl (T_X11_settle_231 _ hI2294 6 (by decide) (by omega)) ?_
        rintro _ _ ⟨g3482, rfl, hI3483, hF3484, rfl, hr3486⟩
        refine At.stn ?_
        have hF3487 := Fr.tr hF2298 hF3484 rfl rfl
        have zv3488 : (6 : Int32).toInt = 6 := rfl
        have x3489 := HI.eqI hI2294 (p := 231) (b := 17) ((((hF2295.1 231 17 (by decide)).trans ((hF2283.1 231 17 (by decide)).trans (hF2271.1 231 17 (by decide)))).trans hv7))
        have x3490 := HI.eqI hI2294 (p := 231) (b := 23) ((((hF2295.1 231 23 (by decide)).trans ((hF2283.1 231 23 (by decide)).trans (hF2271.1 231 23 (by decide)))).trans hv8))
        obtain ⟨v3491, hv3491⟩ : ∃ v, gI g3482 231 17 = v := ⟨_, rfl⟩
        have rv3491 := RgF.at hI3483.2.1 (p := 231) (b := 17) rfl
        rw [hv3491] at rv3491
        dsimp only at rv3491
        have tv3491 := congrArg Int32.toInt hv3491
        have x3492 := HI.eqI hI3483 (p := 231) (b := 17) (hv3491)
        obtain ⟨v3493, hv3493⟩ : ∃ v, gI g3482 231 23 = v := ⟨_, rfl⟩
        have rv3493 := RgF.at hI3483.2.1 (p := 231) (b := 23) rfl
        rw [hv3493] at rv3493
        dsimp only at rv3493
        have tv3493 := congrArg Int32.toInt hv3493
        have x3494 := HI.eqI hI3483 (p := 231) (b := 23) (hv3493)
        have y3495 : (gI _ 231 23).toInt ≤ (gI _ 231 23).toInt := hr3486.1
        have y3496 : (gI _ 231 17).toInt + (gI _ 231 23).toInt ≤ (gI _ 231 17).toInt + (gI _ 231 23).toInt := hr3486.2.1
        have pg3497 := PG.cong (hP.2.1 (by decide)) hI2294 (((hF2295.2.1 238 (by decide)).trans ((hF2283.2.1 238 (by decide)).trans (hF2271.2.1 238 (by decide))))) (((hF2295.2.1 239 (by decide)).trans ((hF2283.2.1 239 (by decide)).trans (hF2271.2.1 239 (by decide))))) (((hF2295.2.1 240 (by decide)).trans ((hF2283.2.1 240 (by decide)).trans (hF2271.2.1 240 (by decide))))) (((hF2295.2.1 241 (by decide)).trans ((hF2283.2.1 241 (by decide)).trans (hF2271.2.1 241 (by decide))))) (((hF2295.1 231 17 (by decide)).trans ((hF2283.1 231 17 (by decide)).trans (hF2271.1 231 17 (by decide))))) (((hF2295.1 231 23 (by decide)).trans ((hF2283.1 231 23 (by decide)).trans (hF2271.1 231 23 (by decide)))))
        have pg3498 := hr3486.2.2.1 _ _ _ pg3497
        refine At.enter rfl ?_
        refine r_aload_n rfl ?_
        refine r_iload_n rfl ?_
        refine r_iconst 0 rfl ?_
        have x3499 := HI.eqI hI3483 (p := 231) (b := 23) (hv3493)
        have zv3500 : (22 : Int32).toInt = 22 := rfl
        have zv3501 : (0 : Int32).toInt = 0 := rfl
        refine r_callV 77 rfl [.ref 231, .int 22, .int 0] [] (Nat.le_of_ble_eq_true rfl) rfl (T_X11_push_231 _ hI3483 22 (by decide) 0 (by decide) (by omega)) ?_
        rintro _ _ ⟨g3502, rfl, hI3503, hF3504, rfl, hr3506⟩
        refine At.stn ?_
        have hF3507 := Fr.tr hF3487 hF3504 rfl rfl
        have zv3508 : (22 : Int32).toInt = 22 := rfl
        have zv3509 : (0 : Int32).toInt = 0 := rfl
        have x3510 := HI.eqI hI3483 (p := 231) (b := 17) (hv3491)
        have x3511 := HI.eqI hI3483 (p := 231) (b := 23) (hv3493)
        have x3512 := HI.eqI hI3503 (p := 231) (b := 17) (((hF3504.1 231 17 (by decide)).trans hv3491))
        obtain ⟨v3513, hv3513⟩ : ∃ v, gI g3502 231 23 = v := ⟨_, rfl⟩
        have rv3513 := RgF.at hI3503.2.1 (p := 231) (b := 23) rfl
        rw [hv3513] at rv3513
        dsimp only at rv3513
        have tv3513 := congrArg Int32.toInt hv3513
        have x3514 := HI.eqI hI3503 (p := 231) (b := 23) (hv3513)
        have y3515 : (gI _ 231 23).toInt = (gI _ 231 23).toInt + 1 := hr3506.1
        have pg3516 := PG.push (e' := 0) pg3498 hr3506 (hF3504.2.1 238 (by decide)) (hF3504.2.1 239 (by decide)) (hF3504.1 231 17 (by decide)) ⟨by omega, by omega⟩ (Or.inl (by omega)) (by omega) (by omega)
        refine At.enter rfl ?_
        refine r_aload_n rfl ?_
        have x3517 := HI.eqI hI3503 (p := 231) (b := 8) ((((hF3504.1 231 8 (by decide)).trans ((hF3484.1 231 8 (by decide)).trans ((hF2295.1 231 8 (by decide)).trans ((hF2283.1 231 8 (by decide)).trans (hF2271.1 231 8 (by decide)))))).trans hv1))
        have x3518 := HI.eqI hI3503 (p := 231) (b := 10) ((((hF3504.1 231 10 (by decide)).trans ((hF3484.1 231 10 (by decide)).trans ((hF2295.1 231 10 (by decide)).trans ((hF2283.1 231 10 (by decide)).trans (hF2271.1 231 10 (by decide)))))).trans hv3))
        refine r_callV 81 rfl [.ref 231] [] (Nat.le_of_ble_eq_true rfl) rfl (T_X11_next_231 _ hI3503 (by omega)) ?_
        rintro _ _ ⟨g3519, rfl, hI3520, hF3521, rfl, hr3523⟩
        refine At.stn ?_
        have hF3524 := Fr.tr hF3507 hF3521 rfl rfl
        have x3525 := HI.eqI hI3503 (p := 231) (b := 8) ((((hF3504.1 231 8 (by decide)).trans ((hF3484.1 231 8 (by decide)).trans ((hF2295.1 231 8 (by decide)).trans ((hF2283.1 231 8 (by decide)).trans (hF2271.1 231 8 (by decide)))))).trans hv1))
        have x3526 := HI.eqI hI3503 (p := 231) (b := 10) ((((hF3504.1 231 10 (by decide)).trans ((hF3484.1 231 10 (by decide)).trans ((hF2295.1 231 10 (by decide)).trans ((hF2283.1 231 10 (by decide)).trans (hF2271.1 231 10 (by decide)))))).trans hv3))
        have x3527 := HI.eqI hI3520 (p := 231) (b := 8) ((((hF3521.1 231 8 (by decide)).trans ((hF3504.1 231 8 (by decide)).trans ((hF3484.1 231 8 (by decide)).trans ((hF2295.1 231 8 (by decide)).trans ((hF2283.1 231 8 (by decide)).trans (hF2271.1 231 8 (by decide))))))).trans hv1))
        obtain ⟨v3528, hv3528⟩ : ∃ v, gI g3519 231 9 = v := ⟨_, rfl⟩
        have rv3528 := RgF.at hI3520.2.1 (p := 231) (b := 9) rfl
        rw [hv3528] at rv3528
        dsimp only at rv3528
        have tv3528 := congrArg Int32.toInt hv3528
        have x3529 := HI.eqI hI3520 (p := 231) (b := 9) (hv3528)
        obtain ⟨v3530, hv3530⟩ : ∃ v, gI g3519 231 10 = v := ⟨_, rfl⟩
        have rv3530 := RgF.at hI3520.2.1 (p := 231) (b := 10) rfl
        rw [hv3530] at rv3530
        dsimp only at rv3530
        have tv3530 := congrArg Int32.toInt hv3530
        have x3531 := HI.eqI hI3520 (p := 231) (b := 10) (hv3530)
        obtain ⟨v3532, hv3532⟩ : ∃ v, gI g3519 231 11 = v := ⟨_, rfl⟩
        have tv3532 := congrArg Int32.toInt hv3532
        have x3533 := HI.eqI hI3520 (p := 231) (b := 11) (hv3532)
        obtain ⟨c3534, c3535, c3536, c3537, c3538, c3539⟩ := hr3523
        refine At.enter rfl ?_
        refine r_iconst 1 rfl ?_
        refine r_ireti ?_
        have x3540 := HI.eqI hI3520 (p := 231) (b := 8) ((((hF3521.1 231 8 (by decide)).trans ((hF3504.1 231 8 (by decide)).trans ((hF3484.1 231 8 (by decide)).trans ((hF2295.1 231 8 (by decide)).trans ((hF2283.1 231 8 (by decide)).trans (hF2271.1 231 8 (by decide))))))).trans hv1))
        have x3541 := HI.eqI hI3520 (p := 231) (b := 9) (hv3528)
        have x3542 := HI.eqI hI3520 (p := 231) (b := 10) (hv3530)
        have x3543 := HI.eqI hI3520 (p := 231) (b := 11) (hv3532)
        obtain ⟨v3544, hv3544⟩ : ∃ v, gJ g3519 231 12 = v := ⟨_, rfl⟩
        have x3545 := HI.eqJ hI3520 (b := 12) (hv3544)
        have x3546 := HI.eqI hI3520 (p := 231) (b := 14) ((((hF3521.1 231 14 (by decide)).trans ((hF3504.1 231 14 (by decide)).trans ((hF3484.1 231 14 (by decide)).trans ((hF2295.1 231 14 (by decide)).trans ((hF2283.1 231 14 (by decide)).trans (hF2271.1 231 14 (by decide))))))).trans hv6))
        have x3547 := HI.eqI hI3520 (p := 231) (b := 17) ((((hF3521.1 231 17 (by decide)).trans (hF3504.1 231 17 (by decide))).trans hv3491))
        have x3548 := HI.eqI hI3520 (p := 231) (b := 23) (((hF3521.1 231 23 (by decide)).trans hv3513))
        have x3549 := HI.eqI hI0 (p := 231) (b := 9) (hv2)
        have zv3550 : (1 : Int32).toInt = 1 := rfl
        have pg3551 := PG.cong pg3516 hI3520 ((hF3521.2.1 238 (by decide))) ((hF3521.2.1 239 (by decide))) ((hF3521.2.1 240 (by decide))) ((hF3521.2.1 241 (by decide))) ((hF3521.1 231 17 (by decide))) ((hF3521.1 231 23 (by decide)))
        exact ⟨_, rfl, hI3520, hF3524, _, rfl, by decide, ⟨by omega, by omega, by omega, by omega, c3539, by omega, by omega, (fun hbad => ⟨by omega, (PT.mk (fun _ => pg3551) (fun h => False.elim (by omega)) (fun h h9 => False.elim (by omega)) (fun h => False.elim (by omega)))⟩), (fun hbad => by omega)⟩⟩
    · have c2290_ : v2284.toInt ≠ 0 := en_k_eq_f c2290
      refine At.enter rfl ?_
      refine r_bipush 21 rfl ?_
      refine r_goto ?_
      refine At.enter rfl ?_
      refine r_istore_n ([(2, .int 21), (0, .ref 231), (1, .int a1)]) rfl ?_
      refine r_iload_n rfl ?_
      refine r_iconst (-1) rfl ?_
      refine r_icf 63 rfl (by decide) ?_
      refine At.enter rfl ?_
      refine r_aload_n rfl ?_
      refine r_iload_n rfl ?_
      refine q_inlS 68 rfl [.int 21] [.ref 231] (Nat.le_of_ble_eq_true rfl) rfl ?_
      refine Ev.mk rfl rfl ⟨Nat.le_of_ble_eq_true rfl, Or.inl rfl⟩ ?_
      show At _ none _ _ (0, [(0, .int 21)], [], (_, _)) _
      refine At.enter rfl ?_
      refine r_iload_n rfl ?_
      refine r_bipush 30 rfl ?_
      refine r_ict (by decide) ?_
      refine At.enter rfl ?_
      refine r_iload_n rfl ?_
      refine r_bipush 29 rfl ?_
      refine r_ict (by decide) ?_
      refine At.enter rfl ?_
      refine r_iload_n rfl ?_
      refine r_bipush 28 rfl ?_
      refine r_ict (by decide) ?_
      refine At.enter rfl ?_
      refine r_iload_n rfl ?_
      refine r_bipush 27 rfl ?_
      refine r_ict (by decide) ?_
      refine At.enter rfl ?_
      refine r_iload_n rfl ?_
      refine r_bipush 24 rfl ?_
      refine r_ict (by decide) ?_
      refine At.enter rfl ?_
      refine r_iload_n rfl ?_
      refine r_bipush 22 rfl ?_
      refine r_ict (by decide) ?_
      refine At.enter rfl ?_
      refine r_iconst 5 rfl ?_
      refine Ar.fall 62 rfl ?_
      refine At.enter rfl ?_
      refine q_ireti ?_
      refine At.enter rfl ?_
      have x3552 := HI.eqI hI2282 (p := 231) (b := 17) ((((hF2283.1 231 17 (by decide)).trans (hF2271.1 231 17 (by decide))).trans hv7))
      have x3553 := HI.eqI hI2282 (p := 231) (b := 23) ((((hF2283.1 231 23 (by decide)).trans (hF2271.1 231 23 (by decide))).trans hv8))
      have zv3554 : (5 : Int32).toInt = 5 := rfl
      refine r_callV 71 rfl [.ref 231, .int 5] [] (Nat.le_of_ble_eq_true rfl) rfl (T_X11_settle_231 _ hI2282 5 (by decide) (by omega)) ?_
      rintro _ _ ⟨g3555, rfl, hI3556, hF3557, rfl, hr3559⟩
      refine At.stn ?_
      have hF3560 := Fr.tr hF2286 hF3557 rfl rfl
      have zv3561 : (5 : Int32).toInt = 5 := rfl
      have x3562 := HI.eqI hI2282 (p := 231) (b := 17) ((((hF2283.1 231 17 (by decide)).trans (hF2271.1 231 17 (by decide))).trans hv7))
      have x3563 := HI.eqI hI2282 (p := 231) (b := 23) ((((hF2283.1 231 23 (by decide)).trans (hF2271.1 231 23 (by decide))).trans hv8))
      obtain ⟨v3564, hv3564⟩ : ∃ v, gI g3555 231 17 = v := ⟨_, rfl⟩
      have rv3564 := RgF.at hI3556.2.1 (p := 231) (b := 17) rfl
      rw [hv3564] at rv3564
      dsimp only at rv3564
      have tv3564 := congrArg Int32.toInt hv3564
      have x3565 := HI.eqI hI3556 (p := 231) (b := 17) (hv3564)
      obtain ⟨v3566, hv3566⟩ : ∃ v, gI g3555 231 23 = v := ⟨_, rfl⟩
      have rv3566 := RgF.at hI3556.2.1 (p := 231) (b := 23) rfl
      rw [hv3566] at rv3566
      dsimp only at rv3566
      have tv3566 := congrArg Int32.toInt hv3566
      have x3567 := HI.eqI hI3556 (p := 231) (b := 23) (hv3566)
      have y3568 : (gI _ 231 23).toInt ≤ (gI _ 231 23).toInt := hr3559.1
      have y3569 : (gI _ 231 17).toInt + (gI _ 231 23).toInt ≤ (gI _ 231 17).toInt + (gI _ 231 23).toInt := hr3559.2.1
      have pg3570 := PG.cong (hP.2.1 (by decide)) hI2282 (((hF2283.2.1 238 (by decide)).trans (hF2271.2.1 238 (by decide)))) (((hF2283.2.1 239 (by decide)).trans (hF2271.2.1 239 (by decide)))) (((hF2283.2.1 240 (by decide)).trans (hF2271.2.1 240 (by decide)))) (((hF2283.2.1 241 (by decide)).trans (hF2271.2.1 241 (by decide)))) (((hF2283.1 231 17 (by decide)).trans (hF2271.1 231 17 (by decide)))) (((hF2283.1 231 23 (by decide)).trans (hF2271.1 231 23 (by decide))))
      have pg3571 := hr3559.2.2.1 _ _ _ pg3570
      refine At.enter rfl ?_
      refine r_aload_n rfl ?_
      refine r_iload_n rfl ?_
      refine r_iconst 0 rfl ?_
      have x3572 := HI.eqI hI3556 (p := 231) (b := 23) (hv3566)
      have zv3573 : (21 : Int32).toInt = 21 := rfl
      have zv3574 : (0 : Int32).toInt = 0 := rfl
      refine r_callV 77 rfl [.ref 231, .int 21, .int 0] [] (Nat.le_of_ble_eq_true rfl) rfl (T_X11_push_231 _ hI3556 21 (by decide) 0 (by decide) (by omega)) ?_
      rintro _ _ ⟨g3575, rfl, hI3576, hF3577, rfl, hr3579⟩
      refine At.stn ?_
      have hF3580 := Fr.tr hF3560 hF3577 rfl rfl
      have zv3581 : (21 : Int32).toInt = 21 := rfl
      have zv3582 : (0 : Int32).toInt = 0 := rfl
      have x3583 := HI.eqI hI3556 (p := 231) (b := 17) (hv3564)
      have x3584 := HI.eqI hI3556 (p := 231) (b := 23) (hv3566)
      have x3585 := HI.eqI hI3576 (p := 231) (b := 17) (((hF3577.1 231 17 (by decide)).trans hv3564))
      obtain ⟨v3586, hv3586⟩ : ∃ v, gI g3575 231 23 = v := ⟨_, rfl⟩
      have rv3586 := RgF.at hI3576.2.1 (p := 231) (b := 23) rfl
      rw [hv3586] at rv3586
      dsimp only at rv3586
      have tv3586 := congrArg Int32.toInt hv3586
      have x3587 := HI.eqI hI3576 (p := 231) (b := 23) (hv3586)
      have y3588 : (gI _ 231 23).toInt = (gI _ 231 23).toInt + 1 := hr3579.1
      have pg3589 := PG.push (e' := 0) pg3571 hr3579 (hF3577.2.1 238 (by decide)) (hF3577.2.1 239 (by decide)) (hF3577.1 231 17 (by decide)) ⟨by omega, by omega⟩ (Or.inl (by omega)) (by omega) (by omega)
      refine At.enter rfl ?_
      refine r_aload_n rfl ?_
      have x3590 := HI.eqI hI3576 (p := 231) (b := 8) ((((hF3577.1 231 8 (by decide)).trans ((hF3557.1 231 8 (by decide)).trans ((hF2283.1 231 8 (by decide)).trans (hF2271.1 231 8 (by decide))))).trans hv1))
      have x3591 := HI.eqI hI3576 (p := 231) (b := 10) ((((hF3577.1 231 10 (by decide)).trans ((hF3557.1 231 10 (by decide)).trans ((hF2283.1 231 10 (by decide)).trans (hF2271.1 231 10 (by decide))))).trans hv3))
      refine r_callV 81 rfl [.ref 231] [] (Nat.le_of_ble_eq_true rfl) rfl (T_X11_next_231 _ hI3576 (by omega)) ?_
      rintro _ _ ⟨g3592, rfl, hI3593, hF3594, rfl, hr3596⟩
      refine At.stn ?_
      have hF3597 := Fr.tr hF3580 hF3594 rfl rfl
      have x3598 := HI.eqI hI3576 (p := 231) (b := 8) ((((hF3577.1 231 8 (by decide)).trans ((hF3557.1 231 8 (by decide)).trans ((hF2283.1 231 8 (by decide)).trans (hF2271.1 231 8 (by decide))))).trans hv1))
      have x3599 := HI.eqI hI3576 (p := 231) (b := 10) ((((hF3577.1 231 10 (by decide)).trans ((hF3557.1 231 10 (by decide)).trans ((hF2283.1 231 10 (by decide)).trans (hF2271.1 231 10 (by decide))))).trans hv3))
      have x3600 := HI.eqI hI3593 (p := 231) (b := 8) ((((hF3594.1 231 8 (by decide)).trans ((hF3577.1 231 8 (by decide)).trans ((hF3557.1 231 8 (by decide)).trans ((hF2283.1 231 8 (by decide)).trans (hF2271.1 231 8 (by decide)))))).trans hv1))
      obtain ⟨v3601, hv3601⟩ : ∃ v, gI g3592 231 9 = v := ⟨_, rfl⟩
      have rv3601 := RgF.at hI3593.2.1 (p := 231) (b := 9) rfl
      rw [hv3601] at rv3601
      dsimp only at rv3601
      have tv3601 := congrArg Int32.toInt hv3601
      have x3602 := HI.eqI hI3593 (p := 231) (b := 9) (hv3601)
      obtain ⟨v3603, hv3603⟩ : ∃ v, gI g3592 231 10 = v := ⟨_, rfl⟩
      have rv3603 := RgF.at hI3593.2.1 (p := 231) (b := 10) rfl
      rw [hv3603] at rv3603
      dsimp only at rv3603
      have tv3603 := congrArg Int32.toInt hv3603
      have x3604 := HI.eqI hI3593 (p := 231) (b := 10) (hv3603)
      obtain ⟨v3605, hv3605⟩ : ∃ v, gI g3592 231 11 = v := ⟨_, rfl⟩
      have tv3605 := congrArg Int32.toInt hv3605
      have x3606 := HI.eqI hI3593 (p := 231) (b := 11) (hv3605)
      obtain ⟨c3607, c3608, c3609, c3610, c3611, c3612⟩ := hr3596
      refine At.enter rfl ?_
      refine r_iconst 1 rfl ?_
      refine r_ireti ?_
      have x3613 := HI.eqI hI3593 (p := 231) (b := 8) ((((hF3594.1 231 8 (by decide)).trans ((hF3577.1 231 8 (by decide)).trans ((hF3557.1 231 8 (by decide)).trans ((hF2283.1 231 8 (by decide)).trans (hF2271.1 231 8 (by decide)))))).trans hv1))
      have x3614 := HI.eqI hI3593 (p := 231) (b := 9) (hv3601)
      have x3615 := HI.eqI hI3593 (p := 231) (b := 10) (hv3603)
      have x3616 := HI.eqI hI3593 (p := 231) (b := 11) (hv3605)
      obtain ⟨v3617, hv3617⟩ : ∃ v, gJ g3592 231 12 = v := ⟨_, rfl⟩
      have x3618 := HI.eqJ hI3593 (b := 12) (hv3617)
      have x3619 := HI.eqI hI3593 (p := 231) (b := 14) ((((hF3594.1 231 14 (by decide)).trans ((hF3577.1 231 14 (by decide)).trans ((hF3557.1 231 14 (by decide)).trans ((hF2283.1 231 14 (by decide)).trans (hF2271.1 231 14 (by decide)))))).trans hv6))
      have x3620 := HI.eqI hI3593 (p := 231) (b := 17) ((((hF3594.1 231 17 (by decide)).trans (hF3577.1 231 17 (by decide))).trans hv3564))
      have x3621 := HI.eqI hI3593 (p := 231) (b := 23) (((hF3594.1 231 23 (by decide)).trans hv3586))
      have x3622 := HI.eqI hI0 (p := 231) (b := 9) (hv2)
      have zv3623 : (1 : Int32).toInt = 1 := rfl
      have pg3624 := PG.cong pg3589 hI3593 ((hF3594.2.1 238 (by decide))) ((hF3594.2.1 239 (by decide))) ((hF3594.2.1 240 (by decide))) ((hF3594.2.1 241 (by decide))) ((hF3594.1 231 17 (by decide))) ((hF3594.1 231 23 (by decide)))
      exact ⟨_, rfl, hI3593, hF3597, _, rfl, by decide, ⟨by omega, by omega, by omega, by omega, c3612, by omega, by omega, (fun hbad => ⟨by omega, (PT.mk (fun _ => pg3624) (fun h => False.elim (by omega)) (fun h h9 => False.elim (by omega)) (fun h => False.elim (by omega)))⟩), (fun hbad => by omega)⟩⟩
  · have c2278_ : v2272.toInt ≠ 0 := en_k_eq_f c2278
    refine At.enter rfl ?_
    refine r_bipush 20 rfl ?_
    refine r_goto ?_
    refine At.enter rfl ?_
    refine r_istore_n ([(2, .int 20), (0, .ref 231), (1, .int a1)]) rfl ?_
    refine r_iload_n rfl ?_
    refine r_iconst (-1) rfl ?_
    refine r_icf 63 rfl (by decide) ?_
    refine At.enter rfl ?_
    refine r_aload_n rfl ?_
    refine r_iload_n rfl ?_
    refine q_inlS 68 rfl [.int 20] [.ref 231] (Nat.le_of_ble_eq_true rfl) rfl ?_
    refine Ev.mk rfl rfl ⟨Nat.le_of_ble_eq_true rfl, Or.inl rfl⟩ ?_
    show At _ none _ _ (0, [(0, .int 20)], [], (_, _)) _
    refine At.enter rfl ?_
    refine r_iload_n rfl ?_
    refine r_bipush 30 rfl ?_
    refine r_ict (by decide) ?_
    refine At.enter rfl ?_
    refine r_iload_n rfl ?_
    refine r_bipush 29 rfl ?_
    refine r_ict (by decide) ?_
    refine At.enter rfl ?_
    refine r_iload_n rfl ?_
    refine r_bipush 28 rfl ?_
    refine r_ict (by decide) ?_
    refine At.enter rfl ?_
    refine r_iload_n rfl ?_
    refine r_bipush 27 rfl ?_
    refine r_ict (by decide) ?_
    refine At.enter rfl ?_
    refine r_iload_n rfl ?_
    refine r_bipush 24 rfl ?_
    refine r_ict (by decide) ?_
    refine At.enter rfl ?_
    refine r_iload_n rfl ?_
    refine r_bipush 22 rfl ?_
    refine r_ict (by decide) ?_
    refine At.enter rfl ?_
    refine r_iconst 5 rfl ?_
    refine Ar.fall 62 rfl ?_
    refine At.enter rfl ?_
    refine q_ireti ?_
    refine At.enter rfl ?_
    have x3625 := HI.eqI hI2270 (p := 231) (b := 17) (((hF2271.1 231 17 (by decide)).trans hv7))
    have x3626 := HI.eqI hI2270 (p := 231) (b := 23) (((hF2271.1 231 23 (by decide)).trans hv8))
    have zv3627 : (5 : Int32).toInt = 5 := rfl
    refine r_callV 71 rfl [.ref 231, .int 5] [] (Nat.le_of_ble_eq_true rfl) rfl (T_X11_settle_231 _ hI2270 5 (by decide) (by omega)) ?_
    rintro _ _ ⟨g3628, rfl, hI3629, hF3630, rfl, hr3632⟩
    refine At.stn ?_
    have hF3633 := Fr.tr hF2274 hF3630 rfl rfl
    have zv3634 : (5 : Int32).toInt = 5 := rfl
    have x3635 := HI.eqI hI2270 (p := 231) (b := 17) (((hF2271.1 231 17 (by decide)).trans hv7))
    have x3636 := HI.eqI hI2270 (p := 231) (b := 23) (((hF2271.1 231 23 (by decide)).trans hv8))
    obtain ⟨v3637, hv3637⟩ : ∃ v, gI g3628 231 17 = v := ⟨_, rfl⟩
    have rv3637 := RgF.at hI3629.2.1 (p := 231) (b := 17) rfl
    rw [hv3637] at rv3637
    dsimp only at rv3637
    have tv3637 := congrArg Int32.toInt hv3637
    have x3638 := HI.eqI hI3629 (p := 231) (b := 17) (hv3637)
    obtain ⟨v3639, hv3639⟩ : ∃ v, gI g3628 231 23 = v := ⟨_, rfl⟩
    have rv3639 := RgF.at hI3629.2.1 (p := 231) (b := 23) rfl
    rw [hv3639] at rv3639
    dsimp only at rv3639
    have tv3639 := congrArg Int32.toInt hv3639
    have x3640 := HI.eqI hI3629 (p := 231) (b := 23) (hv3639)
    have y3641 : (gI _ 231 23).toInt ≤ (gI _ 231 23).toInt := hr3632.1
    have y3642 : (gI _ 231 17).toInt + (gI _ 231 23).toInt ≤ (gI _ 231 17).toInt + (gI _ 231 23).toInt := hr3632.2.1
    have pg3643 := PG.cong (hP.2.1 (by decide)) hI2270 ((hF2271.2.1 238 (by decide))) ((hF2271.2.1 239 (by decide))) ((hF2271.2.1 240 (by decide))) ((hF2271.2.1 241 (by decide))) ((hF2271.1 231 17 (by decide))) ((hF2271.1 231 23 (by decide)))
    have pg3644 := hr3632.2.2.1 _ _ _ pg3643
    refine At.enter rfl ?_
    refine r_aload_n rfl ?_
    refine r_iload_n rfl ?_
    refine r_iconst 0 rfl ?_
    have x3645 := HI.eqI hI3629 (p := 231) (b := 23) (hv3639)
    have zv3646 : (20 : Int32).toInt = 20 := rfl
    have zv3647 : (0 : Int32).toInt = 0 := rfl
    refine r_callV 77 rfl [.ref 231, .int 20, .int 0] [] (Nat.le_of_ble_eq_true rfl) rfl (T_X11_push_231 _ hI3629 20 (by decide) 0 (by decide) (by omega)) ?_
    rintro _ _ ⟨g3648, rfl, hI3649, hF3650, rfl, hr3652⟩
    refine At.stn ?_
    have hF3653 := Fr.tr hF3633 hF3650 rfl rfl
    have zv3654 : (20 : Int32).toInt = 20 := rfl
    have zv3655 : (0 : Int32).toInt = 0 := rfl
    have x3656 := HI.eqI hI3629 (p := 231) (b := 17) (hv3637)
    have x3657 := HI.eqI hI3629 (p := 231) (b := 23) (hv3639)
    have x3658 := HI.eqI hI3649 (p := 231) (b := 17) (((hF3650.1 231 17 (by decide)).trans hv3637))
    obtain ⟨v3659, hv3659⟩ : ∃ v, gI g3648 231 23 = v := ⟨_, rfl⟩
    have rv3659 := RgF.at hI3649.2.1 (p := 231) (b := 23) rfl
    rw [hv3659] at rv3659
    dsimp only at rv3659
    have tv3659 := congrArg Int32.toInt hv3659
    have x3660 := HI.eqI hI3649 (p := 231) (b := 23) (hv3659)
    have y3661 : (gI _ 231 23).toInt = (gI _ 231 23).toInt + 1 := hr3652.1
    have pg3662 := PG.push (e' := 0) pg3644 hr3652 (hF3650.2.1 238 (by decide)) (hF3650.2.1 239 (by decide)) (hF3650.1 231 17 (by decide)) ⟨by omega, by omega⟩ (Or.inl (by omega)) (by omega) (by omega)
    refine At.enter rfl ?_
    refine r_aload_n rfl ?_
    have x3663 := HI.eqI hI3649 (p := 231) (b := 8) ((((hF3650.1 231 8 (by decide)).trans ((hF3630.1 231 8 (by decide)).trans (hF2271.1 231 8 (by decide)))).trans hv1))
    have x3664 := HI.eqI hI3649 (p := 231) (b := 10) ((((hF3650.1 231 10 (by decide)).trans ((hF3630.1 231 10 (by decide)).trans (hF2271.1 231 10 (by decide)))).trans hv3))
    refine r_callV 81 rfl [.ref 231] [] (Nat.le_of_ble_eq_true rfl) rfl (T_X11_next_231 _ hI3649 (by omega)) ?_
    rintro _ _ ⟨g3665, rfl, hI3666, hF3667, rfl, hr3669⟩
    refine At.stn ?_
    have hF3670 := Fr.tr hF3653 hF3667 rfl rfl
    have x3671 := HI.eqI hI3649 (p := 231) (b := 8) ((((hF3650.1 231 8 (by decide)).trans ((hF3630.1 231 8 (by decide)).trans (hF2271.1 231 8 (by decide)))).trans hv1))
    have x3672 := HI.eqI hI3649 (p := 231) (b := 10) ((((hF3650.1 231 10 (by decide)).trans ((hF3630.1 231 10 (by decide)).trans (hF2271.1 231 10 (by decide)))).trans hv3))
    have x3673 := HI.eqI hI3666 (p := 231) (b := 8) ((((hF3667.1 231 8 (by decide)).trans ((hF3650.1 231 8 (by decide)).trans ((hF3630.1 231 8 (by decide)).trans (hF2271.1 231 8 (by decide))))).trans hv1))
    obtain ⟨v3674, hv3674⟩ : ∃ v, gI g3665 231 9 = v := ⟨_, rfl⟩
    have rv3674 := RgF.at hI3666.2.1 (p := 231) (b := 9) rfl
    rw [hv3674] at rv3674
    dsimp only at rv3674
    have tv3674 := congrArg Int32.toInt hv3674
    have x3675 := HI.eqI hI3666 (p := 231) (b := 9) (hv3674)
    obtain ⟨v3676, hv3676⟩ : ∃ v, gI g3665 231 10 = v := ⟨_, rfl⟩
    have rv3676 := RgF.at hI3666.2.1 (p := 231) (b := 10) rfl
    rw [hv3676] at rv3676
    dsimp only at rv3676
    have tv3676 := congrArg Int32.toInt hv3676
    have x3677 := HI.eqI hI3666 (p := 231) (b := 10) (hv3676)
    obtain ⟨v3678, hv3678⟩ : ∃ v, gI g3665 231 11 = v := ⟨_, rfl⟩
    have tv3678 := congrArg Int32.toInt hv3678
    have x3679 := HI.eqI hI3666 (p := 231) (b := 11) (hv3678)
    obtain ⟨c3680, c3681, c3682, c3683, c3684, c3685⟩ := hr3669
    refine At.enter rfl ?_
    refine r_iconst 1 rfl ?_
    refine r_ireti ?_
    have x3686 := HI.eqI hI3666 (p := 231) (b := 8) ((((hF3667.1 231 8 (by decide)).trans ((hF3650.1 231 8 (by decide)).trans ((hF3630.1 231 8 (by decide)).trans (hF2271.1 231 8 (by decide))))).trans hv1))
    have x3687 := HI.eqI hI3666 (p := 231) (b := 9) (hv3674)
    have x3688 := HI.eqI hI3666 (p := 231) (b := 10) (hv3676)
    have x3689 := HI.eqI hI3666 (p := 231) (b := 11) (hv3678)
    obtain ⟨v3690, hv3690⟩ : ∃ v, gJ g3665 231 12 = v := ⟨_, rfl⟩
    have x3691 := HI.eqJ hI3666 (b := 12) (hv3690)
    have x3692 := HI.eqI hI3666 (p := 231) (b := 14) ((((hF3667.1 231 14 (by decide)).trans ((hF3650.1 231 14 (by decide)).trans ((hF3630.1 231 14 (by decide)).trans (hF2271.1 231 14 (by decide))))).trans hv6))
    have x3693 := HI.eqI hI3666 (p := 231) (b := 17) ((((hF3667.1 231 17 (by decide)).trans (hF3650.1 231 17 (by decide))).trans hv3637))
    have x3694 := HI.eqI hI3666 (p := 231) (b := 23) (((hF3667.1 231 23 (by decide)).trans hv3659))
    have x3695 := HI.eqI hI0 (p := 231) (b := 9) (hv2)
    have zv3696 : (1 : Int32).toInt = 1 := rfl
    have pg3697 := PG.cong pg3662 hI3666 ((hF3667.2.1 238 (by decide))) ((hF3667.2.1 239 (by decide))) ((hF3667.2.1 240 (by decide))) ((hF3667.2.1 241 (by decide))) ((hF3667.1 231 17 (by decide))) ((hF3667.1 231 23 (by decide)))
    exact ⟨_, rfl, hI3666, hF3670, _, rfl, by decide, ⟨by omega, by omega, by omega, by omega, c3685, by omega, by omega, (fun hbad => ⟨by omega, (PT.mk (fun _ => pg3697) (fun h => False.elim (by omega)) (fun h h9 => False.elim (by omega)) (fun h => False.elim (by omega)))⟩), (fun hbad => by omega)⟩⟩
