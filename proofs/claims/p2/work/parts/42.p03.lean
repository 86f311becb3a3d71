def F_X11_law_231 : List (Nat × Nat) := [(231, 0), (231, 1), (231, 8), (231, 9), (231, 10), (231, 11), (231, 12), (231, 13), (231, 14), (231, 15), (231, 17), (231, 20), (231, 23), (231, 24)]
def A_X11_law_231 : List Nat := [232, 233, 237, 238, 239, 240, 241]
set_option maxRecDepth 100000 in
set_option maxHeartbeats 4000000 in
theorem T_X11_law_231 (d : Nat) {N : Nat} {g0 : List en_E} (hI0 : HI g0) : Ev (d + 9) 210 [.ref 231] (g0, N) (fun w h' => ∃ g', h' = (g', N) ∧ HI g' ∧ Fr F_X11_law_231 A_X11_law_231 g0 g' ∧ ∃ r : Int32, w = some (.int r) ∧ ((-6) ≤ r.toInt ∧ r.toInt ≤ 5) ∧ (∀ i : Int, 0 ≤ i → i < 110 → i ≠ 2 → eA g' 233 i = eA g0 233 i)) := by
  have hF0 : Fr F_X11_law_231 A_X11_law_231 g0 g0 := Fr.rf
  obtain ⟨v1, hv1⟩ : ∃ v, gI g0 231 8 = v := ⟨_, rfl⟩
  have rv1 := RgF.at hI0.2.1 (p := 231) (b := 8) rfl
  rw [hv1] at rv1
  dsimp only at rv1
  have tv1 := congrArg Int32.toInt hv1
  refine Ev.mk rfl rfl ⟨Nat.le_of_ble_eq_true rfl, Or.inr (q_rc hI0.1 kx_231 rfl)⟩ ?_
  show At _ none _ _ (0, [(0, .ref 231)], [], (_, _)) _
  refine At.enter rfl ?_
  refine r_aload_n rfl ?_
  refine r_iconst 0 rfl ?_
  refine q_putI (Sh.int hI0.1 kx_231 rfl) rfl ?_
  have hI213958 := HI.wI0 hI0 kx_231 rfl (p := 231) (b := 0) (v := 0) rfl
  have hF213959 := Fr.wI (p := 231) (b := 0) (v := 0) hF0 rfl
  refine r_aload_n rfl ?_
  refine q_getR (Sh.ref hI213958.1 kx_231 rfl) ?_
  refine r_iconst 2 rfl ?_
  obtain ⟨v213960, hv213960⟩ : ∃ v, eA g0 233 2 = v := ⟨_, rfl⟩
  have tv213960 := congrArg Int32.toInt hv213960
  have wv213960 := HI.t2 hI0
  rw [hv213960] at wv213960
  refine q_iald (Sh.arr hI213958.1 ka_233) 2 rfl (by decide) v213960 ((eA_c (gA_sI)).trans hv213960) ?_
  refine r_bipush 6 rfl ?_
  refine r_ics 16 rfl (fun c213961 => ?_) (fun c213961 => ?_)
  · have c213961_ : v213960.toInt ≠ 6 := en_i_ne_t c213961
    refine At.enter rfl ?_
    refine r_aload_n rfl ?_
    refine q_inlV 32 rfl [.ref 231] [] (Nat.le_of_ble_eq_true rfl) rfl ?_
    refine Ev.mk rfl rfl ⟨Nat.le_of_ble_eq_true rfl, Or.inr (q_rc hI213958.1 kx_231 rfl)⟩ ?_
    show At _ none _ _ (0, [(0, .ref 231)], [], (_, _)) _
    refine At.enter rfl ?_
    refine r_aload_n rfl ?_
    refine r_iconst 0 rfl ?_
    refine q_putI (Sh.int hI213958.1 kx_231 rfl) rfl ?_
    have hI213962 := HI.wI1 hI213958 kx_231 rfl (p := 231) (b := 10) (v := 0) rfl (by decide)
    have hF213963 := Fr.wI (p := 231) (b := 10) (v := 0) hF213959 rfl
    refine r_aload_n rfl ?_
    refine r_iconst 0 rfl ?_
    refine q_putI (Sh.int hI213962.1 kx_231 rfl) rfl ?_
    have hI213964 := HI.wI0 hI213962 kx_231 rfl (p := 231) (b := 14) (v := 0) rfl
    have hF213965 := Fr.wI (p := 231) (b := 14) (v := 0) hF213963 rfl
    refine r_aload_n rfl ?_
    refine r_iconst (-1) rfl ?_
    refine q_putI (Sh.int hI213964.1 kx_231 rfl) rfl ?_
    have hI213966 := HI.wI0 hI213964 kx_231 rfl (p := 231) (b := 13) (v := (-1)) rfl
    have hF213967 := Fr.wI (p := 231) (b := 13) (v := (-1)) hF213965 rfl
    refine r_aload_n rfl ?_
    have x213968 := HI.eqI hI213966 (p := 231) (b := 8) ((((gI_sI_ne (by decide)).trans ((gI_sI_ne (by decide)).trans ((gI_sI_ne (by decide)).trans (gI_sI_ne (by decide))))).trans hv1))
    have x213969 := HI.eqI hI213966 (p := 231) (b := 10) (((gI_sI_ne (by decide)).trans ((gI_sI_ne (by decide)).trans (gI_sI_eq hI213958.1 kx_231 rfl _))))
    have zv213970 : (0 : Int32).toInt = 0 := rfl
    refine r_callV 19 rfl [.ref 231] [] (Nat.le_of_ble_eq_true rfl) rfl (T_X11_next_231 _ hI213966 (by omega)) ?_
    rintro _ _ ⟨g213971, rfl, hI213972, hF213973, rfl, hr213975⟩
    refine At.stn ?_
    have hF213976 := Fr.tr hF213967 hF213973 rfl rfl
    have x213977 := HI.eqI hI213966 (p := 231) (b := 8) ((((gI_sI_ne (by decide)).trans ((gI_sI_ne (by decide)).trans ((gI_sI_ne (by decide)).trans (gI_sI_ne (by decide))))).trans hv1))
    have x213978 := HI.eqI hI213966 (p := 231) (b := 10) (((gI_sI_ne (by decide)).trans ((gI_sI_ne (by decide)).trans (gI_sI_eq hI213958.1 kx_231 rfl _))))
    have zv213979 : (0 : Int32).toInt = 0 := rfl
    have x213980 := HI.eqI hI213972 (p := 231) (b := 8) ((((hF213973.1 231 8 (by decide)).trans ((gI_sI_ne (by decide)).trans ((gI_sI_ne (by decide)).trans ((gI_sI_ne (by decide)).trans (gI_sI_ne (by decide)))))).trans hv1))
    obtain ⟨v213981, hv213981⟩ : ∃ v, gI g213971 231 9 = v := ⟨_, rfl⟩
    have rv213981 := RgF.at hI213972.2.1 (p := 231) (b := 9) rfl
    rw [hv213981] at rv213981
    dsimp only at rv213981
    have tv213981 := congrArg Int32.toInt hv213981
    have x213982 := HI.eqI hI213972 (p := 231) (b := 9) (hv213981)
    obtain ⟨v213983, hv213983⟩ : ∃ v, gI g213971 231 10 = v := ⟨_, rfl⟩
    have rv213983 := RgF.at hI213972.2.1 (p := 231) (b := 10) rfl
    rw [hv213983] at rv213983
    dsimp only at rv213983
    have tv213983 := congrArg Int32.toInt hv213983
    have x213984 := HI.eqI hI213972 (p := 231) (b := 10) (hv213983)
    obtain ⟨v213985, hv213985⟩ : ∃ v, gI g213971 231 11 = v := ⟨_, rfl⟩
    have tv213985 := congrArg Int32.toInt hv213985
    have x213986 := HI.eqI hI213972 (p := 231) (b := 11) (hv213985)
    obtain ⟨c213987, c213988, c213989, c213990, c213991, c213992⟩ := hr213975
    refine At.enter rfl ?_
    refine q_vret ?_
    refine At.enter rfl ?_
    refine r_aload_n rfl ?_
    refine r_iconst 0 rfl ?_
    refine q_putI (Sh.int hI213972.1 kx_231 rfl) rfl ?_
    have hI213993 := HI.wI1 hI213972 kx_231 rfl (p := 231) (b := 15) (v := 0) rfl (by decide)
    have hF213994 := Fr.wI (p := 231) (b := 15) (v := 0) hF213976 rfl
    refine r_aload_n rfl ?_
    refine r_iconst 0 rfl ?_
    refine q_putI (Sh.int hI213993.1 kx_231 rfl) rfl ?_
    have hI213995 := HI.wI1 hI213993 kx_231 rfl (p := 231) (b := 17) (v := 0) rfl (by decide)
    have hF213996 := Fr.wI (p := 231) (b := 17) (v := 0) hF213994 rfl
    refine r_aload_n rfl ?_
    refine r_iconst 0 rfl ?_
    refine q_putI (Sh.int hI213995.1 kx_231 rfl) rfl ?_
    have hI213997 := HI.wI0 hI213995 kx_231 rfl (p := 231) (b := 20) (v := 0) rfl
    have hF213998 := Fr.wI (p := 231) (b := 20) (v := 0) hF213996 rfl
    refine r_aload_n rfl ?_
    have x213999 := HI.eqI hI213997 (p := 231) (b := 8) ((((gI_sI_ne (by decide)).trans ((gI_sI_ne (by decide)).trans ((gI_sI_ne (by decide)).trans ((hF213973.1 231 8 (by decide)).trans ((gI_sI_ne (by decide)).trans ((gI_sI_ne (by decide)).trans ((gI_sI_ne (by decide)).trans (gI_sI_ne (by decide))))))))).trans hv1))
    have x214000 := HI.eqI hI213997 (p := 231) (b := 9) ((((gI_sI_ne (by decide)).trans ((gI_sI_ne (by decide)).trans (gI_sI_ne (by decide)))).trans hv213981))
    have x214001 := HI.eqI hI213997 (p := 231) (b := 10) ((((gI_sI_ne (by decide)).trans ((gI_sI_ne (by decide)).trans (gI_sI_ne (by decide)))).trans hv213983))
    have x214002 := HI.eqI hI213997 (p := 231) (b := 11) ((((gI_sI_ne (by decide)).trans ((gI_sI_ne (by decide)).trans (gI_sI_ne (by decide)))).trans hv213985))
    have x214003 := HI.eqI hI213997 (p := 231) (b := 14) (((gI_sI_ne (by decide)).trans ((gI_sI_ne (by decide)).trans ((gI_sI_ne (by decide)).trans ((hF213973.1 231 14 (by decide)).trans ((gI_sI_ne (by decide)).trans (gI_sI_eq hI213962.1 kx_231 rfl _)))))))
    have zv214004 : (0 : Int32).toInt = 0 := rfl
    have x214005 := HI.eqI hI213997 (p := 231) (b := 15) (((gI_sI_ne (by decide)).trans ((gI_sI_ne (by decide)).trans (gI_sI_eq hI213972.1 kx_231 rfl _))))
    have zv214006 : (0 : Int32).toInt = 0 := rfl
    have x214007 := HI.eqI hI213997 (p := 231) (b := 17) (((gI_sI_ne (by decide)).trans (gI_sI_eq hI213993.1 kx_231 rfl _)))
    have zv214008 : (0 : Int32).toInt = 0 := rfl
    have w26214009 := W26.cong c213992 hI213997 (((gI_sI_ne (by decide)).trans ((gI_sI_ne (by decide)).trans (gI_sI_ne (by decide))))) (((gI_sI_ne (by decide)).trans ((gI_sI_ne (by decide)).trans (gI_sI_ne (by decide))))) (((gI_sI_ne (by decide)).trans ((gI_sI_ne (by decide)).trans (gI_sI_ne (by decide))))) (((gJ_sI_ne (by decide)).trans ((gJ_sI_ne (by decide)).trans (gJ_sI_ne (by decide)))))
    refine r_callV 51 rfl [.ref 231] [] (Nat.le_of_ble_eq_true rfl) rfl (T_X11_readClause_231 _ hI213997 (by refine ⟨?_, ?_, ?_, ?_⟩ <;> omega) (by omega) (by omega) w26214009 (CLS.zero0 (by omega))) ?_
    rintro _ _ ⟨g214010, rfl, hI214011, hF214012, rfl, hr214014⟩
    refine At.stn ?_
    have hF214015 := Fr.tr hF213998 hF214012 rfl rfl
    have x214016 := HI.eqI hI213997 (p := 231) (b := 9) ((((gI_sI_ne (by decide)).trans ((gI_sI_ne (by decide)).trans (gI_sI_ne (by decide)))).trans hv213981))
    have x214017 := HI.eqI hI214011 (p := 231) (b := 8) ((((hF214012.1 231 8 (by decide)).trans ((gI_sI_ne (by decide)).trans ((gI_sI_ne (by decide)).trans ((gI_sI_ne (by decide)).trans ((hF213973.1 231 8 (by decide)).trans ((gI_sI_ne (by decide)).trans ((gI_sI_ne (by decide)).trans ((gI_sI_ne (by decide)).trans (gI_sI_ne (by decide)))))))))).trans hv1))
    obtain ⟨v214018, hv214018⟩ : ∃ v, gI g214010 231 9 = v := ⟨_, rfl⟩
    have rv214018 := RgF.at hI214011.2.1 (p := 231) (b := 9) rfl
    rw [hv214018] at rv214018
    dsimp only at rv214018
    have tv214018 := congrArg Int32.toInt hv214018
    have x214019 := HI.eqI hI214011 (p := 231) (b := 9) (hv214018)
    obtain ⟨v214020, hv214020⟩ : ∃ v, gI g214010 231 10 = v := ⟨_, rfl⟩
    have rv214020 := RgF.at hI214011.2.1 (p := 231) (b := 10) rfl
    rw [hv214020] at rv214020
    dsimp only at rv214020
    have tv214020 := congrArg Int32.toInt hv214020
    have x214021 := HI.eqI hI214011 (p := 231) (b := 10) (hv214020)
    obtain ⟨v214022, hv214022⟩ : ∃ v, gI g214010 231 11 = v := ⟨_, rfl⟩
    have tv214022 := congrArg Int32.toInt hv214022
    have x214023 := HI.eqI hI214011 (p := 231) (b := 11) (hv214022)
    obtain ⟨v214024, hv214024⟩ : ∃ v, gI g214010 231 14 = v := ⟨_, rfl⟩
    have tv214024 := congrArg Int32.toInt hv214024
    have x214025 := HI.eqI hI214011 (p := 231) (b := 14) (hv214024)
    obtain ⟨v214026, hv214026⟩ : ∃ v, gI g214010 231 15 = v := ⟨_, rfl⟩
    have rv214026 := RgF.at hI214011.2.1 (p := 231) (b := 15) rfl
    rw [hv214026] at rv214026
    dsimp only at rv214026
    have tv214026 := congrArg Int32.toInt hv214026
    have x214027 := HI.eqI hI214011 (p := 231) (b := 15) (hv214026)
    obtain ⟨v214028, hv214028⟩ : ∃ v, gI g214010 231 17 = v := ⟨_, rfl⟩
    have rv214028 := RgF.at hI214011.2.1 (p := 231) (b := 17) rfl
    rw [hv214028] at rv214028
    dsimp only at rv214028
    have tv214028 := congrArg Int32.toInt hv214028
    have x214029 := HI.eqI hI214011 (p := 231) (b := 17) (hv214028)
    obtain ⟨c214030, c214031, c214032, c214033, c214034, c214035, c214036⟩ := hr214014
    have x267487 := HI.eqI hI214011 (p := 231) (b := 8) ((((hF214012.1 231 8 (by decide)).trans ((gI_sI_ne (by decide)).trans ((gI_sI_ne (by decide)).trans ((gI_sI_ne (by decide)).trans ((hF213973.1 231 8 (by decide)).trans ((gI_sI_ne (by decide)).trans ((gI_sI_ne (by decide)).trans ((gI_sI_ne (by decide)).trans (gI_sI_ne (by decide)))))))))).trans hv1))
    have x267488 := HI.eqI hI214011 (p := 231) (b := 9) (hv214018)
    have x267489 := HI.eqI hI214011 (p := 231) (b := 10) (hv214020)
    have x267490 := HI.eqI hI214011 (p := 231) (b := 11) (hv214022)
    have x267491 := HI.eqI hI214011 (p := 231) (b := 14) (hv214024)
    have x267492 := HI.eqI hI214011 (p := 231) (b := 15) (hv214026)
    have x267493 := HI.eqI hI214011 (p := 231) (b := 17) (hv214028)
    refine w_loopI (fun n_ l_ g_ => ∃ x267470 : Int32, n_ = 400 - x267470.toInt ∧ HI g_ ∧ Fr F_X11_law_231 A_X11_law_231 g0 g_ ∧ gI g_ 231 9 = x267470 ∧ en_get 0 l_ = some (.ref 231) ∧ (0 ≤ x267470.toInt ∧ x267470.toInt ≤ 400) ∧ (Fr [(231, 0), (231, 9), (231, 10), (231, 11), (231, 12), (231, 13), (231, 14), (231, 15), (231, 17), (231, 20), (231, 23), (231, 24)] [237, 238, 239, 240, 241] g0 g_) ∧ ((gI g_ 231 9).toInt ≤ (gI g_ 231 10).toInt) ∧ ((gI g_ 231 10).toInt ≤ (gI g_ 231 8).toInt) ∧ (0 ≤ (gI g_ 231 11).toInt) ∧ ((gI g_ 231 11).toInt ≤ 3 * ((gI g_ 231 10).toInt - (gI g_ 231 9).toInt)) ∧ (W26 g_) ∧ (CLZ g_)) ?_ (400 - v214018.toInt) ⟨v214018, by first | rfl | omega, hI214011, hF214015, hv214018, rfl, by omega, (Fr.tr (Fr.wI (p := 231) (b := 20) (Fr.wI (p := 231) (b := 17) (Fr.wI (p := 231) (b := 15) (Fr.tr (Fr.wI (p := 231) (b := 13) (Fr.wI (p := 231) (b := 14) (Fr.wI (p := 231) (b := 10) (Fr.wI (p := 231) (b := 0) Fr.rf rfl) rfl) rfl) rfl) hF213973 rfl rfl) rfl) rfl) rfl) hF214012 rfl rfl), by omega, by omega, by omega, by omega, c214034, c214036⟩
    rintro n267475 l267474 g267471 ⟨x267470, hm267494, hI267472, hF267473, e267477, e267478, r267479, q267480, q267481, q267482, q267483, q267484, q267485, q267486⟩ ih267476
    have tv267495 := congrArg Int32.toInt e267477
    have x267496 := HI.eqI hI267472 (p := 231) (b := 8) (((q267480.1 231 8 (by decide)).trans hv1))
    have x267497 := HI.eqI hI267472 (p := 231) (b := 9) (e267477)
    obtain ⟨v267498, hv267498⟩ : ∃ v, gI g267471 231 10 = v := ⟨_, rfl⟩
    have rv267498 := RgF.at hI267472.2.1 (p := 231) (b := 10) rfl
    rw [hv267498] at rv267498
    dsimp only at rv267498
    have tv267498 := congrArg Int32.toInt hv267498
    have x267499 := HI.eqI hI267472 (p := 231) (b := 10) (hv267498)
    obtain ⟨v267500, hv267500⟩ : ∃ v, gI g267471 231 11 = v := ⟨_, rfl⟩
    have tv267500 := congrArg Int32.toInt hv267500
    have x267501 := HI.eqI hI267472 (p := 231) (b := 11) (hv267500)
    obtain ⟨v267502, hv267502⟩ : ∃ v, gI g267471 231 14 = v := ⟨_, rfl⟩
    have tv267502 := congrArg Int32.toInt hv267502
    have x267503 := HI.eqI hI267472 (p := 231) (b := 14) (hv267502)
    obtain ⟨v267504, hv267504⟩ : ∃ v, gI g267471 231 15 = v := ⟨_, rfl⟩
    have rv267504 := RgF.at hI267472.2.1 (p := 231) (b := 15) rfl
    rw [hv267504] at rv267504
    dsimp only at rv267504
    have tv267504 := congrArg Int32.toInt hv267504
    have x267505 := HI.eqI hI267472 (p := 231) (b := 15) (hv267504)
    obtain ⟨v267506, hv267506⟩ : ∃ v, gI g267471 231 17 = v := ⟨_, rfl⟩
    have rv267506 := RgF.at hI267472.2.1 (p := 231) (b := 17) rfl
    rw [hv267506] at rv267506
    dsimp only at rv267506
    have tv267506 := congrArg Int32.toInt hv267506
    have x267507 := HI.eqI hI267472 (p := 231) (b := 17) (hv267506)
    refine At.enter rfl ?_
    refine r_aload_n e267478 ?_
    refine q_getI (Sh.int hI267472.1 kx_231 rfl) v267502 hv267502 ?_
    refine r_ifs 58 rfl (fun c267508 => ?_) (fun c267508 => ?_)
    · have c267508_ : v267502.toInt ≠ 0 := en_k_ne_t c267508
      refine At.enter rfl ?_
      refine r_aload_n e267478 ?_
      refine q_getI (Sh.int hI267472.1 kx_231 rfl) v267502 hv267502 ?_
      refine r_ifs 85 rfl (fun c267509 => ?_) (fun c267509 => ?_)
      · have c267509_ : v267502.toInt ≠ 0 := en_k_ne_t c267509
        refine At.enter rfl ?_
        refine r_aload_n e267478 ?_
        refine r_iconst 0 rfl ?_
        refine q_putI (Sh.int hI267472.1 kx_231 rfl) rfl ?_
        have hI267510 := HI.wI1 hI267472 kx_231 rfl (p := 231) (b := 8) (v := 0) rfl (by decide)
        have hF267511 := Fr.wI (p := 231) (b := 8) (v := 0) hF267473 rfl
        refine r_aload_n e267478 ?_
        refine q_getI (Sh.int hI267510.1 kx_231 rfl) v267502 ((gI_sI_ne (by decide)).trans hv267502) ?_
        refine r_ifs 109 rfl (fun c267512 => ?_) (fun c267512 => ?_)
        · have c267512_ : v267502.toInt = 0 := en_k_eq_t c267512
          refine At.enter rfl ?_
          refine r_bipush 110 rfl ?_
          refine r_sipush 900 rfl ?_
          refine r_aload_n e267478 ?_
          refine q_getR (Sh.ref hI267510.1 kx_231 rfl) ?_
          refine r_iconst 2 rfl ?_
          refine q_iald (Sh.arr hI267510.1 ka_233) 2 rfl (by decide) v213960 ((eA_c ((gA_sI).trans (q267480.2.1 233 (by decide)))).trans hv213960) ?_
          refine q_imul (900 * v213960.toInt) rfl (by omega) (fun v267513 hv267513 => ?_)
          refine q_iadd (110 + v267513.toInt) rfl (by omega) (fun v267514 hv267514 => ?_)
          refine r_istore_n _ rfl ?_
          refine r_aload_n (w_p1 (by decide) (Or.inr rfl) e267478) ?_
          refine q_getR (Sh.ref hI267510.1 kx_231 rfl) ?_
          refine r_iload_n (w_e1 _ _ _) ?_
          refine r_iconst 1 rfl ?_
          refine q_iadd (v267514.toInt + 1) rfl (by omega) (fun v267515 hv267515 => ?_)
          refine r_aload_n (w_p1 (by decide) (Or.inr rfl) e267478) ?_
          refine q_getI (Sh.int hI267510.1 kx_231 rfl) v267504 ((gI_sI_ne (by decide)).trans hv267504) ?_
          refine q_iast (Sh.arr hI267510.1 ka_233) ((900 * v213960.toInt + 111)) (by omega) (by omega) ?_
          have x267518 := HI.eqA hI267510 (p := 233) (j := 2) ((((eA_c gA_sI).trans (eA_c (q267480.2.1 233 (by decide)))).trans hv213960))
          have hI267516 := HI.wfree hI267510 (j := (900 * v213960.toInt + 111)) (v := v267504) ⟨by omega, by omega⟩
          have hF267517 := Fr.wA (p := 233) (j := (900 * v213960.toInt + 111)) (v := v267504) hF267511 rfl
          refine r_iconst 0 rfl ?_
          refine r_istore_n _ rfl ?_
          refine Ar.fall 144 rfl ?_
          have z_277494 : (0 : Int32).toInt = 0 := rfl
          have x277495 := HI.eqI hI267472 (p := 231) (b := 15) (hv267504)
          have x277496 := HI.eqI hI267472 (p := 231) (b := 17) (hv267506)
          refine w_loopI (fun n_ l_ g_ => ∃ x277479 : Int32, n_ = 96 - x277479.toInt ∧ HI g_ ∧ Fr F_X11_law_231 A_X11_law_231 g0 g_ ∧ en_get 0 l_ = some (.ref 231) ∧ en_get 1 l_ = some (.int v267514) ∧ en_get 2 l_ = some (.int x277479) ∧ (0 ≤ x277479.toInt ∧ x277479.toInt ≤ 96) ∧ (Fr [(231, 8)] [233] g267471 g_) ∧ ((eA g_ 233 (v267514.toInt + 1)).toInt = (gI g267471 231 15).toInt) ∧ (∀ i : Int, 0 ≤ i → i < x277479.toInt → (eA g_ 233 (v267514.toInt + 2 + i)).toInt = (eA g267471 237 i).toInt) ∧ (∀ i : Int, 0 ≤ i → i < 110 → eA g_ 233 i = eA g267471 233 i)) ?_ (96 - 0) ⟨0, by first | rfl | omega, hI267516, hF267517, (w_p1 (by decide) (Or.inr rfl) (w_p1 (by decide) (Or.inr rfl) e267478)), (w_p1 (by decide) (Or.inr rfl) (w_e1 _ _ _)), (w_e1 _ _ _), by decide, (Fr.wA (p := 233) (Fr.wI (p := 231) (b := 8) Fr.rf rfl) rfl), ((congrArg Int32.toInt (eA_sA_eq hI267510.1 ka_233 (by omega) (by omega) (by omega))).trans (by omega)), (fun i i0 i1 => absurd i1 (by omega)), (fun i i0 i1 => ((eA_sA_ne (i := i) hI267510.1 ka_233 (by omega) (by omega) (by omega)).trans (eA_c gA_sI)))⟩
          rintro n277484 l277483 g277480 ⟨x277479, hm277497, hI277481, hF277482, e277486, e277487, e277488, r277489, q277490, q277491, q277492, q277493⟩ ih277485
          have x277498 := HI.eqI hI267472 (p := 231) (b := 15) (hv267504)
          have x277499 := HI.eqI hI267472 (p := 231) (b := 17) (hv267506)
          have t277500 := congrArg Int32.toInt ((q277493 2 (by decide) (by decide)).trans ((eA_c (q267480.2.1 233 (by decide))).trans hv213960))
          refine At.enter rfl ?_
          refine r_iload_n e277488 ?_
          refine r_bipush 8 rfl ?_
          refine r_aload_n e277486 ?_
          refine q_getI (Sh.int hI277481.1 kx_231 rfl) v267504 ((q277490.1 231 15 (by decide)).trans hv267504) ?_
          refine q_imul (8 * v267504.toInt) rfl (by omega) (fun v277501 hv277501 => ?_)
          have bv277503 := q_bnd x277479
          have bv277504 := q_bnd v277501
          refine r_ics 155 rfl (fun c277502 => ?_) (fun c277502 => ?_)
          · have c277502_ : x277479.toInt ≥ v277501.toInt := en_i_ge_t c277502
            refine At.enter rfl ?_
            refine r_iconst 0 rfl ?_
            refine r_istore_n _ rfl ?_
            refine Ar.fall 179 rfl ?_
            have z_278116 : (0 : Int32).toInt = 0 := rfl
            have x278117 := HI.eqI hI267472 (p := 231) (b := 15) (hv267504)
            have x278118 := HI.eqI hI267472 (p := 231) (b := 17) (hv267506)
            refine w_loopI (fun n_ l_ g_ => ∃ x278100 : Int32, n_ = 400 - x278100.toInt ∧ HI g_ ∧ Fr F_X11_law_231 A_X11_law_231 g0 g_ ∧ en_get 0 l_ = some (.ref 231) ∧ en_get 1 l_ = some (.int v267514) ∧ en_get 2 l_ = some (.int x278100) ∧ (0 ≤ x278100.toInt ∧ x278100.toInt ≤ 400) ∧ (Fr [(231, 8)] [233] g267471 g_) ∧ ((eA g_ 233 (v267514.toInt + 1)).toInt = (gI g267471 231 15).toInt) ∧ (∀ i : Int, 0 ≤ i → i < 8 * (gI g267471 231 15).toInt → (eA g_ 233 (v267514.toInt + 2 + i)).toInt = (eA g267471 237 i).toInt) ∧ (∀ i : Int, 0 ≤ i → i < 110 → eA g_ 233 i = eA g267471 233 i) ∧ (∀ i : Int, 0 ≤ i → i < x278100.toInt → (eA g_ 233 (v267514.toInt + 98 + 2 * i)).toInt = (eA g267471 238 i).toInt ∧ (eA g_ 233 (v267514.toInt + 98 + 2 * i + 1)).toInt = (eA g267471 239 i).toInt)) ?_ (400 - 0) ⟨0, by first | rfl | omega, hI277481, hF277482, (w_p1 (by decide) (Or.inr rfl) e277486), (w_p1 (by decide) (Or.inr rfl) e277487), (w_e1 _ _ _), by decide, (Fr.tr Fr.rf q277490 rfl rfl), ((congrArg Int32.toInt (rfl)).trans q277491), (fun i i0 i1 => q277492 i i0 (by omega)), (fun i i0 i1 => (rfl).trans (q277493 i i0 i1)), (fun i i0 i1 => absurd i1 (by omega))⟩
            rintro n278105 l278104 g278101 ⟨x278100, hm278119, hI278102, hF278103, e278107, e278108, e278109, r278110, q278111, q278112, q278113, q278114, q278115⟩ ih278106
            have x278120 := HI.eqI hI267472 (p := 231) (b := 15) (hv267504)
            have x278121 := HI.eqI hI267472 (p := 231) (b := 17) (hv267506)
            have t278122 := congrArg Int32.toInt ((q278114 2 (by decide) (by decide)).trans ((eA_c (q267480.2.1 233 (by decide))).trans hv213960))
            refine At.enter rfl ?_
            refine r_iload_n e278109 ?_
            refine r_aload_n e278107 ?_
            refine q_getI (Sh.int hI278102.1 kx_231 rfl) v267506 ((q278111.1 231 17 (by decide)).trans hv267506) ?_
            have bv278124 := q_bnd x278100
            have bv278125 := q_bnd v267506
            refine r_ics 187 rfl (fun c278123 => ?_) (fun c278123 => ?_)
            · have c278123_ : x278100.toInt ≥ v267506.toInt := en_i_ge_t c278123
              refine At.enter rfl ?_
              refine r_aload_n e278107 ?_
              refine q_getR (Sh.ref hI278102.1 kx_231 rfl) ?_
              refine r_iconst 2 rfl ?_
              refine r_dup2 ⟨rfl, rfl⟩ ?_
              refine q_iald (Sh.arr hI278102.1 ka_233) 2 rfl (by decide) v213960 ((q278114 2 (by decide) (by decide)).trans ((eA_c (q267480.2.1 233 (by decide))).trans hv213960)) ?_
              refine r_iconst 1 rfl ?_
              refine q_iadd (v213960.toInt + 1) rfl (by omega) (fun v278126 hv278126 => ?_)
              refine q_iast (Sh.arr hI278102.1 ka_233) (2) rfl (by decide) ?_
              have x278129 := HI.eqA hI278102 (p := 233) (j := 2) (((q278114 2 (by decide) (by decide)).trans ((eA_c (q267480.2.1 233 (by decide))).trans hv213960)))
              have hI278127 := HI.wt2 hI278102 (v := v278126) (by omega) (by omega) (by rw [show 110 + 900 * (eA _ 233 2).toInt = v267514.toInt by omega]; exact LAW.mk (q267486 (by omega)).2 ⟨by omega, by omega⟩ (by omega) q278112 q278113 (fun i i0 i1 => q278115 i i0 (by omega)))
              have hF278128 := Fr.wA (p := 233) (j := 2) (v := v278126) hF278103 rfl
              refine r_aload_n e278107 ?_
              refine r_aload_n e278107 ?_
              refine q_getR (Sh.ref hI278127.1 kx_231 rfl) ?_
              refine r_iconst 2 rfl ?_
              refine q_iald (Sh.arr hI278127.1 ka_233) 2 rfl (by decide) v278126 (eA_sA_eq hI278102.1 ka_233 (by first | rfl | omega) (by first | decide | omega) (by first | decide | omega)) ?_
              refine r_iconst 1 rfl ?_
              refine q_isub (v278126.toInt - 1) rfl (by omega) (fun v278130 hv278130 => ?_)
              refine r_callV 255 rfl [.ref 231, .int v278130] [] (Nat.le_of_ble_eq_true rfl) rfl (T_X11_tell_231 _ hI278127 v278130 (by omega)) ?_
              rintro _ _ ⟨g278131, rfl, hI278132, hF278133, v278134, rfl, hr278135⟩
              refine At.sti ?_
              have hF278136 := Fr.tr hF278128 hF278133 rfl rfl
              refine At.enter rfl ?_
              refine r_ireti ?_
              exact ⟨_, rfl, hI278132, hF278136, _, rfl, by omega, (fun i i0 i1 i2 => ((eA_c (hF278133.2.1 233 (by decide))).trans ((eA_sA_ne (i := i) hI278102.1 ka_233 (by omega) (by omega) (by omega)).trans ((q278114 i i0 i1).trans (eA_c ((q267480.2.1 233 (by decide))))))))⟩
            · have c278123_ : x278100.toInt < v267506.toInt := en_i_ge_f c278123
              refine At.enter rfl ?_
              refine r_aload_n e278107 ?_
              refine q_getR (Sh.ref hI278102.1 kx_231 rfl) ?_
              refine r_iload_n e278108 ?_
              refine r_bipush 98 rfl ?_
              refine q_iadd (v267514.toInt + 98) rfl (by omega) (fun v278137 hv278137 => ?_)
              refine r_iconst 2 rfl ?_
              refine r_iload_n e278109 ?_
              refine q_imul (2 * x278100.toInt) rfl (by omega) (fun v278138 hv278138 => ?_)
              refine q_iadd (v278137.toInt + v278138.toInt) rfl (by omega) (fun v278139 hv278139 => ?_)
              refine r_aload_n e278107 ?_
              refine q_getR (Sh.ref hI278102.1 kx_231 rfl) ?_
              refine r_iload_n e278109 ?_
              obtain ⟨v278140, hv278140⟩ : ∃ v, eA g267471 238 x278100.toInt = v := ⟨_, rfl⟩
              refine q_iald (Sh.arr hI278102.1 ka_238) x278100.toInt rfl (by omega) v278140 ((eA_c (q278111.2.1 238 (by decide))).trans hv278140) ?_
              refine q_iast (Sh.arr hI278102.1 ka_233) ((900 * v213960.toInt + 2 * x278100.toInt + 208)) (by omega) (by omega) ?_
              have x278143 := HI.eqA hI278102 (p := 233) (j := 2) (((q278114 2 (by decide) (by decide)).trans ((eA_c (q267480.2.1 233 (by decide))).trans hv213960)))
              have hI278141 := HI.wfree hI278102 (j := (900 * v213960.toInt + 2 * x278100.toInt + 208)) (v := v278140) ⟨by omega, by omega⟩
              have hF278142 := Fr.wA (p := 233) (j := (900 * v213960.toInt + 2 * x278100.toInt + 208)) (v := v278140) hF278103 rfl
              refine r_aload_n e278107 ?_
              refine q_getR (Sh.ref hI278141.1 kx_231 rfl) ?_
              refine r_iload_n e278108 ?_
              refine r_bipush 98 rfl ?_
              refine q_iadd (v267514.toInt + 98) rfl (by omega) (fun v278144 hv278144 => ?_)
              refine r_iconst 2 rfl ?_
              refine r_iload_n e278109 ?_
              refine q_imul (2 * x278100.toInt) rfl (by omega) (fun v278145 hv278145 => ?_)
              refine q_iadd (v278144.toInt + v278145.toInt) rfl (by omega) (fun v278146 hv278146 => ?_)
              refine r_iconst 1 rfl ?_
              refine q_iadd (v278146.toInt + 1) rfl (by omega) (fun v278147 hv278147 => ?_)
              refine r_aload_n e278107 ?_
              refine q_getR (Sh.ref hI278141.1 kx_231 rfl) ?_
              refine r_iload_n e278109 ?_
              obtain ⟨v278148, hv278148⟩ : ∃ v, eA g267471 239 x278100.toInt = v := ⟨_, rfl⟩
              refine q_iald (Sh.arr hI278141.1 ka_239) x278100.toInt rfl (by omega) v278148 ((eA_c ((gA_sA_ne (by decide)).trans (q278111.2.1 239 (by decide)))).trans hv278148) ?_
              refine q_iast (Sh.arr hI278141.1 ka_233) ((900 * v213960.toInt + 2 * x278100.toInt + 209)) (by omega) (by omega) ?_
              have x278151 := HI.eqA hI278141 (p := 233) (j := 2) (((eA_sA_ne hI278102.1 ka_233 (by first | decide | omega) (by first | decide | omega) (by first | decide | omega)).trans ((q278114 2 (by decide) (by decide)).trans ((eA_c (q267480.2.1 233 (by decide))).trans hv213960))))
              have hI278149 := HI.wfree hI278141 (j := (900 * v213960.toInt + 2 * x278100.toInt + 209)) (v := v278148) ⟨by omega, by omega⟩
              have hF278150 := Fr.wA (p := 233) (j := (900 * v213960.toInt + 2 * x278100.toInt + 209)) (v := v278148) hF278142 rfl
              refine q_iinc e278109 (x278100.toInt + 1) rfl (by omega) (fun v278152 hv278152 => ?_)
              refine r_goto ?_
              exact ih278106 (400 - v278152.toInt) _ _ ⟨v278152, by first | rfl | omega, hI278149, hF278150, (w_p1 (by decide) (Or.inr rfl) e278107), (w_p1 (by decide) (Or.inr rfl) e278108), (w_e1 _ _ _), by omega, (Fr.wA (p := 233) (Fr.wA (p := 233) q278111 rfl) rfl), ((congrArg Int32.toInt (((eA_sA_ne (i := v267514.toInt + 1) hI278141.1 ka_233 (by omega) (by omega) (by omega)).trans (eA_sA_ne (i := v267514.toInt + 1) hI278102.1 ka_233 (by omega) (by omega) (by omega))))).trans q278112), (fun i i0 i1 => (congrArg Int32.toInt (((eA_sA_ne (i := v267514.toInt + 2 + i) hI278141.1 ka_233 (by omega) (by omega) (by omega)).trans (eA_sA_ne (i := v267514.toInt + 2 + i) hI278102.1 ka_233 (by omega) (by omega) (by omega))))).trans (q278113 i i0 i1)), (fun i i0 i1 => (((eA_sA_ne (i := i) hI278141.1 ka_233 (by omega) (by omega) (by omega)).trans (eA_sA_ne (i := i) hI278102.1 ka_233 (by omega) (by omega) (by omega)))).trans (q278114 i i0 i1)), (fun i i0 i1 => (Decidable.em (i = x278100.toInt)).elim (fun e => by rw [e]; exact ⟨((congrArg Int32.toInt ((eA_sA_ne (i := v267514.toInt + 98 + 2 * x278100.toInt) hI278141.1 ka_233 (by omega) (by omega) (by omega)).trans (eA_sA_eq hI278102.1 ka_233 (by omega) (by omega) (by omega)))).trans (congrArg Int32.toInt hv278140).symm), ((congrArg Int32.toInt (eA_sA_eq hI278141.1 ka_233 (by omega) (by omega) (by omega))).trans (congrArg Int32.toInt hv278148).symm)⟩) (fun e => ⟨(congrArg Int32.toInt (((eA_sA_ne (i := v267514.toInt + 98 + 2 * i) hI278141.1 ka_233 (by omega) (by omega) (by omega)).trans (eA_sA_ne (i := v267514.toInt + 98 + 2 * i) hI278102.1 ka_233 (by omega) (by omega) (by omega))))).trans (q278115 i i0 (by omega)).1, (congrArg Int32.toInt (((eA_sA_ne (i := v267514.toInt + 98 + 2 * i + 1) hI278141.1 ka_233 (by omega) (by omega) (by omega)).trans (eA_sA_ne (i := v267514.toInt + 98 + 2 * i + 1) hI278102.1 ka_233 (by omega) (by omega) (by omega))))).trans (q278115 i i0 (by omega)).2⟩))⟩ ⟨by omega, by omega⟩
          · have c277502_ : x277479.toInt < v277501.toInt := en_i_ge_f c277502
            refine At.enter rfl ?_
            refine r_aload_n e277486 ?_
            refine q_getR (Sh.ref hI277481.1 kx_231 rfl) ?_
            refine r_iload_n e277487 ?_
            refine r_iconst 2 rfl ?_
            refine q_iadd (v267514.toInt + 2) rfl (by omega) (fun v278153 hv278153 => ?_)
            refine r_iload_n e277488 ?_
            refine q_iadd (v278153.toInt + x277479.toInt) rfl (by omega) (fun v278154 hv278154 => ?_)
            refine r_aload_n e277486 ?_
            refine q_getR (Sh.ref hI277481.1 kx_231 rfl) ?_
            refine r_iload_n e277488 ?_
            obtain ⟨v278155, hv278155⟩ : ∃ v, eA g267471 237 x277479.toInt = v := ⟨_, rfl⟩
            refine q_iald (Sh.arr hI277481.1 ka_237) x277479.toInt rfl (by omega) v278155 ((eA_c (q277490.2.1 237 (by decide))).trans hv278155) ?_
            refine q_iast (Sh.arr hI277481.1 ka_233) ((900 * v213960.toInt + x277479.toInt + 112)) (by omega) (by omega) ?_
            have x278158 := HI.eqA hI277481 (p := 233) (j := 2) (((q277493 2 (by decide) (by decide)).trans ((eA_c (q267480.2.1 233 (by decide))).trans hv213960)))
            have hI278156 := HI.wfree hI277481 (j := (900 * v213960.toInt + x277479.toInt + 112)) (v := v278155) ⟨by omega, by omega⟩
            have hF278157 := Fr.wA (p := 233) (j := (900 * v213960.toInt + x277479.toInt + 112)) (v := v278155) hF277482 rfl
            refine q_iinc e277488 (x277479.toInt + 1) rfl (by omega) (fun v278159 hv278159 => ?_)
            refine r_goto ?_
            exact ih277485 (96 - v278159.toInt) _ _ ⟨v278159, by first | rfl | omega, hI278156, hF278157, (w_p1 (by decide) (Or.inr rfl) e277486), (w_p1 (by decide) (Or.inr rfl) e277487), (w_e1 _ _ _), by omega, (Fr.wA (p := 233) q277490 rfl), ((congrArg Int32.toInt ((eA_sA_ne (i := v267514.toInt + 1) hI277481.1 ka_233 (by omega) (by omega) (by omega)))).trans q277491), (fun i i0 i1 => (Decidable.em (i = x277479.toInt)).elim (fun e => by rw [e]; exact (congrArg Int32.toInt (eA_sA_eq hI277481.1 ka_233 (by omega) (by omega) (by omega))).trans (congrArg Int32.toInt hv278155).symm) (fun e => (congrArg Int32.toInt ((eA_sA_ne (i := v267514.toInt + 2 + i) hI277481.1 ka_233 (by omega) (by omega) (by omega)))).trans (q277492 i i0 (by omega)))), (fun i i0 i1 => ((eA_sA_ne (i := i) hI277481.1 ka_233 (by omega) (by omega) (by omega))).trans (q277493 i i0 i1))⟩ ⟨by omega, by omega⟩
        · have c267512_ : v267502.toInt ≠ 0 := en_k_eq_f c267512
          refine At.enter rfl ?_
          refine r_aload_n e267478 ?_
          refine r_bipush (-6) rfl ?_
          refine r_callV 115 rfl [.ref 231, .int (-6)] [] (Nat.le_of_ble_eq_true rfl) rfl (T_X11_tell_231 _ hI267510 (-6) (by decide)) ?_
          rintro _ _ ⟨g278160, rfl, hI278161, hF278162, v278163, rfl, hr278164⟩
          refine At.sti ?_
          have hF278165 := Fr.tr hF267511 hF278162 rfl rfl
          have zv278166 : ((-6) : Int32).toInt = (-6) := rfl
          refine At.enter rfl ?_
          refine r_ireti ?_
          exact ⟨_, rfl, hI278161, hF278165, _, rfl, by omega, (fun i i0 i1 i2 => eA_c (((hF278162.2.1 233 (by decide)).trans ((gA_sI).trans (q267480.2.1 233 (by decide))))))⟩
      · have c267509_ : v267502.toInt = 0 := en_k_ne_f c267509
        refine At.enter rfl ?_
        refine r_aload_n e267478 ?_
        refine q_getI (Sh.int hI267472.1 kx_231 rfl) v267500 hv267500 ?_
        refine r_ifs 92 rfl (fun c278167 => ?_) (fun c278167 => ?_)
        · have c278167_ : v267500.toInt = 0 := en_k_eq_t c278167
          refine At.enter rfl ?_
          refine r_aload_n e267478 ?_
          refine r_iconst 0 rfl ?_
          refine q_putI (Sh.int hI267472.1 kx_231 rfl) rfl ?_
          have hI278168 := HI.wI1 hI267472 kx_231 rfl (p := 231) (b := 8) (v := 0) rfl (by decide)
          have hF278169 := Fr.wI (p := 231) (b := 8) (v := 0) hF267473 rfl
          refine r_aload_n e267478 ?_
          refine q_getI (Sh.int hI278168.1 kx_231 rfl) v267502 ((gI_sI_ne (by decide)).trans hv267502) ?_
          refine r_ifs 109 rfl (fun c278170 => ?_) (fun c278170 => ?_)
          · have c278170_ : v267502.toInt = 0 := en_k_eq_t c278170
            refine At.enter rfl ?_
            refine r_bipush 110 rfl ?_
            refine r_sipush 900 rfl ?_
            refine r_aload_n e267478 ?_
            refine q_getR (Sh.ref hI278168.1 kx_231 rfl) ?_
            refine r_iconst 2 rfl ?_
            refine q_iald (Sh.arr hI278168.1 ka_233) 2 rfl (by decide) v213960 ((eA_c ((gA_sI).trans (q267480.2.1 233 (by decide)))).trans hv213960) ?_
            refine q_imul (900 * v213960.toInt) rfl (by omega) (fun v278171 hv278171 => ?_)
            refine q_iadd (110 + v278171.toInt) rfl (by omega) (fun v278172 hv278172 => ?_)
            refine r_istore_n _ rfl ?_
            refine r_aload_n (w_p1 (by decide) (Or.inr rfl) e267478) ?_
            refine q_getR (Sh.ref hI278168.1 kx_231 rfl) ?_
            refine r_iload_n (w_e1 _ _ _) ?_
            refine r_iconst 1 rfl ?_
            refine q_iadd (v278172.toInt + 1) rfl (by omega) (fun v278173 hv278173 => ?_)
            refine r_aload_n (w_p1 (by decide) (Or.inr rfl) e267478) ?_
            refine q_getI (Sh.int hI278168.1 kx_231 rfl) v267504 ((gI_sI_ne (by decide)).trans hv267504) ?_
            refine q_iast (Sh.arr hI278168.1 ka_233) ((900 * v213960.toInt + 111)) (by omega) (by omega) ?_
            have x278176 := HI.eqA hI278168 (p := 233) (j := 2) ((((eA_c gA_sI).trans (eA_c (q267480.2.1 233 (by decide)))).trans hv213960))
            have hI278174 := HI.wfree hI278168 (j := (900 * v213960.toInt + 111)) (v := v267504) ⟨by omega, by omega⟩
            have hF278175 := Fr.wA (p := 233) (j := (900 * v213960.toInt + 111)) (v := v267504) hF278169 rfl
            refine r_iconst 0 rfl ?_
            refine r_istore_n _ rfl ?_
            refine Ar.fall 144 rfl ?_
            have z_288152 : (0 : Int32).toInt = 0 := rfl
            have x288153 := HI.eqI hI267472 (p := 231) (b := 15) (hv267504)
            have x288154 := HI.eqI hI267472 (p := 231) (b := 17) (hv267506)
            refine w_loopI (fun n_ l_ g_ => ∃ x288137 : Int32, n_ = 96 - x288137.toInt ∧ HI g_ ∧ Fr F_X11_law_231 A_X11_law_231 g0 g_ ∧ en_get 0 l_ = some (.ref 231) ∧ en_get 1 l_ = some (.int v278172) ∧ en_get 2 l_ = some (.int x288137) ∧ (0 ≤ x288137.toInt ∧ x288137.toInt ≤ 96) ∧ (Fr [(231, 8)] [233] g267471 g_) ∧ ((eA g_ 233 (v278172.toInt + 1)).toInt = (gI g267471 231 15).toInt) ∧ (∀ i : Int, 0 ≤ i → i < x288137.toInt → (eA g_ 233 (v278172.toInt + 2 + i)).toInt = (eA g267471 237 i).toInt) ∧ (∀ i : Int, 0 ≤ i → i < 110 → eA g_ 233 i = eA g267471 233 i)) ?_ (96 - 0) ⟨0, by first | rfl | omega, hI278174, hF278175, (w_p1 (by decide) (Or.inr rfl) (w_p1 (by decide) (Or.inr rfl) e267478)), (w_p1 (by decide) (Or.inr rfl) (w_e1 _ _ _)), (w_e1 _ _ _), by decide, (Fr.wA (p := 233) (Fr.wI (p := 231) (b := 8) Fr.rf rfl) rfl), ((congrArg Int32.toInt (eA_sA_eq hI278168.1 ka_233 (by omega) (by omega) (by omega))).trans (by omega)), (fun i i0 i1 => absurd i1 (by omega)), (fun i i0 i1 => ((eA_sA_ne (i := i) hI278168.1 ka_233 (by omega) (by omega) (by omega)).trans (eA_c gA_sI)))⟩
            rintro n288142 l288141 g288138 ⟨x288137, hm288155, hI288139, hF288140, e288144, e288145, e288146, r288147, q288148, q288149, q288150, q288151⟩ ih288143
            have x288156 := HI.eqI hI267472 (p := 231) (b := 15) (hv267504)
            have x288157 := HI.eqI hI267472 (p := 231) (b := 17) (hv267506)
            have t288158 := congrArg Int32.toInt ((q288151 2 (by decide) (by decide)).trans ((eA_c (q267480.2.1 233 (by decide))).trans hv213960))
            refine At.enter rfl ?_
            refine r_iload_n e288146 ?_
            refine r_bipush 8 rfl ?_
            refine r_aload_n e288144 ?_
            refine q_getI (Sh.int hI288139.1 kx_231 rfl) v267504 ((q288148.1 231 15 (by decide)).trans hv267504) ?_
            refine q_imul (8 * v267504.toInt) rfl (by omega) (fun v288159 hv288159 => ?_)
            have bv288161 := q_bnd x288137
            have bv288162 := q_bnd v288159
            refine r_ics 155 rfl (fun c288160 => ?_) (fun c288160 => ?_)
            · have c288160_ : x288137.toInt ≥ v288159.toInt := en_i_ge_t c288160
              refine At.enter rfl ?_
              refine r_iconst 0 rfl ?_
              refine r_istore_n _ rfl ?_
              refine Ar.fall 179 rfl ?_
              have z_288774 : (0 : Int32).toInt = 0 := rfl
              have x288775 := HI.eqI hI267472 (p := 231) (b := 15) (hv267504)
              have x288776 := HI.eqI hI267472 (p := 231) (b := 17) (hv267506)
              refine w_loopI (fun n_ l_ g_ => ∃ x288758 : Int32, n_ = 400 - x288758.toInt ∧ HI g_ ∧ Fr F_X11_law_231 A_X11_law_231 g0 g_ ∧ en_get 0 l_ = some (.ref 231) ∧ en_get 1 l_ = some (.int v278172) ∧ en_get 2 l_ = some (.int x288758) ∧ (0 ≤ x288758.toInt ∧ x288758.toInt ≤ 400) ∧ (Fr [(231, 8)] [233] g267471 g_) ∧ ((eA g_ 233 (v278172.toInt + 1)).toInt = (gI g267471 231 15).toInt) ∧ (∀ i : Int, 0 ≤ i → i < 8 * (gI g267471 231 15).toInt → (eA g_ 233 (v278172.toInt + 2 + i)).toInt = (eA g267471 237 i).toInt) ∧ (∀ i : Int, 0 ≤ i → i < 110 → eA g_ 233 i = eA g267471 233 i) ∧ (∀ i : Int, 0 ≤ i → i < x288758.toInt → (eA g_ 233 (v278172.toInt + 98 + 2 * i)).toInt = (eA g267471 238 i).toInt ∧ (eA g_ 233 (v278172.toInt + 98 + 2 * i + 1)).toInt = (eA g267471 239 i).toInt)) ?_ (400 - 0) ⟨0, by first | rfl | omega, hI288139, hF288140, (w_p1 (by decide) (Or.inr rfl) e288144), (w_p1 (by decide) (Or.inr rfl) e288145), (w_e1 _ _ _), by decide, (Fr.tr Fr.rf q288148 rfl rfl), ((congrArg Int32.toInt (rfl)).trans q288149), (fun i i0 i1 => q288150 i i0 (by omega)), (fun i i0 i1 => (rfl).trans (q288151 i i0 i1)), (fun i i0 i1 => absurd i1 (by omega))⟩
              rintro n288763 l288762 g288759 ⟨x288758, hm288777, hI288760, hF288761, e288765, e288766, e288767, r288768, q288769, q288770, q288771, q288772, q288773⟩ ih288764
              have x288778 := HI.eqI hI267472 (p := 231) (b := 15) (hv267504)
              have x288779 := HI.eqI hI267472 (p := 231) (b := 17) (hv267506)
              have t288780 := congrArg Int32.toInt ((q288772 2 (by decide) (by decide)).trans ((eA_c (q267480.2.1 233 (by decide))).trans hv213960))
              refine At.enter rfl ?_
              refine r_iload_n e288767 ?_
              refine r_aload_n e288765 ?_
              refine q_getI (Sh.int hI288760.1 kx_231 rfl) v267506 ((q288769.1 231 17 (by decide)).trans hv267506) ?_
              have bv288782 := q_bnd x288758
              have bv288783 := q_bnd v267506
              refine r_ics 187 rfl (fun c288781 => ?_) (fun c288781 => ?_)
              · have c288781_ : x288758.toInt ≥ v267506.toInt := en_i_ge_t c288781
                refine At.enter rfl ?_
                refine r_aload_n e288765 ?_
                refine q_getR (Sh.ref hI288760.1 kx_231 rfl) ?_
                refine r_iconst 2 rfl ?_
                refine r_dup2 ⟨rfl, rfl⟩ ?_
                refine q_iald (Sh.arr hI288760.1 ka_233) 2 rfl (by decide) v213960 ((q288772 2 (by decide) (by decide)).trans ((eA_c (q267480.2.1 233 (by decide))).trans hv213960)) ?_
                refine r_iconst 1 rfl ?_
                refine q_iadd (v213960.toInt + 1) rfl (by omega) (fun v288784 hv288784 => ?_)
                refine q_iast (Sh.arr hI288760.1 ka_233) (2) rfl (by decide) ?_
                have x288787 := HI.eqA hI288760 (p := 233) (j := 2) (((q288772 2 (by decide) (by decide)).trans ((eA_c (q267480.2.1 233 (by decide))).trans hv213960)))
                have hI288785 := HI.wt2 hI288760 (v := v288784) (by omega) (by omega) (by rw [show 110 + 900 * (eA _ 233 2).toInt = v278172.toInt by omega]; exact LAW.mk (q267486 (by omega)).2 ⟨by omega, by omega⟩ (by omega) q288770 q288771 (fun i i0 i1 => q288773 i i0 (by omega)))
                have hF288786 := Fr.wA (p := 233) (j := 2) (v := v288784) hF288761 rfl
                refine r_aload_n e288765 ?_
                refine r_aload_n e288765 ?_
                refine q_getR (Sh.ref hI288785.1 kx_231 rfl) ?_
                refine r_iconst 2 rfl ?_
                refine q_iald (Sh.arr hI288785.1 ka_233) 2 rfl (by decide) v288784 (eA_sA_eq hI288760.1 ka_233 (by first | rfl | omega) (by first | decide | omega) (by first | decide | omega)) ?_
                refine r_iconst 1 rfl ?_
                refine q_isub (v288784.toInt - 1) rfl (by omega) (fun v288788 hv288788 => ?_)
                refine r_callV 255 rfl [.ref 231, .int v288788] [] (Nat.le_of_ble_eq_true rfl) rfl (T_X11_tell_231 _ hI288785 v288788 (by omega)) ?_
                rintro _ _ ⟨g288789, rfl, hI288790, hF288791, v288792, rfl, hr288793⟩
                refine At.sti ?_
                have hF288794 := Fr.tr hF288786 hF288791 rfl rfl
                refine At.enter rfl ?_
                refine r_ireti ?_
                exact ⟨_, rfl, hI288790, hF288794, _, rfl, by omega, (fun i i0 i1 i2 => ((eA_c (hF288791.2.1 233 (by decide))).trans ((eA_sA_ne (i := i) hI288760.1 ka_233 (by omega) (by omega) (by omega)).trans ((q288772 i i0 i1).trans (eA_c ((q267480.2.1 233 (by decide))))))))⟩
              · have c288781_ : x288758.toInt < v267506.toInt := en_i_ge_f c288781
                refine At.enter rfl ?_
                refine r_aload_n e288765 ?_
                refine q_getR (Sh.ref hI288760.1 kx_231 rfl) ?_
                refine r_iload_n e288766 ?_
                refine r_bipush 98 rfl ?_
                refine q_iadd (v278172.toInt + 98) rfl (by omega) (fun v288795 hv288795 => ?_)
                refine r_iconst 2 rfl ?_
                refine r_iload_n e288767 ?_
                refine q_imul (2 * x288758.toInt) rfl (by omega) (fun v288796 hv288796 => ?_)
                refine q_iadd (v288795.toInt + v288796.toInt) rfl (by omega) (fun v288797 hv288797 => ?_)
                refine r_aload_n e288765 ?_
                refine q_getR (Sh.ref hI288760.1 kx_231 rfl) ?_
                refine r_iload_n e288767 ?_
                obtain ⟨v288798, hv288798⟩ : ∃ v, eA g267471 238 x288758.toInt = v := ⟨_, rfl⟩
                refine q_iald (Sh.arr hI288760.1 ka_238) x288758.toInt rfl (by omega) v288798 ((eA_c (q288769.2.1 238 (by decide))).trans hv288798) ?_
                refine q_iast (Sh.arr hI288760.1 ka_233) ((900 * v213960.toInt + 2 * x288758.toInt + 208)) (by omega) (by omega) ?_
                have x288801 := HI.eqA hI288760 (p := 233) (j := 2) (((q288772 2 (by decide) (by decide)).trans ((eA_c (q267480.2.1 233 (by decide))).trans hv213960)))
                have hI288799 := HI.wfree hI288760 (j := (900 * v213960.toInt + 2 * x288758.toInt + 208)) (v := v288798) ⟨by omega, by omega⟩
                have hF288800 := Fr.wA (p := 233) (j := (900 * v213960.toInt + 2 * x288758.toInt + 208)) (v := v288798) hF288761 rfl
                refine r_aload_n e288765 ?_
                refine q_getR (Sh.ref hI288799.1 kx_231 rfl) ?_
                refine r_iload_n e288766 ?_
                refine r_bipush 98 rfl ?_
                refine q_iadd (v278172.toInt + 98) rfl (by omega) (fun v288802 hv288802 => ?_)
                refine r_iconst 2 rfl ?_
                refine r_iload_n e288767 ?_
                refine q_imul (2 * x288758.toInt) rfl (by omega) (fun v288803 hv288803 => ?_)
                refine q_iadd (v288802.toInt + v288803.toInt) rfl (by omega) (fun v288804 hv288804 => ?_)
                refine r_iconst 1 rfl ?_
                refine q_iadd (v288804.toInt + 1) rfl (by omega) (fun v288805 hv288805 => ?_)
                refine r_aload_n e288765 ?_
                refine q_getR (Sh.ref hI288799.1 kx_231 rfl) ?_
                refine r_iload_n e288767 ?_
                obtain ⟨v288806, hv288806⟩ : ∃ v, eA g267471 239 x288758.toInt = v := ⟨_, rfl⟩
                refine q_iald (Sh.arr hI288799.1 ka_239) x288758.toInt rfl (by omega) v288806 ((eA_c ((gA_sA_ne (by decide)).trans (q288769.2.1 239 (by decide)))).trans hv288806) ?_
                refine q_iast (Sh.arr hI288799.1 ka_233) ((900 * v213960.toInt + 2 * x288758.toInt + 209)) (by omega) (by omega) ?_
                have x288809 := HI.eqA hI288799 (p := 233) (j := 2) (((eA_sA_ne hI288760.1 ka_233 (by first | decide | omega) (by first | decide | omega) (by first | decide | omega)).trans ((q288772 2 (by decide) (by decide)).trans ((eA_c (q267480.2.1 233 (by decide))).trans hv213960))))
                have hI288807 := HI.wfree hI288799 (j := (900 * v213960.toInt + 2 * x288758.toInt + 209)) (v := v288806) ⟨by omega, by omega⟩
                have hF288808 := Fr.wA (p := 233) (j := (900 * v213960.toInt + 2 * x288758.toInt + 209)) (v := v288806) hF288800 rfl
                refine q_iinc e288767 (x288758.toInt + 1) rfl (by omega) (fun v288810 hv288810 => ?_)
                refine r_goto ?_
                exact ih288764 (400 - v288810.toInt) _ _ ⟨v288810, by first | rfl | omega, hI288807, hF288808, (w_p1 (by decide) (Or.inr rfl) e288765), (w_p1 (by decide) (Or.inr rfl) e288766), (w_e1 _ _ _), by omega, (Fr.wA (p := 233) (Fr.wA (p := 233) q288769 rfl) rfl), ((congrArg Int32.toInt (((eA_sA_ne (i := v278172.toInt + 1) hI288799.1 ka_233 (by omega) (by omega) (by omega)).trans (eA_sA_ne (i := v278172.toInt + 1) hI288760.1 ka_233 (by omega) (by omega) (by omega))))).trans q288770), (fun i i0 i1 => (congrArg Int32.toInt (((eA_sA_ne (i := v278172.toInt + 2 + i) hI288799.1 ka_233 (by omega) (by omega) (by omega)).trans (eA_sA_ne (i := v278172.toInt + 2 + i) hI288760.1 ka_233 (by omega) (by omega) (by omega))))).trans (q288771 i i0 i1)), (fun i i0 i1 => (((eA_sA_ne (i := i) hI288799.1 ka_233 (by omega) (by omega) (by omega)).trans (eA_sA_ne (i := i) hI288760.1 ka_233 (by omega) (by omega) (by omega)))).trans (q288772 i i0 i1)), (fun i i0 i1 => (Decidable.em (i = x288758.toInt)).elim (fun e => by rw [e]; exact ⟨((congrArg Int32.toInt ((eA_sA_ne (i := v278172.toInt + 98 + 2 * x288758.toInt) hI288799.1 ka_233 (by omega) (by omega) (by omega)).trans (eA_sA_eq hI288760.1 ka_233 (by omega) (by omega) (by omega)))).trans (congrArg Int32.toInt hv288798).symm), ((congrArg Int32.toInt (eA_sA_eq hI288799.1 ka_233 (by omega) (by omega) (by omega))).trans (congrArg Int32.toInt hv288806).symm)⟩) (fun e => ⟨(congrArg Int32.toInt (((eA_sA_ne (i := v278172.toInt + 98 + 2 * i) hI288799.1 ka_233 (by omega) (by omega) (by omega)).trans (eA_sA_ne (i := v278172.toInt + 98 + 2 * i) hI288760.1 ka_233 (by omega) (by omega) (by omega))))).trans (q288773 i i0 (by omega)).1, (congrArg Int32.toInt (((eA_sA_ne (i := v278172.toInt + 98 + 2 * i + 1) hI288799.1 ka_233 (by omega) (by omega) (by omega)).trans (eA_sA_ne (i := v278172.toInt + 98 + 2 * i + 1) hI288760.1 ka_233 (by omega) (by omega) (by omega))))).trans (q288773 i i0 (by omega)).2⟩))⟩ ⟨by omega, by omega⟩
            · have c288160_ : x288137.toInt < v288159.toInt := en_i_ge_f c288160
              refine At.enter rfl ?_
              refine r_aload_n e288144 ?_
              refine q_getR (Sh.ref hI288139.1 kx_231 rfl) ?_
              refine r_iload_n e288145 ?_
              refine r_iconst 2 rfl ?_
              refine q_iadd (v278172.toInt + 2) rfl (by omega) (fun v288811 hv288811 => ?_)
              refine r_iload_n e288146 ?_
              refine q_iadd (v288811.toInt + x288137.toInt) rfl (by omega) (fun v288812 hv288812 => ?_)
              refine r_aload_n e288144 ?_
              refine q_getR (Sh.ref hI288139.1 kx_231 rfl) ?_
              refine r_iload_n e288146 ?_
              obtain ⟨v288813, hv288813⟩ : ∃ v, eA g267471 237 x288137.toInt = v := ⟨_, rfl⟩
              refine q_iald (Sh.arr hI288139.1 ka_237) x288137.toInt rfl (by omega) v288813 ((eA_c (q288148.2.1 237 (by decide))).trans hv288813) ?_
              refine q_iast (Sh.arr hI288139.1 ka_233) ((900 * v213960.toInt + x288137.toInt + 112)) (by omega) (by omega) ?_
              have x288816 := HI.eqA hI288139 (p := 233) (j := 2) (((q288151 2 (by decide) (by decide)).trans ((eA_c (q267480.2.1 233 (by decide))).trans hv213960)))
              have hI288814 := HI.wfree hI288139 (j := (900 * v213960.toInt + x288137.toInt + 112)) (v := v288813) ⟨by omega, by omega⟩
              have hF288815 := Fr.wA (p := 233) (j := (900 * v213960.toInt + x288137.toInt + 112)) (v := v288813) hF288140 rfl
              refine q_iinc e288146 (x288137.toInt + 1) rfl (by omega) (fun v288817 hv288817 => ?_)
              refine r_goto ?_
              exact ih288143 (96 - v288817.toInt) _ _ ⟨v288817, by first | rfl | omega, hI288814, hF288815, (w_p1 (by decide) (Or.inr rfl) e288144), (w_p1 (by decide) (Or.inr rfl) e288145), (w_e1 _ _ _), by omega, (Fr.wA (p := 233) q288148 rfl), ((congrArg Int32.toInt ((eA_sA_ne (i := v278172.toInt + 1) hI288139.1 ka_233 (by omega) (by omega) (by omega)))).trans q288149), (fun i i0 i1 => (Decidable.em (i = x288137.toInt)).elim (fun e => by rw [e]; exact (congrArg Int32.toInt (eA_sA_eq hI288139.1 ka_233 (by omega) (by omega) (by omega))).trans (congrArg Int32.toInt hv288813).symm) (fun e => (congrArg Int32.toInt ((eA_sA_ne (i := v278172.toInt + 2 + i) hI288139.1 ka_233 (by omega) (by omega) (by omega)))).trans (q288150 i i0 (by omega)))), (fun i i0 i1 => ((eA_sA_ne (i := i) hI288139.1 ka_233 (by omega) (by omega) (by omega))).trans (q288151 i i0 i1))⟩ ⟨by omega, by omega⟩
          · have c278170_ : v267502.toInt ≠ 0 := en_k_eq_f c278170
            exfalso; omega
        · have c278167_ : v267500.toInt ≠ 0 := en_k_eq_f c278167
          refine At.enter rfl ?_
          refine r_aload_n e267478 ?_
          refine r_iconst 0 rfl ?_
          have x288818 := HI.eqI hI267472 (p := 231) (b := 8) (((q267480.1 231 8 (by decide)).trans hv1))
          have x288819 := HI.eqI hI267472 (p := 231) (b := 9) (e267477)
          have x288820 := HI.eqI hI267472 (p := 231) (b := 10) (hv267498)
          have x288821 := HI.eqI hI267472 (p := 231) (b := 11) (hv267500)
          have zv288822 : (0 : Int32).toInt = 0 := rfl
          refine r_callV 97 rfl [.ref 231, .int 0] [] (Nat.le_of_ble_eq_true rfl) rfl (T_X11_must_231 _ hI267472 0 (by decide) (by refine ⟨?_, ?_, ?_, ?_⟩ <;> omega) q267485) ?_
          rintro _ _ ⟨g288823, rfl, hI288824, hF288825, rfl, hr288827⟩
          refine At.stn ?_
          have hF288828 := Fr.tr hF267473 hF288825 rfl rfl
          have zv288829 : (0 : Int32).toInt = 0 := rfl
          have x288830 := HI.eqI hI267472 (p := 231) (b := 8) (((q267480.1 231 8 (by decide)).trans hv1))
          have x288831 := HI.eqI hI267472 (p := 231) (b := 9) (e267477)
          have x288832 := HI.eqI hI267472 (p := 231) (b := 10) (hv267498)
          have x288833 := HI.eqI hI267472 (p := 231) (b := 11) (hv267500)
          have x288834 := HI.eqI hI267472 (p := 231) (b := 14) (hv267502)
          have x288835 := HI.eqI hI288824 (p := 231) (b := 8) ((((hF288825.1 231 8 (by decide)).trans (q267480.1 231 8 (by decide))).trans hv1))
          obtain ⟨v288836, hv288836⟩ : ∃ v, gI g288823 231 9 = v := ⟨_, rfl⟩
          have rv288836 := RgF.at hI288824.2.1 (p := 231) (b := 9) rfl
          rw [hv288836] at rv288836
          dsimp only at rv288836
          have tv288836 := congrArg Int32.toInt hv288836
          have x288837 := HI.eqI hI288824 (p := 231) (b := 9) (hv288836)
          obtain ⟨v288838, hv288838⟩ : ∃ v, gI g288823 231 10 = v := ⟨_, rfl⟩
          have rv288838 := RgF.at hI288824.2.1 (p := 231) (b := 10) rfl
          rw [hv288838] at rv288838
          dsimp only at rv288838
          have tv288838 := congrArg Int32.toInt hv288838
          have x288839 := HI.eqI hI288824 (p := 231) (b := 10) (hv288838)
          obtain ⟨v288840, hv288840⟩ : ∃ v, gI g288823 231 11 = v := ⟨_, rfl⟩
          have tv288840 := congrArg Int32.toInt hv288840
          have x288841 := HI.eqI hI288824 (p := 231) (b := 11) (hv288840)
          obtain ⟨v288842, hv288842⟩ : ∃ v, gI g288823 231 14 = v := ⟨_, rfl⟩
          have tv288842 := congrArg Int32.toInt hv288842
          have x288843 := HI.eqI hI288824 (p := 231) (b := 14) (hv288842)
          obtain ⟨c288844, c288845, c288846, c288847, c288848, c288849, c288850⟩ := hr288827
          refine At.enter rfl ?_
          refine r_aload_n e267478 ?_
          refine r_iconst 0 rfl ?_
          refine q_putI (Sh.int hI288824.1 kx_231 rfl) rfl ?_
          have hI288851 := HI.wI1 hI288824 kx_231 rfl (p := 231) (b := 8) (v := 0) rfl (by decide)
          have hF288852 := Fr.wI (p := 231) (b := 8) (v := 0) hF288828 rfl
          refine r_aload_n e267478 ?_
          refine q_getI (Sh.int hI288851.1 kx_231 rfl) v288842 ((gI_sI_ne (by decide)).trans hv288842) ?_
          refine r_ifs 109 rfl (fun c288853 => ?_) (fun c288853 => ?_)
          · have c288853_ : v288842.toInt = 0 := en_k_eq_t c288853
            obtain ⟨i288854, i288855, i288856⟩ := c288850 (by omega)
            refine At.enter rfl ?_
            refine r_bipush 110 rfl ?_
            refine r_sipush 900 rfl ?_
            refine r_aload_n e267478 ?_
            refine q_getR (Sh.ref hI288851.1 kx_231 rfl) ?_
            refine r_iconst 2 rfl ?_
            refine q_iald (Sh.arr hI288851.1 ka_233) 2 rfl (by decide) v213960 ((eA_c ((gA_sI).trans ((hF288825.2.1 233 (by decide)).trans (q267480.2.1 233 (by decide))))).trans hv213960) ?_
            refine q_imul (900 * v213960.toInt) rfl (by omega) (fun v288857 hv288857 => ?_)
            refine q_iadd (110 + v288857.toInt) rfl (by omega) (fun v288858 hv288858 => ?_)
            refine r_istore_n _ rfl ?_
            refine r_aload_n (w_p1 (by decide) (Or.inr rfl) e267478) ?_
            refine q_getR (Sh.ref hI288851.1 kx_231 rfl) ?_
            refine r_iload_n (w_e1 _ _ _) ?_
            refine r_iconst 1 rfl ?_
            refine q_iadd (v288858.toInt + 1) rfl (by omega) (fun v288859 hv288859 => ?_)
            refine r_aload_n (w_p1 (by decide) (Or.inr rfl) e267478) ?_
            refine q_getI (Sh.int hI288851.1 kx_231 rfl) v267504 (((gI_sI_ne (by decide)).trans (hF288825.1 231 15 (by decide))).trans hv267504) ?_
            refine q_iast (Sh.arr hI288851.1 ka_233) ((900 * v213960.toInt + 111)) (by omega) (by omega) ?_
            have x288862 := HI.eqA hI288851 (p := 233) (j := 2) ((((eA_c gA_sI).trans ((eA_c (hF288825.2.1 233 (by decide))).trans (eA_c (q267480.2.1 233 (by decide))))).trans hv213960))
            have hI288860 := HI.wfree hI288851 (j := (900 * v213960.toInt + 111)) (v := v267504) ⟨by omega, by omega⟩
            have hF288861 := Fr.wA (p := 233) (j := (900 * v213960.toInt + 111)) (v := v267504) hF288852 rfl
            refine r_iconst 0 rfl ?_
            refine r_istore_n _ rfl ?_
            refine Ar.fall 144 rfl ?_
            have z_298838 : (0 : Int32).toInt = 0 := rfl
            have x298839 := HI.eqI hI288824 (p := 231) (b := 15) (((hF288825.1 231 15 (by decide)).trans hv267504))
            have x298840 := HI.eqI hI288824 (p := 231) (b := 17) (((hF288825.1 231 17 (by decide)).trans hv267506))
            refine w_loopI (fun n_ l_ g_ => ∃ x298823 : Int32, n_ = 96 - x298823.toInt ∧ HI g_ ∧ Fr F_X11_law_231 A_X11_law_231 g0 g_ ∧ en_get 0 l_ = some (.ref 231) ∧ en_get 1 l_ = some (.int v288858) ∧ en_get 2 l_ = some (.int x298823) ∧ (0 ≤ x298823.toInt ∧ x298823.toInt ≤ 96) ∧ (Fr [(231, 8)] [233] g288823 g_) ∧ ((eA g_ 233 (v288858.toInt + 1)).toInt = (gI g288823 231 15).toInt) ∧ (∀ i : Int, 0 ≤ i → i < x298823.toInt → (eA g_ 233 (v288858.toInt + 2 + i)).toInt = (eA g288823 237 i).toInt) ∧ (∀ i : Int, 0 ≤ i → i < 110 → eA g_ 233 i = eA g288823 233 i)) ?_ (96 - 0) ⟨0, by first | rfl | omega, hI288860, hF288861, (w_p1 (by decide) (Or.inr rfl) (w_p1 (by decide) (Or.inr rfl) e267478)), (w_p1 (by decide) (Or.inr rfl) (w_e1 _ _ _)), (w_e1 _ _ _), by decide, (Fr.wA (p := 233) (Fr.wI (p := 231) (b := 8) Fr.rf rfl) rfl), ((congrArg Int32.toInt (eA_sA_eq hI288851.1 ka_233 (by omega) (by omega) (by omega))).trans (by omega)), (fun i i0 i1 => absurd i1 (by omega)), (fun i i0 i1 => ((eA_sA_ne (i := i) hI288851.1 ka_233 (by omega) (by omega) (by omega)).trans (eA_c gA_sI)))⟩
            rintro n298828 l298827 g298824 ⟨x298823, hm298841, hI298825, hF298826, e298830, e298831, e298832, r298833, q298834, q298835, q298836, q298837⟩ ih298829
            have x298842 := HI.eqI hI288824 (p := 231) (b := 15) (((hF288825.1 231 15 (by decide)).trans hv267504))
            have x298843 := HI.eqI hI288824 (p := 231) (b := 17) (((hF288825.1 231 17 (by decide)).trans hv267506))
            have t298844 := congrArg Int32.toInt ((q298837 2 (by decide) (by decide)).trans (((eA_c (hF288825.2.1 233 (by decide))).trans (eA_c (q267480.2.1 233 (by decide)))).trans hv213960))
            refine At.enter rfl ?_
            refine r_iload_n e298832 ?_
            refine r_bipush 8 rfl ?_
            refine r_aload_n e298830 ?_
            refine q_getI (Sh.int hI298825.1 kx_231 rfl) v267504 (((q298834.1 231 15 (by decide)).trans (hF288825.1 231 15 (by decide))).trans hv267504) ?_
            refine q_imul (8 * v267504.toInt) rfl (by omega) (fun v298845 hv298845 => ?_)
            have bv298847 := q_bnd x298823
            have bv298848 := q_bnd v298845
            refine r_ics 155 rfl (fun c298846 => ?_) (fun c298846 => ?_)
            · have c298846_ : x298823.toInt ≥ v298845.toInt := en_i_ge_t c298846
              refine At.enter rfl ?_
              refine r_iconst 0 rfl ?_
              refine r_istore_n _ rfl ?_
              refine Ar.fall 179 rfl ?_
              have z_299460 : (0 : Int32).toInt = 0 := rfl
              have x299461 := HI.eqI hI288824 (p := 231) (b := 15) (((hF288825.1 231 15 (by decide)).trans hv267504))
              have x299462 := HI.eqI hI288824 (p := 231) (b := 17) (((hF288825.1 231 17 (by decide)).trans hv267506))
              refine w_loopI (fun n_ l_ g_ => ∃ x299444 : Int32, n_ = 400 - x299444.toInt ∧ HI g_ ∧ Fr F_X11_law_231 A_X11_law_231 g0 g_ ∧ en_get 0 l_ = some (.ref 231) ∧ en_get 1 l_ = some (.int v288858) ∧ en_get 2 l_ = some (.int x299444) ∧ (0 ≤ x299444.toInt ∧ x299444.toInt ≤ 400) ∧ (Fr [(231, 8)] [233] g288823 g_) ∧ ((eA g_ 233 (v288858.toInt + 1)).toInt = (gI g288823 231 15).toInt) ∧ (∀ i : Int, 0 ≤ i → i < 8 * (gI g288823 231 15).toInt → (eA g_ 233 (v288858.toInt + 2 + i)).toInt = (eA g288823 237 i).toInt) ∧ (∀ i : Int, 0 ≤ i → i < 110 → eA g_ 233 i = eA g288823 233 i) ∧ (∀ i : Int, 0 ≤ i → i < x299444.toInt → (eA g_ 233 (v288858.toInt + 98 + 2 * i)).toInt = (eA g288823 238 i).toInt ∧ (eA g_ 233 (v288858.toInt + 98 + 2 * i + 1)).toInt = (eA g288823 239 i).toInt)) ?_ (400 - 0) ⟨0, by first | rfl | omega, hI298825, hF298826, (w_p1 (by decide) (Or.inr rfl) e298830), (w_p1 (by decide) (Or.inr rfl) e298831), (w_e1 _ _ _), by decide, (Fr.tr Fr.rf q298834 rfl rfl), ((congrArg Int32.toInt (rfl)).trans q298835), (fun i i0 i1 => q298836 i i0 (by omega)), (fun i i0 i1 => (rfl).trans (q298837 i i0 i1)), (fun i i0 i1 => absurd i1 (by omega))⟩
              rintro n299449 l299448 g299445 ⟨x299444, hm299463, hI299446, hF299447, e299451, e299452, e299453, r299454, q299455, q299456, q299457, q299458, q299459⟩ ih299450
              have x299464 := HI.eqI hI288824 (p := 231) (b := 15) (((hF288825.1 231 15 (by decide)).trans hv267504))
              have x299465 := HI.eqI hI288824 (p := 231) (b := 17) (((hF288825.1 231 17 (by decide)).trans hv267506))
              have t299466 := congrArg Int32.toInt ((q299458 2 (by decide) (by decide)).trans (((eA_c (hF288825.2.1 233 (by decide))).trans (eA_c (q267480.2.1 233 (by decide)))).trans hv213960))
              refine At.enter rfl ?_
              refine r_iload_n e299453 ?_
              refine r_aload_n e299451 ?_
              refine q_getI (Sh.int hI299446.1 kx_231 rfl) v267506 (((q299455.1 231 17 (by decide)).trans (hF288825.1 231 17 (by decide))).trans hv267506) ?_
              have bv299468 := q_bnd x299444
              have bv299469 := q_bnd v267506
              refine r_ics 187 rfl (fun c299467 => ?_) (fun c299467 => ?_)
              · have c299467_ : x299444.toInt ≥ v267506.toInt := en_i_ge_t c299467
                refine At.enter rfl ?_
                refine r_aload_n e299451 ?_
                refine q_getR (Sh.ref hI299446.1 kx_231 rfl) ?_
                refine r_iconst 2 rfl ?_
                refine r_dup2 ⟨rfl, rfl⟩ ?_
                refine q_iald (Sh.arr hI299446.1 ka_233) 2 rfl (by decide) v213960 ((q299458 2 (by decide) (by decide)).trans (((eA_c (hF288825.2.1 233 (by decide))).trans (eA_c (q267480.2.1 233 (by decide)))).trans hv213960)) ?_
                refine r_iconst 1 rfl ?_
                refine q_iadd (v213960.toInt + 1) rfl (by omega) (fun v299470 hv299470 => ?_)
                refine q_iast (Sh.arr hI299446.1 ka_233) (2) rfl (by decide) ?_
                have x299473 := HI.eqA hI299446 (p := 233) (j := 2) (((q299458 2 (by decide) (by decide)).trans (((eA_c (hF288825.2.1 233 (by decide))).trans (eA_c (q267480.2.1 233 (by decide)))).trans hv213960)))
                have hI299471 := HI.wt2 hI299446 (v := v299470) (by omega) (by omega) (by rw [show 110 + 900 * (eA _ 233 2).toInt = v288858.toInt by omega]; exact LAW.mk (CLS.cong2 (q267486 (by omega)).2 hI288824 ((hF288825.2.1 238 (by decide))) ((hF288825.2.1 239 (by decide))) ((hF288825.2.1 237 (by decide))) ((hF288825.1 231 15 (by decide))) ((hF288825.1 231 17 (by decide)))) ⟨by omega, by omega⟩ (by omega) q299456 q299457 (fun i i0 i1 => q299459 i i0 (by omega)))
                have hF299472 := Fr.wA (p := 233) (j := 2) (v := v299470) hF299447 rfl
                refine r_aload_n e299451 ?_
                refine r_aload_n e299451 ?_
                refine q_getR (Sh.ref hI299471.1 kx_231 rfl) ?_
                refine r_iconst 2 rfl ?_
                refine q_iald (Sh.arr hI299471.1 ka_233) 2 rfl (by decide) v299470 (eA_sA_eq hI299446.1 ka_233 (by first | rfl | omega) (by first | decide | omega) (by first | decide | omega)) ?_
                refine r_iconst 1 rfl ?_
                refine q_isub (v299470.toInt - 1) rfl (by omega) (fun v299474 hv299474 => ?_)
                refine r_callV 255 rfl [.ref 231, .int v299474] [] (Nat.le_of_ble_eq_true rfl) rfl (T_X11_tell_231 _ hI299471 v299474 (by omega)) ?_
                rintro _ _ ⟨g299475, rfl, hI299476, hF299477, v299478, rfl, hr299479⟩
                refine At.sti ?_
                have hF299480 := Fr.tr hF299472 hF299477 rfl rfl
                refine At.enter rfl ?_
                refine r_ireti ?_
                exact ⟨_, rfl, hI299476, hF299480, _, rfl, by omega, (fun i i0 i1 i2 => ((eA_c (hF299477.2.1 233 (by decide))).trans ((eA_sA_ne (i := i) hI299446.1 ka_233 (by omega) (by omega) (by omega)).trans ((q299458 i i0 i1).trans (eA_c (((hF288825.2.1 233 (by decide)).trans (q267480.2.1 233 (by decide)))))))))⟩
              · have c299467_ : x299444.toInt < v267506.toInt := en_i_ge_f c299467
                refine At.enter rfl ?_
                refine r_aload_n e299451 ?_
                refine q_getR (Sh.ref hI299446.1 kx_231 rfl) ?_
                refine r_iload_n e299452 ?_
                refine r_bipush 98 rfl ?_
                refine q_iadd (v288858.toInt + 98) rfl (by omega) (fun v299481 hv299481 => ?_)
                refine r_iconst 2 rfl ?_
                refine r_iload_n e299453 ?_
                refine q_imul (2 * x299444.toInt) rfl (by omega) (fun v299482 hv299482 => ?_)
                refine q_iadd (v299481.toInt + v299482.toInt) rfl (by omega) (fun v299483 hv299483 => ?_)
                refine r_aload_n e299451 ?_
                refine q_getR (Sh.ref hI299446.1 kx_231 rfl) ?_
                refine r_iload_n e299453 ?_
                obtain ⟨v299484, hv299484⟩ : ∃ v, eA g267471 238 x299444.toInt = v := ⟨_, rfl⟩
                refine q_iald (Sh.arr hI299446.1 ka_238) x299444.toInt rfl (by omega) v299484 ((eA_c ((q299455.2.1 238 (by decide)).trans (hF288825.2.1 238 (by decide)))).trans hv299484) ?_
                refine q_iast (Sh.arr hI299446.1 ka_233) ((900 * v213960.toInt + 2 * x299444.toInt + 208)) (by omega) (by omega) ?_
                have x299487 := HI.eqA hI299446 (p := 233) (j := 2) (((q299458 2 (by decide) (by decide)).trans (((eA_c (hF288825.2.1 233 (by decide))).trans (eA_c (q267480.2.1 233 (by decide)))).trans hv213960)))
                have hI299485 := HI.wfree hI299446 (j := (900 * v213960.toInt + 2 * x299444.toInt + 208)) (v := v299484) ⟨by omega, by omega⟩
                have hF299486 := Fr.wA (p := 233) (j := (900 * v213960.toInt + 2 * x299444.toInt + 208)) (v := v299484) hF299447 rfl
                refine r_aload_n e299451 ?_
                refine q_getR (Sh.ref hI299485.1 kx_231 rfl) ?_
                refine r_iload_n e299452 ?_
                refine r_bipush 98 rfl ?_
                refine q_iadd (v288858.toInt + 98) rfl (by omega) (fun v299488 hv299488 => ?_)
                refine r_iconst 2 rfl ?_
                refine r_iload_n e299453 ?_
                refine q_imul (2 * x299444.toInt) rfl (by omega) (fun v299489 hv299489 => ?_)
                refine q_iadd (v299488.toInt + v299489.toInt) rfl (by omega) (fun v299490 hv299490 => ?_)
                refine r_iconst 1 rfl ?_
                refine q_iadd (v299490.toInt + 1) rfl (by omega) (fun v299491 hv299491 => ?_)
                refine r_aload_n e299451 ?_
                refine q_getR (Sh.ref hI299485.1 kx_231 rfl) ?_
                refine r_iload_n e299453 ?_
                obtain ⟨v299492, hv299492⟩ : ∃ v, eA g267471 239 x299444.toInt = v := ⟨_, rfl⟩
                refine q_iald (Sh.arr hI299485.1 ka_239) x299444.toInt rfl (by omega) v299492 ((eA_c ((gA_sA_ne (by decide)).trans ((q299455.2.1 239 (by decide)).trans (hF288825.2.1 239 (by decide))))).trans hv299492) ?_
                refine q_iast (Sh.arr hI299485.1 ka_233) ((900 * v213960.toInt + 2 * x299444.toInt + 209)) (by omega) (by omega) ?_
                have x299495 := HI.eqA hI299485 (p := 233) (j := 2) (((eA_sA_ne hI299446.1 ka_233 (by first | decide | omega) (by first | decide | omega) (by first | decide | omega)).trans ((q299458 2 (by decide) (by decide)).trans (((eA_c (hF288825.2.1 233 (by decide))).trans (eA_c (q267480.2.1 233 (by decide)))).trans hv213960))))
                have hI299493 := HI.wfree hI299485 (j := (900 * v213960.toInt + 2 * x299444.toInt + 209)) (v := v299492) ⟨by omega, by omega⟩
                have hF299494 := Fr.wA (p := 233) (j := (900 * v213960.toInt + 2 * x299444.toInt + 209)) (v := v299492) hF299486 rfl
                refine q_iinc e299453 (x299444.toInt + 1) rfl (by omega) (fun v299496 hv299496 => ?_)
                refine r_goto ?_
                exact ih299450 (400 - v299496.toInt) _ _ ⟨v299496, by first | rfl | omega, hI299493, hF299494, (w_p1 (by decide) (Or.inr rfl) e299451), (w_p1 (by decide) (Or.inr rfl) e299452), (w_e1 _ _ _), by omega, (Fr.wA (p := 233) (Fr.wA (p := 233) q299455 rfl) rfl), ((congrArg Int32.toInt (((eA_sA_ne (i := v288858.toInt + 1) hI299485.1 ka_233 (by omega) (by omega) (by omega)).trans (eA_sA_ne (i := v288858.toInt + 1) hI299446.1 ka_233 (by omega) (by omega) (by omega))))).trans q299456), (fun i i0 i1 => (congrArg Int32.toInt (((eA_sA_ne (i := v288858.toInt + 2 + i) hI299485.1 ka_233 (by omega) (by omega) (by omega)).trans (eA_sA_ne (i := v288858.toInt + 2 + i) hI299446.1 ka_233 (by omega) (by omega) (by omega))))).trans (q299457 i i0 i1)), (fun i i0 i1 => (((eA_sA_ne (i := i) hI299485.1 ka_233 (by omega) (by omega) (by omega)).trans (eA_sA_ne (i := i) hI299446.1 ka_233 (by omega) (by omega) (by omega)))).trans (q299458 i i0 i1)), (fun i i0 i1 => (Decidable.em (i = x299444.toInt)).elim (fun e => by rw [e]; exact ⟨((congrArg Int32.toInt ((eA_sA_ne (i := v288858.toInt + 98 + 2 * x299444.toInt) hI299485.1 ka_233 (by omega) (by omega) (by omega)).trans (eA_sA_eq hI299446.1 ka_233 (by omega) (by omega) (by omega)))).trans (congrArg Int32.toInt ((eA_c ((hF288825.2.1 238 (by decide)))).trans hv299484)).symm), ((congrArg Int32.toInt (eA_sA_eq hI299485.1 ka_233 (by omega) (by omega) (by omega))).trans (congrArg Int32.toInt ((eA_c ((hF288825.2.1 239 (by decide)))).trans hv299492)).symm)⟩) (fun e => ⟨(congrArg Int32.toInt (((eA_sA_ne (i := v288858.toInt + 98 + 2 * i) hI299485.1 ka_233 (by omega) (by omega) (by omega)).trans (eA_sA_ne (i := v288858.toInt + 98 + 2 * i) hI299446.1 ka_233 (by omega) (by omega) (by omega))))).trans (q299459 i i0 (by omega)).1, (congrArg Int32.toInt (((eA_sA_ne (i := v288858.toInt + 98 + 2 * i + 1) hI299485.1 ka_233 (by omega) (by omega) (by omega)).trans (eA_sA_ne (i := v288858.toInt + 98 + 2 * i + 1) hI299446.1 ka_233 (by omega) (by omega) (by omega))))).trans (q299459 i i0 (by omega)).2⟩))⟩ ⟨by omega, by omega⟩
            · have c298846_ : x298823.toInt < v298845.toInt := en_i_ge_f c298846
              refine At.enter rfl ?_
              refine r_aload_n e298830 ?_
              refine q_getR (Sh.ref hI298825.1 kx_231 rfl) ?_
              refine r_iload_n e298831 ?_
              refine r_iconst 2 rfl ?_
              refine q_iadd (v288858.toInt + 2) rfl (by omega) (fun v299497 hv299497 => ?_)
              refine r_iload_n e298832 ?_
              refine q_iadd (v299497.toInt + x298823.toInt) rfl (by omega) (fun v299498 hv299498 => ?_)
              refine r_aload_n e298830 ?_
              refine q_getR (Sh.ref hI298825.1 kx_231 rfl) ?_
              refine r_iload_n e298832 ?_
              obtain ⟨v299499, hv299499⟩ : ∃ v, eA g267471 237 x298823.toInt = v := ⟨_, rfl⟩
              refine q_iald (Sh.arr hI298825.1 ka_237) x298823.toInt rfl (by omega) v299499 ((eA_c ((q298834.2.1 237 (by decide)).trans (hF288825.2.1 237 (by decide)))).trans hv299499) ?_
              refine q_iast (Sh.arr hI298825.1 ka_233) ((900 * v213960.toInt + x298823.toInt + 112)) (by omega) (by omega) ?_
              have x299502 := HI.eqA hI298825 (p := 233) (j := 2) (((q298837 2 (by decide) (by decide)).trans (((eA_c (hF288825.2.1 233 (by decide))).trans (eA_c (q267480.2.1 233 (by decide)))).trans hv213960)))
              have hI299500 := HI.wfree hI298825 (j := (900 * v213960.toInt + x298823.toInt + 112)) (v := v299499) ⟨by omega, by omega⟩
              have hF299501 := Fr.wA (p := 233) (j := (900 * v213960.toInt + x298823.toInt + 112)) (v := v299499) hF298826 rfl
              refine q_iinc e298832 (x298823.toInt + 1) rfl (by omega) (fun v299503 hv299503 => ?_)
              refine r_goto ?_
              exact ih298829 (96 - v299503.toInt) _ _ ⟨v299503, by first | rfl | omega, hI299500, hF299501, (w_p1 (by decide) (Or.inr rfl) e298830), (w_p1 (by decide) (Or.inr rfl) e298831), (w_e1 _ _ _), by omega, (Fr.wA (p := 233) q298834 rfl), ((congrArg Int32.toInt ((eA_sA_ne (i := v288858.toInt + 1) hI298825.1 ka_233 (by omega) (by omega) (by omega)))).trans q298835), (fun i i0 i1 => (Decidable.em (i = x298823.toInt)).elim (fun e => by rw [e]; exact (congrArg Int32.toInt (eA_sA_eq hI298825.1 ka_233 (by omega) (by omega) (by omega))).trans (congrArg Int32.toInt ((eA_c ((hF288825.2.1 237 (by decide)))).trans hv299499)).symm) (fun e => (congrArg Int32.toInt ((eA_sA_ne (i := v288858.toInt + 2 + i) hI298825.1 ka_233 (by omega) (by omega) (by omega)))).trans (q298836 i i0 (by omega)))), (fun i i0 i1 => ((eA_sA_ne (i := i) hI298825.1 ka_233 (by omega) (by omega) (by omega))).trans (q298837 i i0 i1))⟩ ⟨by omega, by omega⟩
          · have c288853_ : v288842.toInt ≠ 0 := en_k_eq_f c288853
            clear c288850
            refine At.enter rfl ?_
            refine r_aload_n e267478 ?_
            refine r_bipush (-6) rfl ?_
            refine r_callV 115 rfl [.ref 231, .int (-6)] [] (Nat.le_of_ble_eq_true rfl) rfl (T_X11_tell_231 _ hI288851 (-6) (by decide)) ?_
            rintro _ _ ⟨g299504, rfl, hI299505, hF299506, v299507, rfl, hr299508⟩
            refine At.sti ?_
            have hF299509 := Fr.tr hF288852 hF299506 rfl rfl
            have zv299510 : ((-6) : Int32).toInt = (-6) := rfl
            refine At.enter rfl ?_
            refine r_ireti ?_
            exact ⟨_, rfl, hI299505, hF299509, _, rfl, by omega, (fun i i0 i1 i2 => eA_c (((hF299506.2.1 233 (by decide)).trans ((gA_sI).trans ((hF288825.2.1 233 (by decide)).trans (q267480.2.1 233 (by decide)))))))⟩
    · have c267508_ : v267502.toInt = 0 := en_k_ne_f c267508
      refine At.enter rfl ?_
      refine r_aload_n e267478 ?_
      refine r_bipush 59 rfl ?_
      have x299511 := HI.eqI hI267472 (p := 231) (b := 11) (hv267500)
      have zv299512 : (59 : Int32).toInt = 59 := rfl
      refine r_callV 64 rfl [.ref 231, .int 59] [] (Nat.le_of_ble_eq_true rfl) rfl (T_X11_isSign_231 _ hI267472 59 (by omega)) ?_
      rintro _ _ ⟨g299513, rfl, hI299514, hF299515, v299516, rfl, hr299517⟩
      refine At.sti ?_
      have hF299518 := Fr.tr hF267473 hF299515 rfl rfl
      have zv299519 : (59 : Int32).toInt = 59 := rfl
      have x299520 := HI.eqI hI267472 (p := 231) (b := 11) (hv267500)
      have x299521 := HI.eqI hI299514 (p := 231) (b := 11) (((hF299515.1 231 11 (by decide)).trans hv267500))
      refine At.enter rfl ?_
      refine r_ifs 67 rfl (fun c299522 => ?_) (fun c299522 => ?_)
      · have c299522_ : v299516.toInt = 0 := en_k_eq_t c299522
        refine At.enter rfl ?_
        refine r_aload_n e267478 ?_
        refine q_getI (Sh.int hI299514.1 kx_231 rfl) v267502 ((hF299515.1 231 14 (by decide)).trans hv267502) ?_
        refine r_ifs 85 rfl (fun c299523 => ?_) (fun c299523 => ?_)
        · have c299523_ : v267502.toInt ≠ 0 := en_k_ne_t c299523
          exfalso; omega
        · have c299523_ : v267502.toInt = 0 := en_k_ne_f c299523
          refine At.enter rfl ?_
          refine r_aload_n e267478 ?_
          refine q_getI (Sh.int hI299514.1 kx_231 rfl) v267500 ((hF299515.1 231 11 (by decide)).trans hv267500) ?_
          refine r_ifs 92 rfl (fun c299524 => ?_) (fun c299524 => ?_)
          · have c299524_ : v267500.toInt = 0 := en_k_eq_t c299524
            refine At.enter rfl ?_
            refine r_aload_n e267478 ?_
            refine r_iconst 0 rfl ?_
            refine q_putI (Sh.int hI299514.1 kx_231 rfl) rfl ?_
            have hI299525 := HI.wI1 hI299514 kx_231 rfl (p := 231) (b := 8) (v := 0) rfl (by decide)
            have hF299526 := Fr.wI (p := 231) (b := 8) (v := 0) hF299518 rfl
            refine r_aload_n e267478 ?_
            refine q_getI (Sh.int hI299525.1 kx_231 rfl) v267502 (((gI_sI_ne (by decide)).trans (hF299515.1 231 14 (by decide))).trans hv267502) ?_
            refine r_ifs 109 rfl (fun c299527 => ?_) (fun c299527 => ?_)
            · have c299527_ : v267502.toInt = 0 := en_k_eq_t c299527
              refine At.enter rfl ?_
              refine r_bipush 110 rfl ?_
              refine r_sipush 900 rfl ?_
              refine r_aload_n e267478 ?_
              refine q_getR (Sh.ref hI299525.1 kx_231 rfl) ?_
              refine r_iconst 2 rfl ?_
              refine q_iald (Sh.arr hI299525.1 ka_233) 2 rfl (by decide) v213960 ((eA_c ((gA_sI).trans ((hF299515.2.1 233 (by decide)).trans (q267480.2.1 233 (by decide))))).trans hv213960) ?_
              refine q_imul (900 * v213960.toInt) rfl (by omega) (fun v299528 hv299528 => ?_)
              refine q_iadd (110 + v299528.toInt) rfl (by omega) (fun v299529 hv299529 => ?_)
              refine r_istore_n _ rfl ?_
              refine r_aload_n (w_p1 (by decide) (Or.inr rfl) e267478) ?_
              refine q_getR (Sh.ref hI299525.1 kx_231 rfl) ?_
              refine r_iload_n (w_e1 _ _ _) ?_
              refine r_iconst 1 rfl ?_
              refine q_iadd (v299529.toInt + 1) rfl (by omega) (fun v299530 hv299530 => ?_)
              refine r_aload_n (w_p1 (by decide) (Or.inr rfl) e267478) ?_
              refine q_getI (Sh.int hI299525.1 kx_231 rfl) v267504 (((gI_sI_ne (by decide)).trans (hF299515.1 231 15 (by decide))).trans hv267504) ?_
              refine q_iast (Sh.arr hI299525.1 ka_233) ((900 * v213960.toInt + 111)) (by omega) (by omega) ?_
              have x299533 := HI.eqA hI299525 (p := 233) (j := 2) ((((eA_c gA_sI).trans ((eA_c (hF299515.2.1 233 (by decide))).trans (eA_c (q267480.2.1 233 (by decide))))).trans hv213960))
              have hI299531 := HI.wfree hI299525 (j := (900 * v213960.toInt + 111)) (v := v267504) ⟨by omega, by omega⟩
              have hF299532 := Fr.wA (p := 233) (j := (900 * v213960.toInt + 111)) (v := v267504) hF299526 rfl
              refine r_iconst 0 rfl ?_
              refine r_istore_n _ rfl ?_
              refine Ar.fall 144 rfl ?_
              have z_309509 : (0 : Int32).toInt = 0 := rfl
              have x309510 := HI.eqI hI299514 (p := 231) (b := 15) (((hF299515.1 231 15 (by decide)).trans hv267504))
              have x309511 := HI.eqI hI299514 (p := 231) (b := 17) (((hF299515.1 231 17 (by decide)).trans hv267506))
              refine w_loopI (fun n_ l_ g_ => ∃ x309494 : Int32, n_ = 96 - x309494.toInt ∧ HI g_ ∧ Fr F_X11_law_231 A_X11_law_231 g0 g_ ∧ en_get 0 l_ = some (.ref 231) ∧ en_get 1 l_ = some (.int v299529) ∧ en_get 2 l_ = some (.int x309494) ∧ (0 ≤ x309494.toInt ∧ x309494.toInt ≤ 96) ∧ (Fr [(231, 8)] [233] g299513 g_) ∧ ((eA g_ 233 (v299529.toInt + 1)).toInt = (gI g299513 231 15).toInt) ∧ (∀ i : Int, 0 ≤ i → i < x309494.toInt → (eA g_ 233 (v299529.toInt + 2 + i)).toInt = (eA g299513 237 i).toInt) ∧ (∀ i : Int, 0 ≤ i → i < 110 → eA g_ 233 i = eA g299513 233 i)) ?_ (96 - 0) ⟨0, by first | rfl | omega, hI299531, hF299532, (w_p1 (by decide) (Or.inr rfl) (w_p1 (by decide) (Or.inr rfl) e267478)), (w_p1 (by decide) (Or.inr rfl) (w_e1 _ _ _)), (w_e1 _ _ _), by decide, (Fr.wA (p := 233) (Fr.wI (p := 231) (b := 8) Fr.rf rfl) rfl), ((congrArg Int32.toInt (eA_sA_eq hI299525.1 ka_233 (by omega) (by omega) (by omega))).trans (by omega)), (fun i i0 i1 => absurd i1 (by omega)), (fun i i0 i1 => ((eA_sA_ne (i := i) hI299525.1 ka_233 (by omega) (by omega) (by omega)).trans (eA_c gA_sI)))⟩
              rintro n309499 l309498 g309495 ⟨x309494, hm309512, hI309496, hF309497, e309501, e309502, e309503, r309504, q309505, q309506, q309507, q309508⟩ ih309500
              have x309513 := HI.eqI hI299514 (p := 231) (b := 15) (((hF299515.1 231 15 (by decide)).trans hv267504))
              have x309514 := HI.eqI hI299514 (p := 231) (b := 17) (((hF299515.1 231 17 (by decide)).trans hv267506))
              have t309515 := congrArg Int32.toInt ((q309508 2 (by decide) (by decide)).trans (((eA_c (hF299515.2.1 233 (by decide))).trans (eA_c (q267480.2.1 233 (by decide)))).trans hv213960))
              refine At.enter rfl ?_
              refine r_iload_n e309503 ?_
              refine r_bipush 8 rfl ?_
              refine r_aload_n e309501 ?_
              refine q_getI (Sh.int hI309496.1 kx_231 rfl) v267504 (((q309505.1 231 15 (by decide)).trans (hF299515.1 231 15 (by decide))).trans hv267504) ?_
              refine q_imul (8 * v267504.toInt) rfl (by omega) (fun v309516 hv309516 => ?_)
              have bv309518 := q_bnd x309494
              have bv309519 := q_bnd v309516
              refine r_ics 155 rfl (fun c309517 => ?_) (fun c309517 => ?_)
              · have c309517_ : x309494.toInt ≥ v309516.toInt := en_i_ge_t c309517
                refine At.enter rfl ?_
                refine r_iconst 0 rfl ?_
                refine r_istore_n _ rfl ?_
                refine Ar.fall 179 rfl ?_
                have z_310131 : (0 : Int32).toInt = 0 := rfl
                have x310132 := HI.eqI hI299514 (p := 231) (b := 15) (((hF299515.1 231 15 (by decide)).trans hv267504))
                have x310133 := HI.eqI hI299514 (p := 231) (b := 17) (((hF299515.1 231 17 (by decide)).trans hv267506))
                refine w_loopI (fun n_ l_ g_ => ∃ x310115 : Int32, n_ = 400 - x310115.toInt ∧ HI g_ ∧ Fr F_X11_law_231 A_X11_law_231 g0 g_ ∧ en_get 0 l_ = some (.ref 231) ∧ en_get 1 l_ = some (.int v299529) ∧ en_get 2 l_ = some (.int x310115) ∧ (0 ≤ x310115.toInt ∧ x310115.toInt ≤ 400) ∧ (Fr [(231, 8)] [233] g299513 g_) ∧ ((eA g_ 233 (v299529.toInt + 1)).toInt = (gI g299513 231 15).toInt) ∧ (∀ i : Int, 0 ≤ i → i < 8 * (gI g299513 231 15).toInt → (eA g_ 233 (v299529.toInt + 2 + i)).toInt = (eA g299513 237 i).toInt) ∧ (∀ i : Int, 0 ≤ i → i < 110 → eA g_ 233 i = eA g299513 233 i) ∧ (∀ i : Int, 0 ≤ i → i < x310115.toInt → (eA g_ 233 (v299529.toInt + 98 + 2 * i)).toInt = (eA g299513 238 i).toInt ∧ (eA g_ 233 (v299529.toInt + 98 + 2 * i + 1)).toInt = (eA g299513 239 i).toInt)) ?_ (400 - 0) ⟨0, by first | rfl | omega, hI309496, hF309497, (w_p1 (by decide) (Or.inr rfl) e309501), (w_p1 (by decide) (Or.inr rfl) e309502), (w_e1 _ _ _), by decide, (Fr.tr Fr.rf q309505 rfl rfl), ((congrArg Int32.toInt (rfl)).trans q309506), (fun i i0 i1 => q309507 i i0 (by omega)), (fun i i0 i1 => (rfl).trans (q309508 i i0 i1)), (fun i i0 i1 => absurd i1 (by omega))⟩
                rintro n310120 l310119 g310116 ⟨x310115, hm310134, hI310117, hF310118, e310122, e310123, e310124, r310125, q310126, q310127, q310128, q310129, q310130⟩ ih310121
                have x310135 := HI.eqI hI299514 (p := 231) (b := 15) (((hF299515.1 231 15 (by decide)).trans hv267504))
                have x310136 := HI.eqI hI299514 (p := 231) (b := 17) (((hF299515.1 231 17 (by decide)).trans hv267506))
                have t310137 := congrArg Int32.toInt ((q310129 2 (by decide) (by decide)).trans (((eA_c (hF299515.2.1 233 (by decide))).trans (eA_c (q267480.2.1 233 (by decide)))).trans hv213960))
                refine At.enter rfl ?_
                refine r_iload_n e310124 ?_
                refine r_aload_n e310122 ?_
                refine q_getI (Sh.int hI310117.1 kx_231 rfl) v267506 (((q310126.1 231 17 (by decide)).trans (hF299515.1 231 17 (by decide))).trans hv267506) ?_
                have bv310139 := q_bnd x310115
                have bv310140 := q_bnd v267506
                refine r_ics 187 rfl (fun c310138 => ?_) (fun c310138 => ?_)
                · have c310138_ : x310115.toInt ≥ v267506.toInt := en_i_ge_t c310138
                  refine At.enter rfl ?_
                  refine r_aload_n e310122 ?_
                  refine q_getR (Sh.ref hI310117.1 kx_231 rfl) ?_
                  refine r_iconst 2 rfl ?_
                  refine r_dup2 ⟨rfl, rfl⟩ ?_
                  refine q_iald (Sh.arr hI310117.1 ka_233) 2 rfl (by decide) v213960 ((q310129 2 (by decide) (by decide)).trans (((eA_c (hF299515.2.1 233 (by decide))).trans (eA_c (q267480.2.1 233 (by decide)))).trans hv213960)) ?_
                  refine r_iconst 1 rfl ?_
                  refine q_iadd (v213960.toInt + 1) rfl (by omega) (fun v310141 hv310141 => ?_)
                  refine q_iast (Sh.arr hI310117.1 ka_233) (2) rfl (by decide) ?_
                  have x310144 := HI.eqA hI310117 (p := 233) (j := 2) (((q310129 2 (by decide) (by decide)).trans (((eA_c (hF299515.2.1 233 (by decide))).trans (eA_c (q267480.2.1 233 (by decide)))).trans hv213960)))
                  have hI310142 := HI.wt2 hI310117 (v := v310141) (by omega) (by omega) (by rw [show 110 + 900 * (eA _ 233 2).toInt = v299529.toInt by omega]; exact LAW.mk (CLS.cong2 (q267486 (by omega)).2 hI299514 ((hF299515.2.1 238 (by decide))) ((hF299515.2.1 239 (by decide))) ((hF299515.2.1 237 (by decide))) ((hF299515.1 231 15 (by decide))) ((hF299515.1 231 17 (by decide)))) ⟨by omega, by omega⟩ (by omega) q310127 q310128 (fun i i0 i1 => q310130 i i0 (by omega)))
                  have hF310143 := Fr.wA (p := 233) (j := 2) (v := v310141) hF310118 rfl
                  refine r_aload_n e310122 ?_
                  refine r_aload_n e310122 ?_
                  refine q_getR (Sh.ref hI310142.1 kx_231 rfl) ?_
                  refine r_iconst 2 rfl ?_
                  refine q_iald (Sh.arr hI310142.1 ka_233) 2 rfl (by decide) v310141 (eA_sA_eq hI310117.1 ka_233 (by first | rfl | omega) (by first | decide | omega) (by first | decide | omega)) ?_
                  refine r_iconst 1 rfl ?_
                  refine q_isub (v310141.toInt - 1) rfl (by omega) (fun v310145 hv310145 => ?_)
                  refine r_callV 255 rfl [.ref 231, .int v310145] [] (Nat.le_of_ble_eq_true rfl) rfl (T_X11_tell_231 _ hI310142 v310145 (by omega)) ?_
                  rintro _ _ ⟨g310146, rfl, hI310147, hF310148, v310149, rfl, hr310150⟩
                  refine At.sti ?_
                  have hF310151 := Fr.tr hF310143 hF310148 rfl rfl
                  refine At.enter rfl ?_
                  refine r_ireti ?_
                  exact ⟨_, rfl, hI310147, hF310151, _, rfl, by omega, (fun i i0 i1 i2 => ((eA_c (hF310148.2.1 233 (by decide))).trans ((eA_sA_ne (i := i) hI310117.1 ka_233 (by omega) (by omega) (by omega)).trans ((q310129 i i0 i1).trans (eA_c (((hF299515.2.1 233 (by decide)).trans (q267480.2.1 233 (by decide)))))))))⟩
                · have c310138_ : x310115.toInt < v267506.toInt := en_i_ge_f c310138
                  refine At.enter rfl ?_
                  refine r_aload_n e310122 ?_
                  refine q_getR (Sh.ref hI310117.1 kx_231 rfl) ?_
                  refine r_iload_n e310123 ?_
                  refine r_bipush 98 rfl ?_
                  refine q_iadd (v299529.toInt + 98) rfl (by omega) (fun v310152 hv310152 => ?_)
                  refine r_iconst 2 rfl ?_
                  refine r_iload_n e310124 ?_
                  refine q_imul (2 * x310115.toInt) rfl (by omega) (fun v310153 hv310153 => ?_)
                  refine q_iadd (v310152.toInt + v310153.toInt) rfl (by omega) (fun v310154 hv310154 => ?_)
                  refine r_aload_n e310122 ?_
                  refine q_getR (Sh.ref hI310117.1 kx_231 rfl) ?_
                  refine r_iload_n e310124 ?_
                  obtain ⟨v310155, hv310155⟩ : ∃ v, eA g267471 238 x310115.toInt = v := ⟨_, rfl⟩
                  refine q_iald (Sh.arr hI310117.1 ka_238) x310115.toInt rfl (by omega) v310155 ((eA_c ((q310126.2.1 238 (by decide)).trans (hF299515.2.1 238 (by decide)))).trans hv310155) ?_
                  refine q_iast (Sh.arr hI310117.1 ka_233) ((900 * v213960.toInt + 2 * x310115.toInt + 208)) (by omega) (by omega) ?_
                  have x310158 := HI.eqA hI310117 (p := 233) (j := 2) (((q310129 2 (by decide) (by decide)).trans (((eA_c (hF299515.2.1 233 (by decide))).trans (eA_c (q267480.2.1 233 (by decide)))).trans hv213960)))
                  have hI310156 := HI.wfree hI310117 (j := (900 * v213960.toInt + 2 * x310115.toInt + 208)) (v := v310155) ⟨by omega, by omega⟩
                  have hF310157 := Fr.wA (p := 233) (j := (900 * v213960.toInt + 2 * x310115.toInt + 208)) (v := v310155) hF310118 rfl
                  refine r_aload_n e310122 ?_
                  refine q_getR (Sh.ref hI310156.1 kx_231 rfl) ?_
                  refine r_iload_n e310123 ?_
                  refine r_bipush 98 rfl ?_
                  refine q_iadd (v299529.toInt + 98) rfl (by omega) (fun v310159 hv310159 => ?_)
                  refine r_iconst 2 rfl ?_
                  refine r_iload_n e310124 ?_
                  refine q_imul (2 * x310115.toInt) rfl (by omega) (fun v310160 hv310160 => ?_)
                  refine q_iadd (v310159.toInt + v310160.toInt) rfl (by omega) (fun v310161 hv310161 => ?_)
                  refine r_iconst 1 rfl ?_
                  refine q_iadd (v310161.toInt + 1) rfl (by omega) (fun v310162 hv310162 => ?_)
                  refine r_aload_n e310122 ?_
                  refine q_getR (Sh.ref hI310156.1 kx_231 rfl) ?_
                  refine r_iload_n e310124 ?_
                  obtain ⟨v310163, hv310163⟩ : ∃ v, eA g267471 239 x310115.toInt = v := ⟨_, rfl⟩
                  refine q_iald (Sh.arr hI310156.1 ka_239) x310115.toInt rfl (by omega) v310163 ((eA_c ((gA_sA_ne (by decide)).trans ((q310126.2.1 239 (by decide)).trans (hF299515.2.1 239 (by decide))))).trans hv310163) ?_
                  refine q_iast (Sh.arr hI310156.1 ka_233) ((900 * v213960.toInt + 2 * x310115.toInt + 209)) (by omega) (by omega) ?_
                  have x310166 := HI.eqA hI310156 (p := 233) (j := 2) (((eA_sA_ne hI310117.1 ka_233 (by first | decide | omega) (by first | decide | omega) (by first | decide | omega)).trans ((q310129 2 (by decide) (by decide)).trans (((eA_c (hF299515.2.1 233 (by decide))).trans (eA_c (q267480.2.1 233 (by decide)))).trans hv213960))))
                  have hI310164 := HI.wfree hI310156 (j := (900 * v213960.toInt + 2 * x310115.toInt + 209)) (v := v310163) ⟨by omega, by omega⟩
                  have hF310165 := Fr.wA (p := 233) (j := (900 * v213960.toInt + 2 * x310115.toInt + 209)) (v := v310163) hF310157 rfl
                  refine q_iinc e310124 (x310115.toInt + 1) rfl (by omega) (fun v310167 hv310167 => ?_)
                  refine r_goto ?_
                  exact ih310121 (400 - v310167.toInt) _ _ ⟨v310167, by first | rfl | omega, hI310164, hF310165, (w_p1 (by decide) (Or.inr rfl) e310122), (w_p1 (by decide) (Or.inr rfl) e310123), (w_e1 _ _ _), by omega, (Fr.wA (p := 233) (Fr.wA (p := 233) q310126 rfl) rfl), ((congrArg Int32.toInt (((eA_sA_ne (i := v299529.toInt + 1) hI310156.1 ka_233 (by omega) (by omega) (by omega)).trans (eA_sA_ne (i := v299529.toInt + 1) hI310117.1 ka_233 (by omega) (by omega) (by omega))))).trans q310127), (fun i i0 i1 => (congrArg Int32.toInt (((eA_sA_ne (i := v299529.toInt + 2 + i) hI310156.1 ka_233 (by omega) (by omega) (by omega)).trans (eA_sA_ne (i := v299529.toInt + 2 + i) hI310117.1 ka_233 (by omega) (by omega) (by omega))))).trans (q310128 i i0 i1)), (fun i i0 i1 => (((eA_sA_ne (i := i) hI310156.1 ka_233 (by omega) (by omega) (by omega)).trans (eA_sA_ne (i := i) hI310117.1 ka_233 (by omega) (by omega) (by omega)))).trans (q310129 i i0 i1)), (fun i i0 i1 => (Decidable.em (i = x310115.toInt)).elim (fun e => by rw [e]; exact ⟨((congrArg Int32.toInt ((eA_sA_ne (i := v299529.toInt + 98 + 2 * x310115.toInt) hI310156.1 ka_233 (by omega) (by omega) (by omega)).trans (eA_sA_eq hI310117.1 ka_233 (by omega) (by omega) (by omega)))).trans (congrArg Int32.toInt ((eA_c ((hF299515.2.1 238 (by decide)))).trans hv310155)).symm), ((congrArg Int32.toInt (eA_sA_eq hI310156.1 ka_233 (by omega) (by omega) (by omega))).trans (congrArg Int32.toInt ((eA_c ((hF299515.2.1 239 (by decide)))).trans hv310163)).symm)⟩) (fun e => ⟨(congrArg Int32.toInt (((eA_sA_ne (i := v299529.toInt + 98 + 2 * i) hI310156.1 ka_233 (by omega) (by omega) (by omega)).trans (eA_sA_ne (i := v299529.toInt + 98 + 2 * i) hI310117.1 ka_233 (by omega) (by omega) (by omega))))).trans (q310130 i i0 (by omega)).1, (congrArg Int32.toInt (((eA_sA_ne (i := v299529.toInt + 98 + 2 * i + 1) hI310156.1 ka_233 (by omega) (by omega) (by omega)).trans (eA_sA_ne (i := v299529.toInt + 98 + 2 * i + 1) hI310117.1 ka_233 (by omega) (by omega) (by omega))))).trans (q310130 i i0 (by omega)).2⟩))⟩ ⟨by omega, by omega⟩
              · have c309517_ : x309494.toInt < v309516.toInt := en_i_ge_f c309517
                refine At.enter rfl ?_
                refine r_aload_n e309501 ?_
                refine q_getR (Sh.ref hI309496.1 kx_231 rfl) ?_
                refine r_iload_n e309502 ?_
                refine r_iconst 2 rfl ?_
                refine q_iadd (v299529.toInt + 2) rfl (by omega) (fun v310168 hv310168 => ?_)
                refine r_iload_n e309503 ?_
                refine q_iadd (v310168.toInt + x309494.toInt) rfl (by omega) (fun v310169 hv310169 => ?_)
                refine r_aload_n e309501 ?_
                refine q_getR (Sh.ref hI309496.1 kx_231 rfl) ?_
                refine r_iload_n e309503 ?_
                obtain ⟨v310170, hv310170⟩ : ∃ v, eA g267471 237 x309494.toInt = v := ⟨_, rfl⟩
                refine q_iald (Sh.arr hI309496.1 ka_237) x309494.toInt rfl (by omega) v310170 ((eA_c ((q309505.2.1 237 (by decide)).trans (hF299515.2.1 237 (by decide)))).trans hv310170) ?_
                refine q_iast (Sh.arr hI309496.1 ka_233) ((900 * v213960.toInt + x309494.toInt + 112)) (by omega) (by omega) ?_
                have x310173 := HI.eqA hI309496 (p := 233) (j := 2) (((q309508 2 (by decide) (by decide)).trans (((eA_c (hF299515.2.1 233 (by decide))).trans (eA_c (q267480.2.1 233 (by decide)))).trans hv213960)))
                have hI310171 := HI.wfree hI309496 (j := (900 * v213960.toInt + x309494.toInt + 112)) (v := v310170) ⟨by omega, by omega⟩
                have hF310172 := Fr.wA (p := 233) (j := (900 * v213960.toInt + x309494.toInt + 112)) (v := v310170) hF309497 rfl
                refine q_iinc e309503 (x309494.toInt + 1) rfl (by omega) (fun v310174 hv310174 => ?_)
                refine r_goto ?_
                exact ih309500 (96 - v310174.toInt) _ _ ⟨v310174, by first | rfl | omega, hI310171, hF310172, (w_p1 (by decide) (Or.inr rfl) e309501), (w_p1 (by decide) (Or.inr rfl) e309502), (w_e1 _ _ _), by omega, (Fr.wA (p := 233) q309505 rfl), ((congrArg Int32.toInt ((eA_sA_ne (i := v299529.toInt + 1) hI309496.1 ka_233 (by omega) (by omega) (by omega)))).trans q309506), (fun i i0 i1 => (Decidable.em (i = x309494.toInt)).elim (fun e => by rw [e]; exact (congrArg Int32.toInt (eA_sA_eq hI309496.1 ka_233 (by omega) (by omega) (by omega))).trans (congrArg Int32.toInt ((eA_c ((hF299515.2.1 237 (by decide)))).trans hv310170)).symm) (fun e => (congrArg Int32.toInt ((eA_sA_ne (i := v299529.toInt + 2 + i) hI309496.1 ka_233 (by omega) (by omega) (by omega)))).trans (q309507 i i0 (by omega)))), (fun i i0 i1 => ((eA_sA_ne (i := i) hI309496.1 ka_233 (by omega) (by omega) (by omega))).trans (q309508 i i0 i1))⟩ ⟨by omega, by omega⟩
            · have c299527_ : v267502.toInt ≠ 0 := en_k_eq_f c299527
              exfalso; omega
          · have c299524_ : v267500.toInt ≠ 0 := en_k_eq_f c299524
            refine At.enter rfl ?_
            refine r_aload_n e267478 ?_
            refine r_iconst 0 rfl ?_
            have x310175 := HI.eqI hI299514 (p := 231) (b := 8) ((((hF299515.1 231 8 (by decide)).trans (q267480.1 231 8 (by decide))).trans hv1))
            have x310176 := HI.eqI hI299514 (p := 231) (b := 9) (((hF299515.1 231 9 (by decide)).trans e267477))
            have x310177 := HI.eqI hI299514 (p := 231) (b := 10) (((hF299515.1 231 10 (by decide)).trans hv267498))
            have x310178 := HI.eqI hI299514 (p := 231) (b := 11) (((hF299515.1 231 11 (by decide)).trans hv267500))
            have w26310179 := W26.cong q267485 hI299514 ((hF299515.1 231 9 (by decide))) ((hF299515.1 231 10 (by decide))) ((hF299515.1 231 11 (by decide))) ((hF299515.2.2 231 12 (by decide)))
            have zv310180 : (0 : Int32).toInt = 0 := rfl
            refine r_callV 97 rfl [.ref 231, .int 0] [] (Nat.le_of_ble_eq_true rfl) rfl (T_X11_must_231 _ hI299514 0 (by decide) (by refine ⟨?_, ?_, ?_, ?_⟩ <;> omega) w26310179) ?_
            rintro _ _ ⟨g310181, rfl, hI310182, hF310183, rfl, hr310185⟩
            refine At.stn ?_
            have hF310186 := Fr.tr hF299518 hF310183 rfl rfl
            have zv310187 : (0 : Int32).toInt = 0 := rfl
            have x310188 := HI.eqI hI299514 (p := 231) (b := 8) ((((hF299515.1 231 8 (by decide)).trans (q267480.1 231 8 (by decide))).trans hv1))
            have x310189 := HI.eqI hI299514 (p := 231) (b := 9) (((hF299515.1 231 9 (by decide)).trans e267477))
            have x310190 := HI.eqI hI299514 (p := 231) (b := 10) (((hF299515.1 231 10 (by decide)).trans hv267498))
            have x310191 := HI.eqI hI299514 (p := 231) (b := 11) (((hF299515.1 231 11 (by decide)).trans hv267500))
            have x310192 := HI.eqI hI299514 (p := 231) (b := 14) (((hF299515.1 231 14 (by decide)).trans hv267502))
            have x310193 := HI.eqI hI310182 (p := 231) (b := 8) ((((hF310183.1 231 8 (by decide)).trans ((hF299515.1 231 8 (by decide)).trans (q267480.1 231 8 (by decide)))).trans hv1))
            obtain ⟨v310194, hv310194⟩ : ∃ v, gI g310181 231 9 = v := ⟨_, rfl⟩
            have rv310194 := RgF.at hI310182.2.1 (p := 231) (b := 9) rfl
            rw [hv310194] at rv310194
            dsimp only at rv310194
            have tv310194 := congrArg Int32.toInt hv310194
            have x310195 := HI.eqI hI310182 (p := 231) (b := 9) (hv310194)
            obtain ⟨v310196, hv310196⟩ : ∃ v, gI g310181 231 10 = v := ⟨_, rfl⟩
            have rv310196 := RgF.at hI310182.2.1 (p := 231) (b := 10) rfl
            rw [hv310196] at rv310196
            dsimp only at rv310196
            have tv310196 := congrArg Int32.toInt hv310196
            have x310197 := HI.eqI hI310182 (p := 231) (b := 10) (hv310196)
            obtain ⟨v310198, hv310198⟩ : ∃ v, gI g310181 231 11 = v := ⟨_, rfl⟩
            have tv310198 := congrArg Int32.toInt hv310198
            have x310199 := HI.eqI hI310182 (p := 231) (b := 11) (hv310198)
            obtain ⟨v310200, hv310200⟩ : ∃ v, gI g310181 231 14 = v := ⟨_, rfl⟩
            have tv310200 := congrArg Int32.toInt hv310200
            have x310201 := HI.eqI hI310182 (p := 231) (b := 14) (hv310200)
            obtain ⟨c310202, c310203, c310204, c310205, c310206, c310207, c310208⟩ := hr310185
            refine At.enter rfl ?_
            refine r_aload_n e267478 ?_
            refine r_iconst 0 rfl ?_
            refine q_putI (Sh.int hI310182.1 kx_231 rfl) rfl ?_
            have hI310209 := HI.wI1 hI310182 kx_231 rfl (p := 231) (b := 8) (v := 0) rfl (by decide)
            have hF310210 := Fr.wI (p := 231) (b := 8) (v := 0) hF310186 rfl
            refine r_aload_n e267478 ?_
            refine q_getI (Sh.int hI310209.1 kx_231 rfl) v310200 ((gI_sI_ne (by decide)).trans hv310200) ?_
            refine r_ifs 109 rfl (fun c310211 => ?_) (fun c310211 => ?_)
            · have c310211_ : v310200.toInt = 0 := en_k_eq_t c310211
              obtain ⟨i310212, i310213, i310214⟩ := c310208 (by omega)
              refine At.enter rfl ?_
              refine r_bipush 110 rfl ?_
              refine r_sipush 900 rfl ?_
              refine r_aload_n e267478 ?_
              refine q_getR (Sh.ref hI310209.1 kx_231 rfl) ?_
              refine r_iconst 2 rfl ?_
              refine q_iald (Sh.arr hI310209.1 ka_233) 2 rfl (by decide) v213960 ((eA_c ((gA_sI).trans ((hF310183.2.1 233 (by decide)).trans ((hF299515.2.1 233 (by decide)).trans (q267480.2.1 233 (by decide)))))).trans hv213960) ?_
              refine q_imul (900 * v213960.toInt) rfl (by omega) (fun v310215 hv310215 => ?_)
              refine q_iadd (110 + v310215.toInt) rfl (by omega) (fun v310216 hv310216 => ?_)
              refine r_istore_n _ rfl ?_
              refine r_aload_n (w_p1 (by decide) (Or.inr rfl) e267478) ?_
              refine q_getR (Sh.ref hI310209.1 kx_231 rfl) ?_
              refine r_iload_n (w_e1 _ _ _) ?_
              refine r_iconst 1 rfl ?_
              refine q_iadd (v310216.toInt + 1) rfl (by omega) (fun v310217 hv310217 => ?_)
              refine r_aload_n (w_p1 (by decide) (Or.inr rfl) e267478) ?_
              refine q_getI (Sh.int hI310209.1 kx_231 rfl) v267504 (((gI_sI_ne (by decide)).trans ((hF310183.1 231 15 (by decide)).trans (hF299515.1 231 15 (by decide)))).trans hv267504) ?_
              refine q_iast (Sh.arr hI310209.1 ka_233) ((900 * v213960.toInt + 111)) (by omega) (by omega) ?_
              have x310220 := HI.eqA hI310209 (p := 233) (j := 2) ((((eA_c gA_sI).trans ((eA_c (hF310183.2.1 233 (by decide))).trans ((eA_c (hF299515.2.1 233 (by decide))).trans (eA_c (q267480.2.1 233 (by decide)))))).trans hv213960))
              have hI310218 := HI.wfree hI310209 (j := (900 * v213960.toInt + 111)) (v := v267504) ⟨by omega, by omega⟩
              have hF310219 := Fr.wA (p := 233) (j := (900 * v213960.toInt + 111)) (v := v267504) hF310210 rfl
              refine r_iconst 0 rfl ?_
              refine r_istore_n _ rfl ?_
              refine Ar.fall 144 rfl ?_
              have z_320196 : (0 : Int32).toInt = 0 := rfl
              have x320197 := HI.eqI hI310182 (p := 231) (b := 15) ((((hF310183.1 231 15 (by decide)).trans (hF299515.1 231 15 (by decide))).trans hv267504))
              have x320198 := HI.eqI hI310182 (p := 231) (b := 17) ((((hF310183.1 231 17 (by decide)).trans (hF299515.1 231 17 (by decide))).trans hv267506))
              refine w_loopI (fun n_ l_ g_ => ∃ x320181 : Int32, n_ = 96 - x320181.toInt ∧ HI g_ ∧ Fr F_X11_law_231 A_X11_law_231 g0 g_ ∧ en_get 0 l_ = some (.ref 231) ∧ en_get 1 l_ = some (.int v310216) ∧ en_get 2 l_ = some (.int x320181) ∧ (0 ≤ x320181.toInt ∧ x320181.toInt ≤ 96) ∧ (Fr [(231, 8)] [233] g310181 g_) ∧ ((eA g_ 233 (v310216.toInt + 1)).toInt = (gI g310181 231 15).toInt) ∧ (∀ i : Int, 0 ≤ i → i < x320181.toInt → (eA g_ 233 (v310216.toInt + 2 + i)).toInt = (eA g310181 237 i).toInt) ∧ (∀ i : Int, 0 ≤ i → i < 110 → eA g_ 233 i = eA g310181 233 i)) ?_ (96 - 0) ⟨0, by first | rfl | omega, hI310218, hF310219, (w_p1 (by decide) (Or.inr rfl) (w_p1 (by decide) (Or.inr rfl) e267478)), (w_p1 (by decide) (Or.inr rfl) (w_e1 _ _ _)), (w_e1 _ _ _), by decide, (Fr.wA (p := 233) (Fr.wI (p := 231) (b := 8) Fr.rf rfl) rfl), ((congrArg Int32.toInt (eA_sA_eq hI310209.1 ka_233 (by omega) (by omega) (by omega))).trans (by omega)), (fun i i0 i1 => absurd i1 (by omega)), (fun i i0 i1 => ((eA_sA_ne (i := i) hI310209.1 ka_233 (by omega) (by omega) (by omega)).trans (eA_c gA_sI)))⟩
              rintro n320186 l320185 g320182 ⟨x320181, hm320199, hI320183, hF320184, e320188, e320189, e320190, r320191, q320192, q320193, q320194, q320195⟩ ih320187
              have x320200 := HI.eqI hI310182 (p := 231) (b := 15) ((((hF310183.1 231 15 (by decide)).trans (hF299515.1 231 15 (by decide))).trans hv267504))
              have x320201 := HI.eqI hI310182 (p := 231) (b := 17) ((((hF310183.1 231 17 (by decide)).trans (hF299515.1 231 17 (by decide))).trans hv267506))
              have t320202 := congrArg Int32.toInt ((q320195 2 (by decide) (by decide)).trans (((eA_c (hF310183.2.1 233 (by decide))).trans ((eA_c (hF299515.2.1 233 (by decide))).trans (eA_c (q267480.2.1 233 (by decide))))).trans hv213960))
              refine At.enter rfl ?_
              refine r_iload_n e320190 ?_
              refine r_bipush 8 rfl ?_
              refine r_aload_n e320188 ?_
              refine q_getI (Sh.int hI320183.1 kx_231 rfl) v267504 (((q320192.1 231 15 (by decide)).trans ((hF310183.1 231 15 (by decide)).trans (hF299515.1 231 15 (by decide)))).trans hv267504) ?_
              refine q_imul (8 * v267504.toInt) rfl (by omega) (fun v320203 hv320203 => ?_)
              have bv320205 := q_bnd x320181
              have bv320206 := q_bnd v320203
              refine r_ics 155 rfl (fun c320204 => ?_) (fun c320204 => ?_)
              · have c320204_ : x320181.toInt ≥ v320203.toInt := en_i_ge_t c320204
                refine At.enter rfl ?_
                refine r_iconst 0 rfl ?_
                refine r_istore_n _ rfl ?_
                refine Ar.fall 179 rfl ?_
                have z_320818 : (0 : Int32).toInt = 0 := rfl
                have x320819 := HI.eqI hI310182 (p := 231) (b := 15) ((((hF310183.1 231 15 (by decide)).trans (hF299515.1 231 15 (by decide))).trans hv267504))
                have x320820 := HI.eqI hI310182 (p := 231) (b := 17) ((((hF310183.1 231 17 (by decide)).trans (hF299515.1 231 17 (by decide))).trans hv267506))
                refine w_loopI (fun n_ l_ g_ => ∃ x320802 : Int32, n_ = 400 - x320802.toInt ∧ HI g_ ∧ Fr F_X11_law_231 A_X11_law_231 g0 g_ ∧ en_get 0 l_ = some (.ref 231) ∧ en_get 1 l_ = some (.int v310216) ∧ en_get 2 l_ = some (.int x320802) ∧ (0 ≤ x320802.toInt ∧ x320802.toInt ≤ 400) ∧ (Fr [(231, 8)] [233] g310181 g_) ∧ ((eA g_ 233 (v310216.toInt + 1)).toInt = (gI g310181 231 15).toInt) ∧ (∀ i : Int, 0 ≤ i → i < 8 * (gI g310181 231 15).toInt → (eA g_ 233 (v310216.toInt + 2 + i)).toInt = (eA g310181 237 i).toInt) ∧ (∀ i : Int, 0 ≤ i → i < 110 → eA g_ 233 i = eA g310181 233 i) ∧ (∀ i : Int, 0 ≤ i → i < x320802.toInt → (eA g_ 233 (v310216.toInt + 98 + 2 * i)).toInt = (eA g310181 238 i).toInt ∧ (eA g_ 233 (v310216.toInt + 98 + 2 * i + 1)).toInt = (eA g310181 239 i).toInt)) ?_ (400 - 0) ⟨0, by first | rfl | omega, hI320183, hF320184, (w_p1 (by decide) (Or.inr rfl) e320188), (w_p1 (by decide) (Or.inr rfl) e320189), (w_e1 _ _ _), by decide, (Fr.tr Fr.rf q320192 rfl rfl), ((congrArg Int32.toInt (rfl)).trans q320193), (fun i i0 i1 => q320194 i i0 (by omega)), (fun i i0 i1 => (rfl).trans (q320195 i i0 i1)), (fun i i0 i1 => absurd i1 (by omega))⟩
                rintro n320807 l320806 g320803 ⟨x320802, hm320821, hI320804, hF320805, e320809, e320810, e320811, r320812, q320813, q320814, q320815, q320816, q320817⟩ ih320808
                have x320822 := HI.eqI hI310182 (p := 231) (b := 15) ((((hF310183.1 231 15 (by decide)).trans (hF299515.1 231 15 (by decide))).trans hv267504))
                have x320823 := HI.eqI hI310182 (p := 231) (b := 17) ((((hF310183.1 231 17 (by decide)).trans (hF299515.1 231 17 (by decide))).trans hv267506))
                have t320824 := congrArg Int32.toInt ((q320816 2 (by decide) (by decide)).trans (((eA_c (hF310183.2.1 233 (by decide))).trans ((eA_c (hF299515.2.1 233 (by decide))).trans (eA_c (q267480.2.1 233 (by decide))))).trans hv213960))
                refine At.enter rfl ?_
                refine r_iload_n e320811 ?_
                refine r_aload_n e320809 ?_
                refine q_getI (Sh.int hI320804.1 kx_231 rfl) v267506 (((q320813.1 231 17 (by decide)).trans ((hF310183.1 231 17 (by decide)).trans (hF299515.1 231 17 (by decide)))).trans hv267506) ?_
                have bv320826 := q_bnd x320802
                have bv320827 := q_bnd v267506
                refine r_ics 187 rfl (fun c320825 => ?_) (fun c320825 => ?_)
                · have c320825_ : x320802.toInt ≥ v267506.toInt := en_i_ge_t c320825
                  refine At.enter rfl ?_
                  refine r_aload_n e320809 ?_
                  refine q_getR (Sh.ref hI320804.1 kx_231 rfl) ?_
                  refine r_iconst 2 rfl ?_
                  refine r_dup2 ⟨rfl, rfl⟩ ?_
                  refine q_iald (Sh.arr hI320804.1 ka_233) 2 rfl (by decide) v213960 ((q320816 2 (by decide) (by decide)).trans (((eA_c (hF310183.2.1 233 (by decide))).trans ((eA_c (hF299515.2.1 233 (by decide))).trans (eA_c (q267480.2.1 233 (by decide))))).trans hv213960)) ?_
                  refine r_iconst 1 rfl ?_
                  refine q_iadd (v213960.toInt + 1) rfl (by omega) (fun v320828 hv320828 => ?_)
                  refine q_iast (Sh.arr hI320804.1 ka_233) (2) rfl (by decide) ?_
                  have x320831 := HI.eqA hI320804 (p := 233) (j := 2) (((q320816 2 (by decide) (by decide)).trans (((eA_c (hF310183.2.1 233 (by decide))).trans ((eA_c (hF299515.2.1 233 (by decide))).trans (eA_c (q267480.2.1 233 (by decide))))).trans hv213960)))
                  have hI320829 := HI.wt2 hI320804 (v := v320828) (by omega) (by omega) (by rw [show 110 + 900 * (eA _ 233 2).toInt = v310216.toInt by omega]; exact LAW.mk (CLS.cong2 (q267486 (by omega)).2 hI310182 (((hF310183.2.1 238 (by decide)).trans (hF299515.2.1 238 (by decide)))) (((hF310183.2.1 239 (by decide)).trans (hF299515.2.1 239 (by decide)))) (((hF310183.2.1 237 (by decide)).trans (hF299515.2.1 237 (by decide)))) (((hF310183.1 231 15 (by decide)).trans (hF299515.1 231 15 (by decide)))) (((hF310183.1 231 17 (by decide)).trans (hF299515.1 231 17 (by decide))))) ⟨by omega, by omega⟩ (by omega) q320814 q320815 (fun i i0 i1 => q320817 i i0 (by omega)))
                  have hF320830 := Fr.wA (p := 233) (j := 2) (v := v320828) hF320805 rfl
                  refine r_aload_n e320809 ?_
                  refine r_aload_n e320809 ?_
                  refine q_getR (Sh.ref hI320829.1 kx_231 rfl) ?_
                  refine r_iconst 2 rfl ?_
                  refine q_iald (Sh.arr hI320829.1 ka_233) 2 rfl (by decide) v320828 (eA_sA_eq hI320804.1 ka_233 (by first | rfl | omega) (by first | decide | omega) (by first | decide | omega)) ?_
                  refine r_iconst 1 rfl ?_
                  refine q_isub (v320828.toInt - 1) rfl (by omega) (fun v320832 hv320832 => ?_)
                  refine r_callV 255 rfl [.ref 231, .int v320832] [] (Nat.le_of_ble_eq_true rfl) rfl (T_X11_tell_231 _ hI320829 v320832 (by omega)) ?_
                  rintro _ _ ⟨g320833, rfl, hI320834, hF320835, v320836, rfl, hr320837⟩
                  refine At.sti ?_
                  have hF320838 := Fr.tr hF320830 hF320835 rfl rfl
                  refine At.enter rfl ?_
                  refine r_ireti ?_
                  exact ⟨_, rfl, hI320834, hF320838, _, rfl, by omega, (fun i i0 i1 i2 => ((eA_c (hF320835.2.1 233 (by decide))).trans ((eA_sA_ne (i := i) hI320804.1 ka_233 (by omega) (by omega) (by omega)).trans ((q320816 i i0 i1).trans (eA_c (((hF310183.2.1 233 (by decide)).trans ((hF299515.2.1 233 (by decide)).trans (q267480.2.1 233 (by decide))))))))))⟩
                · have c320825_ : x320802.toInt < v267506.toInt := en_i_ge_f c320825
                  refine At.enter rfl ?_
                  refine r_aload_n e320809 ?_
                  refine q_getR (Sh.ref hI320804.1 kx_231 rfl) ?_
                  refine r_iload_n e320810 ?_
                  refine r_bipush 98 rfl ?_
                  refine q_iadd (v310216.toInt + 98) rfl (by omega) (fun v320839 hv320839 => ?_)
                  refine r_iconst 2 rfl ?_
                  refine r_iload_n e320811 ?_
                  refine q_imul (2 * x320802.toInt) rfl (by omega) (fun v320840 hv320840 => ?_)
                  refine q_iadd (v320839.toInt + v320840.toInt) rfl (by omega) (fun v320841 hv320841 => ?_)
                  refine r_aload_n e320809 ?_
                  refine q_getR (Sh.ref hI320804.1 kx_231 rfl) ?_
                  refine r_iload_n e320811 ?_
                  obtain ⟨v320842, hv320842⟩ : ∃ v, eA g267471 238 x320802.toInt = v := ⟨_, rfl⟩
                  refine q_iald (Sh.arr hI320804.1 ka_238) x320802.toInt rfl (by omega) v320842 ((eA_c ((q320813.2.1 238 (by decide)).trans ((hF310183.2.1 238 (by decide)).trans (hF299515.2.1 238 (by decide))))).trans hv320842) ?_
                  refine q_iast (Sh.arr hI320804.1 ka_233) ((900 * v213960.toInt + 2 * x320802.toInt + 208)) (by omega) (by omega) ?_
                  have x320845 := HI.eqA hI320804 (p := 233) (j := 2) (((q320816 2 (by decide) (by decide)).trans (((eA_c (hF310183.2.1 233 (by decide))).trans ((eA_c (hF299515.2.1 233 (by decide))).trans (eA_c (q267480.2.1 233 (by decide))))).trans hv213960)))
                  have hI320843 := HI.wfree hI320804 (j := (900 * v213960.toInt + 2 * x320802.toInt + 208)) (v := v320842) ⟨by omega, by omega⟩
                  have hF320844 := Fr.wA (p := 233) (j := (900 * v213960.toInt + 2 * x320802.toInt + 208)) (v := v320842) hF320805 rfl
                  refine r_aload_n e320809 ?_
                  refine q_getR (Sh.ref hI320843.1 kx_231 rfl) ?_
                  refine r_iload_n e320810 ?_
                  refine r_bipush 98 rfl ?_
                  refine q_iadd (v310216.toInt + 98) rfl (by omega) (fun v320846 hv320846 => ?_)
                  refine r_iconst 2 rfl ?_
                  refine r_iload_n e320811 ?_
                  refine q_imul (2 * x320802.toInt) rfl (by omega) (fun v320847 hv320847 => ?_)
                  refine q_iadd (v320846.toInt + v320847.toInt) rfl (by omega) (fun v320848 hv320848 => ?_)
                  refine r_iconst 1 rfl ?_
                  refine q_iadd (v320848.toInt + 1) rfl (by omega) (fun v320849 hv320849 => ?_)
                  refine r_aload_n e320809 ?_
                  refine q_getR (Sh.ref hI320843.1 kx_231 rfl) ?_
                  refine r_iload_n e320811 ?_
                  obtain ⟨v320850, hv320850⟩ : ∃ v, eA g267471 239 x320802.toInt = v := ⟨_, rfl⟩
                  refine q_iald (Sh.arr hI320843.1 ka_239) x320802.toInt rfl (by omega) v320850 ((eA_c ((gA_sA_ne (by decide)).trans ((q320813.2.1 239 (by decide)).trans ((hF310183.2.1 239 (by decide)).trans (hF299515.2.1 239 (by decide)))))).trans hv320850) ?_
                  refine q_iast (Sh.arr hI320843.1 ka_233) ((900 * v213960.toInt + 2 * x320802.toInt + 209)) (by omega) (by omega) ?_
                  have x320853 := HI.eqA hI320843 (p := 233) (j := 2) (((eA_sA_ne hI320804.1 ka_233 (by first | decide | omega) (by first | decide | omega) (by first | decide | omega)).trans ((q320816 2 (by decide) (by decide)).trans (((eA_c (hF310183.2.1 233 (by decide))).trans ((eA_c (hF299515.2.1 233 (by decide))).trans (eA_c (q267480.2.1 233 (by decide))))).trans hv213960))))
                  have hI320851 := HI.wfree hI320843 (j := (900 * v213960.toInt + 2 * x320802.toInt + 209)) (v := v320850) ⟨by omega, by omega⟩
                  have hF320852 := Fr.wA (p := 233) (j := (900 * v213960.toInt + 2 * x320802.toInt + 209)) (v := v320850) hF320844 rfl
                  refine q_iinc e320811 (x320802.toInt + 1) rfl (by omega) (fun v320854 hv320854 => ?_)
                  refine r_goto ?_
                  exact ih320808 (400 - v320854.toInt) _ _ ⟨v320854, by first | rfl | omega, hI320851, hF320852, (w_p1 (by decide) (Or.inr rfl) e320809), (w_p1 (by decide) (Or.inr rfl) e320810), (w_e1 _ _ _), by omega, (Fr.wA (p := 233) (Fr.wA (p := 233) q320813 rfl) rfl), ((congrArg Int32.toInt (((eA_sA_ne (i := v310216.toInt + 1) hI320843.1 ka_233 (by omega) (by omega) (by omega)).trans (eA_sA_ne (i := v310216.toInt + 1) hI320804.1 ka_233 (by omega) (by omega) (by omega))))).trans q320814), (fun i i0 i1 => (congrArg Int32.toInt (((eA_sA_ne (i := v310216.toInt + 2 + i) hI320843.1 ka_233 (by omega) (by omega) (by omega)).trans (eA_sA_ne (i := v310216.toInt + 2 + i) hI320804.1 ka_233 (by omega) (by omega) (by omega))))).trans (q320815 i i0 i1)), (fun i i0 i1 => (((eA_sA_ne (i := i) hI320843.1 ka_233 (by omega) (by omega) (by omega)).trans (eA_sA_ne (i := i) hI320804.1 ka_233 (by omega) (by omega) (by omega)))).trans (q320816 i i0 i1)), (fun i i0 i1 => (Decidable.em (i = x320802.toInt)).elim (fun e => by rw [e]; exact ⟨((congrArg Int32.toInt ((eA_sA_ne (i := v310216.toInt + 98 + 2 * x320802.toInt) hI320843.1 ka_233 (by omega) (by omega) (by omega)).trans (eA_sA_eq hI320804.1 ka_233 (by omega) (by omega) (by omega)))).trans (congrArg Int32.toInt ((eA_c (((hF310183.2.1 238 (by decide)).trans (hF299515.2.1 238 (by decide))))).trans hv320842)).symm), ((congrArg Int32.toInt (eA_sA_eq hI320843.1 ka_233 (by omega) (by omega) (by omega))).trans (congrArg Int32.toInt ((eA_c (((hF310183.2.1 239 (by decide)).trans (hF299515.2.1 239 (by decide))))).trans hv320850)).symm)⟩) (fun e => ⟨(congrArg Int32.toInt (((eA_sA_ne (i := v310216.toInt + 98 + 2 * i) hI320843.1 ka_233 (by omega) (by omega) (by omega)).trans (eA_sA_ne (i := v310216.toInt + 98 + 2 * i) hI320804.1 ka_233 (by omega) (by omega) (by omega))))).trans (q320817 i i0 (by omega)).1, (congrArg Int32.toInt (((eA_sA_ne (i := v310216.toInt + 98 + 2 * i + 1) hI320843.1 ka_233 (by omega) (by omega) (by omega)).trans (eA_sA_ne (i := v310216.toInt + 98 + 2 * i + 1) hI320804.1 ka_233 (by omega) (by omega) (by omega))))).trans (q320817 i i0 (by omega)).2⟩))⟩ ⟨by omega, by omega⟩
              · have c320204_ : x320181.toInt < v320203.toInt := en_i_ge_f c320204
                refine At.enter rfl ?_
                refine r_aload_n e320188 ?_
                refine q_getR (Sh.ref hI320183.1 kx_231 rfl) ?_
                refine r_iload_n e320189 ?_
                refine r_iconst 2 rfl ?_
                refine q_iadd (v310216.toInt + 2) rfl (by omega) (fun v320855 hv320855 => ?_)
                refine r_iload_n e320190 ?_
                refine q_iadd (v320855.toInt + x320181.toInt) rfl (by omega) (fun v320856 hv320856 => ?_)
                refine r_aload_n e320188 ?_
                refine q_getR (Sh.ref hI320183.1 kx_231 rfl) ?_
                refine r_iload_n e320190 ?_
                obtain ⟨v320857, hv320857⟩ : ∃ v, eA g267471 237 x320181.toInt = v := ⟨_, rfl⟩
                refine q_iald (Sh.arr hI320183.1 ka_237) x320181.toInt rfl (by omega) v320857 ((eA_c ((q320192.2.1 237 (by decide)).trans ((hF310183.2.1 237 (by decide)).trans (hF299515.2.1 237 (by decide))))).trans hv320857) ?_
                refine q_iast (Sh.arr hI320183.1 ka_233) ((900 * v213960.toInt + x320181.toInt + 112)) (by omega) (by omega) ?_
                have x320860 := HI.eqA hI320183 (p := 233) (j := 2) (((q320195 2 (by decide) (by decide)).trans (((eA_c (hF310183.2.1 233 (by decide))).trans ((eA_c (hF299515.2.1 233 (by decide))).trans (eA_c (q267480.2.1 233 (by decide))))).trans hv213960)))
                have hI320858 := HI.wfree hI320183 (j := (900 * v213960.toInt + x320181.toInt + 112)) (v := v320857) ⟨by omega, by omega⟩
                have hF320859 := Fr.wA (p := 233) (j := (900 * v213960.toInt + x320181.toInt + 112)) (v := v320857) hF320184 rfl
                refine q_iinc e320190 (x320181.toInt + 1) rfl (by omega) (fun v320861 hv320861 => ?_)
                refine r_goto ?_
                exact ih320187 (96 - v320861.toInt) _ _ ⟨v320861, by first | rfl | omega, hI320858, hF320859, (w_p1 (by decide) (Or.inr rfl) e320188), (w_p1 (by decide) (Or.inr rfl) e320189), (w_e1 _ _ _), by omega, (Fr.wA (p := 233) q320192 rfl), ((congrArg Int32.toInt ((eA_sA_ne (i := v310216.toInt + 1) hI320183.1 ka_233 (by omega) (by omega) (by omega)))).trans q320193), (fun i i0 i1 => (Decidable.em (i = x320181.toInt)).elim (fun e => by rw [e]; exact (congrArg Int32.toInt (eA_sA_eq hI320183.1 ka_233 (by omega) (by omega) (by omega))).trans (congrArg Int32.toInt ((eA_c (((hF310183.2.1 237 (by decide)).trans (hF299515.2.1 237 (by decide))))).trans hv320857)).symm) (fun e => (congrArg Int32.toInt ((eA_sA_ne (i := v310216.toInt + 2 + i) hI320183.1 ka_233 (by omega) (by omega) (by omega)))).trans (q320194 i i0 (by omega)))), (fun i i0 i1 => ((eA_sA_ne (i := i) hI320183.1 ka_233 (by omega) (by omega) (by omega))).trans (q320195 i i0 i1))⟩ ⟨by omega, by omega⟩
            · have c310211_ : v310200.toInt ≠ 0 := en_k_eq_f c310211
              clear c310208
              refine At.enter rfl ?_
              refine r_aload_n e267478 ?_
              refine r_bipush (-6) rfl ?_
              refine r_callV 115 rfl [.ref 231, .int (-6)] [] (Nat.le_of_ble_eq_true rfl) rfl (T_X11_tell_231 _ hI310209 (-6) (by decide)) ?_
              rintro _ _ ⟨g320862, rfl, hI320863, hF320864, v320865, rfl, hr320866⟩
              refine At.sti ?_
              have hF320867 := Fr.tr hF310210 hF320864 rfl rfl
              have zv320868 : ((-6) : Int32).toInt = (-6) := rfl
              refine At.enter rfl ?_
              refine r_ireti ?_
              exact ⟨_, rfl, hI320863, hF320867, _, rfl, by omega, (fun i i0 i1 i2 => eA_c (((hF320864.2.1 233 (by decide)).trans ((gA_sI).trans ((hF310183.2.1 233 (by decide)).trans ((hF299515.2.1 233 (by decide)).trans (q267480.2.1 233 (by decide))))))))⟩
      · have c299522_ : v299516.toInt ≠ 0 := en_k_eq_f c299522
        refine At.enter rfl ?_
        refine r_aload_n e267478 ?_
        have x320869 := HI.eqI hI299514 (p := 231) (b := 8) ((((hF299515.1 231 8 (by decide)).trans (q267480.1 231 8 (by decide))).trans hv1))
        have x320870 := HI.eqI hI299514 (p := 231) (b := 10) (((hF299515.1 231 10 (by decide)).trans hv267498))
        refine r_callV 71 rfl [.ref 231] [] (Nat.le_of_ble_eq_true rfl) rfl (T_X11_next_231 _ hI299514 (by omega)) ?_
        rintro _ _ ⟨g320871, rfl, hI320872, hF320873, rfl, hr320875⟩
        refine At.stn ?_
        have hF320876 := Fr.tr hF299518 hF320873 rfl rfl
        have x320877 := HI.eqI hI299514 (p := 231) (b := 8) ((((hF299515.1 231 8 (by decide)).trans (q267480.1 231 8 (by decide))).trans hv1))
        have x320878 := HI.eqI hI299514 (p := 231) (b := 10) (((hF299515.1 231 10 (by decide)).trans hv267498))
        have x320879 := HI.eqI hI320872 (p := 231) (b := 8) ((((hF320873.1 231 8 (by decide)).trans ((hF299515.1 231 8 (by decide)).trans (q267480.1 231 8 (by decide)))).trans hv1))
        obtain ⟨v320880, hv320880⟩ : ∃ v, gI g320871 231 9 = v := ⟨_, rfl⟩
        have rv320880 := RgF.at hI320872.2.1 (p := 231) (b := 9) rfl
        rw [hv320880] at rv320880
        dsimp only at rv320880
        have tv320880 := congrArg Int32.toInt hv320880
        have x320881 := HI.eqI hI320872 (p := 231) (b := 9) (hv320880)
        obtain ⟨v320882, hv320882⟩ : ∃ v, gI g320871 231 10 = v := ⟨_, rfl⟩
        have rv320882 := RgF.at hI320872.2.1 (p := 231) (b := 10) rfl
        rw [hv320882] at rv320882
        dsimp only at rv320882
        have tv320882 := congrArg Int32.toInt hv320882
        have x320883 := HI.eqI hI320872 (p := 231) (b := 10) (hv320882)
        obtain ⟨v320884, hv320884⟩ : ∃ v, gI g320871 231 11 = v := ⟨_, rfl⟩
        have tv320884 := congrArg Int32.toInt hv320884
        have x320885 := HI.eqI hI320872 (p := 231) (b := 11) (hv320884)
        obtain ⟨c320886, c320887, c320888, c320889, c320890, c320891⟩ := hr320875
        refine At.enter rfl ?_
        refine r_aload_n e267478 ?_
        have x320892 := HI.eqI hI320872 (p := 231) (b := 8) ((((hF320873.1 231 8 (by decide)).trans ((hF299515.1 231 8 (by decide)).trans (q267480.1 231 8 (by decide)))).trans hv1))
        have x320893 := HI.eqI hI320872 (p := 231) (b := 9) (hv320880)
        have x320894 := HI.eqI hI320872 (p := 231) (b := 10) (hv320882)
        have x320895 := HI.eqI hI320872 (p := 231) (b := 11) (hv320884)
        have x320896 := HI.eqI hI320872 (p := 231) (b := 14) ((((hF320873.1 231 14 (by decide)).trans (hF299515.1 231 14 (by decide))).trans hv267502))
        have x320897 := HI.eqI hI320872 (p := 231) (b := 15) ((((hF320873.1 231 15 (by decide)).trans (hF299515.1 231 15 (by decide))).trans hv267504))
        have x320898 := HI.eqI hI320872 (p := 231) (b := 17) ((((hF320873.1 231 17 (by decide)).trans (hF299515.1 231 17 (by decide))).trans hv267506))
        have y320899 := (q267486 (by omega)).1
        refine r_callV 75 rfl [.ref 231] [] (Nat.le_of_ble_eq_true rfl) rfl (T_X11_readClause_231 _ hI320872 (by refine ⟨?_, ?_, ?_, ?_⟩ <;> omega) (by omega) (by omega) c320891 (CLS.cong2 (q267486 (by omega)).2 hI320872 (((hF320873.2.1 238 (by decide)).trans (hF299515.2.1 238 (by decide)))) (((hF320873.2.1 239 (by decide)).trans (hF299515.2.1 239 (by decide)))) (((hF320873.2.1 237 (by decide)).trans (hF299515.2.1 237 (by decide)))) (((hF320873.1 231 15 (by decide)).trans (hF299515.1 231 15 (by decide)))) (((hF320873.1 231 17 (by decide)).trans (hF299515.1 231 17 (by decide)))))) ?_
        rintro _ _ ⟨g320900, rfl, hI320901, hF320902, rfl, hr320904⟩
        refine At.stn ?_
        have hF320905 := Fr.tr hF320876 hF320902 rfl rfl
        have x320906 := HI.eqI hI320872 (p := 231) (b := 9) (hv320880)
        have x320907 := HI.eqI hI320901 (p := 231) (b := 8) ((((hF320902.1 231 8 (by decide)).trans ((hF320873.1 231 8 (by decide)).trans ((hF299515.1 231 8 (by decide)).trans (q267480.1 231 8 (by decide))))).trans hv1))
        obtain ⟨v320908, hv320908⟩ : ∃ v, gI g320900 231 9 = v := ⟨_, rfl⟩
        have rv320908 := RgF.at hI320901.2.1 (p := 231) (b := 9) rfl
        rw [hv320908] at rv320908
        dsimp only at rv320908
        have tv320908 := congrArg Int32.toInt hv320908
        have x320909 := HI.eqI hI320901 (p := 231) (b := 9) (hv320908)
        obtain ⟨v320910, hv320910⟩ : ∃ v, gI g320900 231 10 = v := ⟨_, rfl⟩
        have rv320910 := RgF.at hI320901.2.1 (p := 231) (b := 10) rfl
        rw [hv320910] at rv320910
        dsimp only at rv320910
        have tv320910 := congrArg Int32.toInt hv320910
        have x320911 := HI.eqI hI320901 (p := 231) (b := 10) (hv320910)
        obtain ⟨v320912, hv320912⟩ : ∃ v, gI g320900 231 11 = v := ⟨_, rfl⟩
        have tv320912 := congrArg Int32.toInt hv320912
        have x320913 := HI.eqI hI320901 (p := 231) (b := 11) (hv320912)
        obtain ⟨v320914, hv320914⟩ : ∃ v, gI g320900 231 14 = v := ⟨_, rfl⟩
        have tv320914 := congrArg Int32.toInt hv320914
        have x320915 := HI.eqI hI320901 (p := 231) (b := 14) (hv320914)
        obtain ⟨v320916, hv320916⟩ : ∃ v, gI g320900 231 15 = v := ⟨_, rfl⟩
        have rv320916 := RgF.at hI320901.2.1 (p := 231) (b := 15) rfl
        rw [hv320916] at rv320916
        dsimp only at rv320916
        have tv320916 := congrArg Int32.toInt hv320916
        have x320917 := HI.eqI hI320901 (p := 231) (b := 15) (hv320916)
        obtain ⟨v320918, hv320918⟩ : ∃ v, gI g320900 231 17 = v := ⟨_, rfl⟩
        have rv320918 := RgF.at hI320901.2.1 (p := 231) (b := 17) rfl
        rw [hv320918] at rv320918
        dsimp only at rv320918
        have tv320918 := congrArg Int32.toInt hv320918
        have x320919 := HI.eqI hI320901 (p := 231) (b := 17) (hv320918)
        obtain ⟨c320920, c320921, c320922, c320923, c320924, c320925, c320926⟩ := hr320904
        refine At.enter rfl ?_
        refine r_goto ?_
        have x320927 := HI.eqI hI320901 (p := 231) (b := 8) ((((hF320902.1 231 8 (by decide)).trans ((hF320873.1 231 8 (by decide)).trans ((hF299515.1 231 8 (by decide)).trans (q267480.1 231 8 (by decide))))).trans hv1))
        have x320928 := HI.eqI hI320901 (p := 231) (b := 9) (hv320908)
        have x320929 := HI.eqI hI320901 (p := 231) (b := 10) (hv320910)
        have x320930 := HI.eqI hI320901 (p := 231) (b := 11) (hv320912)
        have x320931 := HI.eqI hI320901 (p := 231) (b := 14) (hv320914)
        have x320932 := HI.eqI hI320901 (p := 231) (b := 15) (hv320916)
        have x320933 := HI.eqI hI320901 (p := 231) (b := 17) (hv320918)
        exact ih267476 (400 - v320908.toInt) _ _ ⟨v320908, by first | rfl | omega, hI320901, hF320905, hv320908, e267478, by omega, (Fr.tr (Fr.tr (Fr.tr q267480 hF299515 rfl rfl) hF320873 rfl rfl) hF320902 rfl rfl), by omega, by omega, by omega, by omega, c320924, c320926⟩ ⟨by omega, by omega⟩
  · have c213961_ : v213960.toInt = 6 := en_i_ne_f c213961
    refine At.enter rfl ?_
    refine r_aload_n rfl ?_
    refine r_iconst 0 rfl ?_
    refine q_putI (Sh.int hI213958.1 kx_231 rfl) rfl ?_
    have hI320934 := HI.wI1 hI213958 kx_231 rfl (p := 231) (b := 8) (v := 0) rfl (by decide)
    have hF320935 := Fr.wI (p := 231) (b := 8) (v := 0) hF213959 rfl
    refine r_aload_n rfl ?_
    refine r_bipush (-5) rfl ?_
    refine r_callV 27 rfl [.ref 231, .int (-5)] [] (Nat.le_of_ble_eq_true rfl) rfl (T_X11_tell_231 _ hI320934 (-5) (by decide)) ?_
    rintro _ _ ⟨g320936, rfl, hI320937, hF320938, v320939, rfl, hr320940⟩
    refine At.sti ?_
    have hF320941 := Fr.tr hF320935 hF320938 rfl rfl
    have zv320942 : ((-5) : Int32).toInt = (-5) := rfl
    refine At.enter rfl ?_
    refine r_ireti ?_
    exact ⟨_, rfl, hI320937, hF320941, _, rfl, by omega, (fun i i0 i1 i2 => eA_c (((hF320938.2.1 233 (by decide)).trans ((gA_sI).trans (gA_sI)))))⟩
