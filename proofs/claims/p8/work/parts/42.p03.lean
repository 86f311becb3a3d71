def F_X11_law_231 : List (Nat × Nat) := [(231, 0), (231, 1), (231, 8), (231, 9), (231, 10), (231, 11), (231, 12), (231, 13), (231, 14), (231, 15), (231, 17), (231, 20), (231, 23), (231, 24)]
def A_X11_law_231 : List Nat := [232, 233, 237, 238, 239, 240, 241]
set_option maxRecDepth 100000 in
set_option maxHeartbeats 4000000 in
theorem T_X11_law_231 (d : Nat) {N : Nat} {g0 : List en_E} (hI0 : HI g0) : Ev (d + 9) 210 [.ref 231] (g0, N) (fun w h' => ∃ g', h' = (g', N) ∧ HI g' ∧ Fr F_X11_law_231 A_X11_law_231 g0 g' ∧ ∃ r : Int32, w = some (.int r) ∧ ((-6) ≤ r.toInt ∧ r.toInt ≤ 5) ∧ ((∀ i : Int, 0 ≤ i → i < 110 → i ≠ 2 → eA g' 233 i = eA g0 233 i) ∧ (gI g' 231 8).toInt = 0)) := by
  have hF0 : Fr F_X11_law_231 A_X11_law_231 g0 g0 := Fr.rf
  obtain ⟨v1, hv1⟩ : ∃ v, gI g0 231 8 = v := ⟨_, rfl⟩
  have rv1 := RgF.at hI0.2.1 (p := 231) (b := 8) rfl
  rw [hv1] at rv1
  dsimp only at rv1
  have tv1 := congrArg Int32.toInt hv1
  refine Ev.mk rfl rfl ⟨Nat.le_of_ble_eq_true rfl, Or.inr (q_rc hI0.1 kx_231 rfl)⟩ ?_
  show At _ none _ _ (0, [(0, .ref 231)], [], (_, _)) _
  refine At.enter rfl ?_
  refine r_aload_n rfl ?_
  refine r_iconst 0 rfl ?_
  refine q_putI (Sh.int hI0.1 kx_231 rfl) rfl ?_
  have hI213958 := HI.wI0 hI0 kx_231 rfl (p := 231) (b := 0) (v := 0) rfl
  have hF213959 := Fr.wI (p := 231) (b := 0) (v := 0) hF0 rfl
  refine r_aload_n rfl ?_
  refine q_getR (Sh.ref hI213958.1 kx_231 rfl) ?_
  refine r_iconst 2 rfl ?_
  obtain ⟨v213960, hv213960⟩ : ∃ v, eA g0 233 2 = v := ⟨_, rfl⟩
  have tv213960 := congrArg Int32.toInt hv213960
  have wv213960 := HI.t2 hI0
  rw [hv213960] at wv213960
  refine q_iald (Sh.arr hI213958.1 ka_233) 2 rfl (by decide) v213960 ((eA_c (gA_sI)).trans hv213960) ?_
  refine r_bipush 6 rfl ?_
  refine r_ics 16 rfl (fun c213961 => ?_) (fun c213961 => ?_)
  · have c213961_ : v213960.toInt ≠ 6 := en_i_ne_t c213961
    refine At.enter rfl ?_
    refine r_aload_n rfl ?_
    refine q_inlV 32 rfl [.ref 231] [] (Nat.le_of_ble_eq_true rfl) rfl ?_
    refine Ev.mk rfl rfl ⟨Nat.le_of_ble_eq_true rfl, Or.inr (q_rc hI213958.1 kx_231 rfl)⟩ ?_
    show At _ none _ _ (0, [(0, .ref 231)], [], (_, _)) _
    refine At.enter rfl ?_
    refine r_aload_n rfl ?_
    refine r_iconst 0 rfl ?_
    refine q_putI (Sh.int hI213958.1 kx_231 rfl) rfl ?_
    have hI213962 := HI.wI1 hI213958 kx_231 rfl (p := 231) (b := 10) (v := 0) rfl (by decide)
    have hF213963 := Fr.wI (p := 231) (b := 10) (v := 0) hF213959 rfl
    refine r_aload_n rfl ?_
    refine r_iconst 0 rfl ?_
    refine q_putI (Sh.int hI213962.1 kx_231 rfl) rfl ?_
    have hI213964 := HI.wI0 hI213962 kx_231 rfl (p := 231) (b := 14) (v := 0) rfl
    have hF213965 := Fr.wI (p := 231) (b := 14) (v := 0) hF213963 rfl
    refine r_aload_n rfl ?_
    refine r_iconst (-1) rfl ?_
    refine q_putI (Sh.int hI213964.1 kx_231 rfl) rfl ?_
    have hI213966 := HI.wI0 hI213964 kx_231 rfl (p := 231) (b := 13) (v := (-1)) rfl
    have hF213967 := Fr.wI (p := 231) (b := 13) (v := (-1)) hF213965 rfl
    refine r_aload_n rfl ?_
    have x213968 := HI.eqI hI213966 (p := 231) (b := 8) ((((gI_sI_ne (by decide)).trans ((gI_sI_ne (by decide)).trans ((gI_sI_ne (by decide)).trans (gI_sI_ne (by decide))))).trans hv1))
    have x213969 := HI.eqI hI213966 (p := 231) (b := 10) (((gI_sI_ne (by decide)).trans ((gI_sI_ne (by decide)).trans (gI_sI_eq hI213958.1 kx_231 rfl _))))
    have zv213970 : (0 : Int32).toInt = 0 := rfl
    refine r_callV 19 rfl [.ref 231] [] (Nat.le_of_ble_eq_true rfl) rfl (T_X11_next_231 _ hI213966 (by omega)) ?_
    rintro _ _ ⟨g213971, rfl, hI213972, hF213973, rfl, hr213975⟩
    refine At.stn ?_
    have hF213976 := Fr.tr hF213967 hF213973 rfl rfl
    have x213977 := HI.eqI hI213966 (p := 231) (b := 8) ((((gI_sI_ne (by decide)).trans ((gI_sI_ne (by decide)).trans ((gI_sI_ne (by decide)).trans (gI_sI_ne (by decide))))).trans hv1))
    have x213978 := HI.eqI hI213966 (p := 231) (b := 10) (((gI_sI_ne (by decide)).trans ((gI_sI_ne (by decide)).trans (gI_sI_eq hI213958.1 kx_231 rfl _))))
    have zv213979 : (0 : Int32).toInt = 0 := rfl
    have x213980 := HI.eqI hI213972 (p := 231) (b := 8) ((((hF213973.1 231 8 (by decide)).trans ((gI_sI_ne (by decide)).trans ((gI_sI_ne (by decide)).trans ((gI_sI_ne (by decide)).trans (gI_sI_ne (by decide)))))).trans hv1))
    obtain ⟨v213981, hv213981⟩ : ∃ v, gI g213971 231 9 = v := ⟨_, rfl⟩
    have rv213981 := RgF.at hI213972.2.1 (p := 231) (b := 9) rfl
    rw [hv213981] at rv213981
    dsimp only at rv213981
    have tv213981 := congrArg Int32.toInt hv213981
    have x213982 := HI.eqI hI213972 (p := 231) (b := 9) (hv213981)
    obtain ⟨v213983, hv213983⟩ : ∃ v, gI g213971 231 10 = v := ⟨_, rfl⟩
    have rv213983 := RgF.at hI213972.2.1 (p := 231) (b := 10) rfl
    rw [hv213983] at rv213983
    dsimp only at rv213983
    have tv213983 := congrArg Int32.toInt hv213983
    have x213984 := HI.eqI hI213972 (p := 231) (b := 10) (hv213983)
    obtain ⟨v213985, hv213985⟩ : ∃ v, gI g213971 231 11 = v := ⟨_, rfl⟩
    have tv213985 := congrArg Int32.toInt hv213985
    have x213986 := HI.eqI hI213972 (p := 231) (b := 11) (hv213985)
    obtain ⟨c213987, c213988, c213989, c213990, c213991, c213992⟩ := hr213975
    refine At.enter rfl ?_
    refine q_vret ?_
    refine At.enter rfl ?_
    refine r_aload_n rfl ?_
    refine r_iconst 0 rfl ?_
    refine q_putI (Sh.int hI213972.1 kx_231 rfl) rfl ?_
    have hI213993 := HI.wI1 hI213972 kx_231 rfl (p := 231) (b := 15) (v := 0) rfl (by decide)
    have hF213994 := Fr.wI (p := 231) (b := 15) (v := 0) hF213976 rfl
    refine r_aload_n rfl ?_
    refine r_iconst 0 rfl ?_
    refine q_putI (Sh.int hI213993.1 kx_231 rfl) rfl ?_
    have hI213995 := HI.wI1 hI213993 kx_231 rfl (p := 231) (b := 17) (v := 0) rfl (by decide)
    have hF213996 := Fr.wI (p := 231) (b := 17) (v := 0) hF213994 rfl
    refine r_aload_n rfl ?_
    refine r_iconst 0 rfl ?_
    refine q_putI (Sh.int hI213995.1 kx_231 rfl) rfl ?_
    have hI213997 := HI.wI0 hI213995 kx_231 rfl (p := 231) (b := 20) (v := 0) rfl
    have hF213998 := Fr.wI (p := 231) (b := 20) (v := 0) hF213996 rfl
    refine r_aload_n rfl ?_
    have x213999 := HI.eqI hI213997 (p := 231) (b := 8) ((((gI_sI_ne (by decide)).trans ((gI_sI_ne (by decide)).trans ((gI_sI_ne (by decide)).trans ((hF213973.1 231 8 (by decide)).trans ((gI_sI_ne (by decide)).trans ((gI_sI_ne (by decide)).trans ((gI_sI_ne (by decide)).trans (gI_sI_ne (by decide))))))))).trans hv1))
    have x214000 := HI.eqI hI213997 (p := 231) (b := 9) ((((gI_sI_ne (by decide)).trans ((gI_sI_ne (by decide)).trans (gI_sI_ne (by decide)))).trans hv213981))
    have x214001 := HI.eqI hI213997 (p := 231) (b := 10) ((((gI_sI_ne (by decide)).trans ((gI_sI_ne (by decide)).trans (gI_sI_ne (by decide)))).trans hv213983))
    have x214002 := HI.eqI hI213997 (p := 231) (b := 11) ((((gI_sI_ne (by decide)).trans ((gI_sI_ne (by decide)).trans (gI_sI_ne (by decide)))).trans hv213985))
    have x214003 := HI.eqI hI213997 (p := 231) (b := 14) (((gI_sI_ne (by decide)).trans ((gI_sI_ne (by decide)).trans ((gI_sI_ne (by decide)).trans ((hF213973.1 231 14 (by decide)).trans ((gI_sI_ne (by decide)).trans (gI_sI_eq hI213962.1 kx_231 rfl _)))))))
    have zv214004 : (0 : Int32).toInt = 0 := rfl
    have x214005 := HI.eqI hI213997 (p := 231) (b := 15) (((gI_sI_ne (by decide)).trans ((gI_sI_ne (by decide)).trans (gI_sI_eq hI213972.1 kx_231 rfl _))))
    have zv214006 : (0 : Int32).toInt = 0 := rfl
    have x214007 := HI.eqI hI213997 (p := 231) (b := 17) (((gI_sI_ne (by decide)).trans (gI_sI_eq hI213993.1 kx_231 rfl _)))
    have zv214008 : (0 : Int32).toInt = 0 := rfl
    have w26214009 := W26.cong c213992 hI213997 (((gI_sI_ne (by decide)).trans ((gI_sI_ne (by decide)).trans (gI_sI_ne (by decide))))) (((gI_sI_ne (by decide)).trans ((gI_sI_ne (by decide)).trans (gI_sI_ne (by decide))))) (((gI_sI_ne (by decide)).trans ((gI_sI_ne (by decide)).trans (gI_sI_ne (by decide))))) (((gJ_sI_ne (by decide)).trans ((gJ_sI_ne (by decide)).trans (gJ_sI_ne (by decide)))))
    refine r_callV 51 rfl [.ref 231] [] (Nat.le_of_ble_eq_true rfl) rfl (T_X11_readClause_231 _ hI213997 (by refine ⟨?_, ?_, ?_, ?_⟩ <;> omega) (by omega) (by omega) w26214009 (CLS.zero0 (by omega))) ?_
    rintro _ _ ⟨g214010, rfl, hI214011, hF214012, rfl, hr214014⟩
    refine At.stn ?_
    have hF214015 := Fr.tr hF213998 hF214012 rfl rfl
    have x214016 := HI.eqI hI213997 (p := 231) (b := 9) ((((gI_sI_ne (by decide)).trans ((gI_sI_ne (by decide)).trans (gI_sI_ne (by decide)))).trans hv213981))
    have x214017 := HI.eqI hI214011 (p := 231) (b := 8) ((((hF214012.1 231 8 (by decide)).trans ((gI_sI_ne (by decide)).trans ((gI_sI_ne (by decide)).trans ((gI_sI_ne (by decide)).trans ((hF213973.1 231 8 (by decide)).trans ((gI_sI_ne (by decide)).trans ((gI_sI_ne (by decide)).trans ((gI_sI_ne (by decide)).trans (gI_sI_ne (by decide)))))))))).trans hv1))
    obtain ⟨v214018, hv214018⟩ : ∃ v, gI g214010 231 9 = v := ⟨_, rfl⟩
    have rv214018 := RgF.at hI214011.2.1 (p := 231) (b := 9) rfl
    rw [hv214018] at rv214018
    dsimp only at rv214018
    have tv214018 := congrArg Int32.toInt hv214018
    have x214019 := HI.eqI hI214011 (p := 231) (b := 9) (hv214018)
    obtain ⟨v214020, hv214020⟩ : ∃ v, gI g214010 231 10 = v := ⟨_, rfl⟩
    have rv214020 := RgF.at hI214011.2.1 (p := 231) (b := 10) rfl
    rw [hv214020] at rv214020
    dsimp only at rv214020
    have tv214020 := congrArg Int32.toInt hv214020
    have x214021 := HI.eqI hI214011 (p := 231) (b := 10) (hv214020)
    obtain ⟨v214022, hv214022⟩ : ∃ v, gI g214010 231 11 = v := ⟨_, rfl⟩
    have tv214022 := congrArg Int32.toInt hv214022
    have x214023 := HI.eqI hI214011 (p := 231) (b := 11) (hv214022)
    obtain ⟨v214024, hv214024⟩ : ∃ v, gI g214010 231 14 = v := ⟨_, rfl⟩
    have tv214024 := congrArg Int32.toInt hv214024
    have x214025 := HI.eqI hI214011 (p := 231) (b := 14) (hv214024)
    obtain ⟨v214026, hv214026⟩ : ∃ v, gI g214010 231 15 = v := ⟨_, rfl⟩
    have rv214026 := RgF.at hI214011.2.1 (p := 231) (b := 15) rfl
    rw [hv214026] at rv214026
    dsimp only at rv214026
    have tv214026 := congrArg Int32.toInt hv214026
    have x214027 := HI.eqI hI214011 (p := 231) (b := 15) (hv214026)
    obtain ⟨v214028, hv214028⟩ : ∃ v, gI g214010 231 17 = v := ⟨_, rfl⟩
    have rv214028 := RgF.at hI214011.2.1 (p := 231) (b := 17) rfl
    rw [hv214028] at rv214028
    dsimp only at rv214028
    have tv214028 := congrArg Int32.toInt hv214028
    have x214029 := HI.eqI hI214011 (p := 231) (b := 17) (hv214028)
    obtain ⟨c214030, c214031, c214032, c214033, c214034, c214035, c214036⟩ := hr214014
    have x267487 := HI.eqI hI214011 (p := 231) (b := 8) ((((hF214012.1 231 8 (by decide)).trans ((gI_sI_ne (by decide)).trans ((gI_sI_ne (by decide)).trans ((gI_sI_ne (by decide)).trans ((hF213973.1 231 8 (by decide)).trans ((gI_sI_ne (by decide)).trans ((gI_sI_ne (by decide)).trans ((gI_sI_ne (by decide)).trans (gI_sI_ne (by decide)))))))))).trans hv1))
    have x267488 := HI.eqI hI214011 (p := 231) (b := 9) (hv214018)
    have x267489 := HI.eqI hI214011 (p := 231) (b := 10) (hv214020)
    have x267490 := HI.eqI hI214011 (p := 231) (b := 11) (hv214022)
    have x267491 := HI.eqI hI214011 (p := 231) (b := 14) (hv214024)
    have x267492 := HI.eqI hI214011 (p := 231) (b := 15) (hv214026)
    have x267493 := HI.eqI hI214011 (p := 231) (b := 17) (hv214028)
    refine w_loopI (fun n_ l_ g_ => ∃ x267470 : Int32, n_ = 400 - x267470.toInt ∧ HI g_ ∧ Fr F_X11_law_231 A_X11_law_231 g0 g_ ∧ gI g_ 231 9 = x267470 ∧ en_get 0 l_ = some (.ref 231) ∧ (0 ≤ x267470.toInt ∧ x267470.toInt ≤ 400) ∧ (Fr [(231, 0), (231, 9), (231, 10), (231, 11), (231, 12), (231, 13), (231, 14), (231, 15), (231, 17), (231, 20), (231, 23), (231, 24)] [237, 238, 239, 240, 241] g0 g_) ∧ ((gI g_ 231 9).toInt ≤ (gI g_ 231 10).toInt) ∧ ((gI g_ 231 10).toInt ≤ (gI g_ 231 8).toInt) ∧ (0 ≤ (gI g_ 231 11).toInt) ∧ ((gI g_ 231 11).toInt ≤ 3 * ((gI g_ 231 10).toInt - (gI g_ 231 9).toInt)) ∧ (W26 g_) ∧ (CLZ g_)) ?_ (400 - v214018.toInt) ⟨v214018, by first | rfl | omega, hI214011, hF214015, hv214018, rfl, by omega, (Fr.tr (Fr.wI (p := 231) (b := 20) (Fr.wI (p := 231) (b := 17) (Fr.wI (p := 231) (b := 15) (Fr.tr (Fr.wI (p := 231) (b := 13) (Fr.wI (p := 231) (b := 14) (Fr.wI (p := 231) (b := 10) (Fr.wI (p := 231) (b := 0) Fr.rf rfl) rfl) rfl) rfl) hF213973 rfl rfl) rfl) rfl) rfl) hF214012 rfl rfl), by omega, by omega, by omega, by omega, c214034, c214036⟩
    rintro n267475 l267474 g267471 ⟨x267470, hm267494, hI267472, hF267473, e267477, e267478, r267479, q267480, q267481, q267482, q267483, q267484, q267485, q267486⟩ ih267476
    have tv267495 := congrArg Int32.toInt e267477
    have x267496 := HI.eqI hI267472 (p := 231) (b := 8) (((q267480.1 231 8 (by decide)).trans hv1))
    have x267497 := HI.eqI hI267472 (p := 231) (b := 9) (e267477)
    obtain ⟨v267498, hv267498⟩ : ∃ v, gI g267471 231 10 = v := ⟨_, rfl⟩
    have rv267498 := RgF.at hI267472.2.1 (p := 231) (b := 10) rfl
    rw [hv267498] at rv267498
    dsimp only at rv267498
    have tv267498 := congrArg Int32.toInt hv267498
    have x267499 := HI.eqI hI267472 (p := 231) (b := 10) (hv267498)
    obtain ⟨v267500, hv267500⟩ : ∃ v, gI g267471 231 11 = v := ⟨_, rfl⟩
    have tv267500 := congrArg Int32.toInt hv267500
    have x267501 := HI.eqI hI267472 (p := 231) (b := 11) (hv267500)
    obtain ⟨v267502, hv267502⟩ : ∃ v, gI g267471 231 14 = v := ⟨_, rfl⟩
    have tv267502 := congrArg Int32.toInt hv267502
    have x267503 := HI.eqI hI267472 (p := 231) (b := 14) (hv267502)
    obtain ⟨v267504, hv267504⟩ : ∃ v, gI g267471 231 15 = v := ⟨_, rfl⟩
    have rv267504 := RgF.at hI267472.2.1 (p := 231) (b := 15) rfl
    rw [hv267504] at rv267504
    dsimp only at rv267504
    have tv267504 := congrArg Int32.toInt hv267504
    have x267505 := HI.eqI hI267472 (p := 231) (b := 15) (hv267504)
    obtain ⟨v267506, hv267506⟩ : ∃ v, gI g267471 231 17 = v := ⟨_, rfl⟩
    have rv267506 := RgF.at hI267472.2.1 (p := 231) (b := 17) rfl
    rw [hv267506] at rv267506
    dsimp only at rv267506
    have tv267506 := congrArg Int32.toInt hv267506
    have x267507 := HI.eqI hI267472 (p := 231) (b := 17) (hv267506)
    refine At.enter rfl ?_
    refine r_aload_n e267478 ?_
    refine q_getI (Sh.int hI267472.1 kx_231 rfl) v267502 hv267502 ?_
    refine r_ifs 58 rfl (fun c267508 => ?_) (fun c267508 => ?_)
    · have c267508_ : v267502.toInt ≠ 0 := en_k_ne_t c267508
      refine At.enter rfl ?_
      refine r_aload_n e267478 ?_
      refine q_getI (Sh.int hI267472.1 kx_231 rfl) v267502 hv267502 ?_
      refine r_ifs 85 rfl (fun c267509 => ?_) (fun c267509 => ?_)
      · have c267509_ : v267502.toInt ≠ 0 := en_k_ne_t c267509
        refine At.enter rfl ?_
        refine r_aload_n e267478 ?_
        refine r_iconst 0 rfl ?_
        refine q_putI (Sh.int hI267472.1 kx_231 rfl) rfl ?_
        have hI267510 := HI.wI1 hI267472 kx_231 rfl (p := 231) (b := 8) (v := 0) rfl (by decide)
        have hF267511 := Fr.wI (p := 231) (b := 8) (v := 0) hF267473 rfl
        refine r_aload_n e267478 ?_
        refine q_getI (Sh.int hI267510.1 kx_231 rfl) v267502 ((gI_sI_ne (by decide)).trans hv267502) ?_
        refine r_ifs 109 rfl (fun c267512 => ?_) (fun c267512 => ?_)
        · have c267512_ : v267502.toInt = 0 := en_k_eq_t c267512
          refine At.enter rfl ?_
          refine r_bipush 110 rfl ?_
          refine r_sipush 900 rfl ?_
          refine r_aload_n e267478 ?_
          refine q_getR (Sh.ref hI267510.1 kx_231 rfl) ?_
          refine r_iconst 2 rfl ?_
          refine q_iald (Sh.arr hI267510.1 ka_233) 2 rfl (by decide) v213960 ((eA_c ((gA_sI).trans (q267480.2.1 233 (by decide)))).trans hv213960) ?_
          refine q_imul (900 * v213960.toInt) rfl (by omega) (fun v267513 hv267513 => ?_)
          refine q_iadd (110 + v267513.toInt) rfl (by omega) (fun v267514 hv267514 => ?_)
          refine r_istore_n _ rfl ?_
          refine r_aload_n (w_p1 (by decide) (Or.inr rfl) e267478) ?_
          refine q_getR (Sh.ref hI267510.1 kx_231 rfl) ?_
          refine r_iload_n (w_e1 _ _ _) ?_
          refine r_iconst 1 rfl ?_
          refine q_iadd (v267514.toInt + 1) rfl (by omega) (fun v267515 hv267515 => ?_)
          refine r_aload_n (w_p1 (by decide) (Or.inr rfl) e267478) ?_
          refine q_getI (Sh.int hI267510.1 kx_231 rfl) v267504 ((gI_sI_ne (by decide)).trans hv267504) ?_
          refine q_iast (Sh.arr hI267510.1 ka_233) ((900 * v213960.toInt + 111)) (by omega) (by omega) ?_
          have x267518 := HI.eqA hI267510 (p := 233) (j := 2) ((((eA_c gA_sI).trans (eA_c (q267480.2.1 233 (by decide)))).trans hv213960))
          have hI267516 := HI.wfree hI267510 (j := (900 * v213960.toInt + 111)) (v := v267504) ⟨by omega, by omega⟩
          have hF267517 := Fr.wA (p := 233) (j := (900 * v213960.toInt + 111)) (v := v267504) hF267511 rfl
          refine r_iconst 0 rfl ?_
          refine r_istore_n _ rfl ?_
          refine Ar.fall 144 rfl ?_
          have z_277494 : (0 : Int32).toInt = 0 := rfl
          have x277495 := HI.eqI hI267472 (p := 231) (b := 15) (hv267504)
          have x277496 := HI.eqI hI267472 (p := 231) (b := 17) (hv267506)
          refine w_loopI (fun n_ l_ g_ => ∃ x277479 : Int32, n_ = 96 - x277479.toInt ∧ HI g_ ∧ Fr F_X11_law_231 A_X11_law_231 g0 g_ ∧ en_get 0 l_ = some (.ref 231) ∧ en_get 1 l_ = some (.int v267514) ∧ en_get 2 l_ = some (.int x277479) ∧ (0 ≤ x277479.toInt ∧ x277479.toInt ≤ 96) ∧ (Fr [(231, 8)] [233] g267471 g_) ∧ ((eA g_ 233 (v267514.toInt + 1)).toInt = (gI g267471 231 15).toInt) ∧ (∀ i : Int, 0 ≤ i → i < x277479.toInt → (eA g_ 233 (v267514.toInt + 2 + i)).toInt = (eA g267471 237 i).toInt) ∧ (∀ i : Int, 0 ≤ i → i < 110 → eA g_ 233 i = eA g267471 233 i)) ?_ (96 - 0) ⟨0, by first | rfl | omega, hI267516, hF267517, (w_p1 (by decide) (Or.inr rfl) (w_p1 (by decide) (Or.inr rfl) e267478)), (w_p1 (by decide) (Or.inr rfl) (w_e1 _ _ _)), (w_e1 _ _ _), by decide, (Fr.wA (p := 233) (Fr.wI (p := 231) (b := 8) Fr.rf rfl) rfl), ((congrArg Int32.toInt (eA_sA_eq hI267510.1 ka_233 (by omega) (by omega) (by omega))).trans (by omega)), (fun i i0 i1 => absurd i1 (by omega)), (fun i i0 i1 => ((eA_sA_ne (i := i) hI267510.1 ka_233 (by omega) (by omega) (by omega)).trans (eA_c gA_sI)))⟩
          rintro n277484 l277483 g277480 ⟨x277479, hm277497, hI277481, hF277482, e277486, e277487, e277488, r277489, q277490, q277491, q277492, q277493⟩ ih277485
          have x277498 := HI.eqI hI267472 (p := 231) (b := 15) (hv267504)
          have x277499 := HI.eqI hI267472 (p := 231) (b := 17) (hv267506)
          have t277500 := congrArg Int32.toInt ((q277493 2 (by decide) (by decide)).trans ((eA_c (q267480.2.1 233 (by decide))).trans hv213960))
          refine At.enter rfl ?_
          refine r_iload_n e277488 ?_
          refine r_bipush 8 rfl ?_
          refine r_aload_n e277486 ?_
          refine q_getI (Sh.int hI277481.1 kx_231 rfl) v267504 ((q277490.1 231 15 (by decide)).trans hv267504) ?_
          refine q_imul (8 * v267504.toInt) rfl (by omega) (fun v277501 hv277501 => ?_)
          have bv277503 := q_bnd x277479
          have bv277504 := q_bnd v277501
          refine r_ics 155 rfl (fun c277502 => ?_) (fun c277502 => ?_)
          · have c277502_ : x277479.toInt ≥ v277501.toInt := en_i_ge_t c277502
            refine At.enter rfl ?_
            refine r_iconst 0 rfl ?_
            refine r_istore_n _ rfl ?_
            refine Ar.fall 179 rfl ?_
            have z_278116 : (0 : Int32).toInt = 0 := rfl
            have x278117 := HI.eqI hI267472 (p := 231) (b := 15) (hv267504)
            have x278118 := HI.eqI hI267472 (p := 231) (b := 17) (hv267506)
            refine w_loopI (fun n_ l_ g_ => ∃ x278100 : Int32, n_ = 400 - x278100.toInt ∧ HI g_ ∧ Fr F_X11_law_231 A_X11_law_231 g0 g_ ∧ en_get 0 l_ = some (.ref 231) ∧ en_get 1 l_ = some (.int v267514) ∧ en_get 2 l_ = some (.int x278100) ∧ (0 ≤ x278100.toInt ∧ x278100.toInt ≤ 400) ∧ (Fr [(231, 8)] [233] g267471 g_) ∧ ((eA g_ 233 (v267514.toInt + 1)).toInt = (gI g267471 231 15).toInt) ∧ (∀ i : Int, 0 ≤ i → i < 8 * (gI g267471 231 15).toInt → (eA g_ 233 (v267514.toInt + 2 + i)).toInt = (eA g267471 237 i).toInt) ∧ (∀ i : Int, 0 ≤ i → i < 110 → eA g_ 233 i = eA g267471 233 i) ∧ (∀ i : Int, 0 ≤ i → i < x278100.toInt → (eA g_ 233 (v267514.toInt + 98 + 2 * i)).toInt = (eA g267471 238 i).toInt ∧ (eA g_ 233 (v267514.toInt + 98 + 2 * i + 1)).toInt = (eA g267471 239 i).toInt)) ?_ (400 - 0) ⟨0, by first | rfl | omega, hI277481, hF277482, (w_p1 (by decide) (Or.inr rfl) e277486), (w_p1 (by decide) (Or.inr rfl) e277487), (w_e1 _ _ _), by decide, (Fr.tr Fr.rf q277490 rfl rfl), ((congrArg Int32.toInt (rfl)).trans q277491), (fun i i0 i1 => q277492 i i0 (by omega)), (fun i i0 i1 => (rfl).trans (q277493 i i0 i1)), (fun i i0 i1 => absurd i1 (by omega))⟩
            rintro n278105 l278104 g278101 ⟨x278100, hm278119, hI278102, hF278103, e278107, e278108, e278109, r278110, q278111, q278112, q278113, q278114, q278115⟩ ih278106
            have x278120 := HI.eqI hI267472 (p := 231) (b := 15) (hv267504)
            have x278121 := HI.eqI hI267472 (p := 231) (b := 17) (hv267506)
            have t278122 := congrArg Int32.toInt ((q278114 2 (by decide) (by decide)).trans ((eA_c (q267480.2.1 233 (by decide))).trans hv213960))
            refine At.enter rfl ?_
            refine r_iload_n e278109 ?_
            refine r_aload_n e278107 ?_
            refine q_getI (Sh.int hI278102.1 kx_231 rfl) v267506 ((q278111.1 231 17 (by decide)).trans hv267506) ?_
            have bv278124 := q_bnd x278100
            have bv278125 := q_bnd v267506
            refine r_ics 187 rfl (fun c278123 => ?_) (fun c278123 => ?_)
            · have c278123_ : x278100.toInt ≥ v267506.toInt := en_i_ge_t c278123
              refine At.enter rfl ?_
              refine r_aload_n e278107 ?_
              refine q_getR (Sh.ref hI278102.1 kx_231 rfl) ?_
              refine r_iconst 2 rfl ?_
              refine r_dup2 ⟨rfl, rfl⟩ ?_
              refine q_iald (Sh.arr hI278102.1 ka_233) 2 rfl (by decide) v213960 ((q278114 2 (by decide) (by decide)).trans ((eA_c (q267480.2.1 233 (by decide))).trans hv213960)) ?_
              refine r_iconst 1 rfl ?_
              refine q_iadd (v213960.toInt + 1) rfl (by omega) (fun v278126 hv278126 => ?_)
              refine q_iast (Sh.arr hI278102.1 ka_233) (2) rfl (by decide) ?_
              have x278129 := HI.eqA hI278102 (p := 233) (j := 2) (((q278114 2 (by decide) (by decide)).trans ((eA_c (q267480.2.1 233 (by decide))).trans hv213960)))
              have hI278127 := HI.wt2 hI278102 (v := v278126) (by omega) (by omega) (by rw [show 110 + 900 * (eA _ 233 2).toInt = v267514.toInt by omega]; exact LAW.mk (q267486 (by omega)).2 ⟨by omega, by omega⟩ (by omega) q278112 q278113 (fun i i0 i1 => q278115 i i0 (by omega)))
              have hF278128 := Fr.wA (p := 233) (j := 2) (v := v278126) hF278103 rfl
              refine r_aload_n e278107 ?_
              refine r_aload_n e278107 ?_
              refine q_getR (Sh.ref hI278127.1 kx_231 rfl) ?_
              refine r_iconst 2 rfl ?_
              refine q_iald (Sh.arr hI278127.1 ka_233) 2 rfl (by decide) v278126 (eA_sA_eq hI278102.1 ka_233 (by first | rfl | omega) (by first | decide | omega) (by first | decide | omega)) ?_
              refine r_iconst 1 rfl ?_
              refine q_isub (v278126.toInt - 1) rfl (by omega) (fun v278130 hv278130 => ?_)
              refine r_callV 255 rfl [.ref 231, .int v278130] [] (Nat.le_of_ble_eq_true rfl) rfl (T_X11_tell_231 _ hI278127 v278130 (by omega)) ?_
              rintro _ _ ⟨g278131, rfl, hI278132, hF278133, v278134, rfl, hr278135⟩
              refine At.sti ?_
              have hF278136 := Fr.tr hF278128 hF278133 rfl rfl
              refine At.enter rfl ?_
              refine r_ireti ?_
              obtain ⟨v278137, hv278137⟩ : ∃ v, gI g278101 231 8 = v := ⟨_, rfl⟩
              have rv278137 := RgF.at hI278102.2.1 (p := 231) (b := 8) rfl
              rw [hv278137] at rv278137
              dsimp only at rv278137
              have tv278137 := congrArg Int32.toInt hv278137
              have x278138 := HI.eqI hI278132 (p := 231) (b := 8) ((((hF278133.1 231 8 (by decide)).trans (gI_sW)).trans hv278137))
              exact ⟨_, rfl, hI278132, hF278136, _, rfl, by omega, ⟨(fun i i0 i1 i2 => ((eA_c (hF278133.2.1 233 (by decide))).trans ((eA_sA_ne (i := i) hI278102.1 ka_233 (by omega) (by omega) (by omega)).trans ((q278114 i i0 i1).trans (eA_c ((q267480.2.1 233 (by decide)))))))), by omega⟩⟩
            · have c278123_ : x278100.toInt < v267506.toInt := en_i_ge_f c278123
              refine At.enter rfl ?_
              refine r_aload_n e278107 ?_
              refine q_getR (Sh.ref hI278102.1 kx_231 rfl) ?_
              refine r_iload_n e278108 ?_
              refine r_bipush 98 rfl ?_
              refine q_iadd (v267514.toInt + 98) rfl (by omega) (fun v278139 hv278139 => ?_)
              refine r_iconst 2 rfl ?_
              refine r_iload_n e278109 ?_
              refine q_imul (2 * x278100.toInt) rfl (by omega) (fun v278140 hv278140 => ?_)
              refine q_iadd (v278139.toInt + v278140.toInt) rfl (by omega) (fun v278141 hv278141 => ?_)
              refine r_aload_n e278107 ?_
              refine q_getR (Sh.ref hI278102.1 kx_231 rfl) ?_
              refine r_iload_n e278109 ?_
              obtain ⟨v278142, hv278142⟩ : ∃ v, eA g267471 238 x278100.toInt = v := ⟨_, rfl⟩
              refine q_iald (Sh.arr hI278102.1 ka_238) x278100.toInt rfl (by omega) v278142 ((eA_c (q278111.2.1 238 (by decide))).trans hv278142) ?_
              refine q_iast (Sh.arr hI278102.1 ka_233) ((900 * v213960.toInt + 2 * x278100.toInt + 208)) (by omega) (by omega) ?_
              have x278145 := HI.eqA hI278102 (p := 233) (j := 2) (((q278114 2 (by decide) (by decide)).trans ((eA_c (q267480.2.1 233 (by decide))).trans hv213960)))
              have hI278143 := HI.wfree hI278102 (j := (900 * v213960.toInt + 2 * x278100.toInt + 208)) (v := v278142) ⟨by omega, by omega⟩
              have hF278144 := Fr.wA (p := 233) (j := (900 * v213960.toInt + 2 * x278100.toInt + 208)) (v := v278142) hF278103 rfl
              refine r_aload_n e278107 ?_
              refine q_getR (Sh.ref hI278143.1 kx_231 rfl) ?_
              refine r_iload_n e278108 ?_
              refine r_bipush 98 rfl ?_
              refine q_iadd (v267514.toInt + 98) rfl (by omega) (fun v278146 hv278146 => ?_)
              refine r_iconst 2 rfl ?_
              refine r_iload_n e278109 ?_
              refine q_imul (2 * x278100.toInt) rfl (by omega) (fun v278147 hv278147 => ?_)
              refine q_iadd (v278146.toInt + v278147.toInt) rfl (by omega) (fun v278148 hv278148 => ?_)
              refine r_iconst 1 rfl ?_
              refine q_iadd (v278148.toInt + 1) rfl (by omega) (fun v278149 hv278149 => ?_)
              refine r_aload_n e278107 ?_
              refine q_getR (Sh.ref hI278143.1 kx_231 rfl) ?_
              refine r_iload_n e278109 ?_
              obtain ⟨v278150, hv278150⟩ : ∃ v, eA g267471 239 x278100.toInt = v := ⟨_, rfl⟩
              refine q_iald (Sh.arr hI278143.1 ka_239) x278100.toInt rfl (by omega) v278150 ((eA_c ((gA_sA_ne (by decide)).trans (q278111.2.1 239 (by decide)))).trans hv278150) ?_
              refine q_iast (Sh.arr hI278143.1 ka_233) ((900 * v213960.toInt + 2 * x278100.toInt + 209)) (by omega) (by omega) ?_
              have x278153 := HI.eqA hI278143 (p := 233) (j := 2) (((eA_sA_ne hI278102.1 ka_233 (by first | decide | omega) (by first | decide | omega) (by first | decide | omega)).trans ((q278114 2 (by decide) (by decide)).trans ((eA_c (q267480.2.1 233 (by decide))).trans hv213960))))
              have hI278151 := HI.wfree hI278143 (j := (900 * v213960.toInt + 2 * x278100.toInt + 209)) (v := v278150) ⟨by omega, by omega⟩
              have hF278152 := Fr.wA (p := 233) (j := (900 * v213960.toInt + 2 * x278100.toInt + 209)) (v := v278150) hF278144 rfl
              refine q_iinc e278109 (x278100.toInt + 1) rfl (by omega) (fun v278154 hv278154 => ?_)
              refine r_goto ?_
              exact ih278106 (400 - v278154.toInt) _ _ ⟨v278154, by first | rfl | omega, hI278151, hF278152, (w_p1 (by decide) (Or.inr rfl) e278107), (w_p1 (by decide) (Or.inr rfl) e278108), (w_e1 _ _ _), by omega, (Fr.wA (p := 233) (Fr.wA (p := 233) q278111 rfl) rfl), ((congrArg Int32.toInt (((eA_sA_ne (i := v267514.toInt + 1) hI278143.1 ka_233 (by omega) (by omega) (by omega)).trans (eA_sA_ne (i := v267514.toInt + 1) hI278102.1 ka_233 (by omega) (by omega) (by omega))))).trans q278112), (fun i i0 i1 => (congrArg Int32.toInt (((eA_sA_ne (i := v267514.toInt + 2 + i) hI278143.1 ka_233 (by omega) (by omega) (by omega)).trans (eA_sA_ne (i := v267514.toInt + 2 + i) hI278102.1 ka_233 (by omega) (by omega) (by omega))))).trans (q278113 i i0 i1)), (fun i i0 i1 => (((eA_sA_ne (i := i) hI278143.1 ka_233 (by omega) (by omega) (by omega)).trans (eA_sA_ne (i := i) hI278102.1 ka_233 (by omega) (by omega) (by omega)))).trans (q278114 i i0 i1)), (fun i i0 i1 => (Decidable.em (i = x278100.toInt)).elim (fun e => by rw [e]; exact ⟨((congrArg Int32.toInt ((eA_sA_ne (i := v267514.toInt + 98 + 2 * x278100.toInt) hI278143.1 ka_233 (by omega) (by omega) (by omega)).trans (eA_sA_eq hI278102.1 ka_233 (by omega) (by omega) (by omega)))).trans (congrArg Int32.toInt hv278142).symm), ((congrArg Int32.toInt (eA_sA_eq hI278143.1 ka_233 (by omega) (by omega) (by omega))).trans (congrArg Int32.toInt hv278150).symm)⟩) (fun e => ⟨(congrArg Int32.toInt (((eA_sA_ne (i := v267514.toInt + 98 + 2 * i) hI278143.1 ka_233 (by omega) (by omega) (by omega)).trans (eA_sA_ne (i := v267514.toInt + 98 + 2 * i) hI278102.1 ka_233 (by omega) (by omega) (by omega))))).trans (q278115 i i0 (by omega)).1, (congrArg Int32.toInt (((eA_sA_ne (i := v267514.toInt + 98 + 2 * i + 1) hI278143.1 ka_233 (by omega) (by omega) (by omega)).trans (eA_sA_ne (i := v267514.toInt + 98 + 2 * i + 1) hI278102.1 ka_233 (by omega) (by omega) (by omega))))).trans (q278115 i i0 (by omega)).2⟩))⟩ ⟨by omega, by omega⟩
          · have c277502_ : x277479.toInt < v277501.toInt := en_i_ge_f c277502
            refine At.enter rfl ?_
            refine r_aload_n e277486 ?_
            refine q_getR (Sh.ref hI277481.1 kx_231 rfl) ?_
            refine r_iload_n e277487 ?_
            refine r_iconst 2 rfl ?_
            refine q_iadd (v267514.toInt + 2) rfl (by omega) (fun v278155 hv278155 => ?_)
            refine r_iload_n e277488 ?_
            refine q_iadd (v278155.toInt + x277479.toInt) rfl (by omega) (fun v278156 hv278156 => ?_)
            refine r_aload_n e277486 ?_
            refine q_getR (Sh.ref hI277481.1 kx_231 rfl) ?_
            refine r_iload_n e277488 ?_
            obtain ⟨v278157, hv278157⟩ : ∃ v, eA g267471 237 x277479.toInt = v := ⟨_, rfl⟩
            refine q_iald (Sh.arr hI277481.1 ka_237) x277479.toInt rfl (by omega) v278157 ((eA_c (q277490.2.1 237 (by decide))).trans hv278157) ?_
            refine q_iast (Sh.arr hI277481.1 ka_233) ((900 * v213960.toInt + x277479.toInt + 112)) (by omega) (by omega) ?_
            have x278160 := HI.eqA hI277481 (p := 233) (j := 2) (((q277493 2 (by decide) (by decide)).trans ((eA_c (q267480.2.1 233 (by decide))).trans hv213960)))
            have hI278158 := HI.wfree hI277481 (j := (900 * v213960.toInt + x277479.toInt + 112)) (v := v278157) ⟨by omega, by omega⟩
            have hF278159 := Fr.wA (p := 233) (j := (900 * v213960.toInt + x277479.toInt + 112)) (v := v278157) hF277482 rfl
            refine q_iinc e277488 (x277479.toInt + 1) rfl (by omega) (fun v278161 hv278161 => ?_)
            refine r_goto ?_
            exact ih277485 (96 - v278161.toInt) _ _ ⟨v278161, by first | rfl | omega, hI278158, hF278159, (w_p1 (by decide) (Or.inr rfl) e277486), (w_p1 (by decide) (Or.inr rfl) e277487), (w_e1 _ _ _), by omega, (Fr.wA (p := 233) q277490 rfl), ((congrArg Int32.toInt ((eA_sA_ne (i := v267514.toInt + 1) hI277481.1 ka_233 (by omega) (by omega) (by omega)))).trans q277491), (fun i i0 i1 => (Decidable.em (i = x277479.toInt)).elim (fun e => by rw [e]; exact (congrArg Int32.toInt (eA_sA_eq hI277481.1 ka_233 (by omega) (by omega) (by omega))).trans (congrArg Int32.toInt hv278157).symm) (fun e => (congrArg Int32.toInt ((eA_sA_ne (i := v267514.toInt + 2 + i) hI277481.1 ka_233 (by omega) (by omega) (by omega)))).trans (q277492 i i0 (by omega)))), (fun i i0 i1 => ((eA_sA_ne (i := i) hI277481.1 ka_233 (by omega) (by omega) (by omega))).trans (q277493 i i0 i1))⟩ ⟨by omega, by omega⟩
        · have c267512_ : v267502.toInt ≠ 0 := en_k_eq_f c267512
          refine At.enter rfl ?_
          refine r_aload_n e267478 ?_
          refine r_bipush (-6) rfl ?_
          refine r_callV 115 rfl [.ref 231, .int (-6)] [] (Nat.le_of_ble_eq_true rfl) rfl (T_X11_tell_231 _ hI267510 (-6) (by decide)) ?_
          rintro _ _ ⟨g278162, rfl, hI278163, hF278164, v278165, rfl, hr278166⟩
          refine At.sti ?_
          have hF278167 := Fr.tr hF267511 hF278164 rfl rfl
          have zv278168 : ((-6) : Int32).toInt = (-6) := rfl
          refine At.enter rfl ?_
          refine r_ireti ?_
          have x278169 := HI.eqI hI278163 (p := 231) (b := 8) (((hF278164.1 231 8 (by decide)).trans (gI_sI_eq hI267472.1 kx_231 rfl _)))
          have zv278170 : (0 : Int32).toInt = 0 := rfl
          exact ⟨_, rfl, hI278163, hF278167, _, rfl, by omega, ⟨(fun i i0 i1 i2 => eA_c (((hF278164.2.1 233 (by decide)).trans ((gA_sI).trans (q267480.2.1 233 (by decide)))))), by omega⟩⟩
      · have c267509_ : v267502.toInt = 0 := en_k_ne_f c267509
        refine At.enter rfl ?_
        refine r_aload_n e267478 ?_
        refine q_getI (Sh.int hI267472.1 kx_231 rfl) v267500 hv267500 ?_
        refine r_ifs 92 rfl (fun c278171 => ?_) (fun c278171 => ?_)
        · have c278171_ : v267500.toInt = 0 := en_k_eq_t c278171
          refine At.enter rfl ?_
          refine r_aload_n e267478 ?_
          refine r_iconst 0 rfl ?_
          refine q_putI (Sh.int hI267472.1 kx_231 rfl) rfl ?_
          have hI278172 := HI.wI1 hI267472 kx_231 rfl (p := 231) (b := 8) (v := 0) rfl (by decide)
          have hF278173 := Fr.wI (p := 231) (b := 8) (v := 0) hF267473 rfl
          refine r_aload_n e267478 ?_
          refine q_getI (Sh.int hI278172.1 kx_231 rfl) v267502 ((gI_sI_ne (by decide)).trans hv267502) ?_
          refine r_ifs 109 rfl (fun c278174 => ?_) (fun c278174 => ?_)
          · have c278174_ : v267502.toInt = 0 := en_k_eq_t c278174
            refine At.enter rfl ?_
            refine r_bipush 110 rfl ?_
            refine r_sipush 900 rfl ?_
            refine r_aload_n e267478 ?_
            refine q_getR (Sh.ref hI278172.1 kx_231 rfl) ?_
            refine r_iconst 2 rfl ?_
            refine q_iald (Sh.arr hI278172.1 ka_233) 2 rfl (by decide) v213960 ((eA_c ((gA_sI).trans (q267480.2.1 233 (by decide)))).trans hv213960) ?_
            refine q_imul (900 * v213960.toInt) rfl (by omega) (fun v278175 hv278175 => ?_)
            refine q_iadd (110 + v278175.toInt) rfl (by omega) (fun v278176 hv278176 => ?_)
            refine r_istore_n _ rfl ?_
            refine r_aload_n (w_p1 (by decide) (Or.inr rfl) e267478) ?_
            refine q_getR (Sh.ref hI278172.1 kx_231 rfl) ?_
            refine r_iload_n (w_e1 _ _ _) ?_
            refine r_iconst 1 rfl ?_
            refine q_iadd (v278176.toInt + 1) rfl (by omega) (fun v278177 hv278177 => ?_)
            refine r_aload_n (w_p1 (by decide) (Or.inr rfl) e267478) ?_
            refine q_getI (Sh.int hI278172.1 kx_231 rfl) v267504 ((gI_sI_ne (by decide)).trans hv267504) ?_
            refine q_iast (Sh.arr hI278172.1 ka_233) ((900 * v213960.toInt + 111)) (by omega) (by omega) ?_
            have x278180 := HI.eqA hI278172 (p := 233) (j := 2) ((((eA_c gA_sI).trans (eA_c (q267480.2.1 233 (by decide)))).trans hv213960))
            have hI278178 := HI.wfree hI278172 (j := (900 * v213960.toInt + 111)) (v := v267504) ⟨by omega, by omega⟩
            have hF278179 := Fr.wA (p := 233) (j := (900 * v213960.toInt + 111)) (v := v267504) hF278173 rfl
            refine r_iconst 0 rfl ?_
            refine r_istore_n _ rfl ?_
            refine Ar.fall 144 rfl ?_
            have z_288156 : (0 : Int32).toInt = 0 := rfl
            have x288157 := HI.eqI hI267472 (p := 231) (b := 15) (hv267504)
            have x288158 := HI.eqI hI267472 (p := 231) (b := 17) (hv267506)
            refine w_loopI (fun n_ l_ g_ => ∃ x288141 : Int32, n_ = 96 - x288141.toInt ∧ HI g_ ∧ Fr F_X11_law_231 A_X11_law_231 g0 g_ ∧ en_get 0 l_ = some (.ref 231) ∧ en_get 1 l_ = some (.int v278176) ∧ en_get 2 l_ = some (.int x288141) ∧ (0 ≤ x288141.toInt ∧ x288141.toInt ≤ 96) ∧ (Fr [(231, 8)] [233] g267471 g_) ∧ ((eA g_ 233 (v278176.toInt + 1)).toInt = (gI g267471 231 15).toInt) ∧ (∀ i : Int, 0 ≤ i → i < x288141.toInt → (eA g_ 233 (v278176.toInt + 2 + i)).toInt = (eA g267471 237 i).toInt) ∧ (∀ i : Int, 0 ≤ i → i < 110 → eA g_ 233 i = eA g267471 233 i)) ?_ (96 - 0) ⟨0, by first | rfl | omega, hI278178, hF278179, (w_p1 (by decide) (Or.inr rfl) (w_p1 (by decide) (Or.inr rfl) e267478)), (w_p1 (by decide) (Or.inr rfl) (w_e1 _ _ _)), (w_e1 _ _ _), by decide, (Fr.wA (p := 233) (Fr.wI (p := 231) (b := 8) Fr.rf rfl) rfl), ((congrArg Int32.toInt (eA_sA_eq hI278172.1 ka_233 (by omega) (by omega) (by omega))).trans (by omega)), (fun i i0 i1 => absurd i1 (by omega)), (fun i i0 i1 => ((eA_sA_ne (i := i) hI278172.1 ka_233 (by omega) (by omega) (by omega)).trans (eA_c gA_sI)))⟩
            rintro n288146 l288145 g288142 ⟨x288141, hm288159, hI288143, hF288144, e288148, e288149, e288150, r288151, q288152, q288153, q288154, q288155⟩ ih288147
            have x288160 := HI.eqI hI267472 (p := 231) (b := 15) (hv267504)
            have x288161 := HI.eqI hI267472 (p := 231) (b := 17) (hv267506)
            have t288162 := congrArg Int32.toInt ((q288155 2 (by decide) (by decide)).trans ((eA_c (q267480.2.1 233 (by decide))).trans hv213960))
            refine At.enter rfl ?_
            refine r_iload_n e288150 ?_
            refine r_bipush 8 rfl ?_
            refine r_aload_n e288148 ?_
            refine q_getI (Sh.int hI288143.1 kx_231 rfl) v267504 ((q288152.1 231 15 (by decide)).trans hv267504) ?_
            refine q_imul (8 * v267504.toInt) rfl (by omega) (fun v288163 hv288163 => ?_)
            have bv288165 := q_bnd x288141
            have bv288166 := q_bnd v288163
            refine r_ics 155 rfl (fun c288164 => ?_) (fun c288164 => ?_)
            · have c288164_ : x288141.toInt ≥ v288163.toInt := en_i_ge_t c288164
              refine At.enter rfl ?_
              refine r_iconst 0 rfl ?_
              refine r_istore_n _ rfl ?_
              refine Ar.fall 179 rfl ?_
              have z_288778 : (0 : Int32).toInt = 0 := rfl
              have x288779 := HI.eqI hI267472 (p := 231) (b := 15) (hv267504)
              have x288780 := HI.eqI hI267472 (p := 231) (b := 17) (hv267506)
              refine w_loopI (fun n_ l_ g_ => ∃ x288762 : Int32, n_ = 400 - x288762.toInt ∧ HI g_ ∧ Fr F_X11_law_231 A_X11_law_231 g0 g_ ∧ en_get 0 l_ = some (.ref 231) ∧ en_get 1 l_ = some (.int v278176) ∧ en_get 2 l_ = some (.int x288762) ∧ (0 ≤ x288762.toInt ∧ x288762.toInt ≤ 400) ∧ (Fr [(231, 8)] [233] g267471 g_) ∧ ((eA g_ 233 (v278176.toInt + 1)).toInt = (gI g267471 231 15).toInt) ∧ (∀ i : Int, 0 ≤ i → i < 8 * (gI g267471 231 15).toInt → (eA g_ 233 (v278176.toInt + 2 + i)).toInt = (eA g267471 237 i).toInt) ∧ (∀ i : Int, 0 ≤ i → i < 110 → eA g_ 233 i = eA g267471 233 i) ∧ (∀ i : Int, 0 ≤ i → i < x288762.toInt → (eA g_ 233 (v278176.toInt + 98 + 2 * i)).toInt = (eA g267471 238 i).toInt ∧ (eA g_ 233 (v278176.toInt + 98 + 2 * i + 1)).toInt = (eA g267471 239 i).toInt)) ?_ (400 - 0) ⟨0, by first | rfl | omega, hI288143, hF288144, (w_p1 (by decide) (Or.inr rfl) e288148), (w_p1 (by decide) (Or.inr rfl) e288149), (w_e1 _ _ _), by decide, (Fr.tr Fr.rf q288152 rfl rfl), ((congrArg Int32.toInt (rfl)).trans q288153), (fun i i0 i1 => q288154 i i0 (by omega)), (fun i i0 i1 => (rfl).trans (q288155 i i0 i1)), (fun i i0 i1 => absurd i1 (by omega))⟩
              rintro n288767 l288766 g288763 ⟨x288762, hm288781, hI288764, hF288765, e288769, e288770, e288771, r288772, q288773, q288774, q288775, q288776, q288777⟩ ih288768
              have x288782 := HI.eqI hI267472 (p := 231) (b := 15) (hv267504)
              have x288783 := HI.eqI hI267472 (p := 231) (b := 17) (hv267506)
              have t288784 := congrArg Int32.toInt ((q288776 2 (by decide) (by decide)).trans ((eA_c (q267480.2.1 233 (by decide))).trans hv213960))
              refine At.enter rfl ?_
              refine r_iload_n e288771 ?_
              refine r_aload_n e288769 ?_
              refine q_getI (Sh.int hI288764.1 kx_231 rfl) v267506 ((q288773.1 231 17 (by decide)).trans hv267506) ?_
              have bv288786 := q_bnd x288762
              have bv288787 := q_bnd v267506
              refine r_ics 187 rfl (fun c288785 => ?_) (fun c288785 => ?_)
              · have c288785_ : x288762.toInt ≥ v267506.toInt := en_i_ge_t c288785
                refine At.enter rfl ?_
                refine r_aload_n e288769 ?_
                refine q_getR (Sh.ref hI288764.1 kx_231 rfl) ?_
                refine r_iconst 2 rfl ?_
                refine r_dup2 ⟨rfl, rfl⟩ ?_
                refine q_iald (Sh.arr hI288764.1 ka_233) 2 rfl (by decide) v213960 ((q288776 2 (by decide) (by decide)).trans ((eA_c (q267480.2.1 233 (by decide))).trans hv213960)) ?_
                refine r_iconst 1 rfl ?_
                refine q_iadd (v213960.toInt + 1) rfl (by omega) (fun v288788 hv288788 => ?_)
                refine q_iast (Sh.arr hI288764.1 ka_233) (2) rfl (by decide) ?_
                have x288791 := HI.eqA hI288764 (p := 233) (j := 2) (((q288776 2 (by decide) (by decide)).trans ((eA_c (q267480.2.1 233 (by decide))).trans hv213960)))
                have hI288789 := HI.wt2 hI288764 (v := v288788) (by omega) (by omega) (by rw [show 110 + 900 * (eA _ 233 2).toInt = v278176.toInt by omega]; exact LAW.mk (q267486 (by omega)).2 ⟨by omega, by omega⟩ (by omega) q288774 q288775 (fun i i0 i1 => q288777 i i0 (by omega)))
                have hF288790 := Fr.wA (p := 233) (j := 2) (v := v288788) hF288765 rfl
                refine r_aload_n e288769 ?_
                refine r_aload_n e288769 ?_
                refine q_getR (Sh.ref hI288789.1 kx_231 rfl) ?_
                refine r_iconst 2 rfl ?_
                refine q_iald (Sh.arr hI288789.1 ka_233) 2 rfl (by decide) v288788 (eA_sA_eq hI288764.1 ka_233 (by first | rfl | omega) (by first | decide | omega) (by first | decide | omega)) ?_
                refine r_iconst 1 rfl ?_
                refine q_isub (v288788.toInt - 1) rfl (by omega) (fun v288792 hv288792 => ?_)
                refine r_callV 255 rfl [.ref 231, .int v288792] [] (Nat.le_of_ble_eq_true rfl) rfl (T_X11_tell_231 _ hI288789 v288792 (by omega)) ?_
                rintro _ _ ⟨g288793, rfl, hI288794, hF288795, v288796, rfl, hr288797⟩
                refine At.sti ?_
                have hF288798 := Fr.tr hF288790 hF288795 rfl rfl
                refine At.enter rfl ?_
                refine r_ireti ?_
                obtain ⟨v288799, hv288799⟩ : ∃ v, gI g288763 231 8 = v := ⟨_, rfl⟩
                have rv288799 := RgF.at hI288764.2.1 (p := 231) (b := 8) rfl
                rw [hv288799] at rv288799
                dsimp only at rv288799
                have tv288799 := congrArg Int32.toInt hv288799
                have x288800 := HI.eqI hI288794 (p := 231) (b := 8) ((((hF288795.1 231 8 (by decide)).trans (gI_sW)).trans hv288799))
                exact ⟨_, rfl, hI288794, hF288798, _, rfl, by omega, ⟨(fun i i0 i1 i2 => ((eA_c (hF288795.2.1 233 (by decide))).trans ((eA_sA_ne (i := i) hI288764.1 ka_233 (by omega) (by omega) (by omega)).trans ((q288776 i i0 i1).trans (eA_c ((q267480.2.1 233 (by decide)))))))), by omega⟩⟩
              · have c288785_ : x288762.toInt < v267506.toInt := en_i_ge_f c288785
                refine At.enter rfl ?_
                refine r_aload_n e288769 ?_
                refine q_getR (Sh.ref hI288764.1 kx_231 rfl) ?_
                refine r_iload_n e288770 ?_
                refine r_bipush 98 rfl ?_
                refine q_iadd (v278176.toInt + 98) rfl (by omega) (fun v288801 hv288801 => ?_)
                refine r_iconst 2 rfl ?_
                refine r_iload_n e288771 ?_
                refine q_imul (2 * x288762.toInt) rfl (by omega) (fun v288802 hv288802 => ?_)
                refine q_iadd (v288801.toInt + v288802.toInt) rfl (by omega) (fun v288803 hv288803 => ?_)
                refine r_aload_n e288769 ?_
                refine q_getR (Sh.ref hI288764.1 kx_231 rfl) ?_
                refine r_iload_n e288771 ?_
                obtain ⟨v288804, hv288804⟩ : ∃ v, eA g267471 238 x288762.toInt = v := ⟨_, rfl⟩
                refine q_iald (Sh.arr hI288764.1 ka_238) x288762.toInt rfl (by omega) v288804 ((eA_c (q288773.2.1 238 (by decide))).trans hv288804) ?_
                refine q_iast (Sh.arr hI288764.1 ka_233) ((900 * v213960.toInt + 2 * x288762.toInt + 208)) (by omega) (by omega) ?_
                have x288807 := HI.eqA hI288764 (p := 233) (j := 2) (((q288776 2 (by decide) (by decide)).trans ((eA_c (q267480.2.1 233 (by decide))).trans hv213960)))
                have hI288805 := HI.wfree hI288764 (j := (900 * v213960.toInt + 2 * x288762.toInt + 208)) (v := v288804) ⟨by omega, by omega⟩
                have hF288806 := Fr.wA (p := 233) (j := (900 * v213960.toInt + 2 * x288762.toInt + 208)) (v := v288804) hF288765 rfl
                refine r_aload_n e288769 ?_
                refine q_getR (Sh.ref hI288805.1 kx_231 rfl) ?_
                refine r_iload_n e288770 ?_
                refine r_bipush 98 rfl ?_
                refine q_iadd (v278176.toInt + 98) rfl (by omega) (fun v288808 hv288808 => ?_)
                refine r_iconst 2 rfl ?_
                refine r_iload_n e288771 ?_
                refine q_imul (2 * x288762.toInt) rfl (by omega) (fun v288809 hv288809 => ?_)
                refine q_iadd (v288808.toInt + v288809.toInt) rfl (by omega) (fun v288810 hv288810 => ?_)
                refine r_iconst 1 rfl ?_
                refine q_iadd (v288810.toInt + 1) rfl (by omega) (fun v288811 hv288811 => ?_)
                refine r_aload_n e288769 ?_
                refine q_getR (Sh.ref hI288805.1 kx_231 rfl) ?_
                refine r_iload_n e288771 ?_
                obtain ⟨v288812, hv288812⟩ : ∃ v, eA g267471 239 x288762.toInt = v := ⟨_, rfl⟩
                refine q_iald (Sh.arr hI288805.1 ka_239) x288762.toInt rfl (by omega) v288812 ((eA_c ((gA_sA_ne (by decide)).trans (q288773.2.1 239 (by decide)))).trans hv288812) ?_
                refine q_iast (Sh.arr hI288805.1 ka_233) ((900 * v213960.toInt + 2 * x288762.toInt + 209)) (by omega) (by omega) ?_
                have x288815 := HI.eqA hI288805 (p := 233) (j := 2) (((eA_sA_ne hI288764.1 ka_233 (by first | decide | omega) (by first | decide | omega) (by first | decide | omega)).trans ((q288776 2 (by decide) (by decide)).trans ((eA_c (q267480.2.1 233 (by decide))).trans hv213960))))
                have hI288813 := HI.wfree hI288805 (j := (900 * v213960.toInt + 2 * x288762.toInt + 209)) (v := v288812) ⟨by omega, by omega⟩
                have hF288814 := Fr.wA (p := 233) (j := (900 * v213960.toInt + 2 * x288762.toInt + 209)) (v := v288812) hF288806 rfl
                refine q_iinc e288771 (x288762.toInt + 1) rfl (by omega) (fun v288816 hv288816 => ?_)
                refine r_goto ?_
                exact ih288768 (400 - v288816.toInt) _ _ ⟨v288816, by first | rfl | omega, hI288813, hF288814, (w_p1 (by decide) (Or.inr rfl) e288769), (w_p1 (by decide) (Or.inr rfl) e288770), (w_e1 _ _ _), by omega, (Fr.wA (p := 233) (Fr.wA (p := 233) q288773 rfl) rfl), ((congrArg Int32.toInt (((eA_sA_ne (i := v278176.toInt + 1) hI288805.1 ka_233 (by omega) (by omega) (by omega)).trans (eA_sA_ne (i := v278176.toInt + 1) hI288764.1 ka_233 (by omega) (by omega) (by omega))))).trans q288774), (fun i i0 i1 => (congrArg Int32.toInt (((eA_sA_ne (i := v278176.toInt + 2 + i) hI288805.1 ka_233 (by omega) (by omega) (by omega)).trans (eA_sA_ne (i := v278176.toInt + 2 + i) hI288764.1 ka_233 (by omega) (by omega) (by omega))))).trans (q288775 i i0 i1)), (fun i i0 i1 => (((eA_sA_ne (i := i) hI288805.1 ka_233 (by omega) (by omega) (by omega)).trans (eA_sA_ne (i := i) hI288764.1 ka_233 (by omega) (by omega) (by omega)))).trans (q288776 i i0 i1)), (fun i i0 i1 => (Decidable.em (i = x288762.toInt)).elim (fun e => by rw [e]; exact ⟨((congrArg Int32.toInt ((eA_sA_ne (i := v278176.toInt + 98 + 2 * x288762.toInt) hI288805.1 ka_233 (by omega) (by omega) (by omega)).trans (eA_sA_eq hI288764.1 ka_233 (by omega) (by omega) (by omega)))).trans (congrArg Int32.toInt hv288804).symm), ((congrArg Int32.toInt (eA_sA_eq hI288805.1 ka_233 (by omega) (by omega) (by omega))).trans (congrArg Int32.toInt hv288812).symm)⟩) (fun e => ⟨(congrArg Int32.toInt (((eA_sA_ne (i := v278176.toInt + 98 + 2 * i) hI288805.1 ka_233 (by omega) (by omega) (by omega)).trans (eA_sA_ne (i := v278176.toInt + 98 + 2 * i) hI288764.1 ka_233 (by omega) (by omega) (by omega))))).trans (q288777 i i0 (by omega)).1, (congrArg Int32.toInt (((eA_sA_ne (i := v278176.toInt + 98 + 2 * i + 1) hI288805.1 ka_233 (by omega) (by omega) (by omega)).trans (eA_sA_ne (i := v278176.toInt + 98 + 2 * i + 1) hI288764.1 ka_233 (by omega) (by omega) (by omega))))).trans (q288777 i i0 (by omega)).2⟩))⟩ ⟨by omega, by omega⟩
            · have c288164_ : x288141.toInt < v288163.toInt := en_i_ge_f c288164
              refine At.enter rfl ?_
              refine r_aload_n e288148 ?_
              refine q_getR (Sh.ref hI288143.1 kx_231 rfl) ?_
              refine r_iload_n e288149 ?_
              refine r_iconst 2 rfl ?_
              refine q_iadd (v278176.toInt + 2) rfl (by omega) (fun v288817 hv288817 => ?_)
              refine r_iload_n e288150 ?_
              refine q_iadd (v288817.toInt + x288141.toInt) rfl (by omega) (fun v288818 hv288818 => ?_)
              refine r_aload_n e288148 ?_
              refine q_getR (Sh.ref hI288143.1 kx_231 rfl) ?_
              refine r_iload_n e288150 ?_
              obtain ⟨v288819, hv288819⟩ : ∃ v, eA g267471 237 x288141.toInt = v := ⟨_, rfl⟩
              refine q_iald (Sh.arr hI288143.1 ka_237) x288141.toInt rfl (by omega) v288819 ((eA_c (q288152.2.1 237 (by decide))).trans hv288819) ?_
              refine q_iast (Sh.arr hI288143.1 ka_233) ((900 * v213960.toInt + x288141.toInt + 112)) (by omega) (by omega) ?_
              have x288822 := HI.eqA hI288143 (p := 233) (j := 2) (((q288155 2 (by decide) (by decide)).trans ((eA_c (q267480.2.1 233 (by decide))).trans hv213960)))
              have hI288820 := HI.wfree hI288143 (j := (900 * v213960.toInt + x288141.toInt + 112)) (v := v288819) ⟨by omega, by omega⟩
              have hF288821 := Fr.wA (p := 233) (j := (900 * v213960.toInt + x288141.toInt + 112)) (v := v288819) hF288144 rfl
              refine q_iinc e288150 (x288141.toInt + 1) rfl (by omega) (fun v288823 hv288823 => ?_)
              refine r_goto ?_
              exact ih288147 (96 - v288823.toInt) _ _ ⟨v288823, by first | rfl | omega, hI288820, hF288821, (w_p1 (by decide) (Or.inr rfl) e288148), (w_p1 (by decide) (Or.inr rfl) e288149), (w_e1 _ _ _), by omega, (Fr.wA (p := 233) q288152 rfl), ((congrArg Int32.toInt ((eA_sA_ne (i := v278176.toInt + 1) hI288143.1 ka_233 (by omega) (by omega) (by omega)))).trans q288153), (fun i i0 i1 => (Decidable.em (i = x288141.toInt)).elim (fun e => by rw [e]; exact (congrArg Int32.toInt (eA_sA_eq hI288143.1 ka_233 (by omega) (by omega) (by omega))).trans (congrArg Int32.toInt hv288819).symm) (fun e => (congrArg Int32.toInt ((eA_sA_ne (i := v278176.toInt + 2 + i) hI288143.1 ka_233 (by omega) (by omega) (by omega)))).trans (q288154 i i0 (by omega)))), (fun i i0 i1 => ((eA_sA_ne (i := i) hI288143.1 ka_233 (by omega) (by omega) (by omega))).trans (q288155 i i0 i1))⟩ ⟨by omega, by omega⟩
          · have c278174_ : v267502.toInt ≠ 0 := en_k_eq_f c278174
            exfalso; omega
        · have c278171_ : v267500.toInt ≠ 0 := en_k_eq_f c278171
          refine At.enter rfl ?_
          refine r_aload_n e267478 ?_
          refine r_iconst 0 rfl ?_
          have x288824 := HI.eqI hI267472 (p := 231) (b := 8) (((q267480.1 231 8 (by decide)).trans hv1))
          have x288825 := HI.eqI hI267472 (p := 231) (b := 9) (e267477)
          have x288826 := HI.eqI hI267472 (p := 231) (b := 10) (hv267498)
          have x288827 := HI.eqI hI267472 (p := 231) (b := 11) (hv267500)
          have zv288828 : (0 : Int32).toInt = 0 := rfl
          refine r_callV 97 rfl [.ref 231, .int 0] [] (Nat.le_of_ble_eq_true rfl) rfl (T_X11_must_231 _ hI267472 0 (by decide) (by refine ⟨?_, ?_, ?_, ?_⟩ <;> omega) q267485) ?_
          rintro _ _ ⟨g288829, rfl, hI288830, hF288831, rfl, hr288833⟩
          refine At.stn ?_
          have hF288834 := Fr.tr hF267473 hF288831 rfl rfl
          have zv288835 : (0 : Int32).toInt = 0 := rfl
          have x288836 := HI.eqI hI267472 (p := 231) (b := 8) (((q267480.1 231 8 (by decide)).trans hv1))
          have x288837 := HI.eqI hI267472 (p := 231) (b := 9) (e267477)
          have x288838 := HI.eqI hI267472 (p := 231) (b := 10) (hv267498)
          have x288839 := HI.eqI hI267472 (p := 231) (b := 11) (hv267500)
          have x288840 := HI.eqI hI267472 (p := 231) (b := 14) (hv267502)
          have x288841 := HI.eqI hI288830 (p := 231) (b := 8) ((((hF288831.1 231 8 (by decide)).trans (q267480.1 231 8 (by decide))).trans hv1))
          obtain ⟨v288842, hv288842⟩ : ∃ v, gI g288829 231 9 = v := ⟨_, rfl⟩
          have rv288842 := RgF.at hI288830.2.1 (p := 231) (b := 9) rfl
          rw [hv288842] at rv288842
          dsimp only at rv288842
          have tv288842 := congrArg Int32.toInt hv288842
          have x288843 := HI.eqI hI288830 (p := 231) (b := 9) (hv288842)
          obtain ⟨v288844, hv288844⟩ : ∃ v, gI g288829 231 10 = v := ⟨_, rfl⟩
          have rv288844 := RgF.at hI288830.2.1 (p := 231) (b := 10) rfl
          rw [hv288844] at rv288844
          dsimp only at rv288844
          have tv288844 := congrArg Int32.toInt hv288844
          have x288845 := HI.eqI hI288830 (p := 231) (b := 10) (hv288844)
          obtain ⟨v288846, hv288846⟩ : ∃ v, gI g288829 231 11 = v := ⟨_, rfl⟩
          have tv288846 := congrArg Int32.toInt hv288846
          have x288847 := HI.eqI hI288830 (p := 231) (b := 11) (hv288846)
          obtain ⟨v288848, hv288848⟩ : ∃ v, gI g288829 231 14 = v := ⟨_, rfl⟩
          have tv288848 := congrArg Int32.toInt hv288848
          have x288849 := HI.eqI hI288830 (p := 231) (b := 14) (hv288848)
          obtain ⟨c288850, c288851, c288852, c288853, c288854, c288855, c288856⟩ := hr288833
          refine At.enter rfl ?_
          refine r_aload_n e267478 ?_
          refine r_iconst 0 rfl ?_
          refine q_putI (Sh.int hI288830.1 kx_231 rfl) rfl ?_
          have hI288857 := HI.wI1 hI288830 kx_231 rfl (p := 231) (b := 8) (v := 0) rfl (by decide)
          have hF288858 := Fr.wI (p := 231) (b := 8) (v := 0) hF288834 rfl
          refine r_aload_n e267478 ?_
          refine q_getI (Sh.int hI288857.1 kx_231 rfl) v288848 ((gI_sI_ne (by decide)).trans hv288848) ?_
          refine r_ifs 109 rfl (fun c288859 => ?_) (fun c288859 => ?_)
          · have c288859_ : v288848.toInt = 0 := en_k_eq_t c288859
            obtain ⟨i288860, i288861, i288862⟩ := c288856 (by omega)
            refine At.enter rfl ?_
            refine r_bipush 110 rfl ?_
            refine r_sipush 900 rfl ?_
            refine r_aload_n e267478 ?_
            refine q_getR (Sh.ref hI288857.1 kx_231 rfl) ?_
            refine r_iconst 2 rfl ?_
            refine q_iald (Sh.arr hI288857.1 ka_233) 2 rfl (by decide) v213960 ((eA_c ((gA_sI).trans ((hF288831.2.1 233 (by decide)).trans (q267480.2.1 233 (by decide))))).trans hv213960) ?_
            refine q_imul (900 * v213960.toInt) rfl (by omega) (fun v288863 hv288863 => ?_)
            refine q_iadd (110 + v288863.toInt) rfl (by omega) (fun v288864 hv288864 => ?_)
            refine r_istore_n _ rfl ?_
            refine r_aload_n (w_p1 (by decide) (Or.inr rfl) e267478) ?_
            refine q_getR (Sh.ref hI288857.1 kx_231 rfl) ?_
            refine r_iload_n (w_e1 _ _ _) ?_
            refine r_iconst 1 rfl ?_
            refine q_iadd (v288864.toInt + 1) rfl (by omega) (fun v288865 hv288865 => ?_)
            refine r_aload_n (w_p1 (by decide) (Or.inr rfl) e267478) ?_
            refine q_getI (Sh.int hI288857.1 kx_231 rfl) v267504 (((gI_sI_ne (by decide)).trans (hF288831.1 231 15 (by decide))).trans hv267504) ?_
            refine q_iast (Sh.arr hI288857.1 ka_233) ((900 * v213960.toInt + 111)) (by omega) (by omega) ?_
            have x288868 := HI.eqA hI288857 (p := 233) (j := 2) ((((eA_c gA_sI).trans ((eA_c (hF288831.2.1 233 (by decide))).trans (eA_c (q267480.2.1 233 (by decide))))).trans hv213960))
            have hI288866 := HI.wfree hI288857 (j := (900 * v213960.toInt + 111)) (v := v267504) ⟨by omega, by omega⟩
            have hF288867 := Fr.wA (p := 233) (j := (900 * v213960.toInt + 111)) (v := v267504) hF288858 rfl
            refine r_iconst 0 rfl ?_
            refine r_istore_n _ rfl ?_
            refine Ar.fall 144 rfl ?_
            have z_298844 : (0 : Int32).toInt = 0 := rfl
            have x298845 := HI.eqI hI288830 (p := 231) (b := 15) (((hF288831.1 231 15 (by decide)).trans hv267504))
            have x298846 := HI.eqI hI288830 (p := 231) (b := 17) (((hF288831.1 231 17 (by decide)).trans hv267506))
            refine w_loopI (fun n_ l_ g_ => ∃ x298829 : Int32, n_ = 96 - x298829.toInt ∧ HI g_ ∧ Fr F_X11_law_231 A_X11_law_231 g0 g_ ∧ en_get 0 l_ = some (.ref 231) ∧ en_get 1 l_ = some (.int v288864) ∧ en_get 2 l_ = some (.int x298829) ∧ (0 ≤ x298829.toInt ∧ x298829.toInt ≤ 96) ∧ (Fr [(231, 8)] [233] g288829 g_) ∧ ((eA g_ 233 (v288864.toInt + 1)).toInt = (gI g288829 231 15).toInt) ∧ (∀ i : Int, 0 ≤ i → i < x298829.toInt → (eA g_ 233 (v288864.toInt + 2 + i)).toInt = (eA g288829 237 i).toInt) ∧ (∀ i : Int, 0 ≤ i → i < 110 → eA g_ 233 i = eA g288829 233 i)) ?_ (96 - 0) ⟨0, by first | rfl | omega, hI288866, hF288867, (w_p1 (by decide) (Or.inr rfl) (w_p1 (by decide) (Or.inr rfl) e267478)), (w_p1 (by decide) (Or.inr rfl) (w_e1 _ _ _)), (w_e1 _ _ _), by decide, (Fr.wA (p := 233) (Fr.wI (p := 231) (b := 8) Fr.rf rfl) rfl), ((congrArg Int32.toInt (eA_sA_eq hI288857.1 ka_233 (by omega) (by omega) (by omega))).trans (by omega)), (fun i i0 i1 => absurd i1 (by omega)), (fun i i0 i1 => ((eA_sA_ne (i := i) hI288857.1 ka_233 (by omega) (by omega) (by omega)).trans (eA_c gA_sI)))⟩
            rintro n298834 l298833 g298830 ⟨x298829, hm298847, hI298831, hF298832, e298836, e298837, e298838, r298839, q298840, q298841, q298842, q298843⟩ ih298835
            have x298848 := HI.eqI hI288830 (p := 231) (b := 15) (((hF288831.1 231 15 (by decide)).trans hv267504))
            have x298849 := HI.eqI hI288830 (p := 231) (b := 17) (((hF288831.1 231 17 (by decide)).trans hv267506))
            have t298850 := congrArg Int32.toInt ((q298843 2 (by decide) (by decide)).trans (((eA_c (hF288831.2.1 233 (by decide))).trans (eA_c (q267480.2.1 233 (by decide)))).trans hv213960))
            refine At.enter rfl ?_
            refine r_iload_n e298838 ?_
            refine r_bipush 8 rfl ?_
            refine r_aload_n e298836 ?_
            refine q_getI (Sh.int hI298831.1 kx_231 rfl) v267504 (((q298840.1 231 15 (by decide)).trans (hF288831.1 231 15 (by decide))).trans hv267504) ?_
            refine q_imul (8 * v267504.toInt) rfl (by omega) (fun v298851 hv298851 => ?_)
            have bv298853 := q_bnd x298829
            have bv298854 := q_bnd v298851
            refine r_ics 155 rfl (fun c298852 => ?_) (fun c298852 => ?_)
            · have c298852_ : x298829.toInt ≥ v298851.toInt := en_i_ge_t c298852
              refine At.enter rfl ?_
              refine r_iconst 0 rfl ?_
              refine r_istore_n _ rfl ?_
              refine Ar.fall 179 rfl ?_
              have z_299466 : (0 : Int32).toInt = 0 := rfl
              have x299467 := HI.eqI hI288830 (p := 231) (b := 15) (((hF288831.1 231 15 (by decide)).trans hv267504))
              have x299468 := HI.eqI hI288830 (p := 231) (b := 17) (((hF288831.1 231 17 (by decide)).trans hv267506))
              refine w_loopI (fun n_ l_ g_ => ∃ x299450 : Int32, n_ = 400 - x299450.toInt ∧ HI g_ ∧ Fr F_X11_law_231 A_X11_law_231 g0 g_ ∧ en_get 0 l_ = some (.ref 231) ∧ en_get 1 l_ = some (.int v288864) ∧ en_get 2 l_ = some (.int x299450) ∧ (0 ≤ x299450.toInt ∧ x299450.toInt ≤ 400) ∧ (Fr [(231, 8)] [233] g288829 g_) ∧ ((eA g_ 233 (v288864.toInt + 1)).toInt = (gI g288829 231 15).toInt) ∧ (∀ i : Int, 0 ≤ i → i < 8 * (gI g288829 231 15).toInt → (eA g_ 233 (v288864.toInt + 2 + i)).toInt = (eA g288829 237 i).toInt) ∧ (∀ i : Int, 0 ≤ i → i < 110 → eA g_ 233 i = eA g288829 233 i) ∧ (∀ i : Int, 0 ≤ i → i < x299450.toInt → (eA g_ 233 (v288864.toInt + 98 + 2 * i)).toInt = (eA g288829 238 i).toInt ∧ (eA g_ 233 (v288864.toInt + 98 + 2 * i + 1)).toInt = (eA g288829 239 i).toInt)) ?_ (400 - 0) ⟨0, by first | rfl | omega, hI298831, hF298832, (w_p1 (by decide) (Or.inr rfl) e298836), (w_p1 (by decide) (Or.inr rfl) e298837), (w_e1 _ _ _), by decide, (Fr.tr Fr.rf q298840 rfl rfl), ((congrArg Int32.toInt (rfl)).trans q298841), (fun i i0 i1 => q298842 i i0 (by omega)), (fun i i0 i1 => (rfl).trans (q298843 i i0 i1)), (fun i i0 i1 => absurd i1 (by omega))⟩
              rintro n299455 l299454 g299451 ⟨x299450, hm299469, hI299452, hF299453, e299457, e299458, e299459, r299460, q299461, q299462, q299463, q299464, q299465⟩ ih299456
              have x299470 := HI.eqI hI288830 (p := 231) (b := 15) (((hF288831.1 231 15 (by decide)).trans hv267504))
              have x299471 := HI.eqI hI288830 (p := 231) (b := 17) (((hF288831.1 231 17 (by decide)).trans hv267506))
              have t299472 := congrArg Int32.toInt ((q299464 2 (by decide) (by decide)).trans (((eA_c (hF288831.2.1 233 (by decide))).trans (eA_c (q267480.2.1 233 (by decide)))).trans hv213960))
              refine At.enter rfl ?_
              refine r_iload_n e299459 ?_
              refine r_aload_n e299457 ?_
              refine q_getI (Sh.int hI299452.1 kx_231 rfl) v267506 (((q299461.1 231 17 (by decide)).trans (hF288831.1 231 17 (by decide))).trans hv267506) ?_
              have bv299474 := q_bnd x299450
              have bv299475 := q_bnd v267506
              refine r_ics 187 rfl (fun c299473 => ?_) (fun c299473 => ?_)
              · have c299473_ : x299450.toInt ≥ v267506.toInt := en_i_ge_t c299473
                refine At.enter rfl ?_
                refine r_aload_n e299457 ?_
                refine q_getR (Sh.ref hI299452.1 kx_231 rfl) ?_
                refine r_iconst 2 rfl ?_
                refine r_dup2 ⟨rfl, rfl⟩ ?_
                refine q_iald (Sh.arr hI299452.1 ka_233) 2 rfl (by decide) v213960 ((q299464 2 (by decide) (by decide)).trans (((eA_c (hF288831.2.1 233 (by decide))).trans (eA_c (q267480.2.1 233 (by decide)))).trans hv213960)) ?_
                refine r_iconst 1 rfl ?_
                refine q_iadd (v213960.toInt + 1) rfl (by omega) (fun v299476 hv299476 => ?_)
                refine q_iast (Sh.arr hI299452.1 ka_233) (2) rfl (by decide) ?_
                have x299479 := HI.eqA hI299452 (p := 233) (j := 2) (((q299464 2 (by decide) (by decide)).trans (((eA_c (hF288831.2.1 233 (by decide))).trans (eA_c (q267480.2.1 233 (by decide)))).trans hv213960)))
                have hI299477 := HI.wt2 hI299452 (v := v299476) (by omega) (by omega) (by rw [show 110 + 900 * (eA _ 233 2).toInt = v288864.toInt by omega]; exact LAW.mk (CLS.cong2 (q267486 (by omega)).2 hI288830 ((hF288831.2.1 238 (by decide))) ((hF288831.2.1 239 (by decide))) ((hF288831.2.1 237 (by decide))) ((hF288831.1 231 15 (by decide))) ((hF288831.1 231 17 (by decide)))) ⟨by omega, by omega⟩ (by omega) q299462 q299463 (fun i i0 i1 => q299465 i i0 (by omega)))
                have hF299478 := Fr.wA (p := 233) (j := 2) (v := v299476) hF299453 rfl
                refine r_aload_n e299457 ?_
                refine r_aload_n e299457 ?_
                refine q_getR (Sh.ref hI299477.1 kx_231 rfl) ?_
                refine r_iconst 2 rfl ?_
                refine q_iald (Sh.arr hI299477.1 ka_233) 2 rfl (by decide) v299476 (eA_sA_eq hI299452.1 ka_233 (by first | rfl | omega) (by first | decide | omega) (by first | decide | omega)) ?_
                refine r_iconst 1 rfl ?_
                refine q_isub (v299476.toInt - 1) rfl (by omega) (fun v299480 hv299480 => ?_)
                refine r_callV 255 rfl [.ref 231, .int v299480] [] (Nat.le_of_ble_eq_true rfl) rfl (T_X11_tell_231 _ hI299477 v299480 (by omega)) ?_
                rintro _ _ ⟨g299481, rfl, hI299482, hF299483, v299484, rfl, hr299485⟩
                refine At.sti ?_
                have hF299486 := Fr.tr hF299478 hF299483 rfl rfl
                refine At.enter rfl ?_
                refine r_ireti ?_
                obtain ⟨v299487, hv299487⟩ : ∃ v, gI g299451 231 8 = v := ⟨_, rfl⟩
                have rv299487 := RgF.at hI299452.2.1 (p := 231) (b := 8) rfl
                rw [hv299487] at rv299487
                dsimp only at rv299487
                have tv299487 := congrArg Int32.toInt hv299487
                have x299488 := HI.eqI hI299482 (p := 231) (b := 8) ((((hF299483.1 231 8 (by decide)).trans (gI_sW)).trans hv299487))
                exact ⟨_, rfl, hI299482, hF299486, _, rfl, by omega, ⟨(fun i i0 i1 i2 => ((eA_c (hF299483.2.1 233 (by decide))).trans ((eA_sA_ne (i := i) hI299452.1 ka_233 (by omega) (by omega) (by omega)).trans ((q299464 i i0 i1).trans (eA_c (((hF288831.2.1 233 (by decide)).trans (q267480.2.1 233 (by decide))))))))), by omega⟩⟩
              · have c299473_ : x299450.toInt < v267506.toInt := en_i_ge_f c299473
                refine At.enter rfl ?_
                refine r_aload_n e299457 ?_
                refine q_getR (Sh.ref hI299452.1 kx_231 rfl) ?_
                refine r_iload_n e299458 ?_
                refine r_bipush 98 rfl ?_
                refine q_iadd (v288864.toInt + 98) rfl (by omega) (fun v299489 hv299489 => ?_)
                refine r_iconst 2 rfl ?_
                refine r_iload_n e299459 ?_
                refine q_imul (2 * x299450.toInt) rfl (by omega) (fun v299490 hv299490 => ?_)
                refine q_iadd (v299489.toInt + v299490.toInt) rfl (by omega) (fun v299491 hv299491 => ?_)
                refine r_aload_n e299457 ?_
                refine q_getR (Sh.ref hI299452.1 kx_231 rfl) ?_
                refine r_iload_n e299459 ?_
                obtain ⟨v299492, hv299492⟩ : ∃ v, eA g267471 238 x299450.toInt = v := ⟨_, rfl⟩
                refine q_iald (Sh.arr hI299452.1 ka_238) x299450.toInt rfl (by omega) v299492 ((eA_c ((q299461.2.1 238 (by decide)).trans (hF288831.2.1 238 (by decide)))).trans hv299492) ?_
                refine q_iast (Sh.arr hI299452.1 ka_233) ((900 * v213960.toInt + 2 * x299450.toInt + 208)) (by omega) (by omega) ?_
                have x299495 := HI.eqA hI299452 (p := 233) (j := 2) (((q299464 2 (by decide) (by decide)).trans (((eA_c (hF288831.2.1 233 (by decide))).trans (eA_c (q267480.2.1 233 (by decide)))).trans hv213960)))
                have hI299493 := HI.wfree hI299452 (j := (900 * v213960.toInt + 2 * x299450.toInt + 208)) (v := v299492) ⟨by omega, by omega⟩
                have hF299494 := Fr.wA (p := 233) (j := (900 * v213960.toInt + 2 * x299450.toInt + 208)) (v := v299492) hF299453 rfl
                refine r_aload_n e299457 ?_
                refine q_getR (Sh.ref hI299493.1 kx_231 rfl) ?_
                refine r_iload_n e299458 ?_
                refine r_bipush 98 rfl ?_
                refine q_iadd (v288864.toInt + 98) rfl (by omega) (fun v299496 hv299496 => ?_)
                refine r_iconst 2 rfl ?_
                refine r_iload_n e299459 ?_
                refine q_imul (2 * x299450.toInt) rfl (by omega) (fun v299497 hv299497 => ?_)
                refine q_iadd (v299496.toInt + v299497.toInt) rfl (by omega) (fun v299498 hv299498 => ?_)
                refine r_iconst 1 rfl ?_
                refine q_iadd (v299498.toInt + 1) rfl (by omega) (fun v299499 hv299499 => ?_)
                refine r_aload_n e299457 ?_
                refine q_getR (Sh.ref hI299493.1 kx_231 rfl) ?_
                refine r_iload_n e299459 ?_
                obtain ⟨v299500, hv299500⟩ : ∃ v, eA g267471 239 x299450.toInt = v := ⟨_, rfl⟩
                refine q_iald (Sh.arr hI299493.1 ka_239) x299450.toInt rfl (by omega) v299500 ((eA_c ((gA_sA_ne (by decide)).trans ((q299461.2.1 239 (by decide)).trans (hF288831.2.1 239 (by decide))))).trans hv299500) ?_
                refine q_iast (Sh.arr hI299493.1 ka_233) ((900 * v213960.toInt + 2 * x299450.toInt + 209)) (by omega) (by omega) ?_
                have x299503 := HI.eqA hI299493 (p := 233) (j := 2) (((eA_sA_ne hI299452.1 ka_233 (by first | decide | omega) (by first | decide | omega) (by first | decide | omega)).trans ((q299464 2 (by decide) (by decide)).trans (((eA_c (hF288831.2.1 233 (by decide))).trans (eA_c (q267480.2.1 233 (by decide)))).trans hv213960))))
                have hI299501 := HI.wfree hI299493 (j := (900 * v213960.toInt + 2 * x299450.toInt + 209)) (v := v299500) ⟨by omega, by omega⟩
                have hF299502 := Fr.wA (p := 233) (j := (900 * v213960.toInt + 2 * x299450.toInt + 209)) (v := v299500) hF299494 rfl
                refine q_iinc e299459 (x299450.toInt + 1) rfl (by omega) (fun v299504 hv299504 => ?_)
                refine r_goto ?_
                exact ih299456 (400 - v299504.toInt) _ _ ⟨v299504, by first | rfl | omega, hI299501, hF299502, (w_p1 (by decide) (Or.inr rfl) e299457), (w_p1 (by decide) (Or.inr rfl) e299458), (w_e1 _ _ _), by omega, (Fr.wA (p := 233) (Fr.wA (p := 233) q299461 rfl) rfl), ((congrArg Int32.toInt (((eA_sA_ne (i := v288864.toInt + 1) hI299493.1 ka_233 (by omega) (by omega) (by omega)).trans (eA_sA_ne (i := v288864.toInt + 1) hI299452.1 ka_233 (by omega) (by omega) (by omega))))).trans q299462), (fun i i0 i1 => (congrArg Int32.toInt (((eA_sA_ne (i := v288864.toInt + 2 + i) hI299493.1 ka_233 (by omega) (by omega) (by omega)).trans (eA_sA_ne (i := v288864.toInt + 2 + i) hI299452.1 ka_233 (by omega) (by omega) (by omega))))).trans (q299463 i i0 i1)), (fun i i0 i1 => (((eA_sA_ne (i := i) hI299493.1 ka_233 (by omega) (by omega) (by omega)).trans (eA_sA_ne (i := i) hI299452.1 ka_233 (by omega) (by omega) (by omega)))).trans (q299464 i i0 i1)), (fun i i0 i1 => (Decidable.em (i = x299450.toInt)).elim (fun e => by rw [e]; exact ⟨((congrArg Int32.toInt ((eA_sA_ne (i := v288864.toInt + 98 + 2 * x299450.toInt) hI299493.1 ka_233 (by omega) (by omega) (by omega)).trans (eA_sA_eq hI299452.1 ka_233 (by omega) (by omega) (by omega)))).trans (congrArg Int32.toInt ((eA_c ((hF288831.2.1 238 (by decide)))).trans hv299492)).symm), ((congrArg Int32.toInt (eA_sA_eq hI299493.1 ka_233 (by omega) (by omega) (by omega))).trans (congrArg Int32.toInt ((eA_c ((hF288831.2.1 239 (by decide)))).trans hv299500)).symm)⟩) (fun e => ⟨(congrArg Int32.toInt (((eA_sA_ne (i := v288864.toInt + 98 + 2 * i) hI299493.1 ka_233 (by omega) (by omega) (by omega)).trans (eA_sA_ne (i := v288864.toInt + 98 + 2 * i) hI299452.1 ka_233 (by omega) (by omega) (by omega))))).trans (q299465 i i0 (by omega)).1, (congrArg Int32.toInt (((eA_sA_ne (i := v288864.toInt + 98 + 2 * i + 1) hI299493.1 ka_233 (by omega) (by omega) (by omega)).trans (eA_sA_ne (i := v288864.toInt + 98 + 2 * i + 1) hI299452.1 ka_233 (by omega) (by omega) (by omega))))).trans (q299465 i i0 (by omega)).2⟩))⟩ ⟨by omega, by omega⟩
            · have c298852_ : x298829.toInt < v298851.toInt := en_i_ge_f c298852
              refine At.enter rfl ?_
              refine r_aload_n e298836 ?_
              refine q_getR (Sh.ref hI298831.1 kx_231 rfl) ?_
              refine r_iload_n e298837 ?_
              refine r_iconst 2 rfl ?_
              refine q_iadd (v288864.toInt + 2) rfl (by omega) (fun v299505 hv299505 => ?_)
              refine r_iload_n e298838 ?_
              refine q_iadd (v299505.toInt + x298829.toInt) rfl (by omega) (fun v299506 hv299506 => ?_)
              refine r_aload_n e298836 ?_
              refine q_getR (Sh.ref hI298831.1 kx_231 rfl) ?_
              refine r_iload_n e298838 ?_
              obtain ⟨v299507, hv299507⟩ : ∃ v, eA g267471 237 x298829.toInt = v := ⟨_, rfl⟩
              refine q_iald (Sh.arr hI298831.1 ka_237) x298829.toInt rfl (by omega) v299507 ((eA_c ((q298840.2.1 237 (by decide)).trans (hF288831.2.1 237 (by decide)))).trans hv299507) ?_
              refine q_iast (Sh.arr hI298831.1 ka_233) ((900 * v213960.toInt + x298829.toInt + 112)) (by omega) (by omega) ?_
              have x299510 := HI.eqA hI298831 (p := 233) (j := 2) (((q298843 2 (by decide) (by decide)).trans (((eA_c (hF288831.2.1 233 (by decide))).trans (eA_c (q267480.2.1 233 (by decide)))).trans hv213960)))
              have hI299508 := HI.wfree hI298831 (j := (900 * v213960.toInt + x298829.toInt + 112)) (v := v299507) ⟨by omega, by omega⟩
              have hF299509 := Fr.wA (p := 233) (j := (900 * v213960.toInt + x298829.toInt + 112)) (v := v299507) hF298832 rfl
              refine q_iinc e298838 (x298829.toInt + 1) rfl (by omega) (fun v299511 hv299511 => ?_)
              refine r_goto ?_
              exact ih298835 (96 - v299511.toInt) _ _ ⟨v299511, by first | rfl | omega, hI299508, hF299509, (w_p1 (by decide) (Or.inr rfl) e298836), (w_p1 (by decide) (Or.inr rfl) e298837), (w_e1 _ _ _), by omega, (Fr.wA (p := 233) q298840 rfl), ((congrArg Int32.toInt ((eA_sA_ne (i := v288864.toInt + 1) hI298831.1 ka_233 (by omega) (by omega) (by omega)))).trans q298841), (fun i i0 i1 => (Decidable.em (i = x298829.toInt)).elim (fun e => by rw [e]; exact (congrArg Int32.toInt (eA_sA_eq hI298831.1 ka_233 (by omega) (by omega) (by omega))).trans (congrArg Int32.toInt ((eA_c ((hF288831.2.1 237 (by decide)))).trans hv299507)).symm) (fun e => (congrArg Int32.toInt ((eA_sA_ne (i := v288864.toInt + 2 + i) hI298831.1 ka_233 (by omega) (by omega) (by omega)))).trans (q298842 i i0 (by omega)))), (fun i i0 i1 => ((eA_sA_ne (i := i) hI298831.1 ka_233 (by omega) (by omega) (by omega))).trans (q298843 i i0 i1))⟩ ⟨by omega, by omega⟩
          · have c288859_ : v288848.toInt ≠ 0 := en_k_eq_f c288859
            clear c288856
            refine At.enter rfl ?_
            refine r_aload_n e267478 ?_
            refine r_bipush (-6) rfl ?_
            refine r_callV 115 rfl [.ref 231, .int (-6)] [] (Nat.le_of_ble_eq_true rfl) rfl (T_X11_tell_231 _ hI288857 (-6) (by decide)) ?_
            rintro _ _ ⟨g299512, rfl, hI299513, hF299514, v299515, rfl, hr299516⟩
            refine At.sti ?_
            have hF299517 := Fr.tr hF288858 hF299514 rfl rfl
            have zv299518 : ((-6) : Int32).toInt = (-6) := rfl
            refine At.enter rfl ?_
            refine r_ireti ?_
            have x299519 := HI.eqI hI299513 (p := 231) (b := 8) (((hF299514.1 231 8 (by decide)).trans (gI_sI_eq hI288830.1 kx_231 rfl _)))
            have zv299520 : (0 : Int32).toInt = 0 := rfl
            exact ⟨_, rfl, hI299513, hF299517, _, rfl, by omega, ⟨(fun i i0 i1 i2 => eA_c (((hF299514.2.1 233 (by decide)).trans ((gA_sI).trans ((hF288831.2.1 233 (by decide)).trans (q267480.2.1 233 (by decide))))))), by omega⟩⟩
    · have c267508_ : v267502.toInt = 0 := en_k_ne_f c267508
      refine At.enter rfl ?_
      refine r_aload_n e267478 ?_
      refine r_bipush 59 rfl ?_
      have x299521 := HI.eqI hI267472 (p := 231) (b := 11) (hv267500)
      have zv299522 : (59 : Int32).toInt = 59 := rfl
      refine r_callV 64 rfl [.ref 231, .int 59] [] (Nat.le_of_ble_eq_true rfl) rfl (T_X11_isSign_231 _ hI267472 59 (by omega)) ?_
      rintro _ _ ⟨g299523, rfl, hI299524, hF299525, v299526, rfl, hr299527⟩
      refine At.sti ?_
      have hF299528 := Fr.tr hF267473 hF299525 rfl rfl
      have zv299529 : (59 : Int32).toInt = 59 := rfl
      have x299530 := HI.eqI hI267472 (p := 231) (b := 11) (hv267500)
      have x299531 := HI.eqI hI299524 (p := 231) (b := 11) (((hF299525.1 231 11 (by decide)).trans hv267500))
      refine At.enter rfl ?_
      refine r_ifs 67 rfl (fun c299532 => ?_) (fun c299532 => ?_)
      · have c299532_ : v299526.toInt = 0 := en_k_eq_t c299532
        refine At.enter rfl ?_
        refine r_aload_n e267478 ?_
        refine q_getI (Sh.int hI299524.1 kx_231 rfl) v267502 ((hF299525.1 231 14 (by decide)).trans hv267502) ?_
        refine r_ifs 85 rfl (fun c299533 => ?_) (fun c299533 => ?_)
        · have c299533_ : v267502.toInt ≠ 0 := en_k_ne_t c299533
          exfalso; omega
        · have c299533_ : v267502.toInt = 0 := en_k_ne_f c299533
          refine At.enter rfl ?_
          refine r_aload_n e267478 ?_
          refine q_getI (Sh.int hI299524.1 kx_231 rfl) v267500 ((hF299525.1 231 11 (by decide)).trans hv267500) ?_
          refine r_ifs 92 rfl (fun c299534 => ?_) (fun c299534 => ?_)
          · have c299534_ : v267500.toInt = 0 := en_k_eq_t c299534
            refine At.enter rfl ?_
            refine r_aload_n e267478 ?_
            refine r_iconst 0 rfl ?_
            refine q_putI (Sh.int hI299524.1 kx_231 rfl) rfl ?_
            have hI299535 := HI.wI1 hI299524 kx_231 rfl (p := 231) (b := 8) (v := 0) rfl (by decide)
            have hF299536 := Fr.wI (p := 231) (b := 8) (v := 0) hF299528 rfl
            refine r_aload_n e267478 ?_
            refine q_getI (Sh.int hI299535.1 kx_231 rfl) v267502 (((gI_sI_ne (by decide)).trans (hF299525.1 231 14 (by decide))).trans hv267502) ?_
            refine r_ifs 109 rfl (fun c299537 => ?_) (fun c299537 => ?_)
            · have c299537_ : v267502.toInt = 0 := en_k_eq_t c299537
              refine At.enter rfl ?_
              refine r_bipush 110 rfl ?_
              refine r_sipush 900 rfl ?_
              refine r_aload_n e267478 ?_
              refine q_getR (Sh.ref hI299535.1 kx_231 rfl) ?_
              refine r_iconst 2 rfl ?_
              refine q_iald (Sh.arr hI299535.1 ka_233) 2 rfl (by decide) v213960 ((eA_c ((gA_sI).trans ((hF299525.2.1 233 (by decide)).trans (q267480.2.1 233 (by decide))))).trans hv213960) ?_
              refine q_imul (900 * v213960.toInt) rfl (by omega) (fun v299538 hv299538 => ?_)
              refine q_iadd (110 + v299538.toInt) rfl (by omega) (fun v299539 hv299539 => ?_)
              refine r_istore_n _ rfl ?_
              refine r_aload_n (w_p1 (by decide) (Or.inr rfl) e267478) ?_
              refine q_getR (Sh.ref hI299535.1 kx_231 rfl) ?_
              refine r_iload_n (w_e1 _ _ _) ?_
              refine r_iconst 1 rfl ?_
              refine q_iadd (v299539.toInt + 1) rfl (by omega) (fun v299540 hv299540 => ?_)
              refine r_aload_n (w_p1 (by decide) (Or.inr rfl) e267478) ?_
              refine q_getI (Sh.int hI299535.1 kx_231 rfl) v267504 (((gI_sI_ne (by decide)).trans (hF299525.1 231 15 (by decide))).trans hv267504) ?_
              refine q_iast (Sh.arr hI299535.1 ka_233) ((900 * v213960.toInt + 111)) (by omega) (by omega) ?_
              have x299543 := HI.eqA hI299535 (p := 233) (j := 2) ((((eA_c gA_sI).trans ((eA_c (hF299525.2.1 233 (by decide))).trans (eA_c (q267480.2.1 233 (by decide))))).trans hv213960))
              have hI299541 := HI.wfree hI299535 (j := (900 * v213960.toInt + 111)) (v := v267504) ⟨by omega, by omega⟩
              have hF299542 := Fr.wA (p := 233) (j := (900 * v213960.toInt + 111)) (v := v267504) hF299536 rfl
              refine r_iconst 0 rfl ?_
              refine r_istore_n _ rfl ?_
              refine Ar.fall 144 rfl ?_
              have z_309519 : (0 : Int32).toInt = 0 := rfl
              have x309520 := HI.eqI hI299524 (p := 231) (b := 15) (((hF299525.1 231 15 (by decide)).trans hv267504))
              have x309521 := HI.eqI hI299524 (p := 231) (b := 17) (((hF299525.1 231 17 (by decide)).trans hv267506))
              refine w_loopI (fun n_ l_ g_ => ∃ x309504 : Int32, n_ = 96 - x309504.toInt ∧ HI g_ ∧ Fr F_X11_law_231 A_X11_law_231 g0 g_ ∧ en_get 0 l_ = some (.ref 231) ∧ en_get 1 l_ = some (.int v299539) ∧ en_get 2 l_ = some (.int x309504) ∧ (0 ≤ x309504.toInt ∧ x309504.toInt ≤ 96) ∧ (Fr [(231, 8)] [233] g299523 g_) ∧ ((eA g_ 233 (v299539.toInt + 1)).toInt = (gI g299523 231 15).toInt) ∧ (∀ i : Int, 0 ≤ i → i < x309504.toInt → (eA g_ 233 (v299539.toInt + 2 + i)).toInt = (eA g299523 237 i).toInt) ∧ (∀ i : Int, 0 ≤ i → i < 110 → eA g_ 233 i = eA g299523 233 i)) ?_ (96 - 0) ⟨0, by first | rfl | omega, hI299541, hF299542, (w_p1 (by decide) (Or.inr rfl) (w_p1 (by decide) (Or.inr rfl) e267478)), (w_p1 (by decide) (Or.inr rfl) (w_e1 _ _ _)), (w_e1 _ _ _), by decide, (Fr.wA (p := 233) (Fr.wI (p := 231) (b := 8) Fr.rf rfl) rfl), ((congrArg Int32.toInt (eA_sA_eq hI299535.1 ka_233 (by omega) (by omega) (by omega))).trans (by omega)), (fun i i0 i1 => absurd i1 (by omega)), (fun i i0 i1 => ((eA_sA_ne (i := i) hI299535.1 ka_233 (by omega) (by omega) (by omega)).trans (eA_c gA_sI)))⟩
              rintro n309509 l309508 g309505 ⟨x309504, hm309522, hI309506, hF309507, e309511, e309512, e309513, r309514, q309515, q309516, q309517, q309518⟩ ih309510
              have x309523 := HI.eqI hI299524 (p := 231) (b := 15) (((hF299525.1 231 15 (by decide)).trans hv267504))
              have x309524 := HI.eqI hI299524 (p := 231) (b := 17) (((hF299525.1 231 17 (by decide)).trans hv267506))
              have t309525 := congrArg Int32.toInt ((q309518 2 (by decide) (by decide)).trans (((eA_c (hF299525.2.1 233 (by decide))).trans (eA_c (q267480.2.1 233 (by decide)))).trans hv213960))
              refine At.enter rfl ?_
              refine r_iload_n e309513 ?_
              refine r_bipush 8 rfl ?_
              refine r_aload_n e309511 ?_
              refine q_getI (Sh.int hI309506.1 kx_231 rfl) v267504 (((q309515.1 231 15 (by decide)).trans (hF299525.1 231 15 (by decide))).trans hv267504) ?_
              refine q_imul (8 * v267504.toInt) rfl (by omega) (fun v309526 hv309526 => ?_)
              have bv309528 := q_bnd x309504
              have bv309529 := q_bnd v309526
              refine r_ics 155 rfl (fun c309527 => ?_) (fun c309527 => ?_)
              · have c309527_ : x309504.toInt ≥ v309526.toInt := en_i_ge_t c309527
                refine At.enter rfl ?_
                refine r_iconst 0 rfl ?_
                refine r_istore_n _ rfl ?_
                refine Ar.fall 179 rfl ?_
                have z_310141 : (0 : Int32).toInt = 0 := rfl
                have x310142 := HI.eqI hI299524 (p := 231) (b := 15) (((hF299525.1 231 15 (by decide)).trans hv267504))
                have x310143 := HI.eqI hI299524 (p := 231) (b := 17) (((hF299525.1 231 17 (by decide)).trans hv267506))
                refine w_loopI (fun n_ l_ g_ => ∃ x310125 : Int32, n_ = 400 - x310125.toInt ∧ HI g_ ∧ Fr F_X11_law_231 A_X11_law_231 g0 g_ ∧ en_get 0 l_ = some (.ref 231) ∧ en_get 1 l_ = some (.int v299539) ∧ en_get 2 l_ = some (.int x310125) ∧ (0 ≤ x310125.toInt ∧ x310125.toInt ≤ 400) ∧ (Fr [(231, 8)] [233] g299523 g_) ∧ ((eA g_ 233 (v299539.toInt + 1)).toInt = (gI g299523 231 15).toInt) ∧ (∀ i : Int, 0 ≤ i → i < 8 * (gI g299523 231 15).toInt → (eA g_ 233 (v299539.toInt + 2 + i)).toInt = (eA g299523 237 i).toInt) ∧ (∀ i : Int, 0 ≤ i → i < 110 → eA g_ 233 i = eA g299523 233 i) ∧ (∀ i : Int, 0 ≤ i → i < x310125.toInt → (eA g_ 233 (v299539.toInt + 98 + 2 * i)).toInt = (eA g299523 238 i).toInt ∧ (eA g_ 233 (v299539.toInt + 98 + 2 * i + 1)).toInt = (eA g299523 239 i).toInt)) ?_ (400 - 0) ⟨0, by first | rfl | omega, hI309506, hF309507, (w_p1 (by decide) (Or.inr rfl) e309511), (w_p1 (by decide) (Or.inr rfl) e309512), (w_e1 _ _ _), by decide, (Fr.tr Fr.rf q309515 rfl rfl), ((congrArg Int32.toInt (rfl)).trans q309516), (fun i i0 i1 => q309517 i i0 (by omega)), (fun i i0 i1 => (rfl).trans (q309518 i i0 i1)), (fun i i0 i1 => absurd i1 (by omega))⟩
                rintro n310130 l310129 g310126 ⟨x310125, hm310144, hI310127, hF310128, e310132, e310133, e310134, r310135, q310136, q310137, q310138, q310139, q310140⟩ ih310131
                have x310145 := HI.eqI hI299524 (p := 231) (b := 15) (((hF299525.1 231 15 (by decide)).trans hv267504))
                have x310146 := HI.eqI hI299524 (p := 231) (b := 17) (((hF299525.1 231 17 (by decide)).trans hv267506))
                have t310147 := congrArg Int32.toInt ((q310139 2 (by decide) (by decide)).trans (((eA_c (hF299525.2.1 233 (by decide))).trans (eA_c (q267480.2.1 233 (by decide)))).trans hv213960))
                refine At.enter rfl ?_
                refine r_iload_n e310134 ?_
                refine r_aload_n e310132 ?_
                refine q_getI (Sh.int hI310127.1 kx_231 rfl) v267506 (((q310136.1 231 17 (by decide)).trans (hF299525.1 231 17 (by decide))).trans hv267506) ?_
                have bv310149 := q_bnd x310125
                have bv310150 := q_bnd v267506
                refine r_ics 187 rfl (fun c310148 => ?_) (fun c310148 => ?_)
                · have c310148_ : x310125.toInt ≥ v267506.toInt := en_i_ge_t c310148
                  refine At.enter rfl ?_
                  refine r_aload_n e310132 ?_
                  refine q_getR (Sh.ref hI310127.1 kx_231 rfl) ?_
                  refine r_iconst 2 rfl ?_
                  refine r_dup2 ⟨rfl, rfl⟩ ?_
                  refine q_iald (Sh.arr hI310127.1 ka_233) 2 rfl (by decide) v213960 ((q310139 2 (by decide) (by decide)).trans (((eA_c (hF299525.2.1 233 (by decide))).trans (eA_c (q267480.2.1 233 (by decide)))).trans hv213960)) ?_
                  refine r_iconst 1 rfl ?_
                  refine q_iadd (v213960.toInt + 1) rfl (by omega) (fun v310151 hv310151 => ?_)
                  refine q_iast (Sh.arr hI310127.1 ka_233) (2) rfl (by decide) ?_
                  have x310154 := HI.eqA hI310127 (p := 233) (j := 2) (((q310139 2 (by decide) (by decide)).trans (((eA_c (hF299525.2.1 233 (by decide))).trans (eA_c (q267480.2.1 233 (by decide)))).trans hv213960)))
                  have hI310152 := HI.wt2 hI310127 (v := v310151) (by omega) (by omega) (by rw [show 110 + 900 * (eA _ 233 2).toInt = v299539.toInt by omega]; exact LAW.mk (CLS.cong2 (q267486 (by omega)).2 hI299524 ((hF299525.2.1 238 (by decide))) ((hF299525.2.1 239 (by decide))) ((hF299525.2.1 237 (by decide))) ((hF299525.1 231 15 (by decide))) ((hF299525.1 231 17 (by decide)))) ⟨by omega, by omega⟩ (by omega) q310137 q310138 (fun i i0 i1 => q310140 i i0 (by omega)))
                  have hF310153 := Fr.wA (p := 233) (j := 2) (v := v310151) hF310128 rfl
                  refine r_aload_n e310132 ?_
                  refine r_aload_n e310132 ?_
                  refine q_getR (Sh.ref hI310152.1 kx_231 rfl) ?_
                  refine r_iconst 2 rfl ?_
                  refine q_iald (Sh.arr hI310152.1 ka_233) 2 rfl (by decide) v310151 (eA_sA_eq hI310127.1 ka_233 (by first | rfl | omega) (by first | decide | omega) (by first | decide | omega)) ?_
                  refine r_iconst 1 rfl ?_
                  refine q_isub (v310151.toInt - 1) rfl (by omega) (fun v310155 hv310155 => ?_)
                  refine r_callV 255 rfl [.ref 231, .int v310155] [] (Nat.le_of_ble_eq_true rfl) rfl (T_X11_tell_231 _ hI310152 v310155 (by omega)) ?_
                  rintro _ _ ⟨g310156, rfl, hI310157, hF310158, v310159, rfl, hr310160⟩
                  refine At.sti ?_
                  have hF310161 := Fr.tr hF310153 hF310158 rfl rfl
                  refine At.enter rfl ?_
                  refine r_ireti ?_
                  obtain ⟨v310162, hv310162⟩ : ∃ v, gI g310126 231 8 = v := ⟨_, rfl⟩
                  have rv310162 := RgF.at hI310127.2.1 (p := 231) (b := 8) rfl
                  rw [hv310162] at rv310162
                  dsimp only at rv310162
                  have tv310162 := congrArg Int32.toInt hv310162
                  have x310163 := HI.eqI hI310157 (p := 231) (b := 8) ((((hF310158.1 231 8 (by decide)).trans (gI_sW)).trans hv310162))
                  exact ⟨_, rfl, hI310157, hF310161, _, rfl, by omega, ⟨(fun i i0 i1 i2 => ((eA_c (hF310158.2.1 233 (by decide))).trans ((eA_sA_ne (i := i) hI310127.1 ka_233 (by omega) (by omega) (by omega)).trans ((q310139 i i0 i1).trans (eA_c (((hF299525.2.1 233 (by decide)).trans (q267480.2.1 233 (by decide))))))))), by omega⟩⟩
                · have c310148_ : x310125.toInt < v267506.toInt := en_i_ge_f c310148
                  refine At.enter rfl ?_
                  refine r_aload_n e310132 ?_
                  refine q_getR (Sh.ref hI310127.1 kx_231 rfl) ?_
                  refine r_iload_n e310133 ?_
                  refine r_bipush 98 rfl ?_
                  refine q_iadd (v299539.toInt + 98) rfl (by omega) (fun v310164 hv310164 => ?_)
                  refine r_iconst 2 rfl ?_
                  refine r_iload_n e310134 ?_
                  refine q_imul (2 * x310125.toInt) rfl (by omega) (fun v310165 hv310165 => ?_)
                  refine q_iadd (v310164.toInt + v310165.toInt) rfl (by omega) (fun v310166 hv310166 => ?_)
                  refine r_aload_n e310132 ?_
                  refine q_getR (Sh.ref hI310127.1 kx_231 rfl) ?_
                  refine r_iload_n e310134 ?_
                  obtain ⟨v310167, hv310167⟩ : ∃ v, eA g267471 238 x310125.toInt = v := ⟨_, rfl⟩
                  refine q_iald (Sh.arr hI310127.1 ka_238) x310125.toInt rfl (by omega) v310167 ((eA_c ((q310136.2.1 238 (by decide)).trans (hF299525.2.1 238 (by decide)))).trans hv310167) ?_
                  refine q_iast (Sh.arr hI310127.1 ka_233) ((900 * v213960.toInt + 2 * x310125.toInt + 208)) (by omega) (by omega) ?_
                  have x310170 := HI.eqA hI310127 (p := 233) (j := 2) (((q310139 2 (by decide) (by decide)).trans (((eA_c (hF299525.2.1 233 (by decide))).trans (eA_c (q267480.2.1 233 (by decide)))).trans hv213960)))
                  have hI310168 := HI.wfree hI310127 (j := (900 * v213960.toInt + 2 * x310125.toInt + 208)) (v := v310167) ⟨by omega, by omega⟩
                  have hF310169 := Fr.wA (p := 233) (j := (900 * v213960.toInt + 2 * x310125.toInt + 208)) (v := v310167) hF310128 rfl
                  refine r_aload_n e310132 ?_
                  refine q_getR (Sh.ref hI310168.1 kx_231 rfl) ?_
                  refine r_iload_n e310133 ?_
                  refine r_bipush 98 rfl ?_
                  refine q_iadd (v299539.toInt + 98) rfl (by omega) (fun v310171 hv310171 => ?_)
                  refine r_iconst 2 rfl ?_
                  refine r_iload_n e310134 ?_
                  refine q_imul (2 * x310125.toInt) rfl (by omega) (fun v310172 hv310172 => ?_)
                  refine q_iadd (v310171.toInt + v310172.toInt) rfl (by omega) (fun v310173 hv310173 => ?_)
                  refine r_iconst 1 rfl ?_
                  refine q_iadd (v310173.toInt + 1) rfl (by omega) (fun v310174 hv310174 => ?_)
                  refine r_aload_n e310132 ?_
                  refine q_getR (Sh.ref hI310168.1 kx_231 rfl) ?_
                  refine r_iload_n e310134 ?_
                  obtain ⟨v310175, hv310175⟩ : ∃ v, eA g267471 239 x310125.toInt = v := ⟨_, rfl⟩
                  refine q_iald (Sh.arr hI310168.1 ka_239) x310125.toInt rfl (by omega) v310175 ((eA_c ((gA_sA_ne (by decide)).trans ((q310136.2.1 239 (by decide)).trans (hF299525.2.1 239 (by decide))))).trans hv310175) ?_
                  refine q_iast (Sh.arr hI310168.1 ka_233) ((900 * v213960.toInt + 2 * x310125.toInt + 209)) (by omega) (by omega) ?_
                  have x310178 := HI.eqA hI310168 (p := 233) (j := 2) (((eA_sA_ne hI310127.1 ka_233 (by first | decide | omega) (by first | decide | omega) (by first | decide | omega)).trans ((q310139 2 (by decide) (by decide)).trans (((eA_c (hF299525.2.1 233 (by decide))).trans (eA_c (q267480.2.1 233 (by decide)))).trans hv213960))))
                  have hI310176 := HI.wfree hI310168 (j := (900 * v213960.toInt + 2 * x310125.toInt + 209)) (v := v310175) ⟨by omega, by omega⟩
                  have hF310177 := Fr.wA (p := 233) (j := (900 * v213960.toInt + 2 * x310125.toInt + 209)) (v := v310175) hF310169 rfl
                  refine q_iinc e310134 (x310125.toInt + 1) rfl (by omega) (fun v310179 hv310179 => ?_)
                  refine r_goto ?_
                  exact ih310131 (400 - v310179.toInt) _ _ ⟨v310179, by first | rfl | omega, hI310176, hF310177, (w_p1 (by decide) (Or.inr rfl) e310132), (w_p1 (by decide) (Or.inr rfl) e310133), (w_e1 _ _ _), by omega, (Fr.wA (p := 233) (Fr.wA (p := 233) q310136 rfl) rfl), ((congrArg Int32.toInt (((eA_sA_ne (i := v299539.toInt + 1) hI310168.1 ka_233 (by omega) (by omega) (by omega)).trans (eA_sA_ne (i := v299539.toInt + 1) hI310127.1 ka_233 (by omega) (by omega) (by omega))))).trans q310137), (fun i i0 i1 => (congrArg Int32.toInt (((eA_sA_ne (i := v299539.toInt + 2 + i) hI310168.1 ka_233 (by omega) (by omega) (by omega)).trans (eA_sA_ne (i := v299539.toInt + 2 + i) hI310127.1 ka_233 (by omega) (by omega) (by omega))))).trans (q310138 i i0 i1)), (fun i i0 i1 => (((eA_sA_ne (i := i) hI310168.1 ka_233 (by omega) (by omega) (by omega)).trans (eA_sA_ne (i := i) hI310127.1 ka_233 (by omega) (by omega) (by omega)))).trans (q310139 i i0 i1)), (fun i i0 i1 => (Decidable.em (i = x310125.toInt)).elim (fun e => by rw [e]; exact ⟨((congrArg Int32.toInt ((eA_sA_ne (i := v299539.toInt + 98 + 2 * x310125.toInt) hI310168.1 ka_233 (by omega) (by omega) (by omega)).trans (eA_sA_eq hI310127.1 ka_233 (by omega) (by omega) (by omega)))).trans (congrArg Int32.toInt ((eA_c ((hF299525.2.1 238 (by decide)))).trans hv310167)).symm), ((congrArg Int32.toInt (eA_sA_eq hI310168.1 ka_233 (by omega) (by omega) (by omega))).trans (congrArg Int32.toInt ((eA_c ((hF299525.2.1 239 (by decide)))).trans hv310175)).symm)⟩) (fun e => ⟨(congrArg Int32.toInt (((eA_sA_ne (i := v299539.toInt + 98 + 2 * i) hI310168.1 ka_233 (by omega) (by omega) (by omega)).trans (eA_sA_ne (i := v299539.toInt + 98 + 2 * i) hI310127.1 ka_233 (by omega) (by omega) (by omega))))).trans (q310140 i i0 (by omega)).1, (congrArg Int32.toInt (((eA_sA_ne (i := v299539.toInt + 98 + 2 * i + 1) hI310168.1 ka_233 (by omega) (by omega) (by omega)).trans (eA_sA_ne (i := v299539.toInt + 98 + 2 * i + 1) hI310127.1 ka_233 (by omega) (by omega) (by omega))))).trans (q310140 i i0 (by omega)).2⟩))⟩ ⟨by omega, by omega⟩
              · have c309527_ : x309504.toInt < v309526.toInt := en_i_ge_f c309527
                refine At.enter rfl ?_
                refine r_aload_n e309511 ?_
                refine q_getR (Sh.ref hI309506.1 kx_231 rfl) ?_
                refine r_iload_n e309512 ?_
                refine r_iconst 2 rfl ?_
                refine q_iadd (v299539.toInt + 2) rfl (by omega) (fun v310180 hv310180 => ?_)
                refine r_iload_n e309513 ?_
                refine q_iadd (v310180.toInt + x309504.toInt) rfl (by omega) (fun v310181 hv310181 => ?_)
                refine r_aload_n e309511 ?_
                refine q_getR (Sh.ref hI309506.1 kx_231 rfl) ?_
                refine r_iload_n e309513 ?_
                obtain ⟨v310182, hv310182⟩ : ∃ v, eA g267471 237 x309504.toInt = v := ⟨_, rfl⟩
                refine q_iald (Sh.arr hI309506.1 ka_237) x309504.toInt rfl (by omega) v310182 ((eA_c ((q309515.2.1 237 (by decide)).trans (hF299525.2.1 237 (by decide)))).trans hv310182) ?_
                refine q_iast (Sh.arr hI309506.1 ka_233) ((900 * v213960.toInt + x309504.toInt + 112)) (by omega) (by omega) ?_
                have x310185 := HI.eqA hI309506 (p := 233) (j := 2) (((q309518 2 (by decide) (by decide)).trans (((eA_c (hF299525.2.1 233 (by decide))).trans (eA_c (q267480.2.1 233 (by decide)))).trans hv213960)))
                have hI310183 := HI.wfree hI309506 (j := (900 * v213960.toInt + x309504.toInt + 112)) (v := v310182) ⟨by omega, by omega⟩
                have hF310184 := Fr.wA (p := 233) (j := (900 * v213960.toInt + x309504.toInt + 112)) (v := v310182) hF309507 rfl
                refine q_iinc e309513 (x309504.toInt + 1) rfl (by omega) (fun v310186 hv310186 => ?_)
                refine r_goto ?_
                exact ih309510 (96 - v310186.toInt) _ _ ⟨v310186, by first | rfl | omega, hI310183, hF310184, (w_p1 (by decide) (Or.inr rfl) e309511), (w_p1 (by decide) (Or.inr rfl) e309512), (w_e1 _ _ _), by omega, (Fr.wA (p := 233) q309515 rfl), ((congrArg Int32.toInt ((eA_sA_ne (i := v299539.toInt + 1) hI309506.1 ka_233 (by omega) (by omega) (by omega)))).trans q309516), (fun i i0 i1 => (Decidable.em (i = x309504.toInt)).elim (fun e => by rw [e]; exact (congrArg Int32.toInt (eA_sA_eq hI309506.1 ka_233 (by omega) (by omega) (by omega))).trans (congrArg Int32.toInt ((eA_c ((hF299525.2.1 237 (by decide)))).trans hv310182)).symm) (fun e => (congrArg Int32.toInt ((eA_sA_ne (i := v299539.toInt + 2 + i) hI309506.1 ka_233 (by omega) (by omega) (by omega)))).trans (q309517 i i0 (by omega)))), (fun i i0 i1 => ((eA_sA_ne (i := i) hI309506.1 ka_233 (by omega) (by omega) (by omega))).trans (q309518 i i0 i1))⟩ ⟨by omega, by omega⟩
            · have c299537_ : v267502.toInt ≠ 0 := en_k_eq_f c299537
              exfalso; omega
          · have c299534_ : v267500.toInt ≠ 0 := en_k_eq_f c299534
            refine At.enter rfl ?_
            refine r_aload_n e267478 ?_
            refine r_iconst 0 rfl ?_
            have x310187 := HI.eqI hI299524 (p := 231) (b := 8) ((((hF299525.1 231 8 (by decide)).trans (q267480.1 231 8 (by decide))).trans hv1))
            have x310188 := HI.eqI hI299524 (p := 231) (b := 9) (((hF299525.1 231 9 (by decide)).trans e267477))
            have x310189 := HI.eqI hI299524 (p := 231) (b := 10) (((hF299525.1 231 10 (by decide)).trans hv267498))
            have x310190 := HI.eqI hI299524 (p := 231) (b := 11) (((hF299525.1 231 11 (by decide)).trans hv267500))
            have w26310191 := W26.cong q267485 hI299524 ((hF299525.1 231 9 (by decide))) ((hF299525.1 231 10 (by decide))) ((hF299525.1 231 11 (by decide))) ((hF299525.2.2 231 12 (by decide)))
            have zv310192 : (0 : Int32).toInt = 0 := rfl
            refine r_callV 97 rfl [.ref 231, .int 0] [] (Nat.le_of_ble_eq_true rfl) rfl (T_X11_must_231 _ hI299524 0 (by decide) (by refine ⟨?_, ?_, ?_, ?_⟩ <;> omega) w26310191) ?_
            rintro _ _ ⟨g310193, rfl, hI310194, hF310195, rfl, hr310197⟩
            refine At.stn ?_
            have hF310198 := Fr.tr hF299528 hF310195 rfl rfl
            have zv310199 : (0 : Int32).toInt = 0 := rfl
            have x310200 := HI.eqI hI299524 (p := 231) (b := 8) ((((hF299525.1 231 8 (by decide)).trans (q267480.1 231 8 (by decide))).trans hv1))
            have x310201 := HI.eqI hI299524 (p := 231) (b := 9) (((hF299525.1 231 9 (by decide)).trans e267477))
            have x310202 := HI.eqI hI299524 (p := 231) (b := 10) (((hF299525.1 231 10 (by decide)).trans hv267498))
            have x310203 := HI.eqI hI299524 (p := 231) (b := 11) (((hF299525.1 231 11 (by decide)).trans hv267500))
            have x310204 := HI.eqI hI299524 (p := 231) (b := 14) (((hF299525.1 231 14 (by decide)).trans hv267502))
            have x310205 := HI.eqI hI310194 (p := 231) (b := 8) ((((hF310195.1 231 8 (by decide)).trans ((hF299525.1 231 8 (by decide)).trans (q267480.1 231 8 (by decide)))).trans hv1))
            obtain ⟨v310206, hv310206⟩ : ∃ v, gI g310193 231 9 = v := ⟨_, rfl⟩
            have rv310206 := RgF.at hI310194.2.1 (p := 231) (b := 9) rfl
            rw [hv310206] at rv310206
            dsimp only at rv310206
            have tv310206 := congrArg Int32.toInt hv310206
            have x310207 := HI.eqI hI310194 (p := 231) (b := 9) (hv310206)
            obtain ⟨v310208, hv310208⟩ : ∃ v, gI g310193 231 10 = v := ⟨_, rfl⟩
            have rv310208 := RgF.at hI310194.2.1 (p := 231) (b := 10) rfl
            rw [hv310208] at rv310208
            dsimp only at rv310208
            have tv310208 := congrArg Int32.toInt hv310208
            have x310209 := HI.eqI hI310194 (p := 231) (b := 10) (hv310208)
            obtain ⟨v310210, hv310210⟩ : ∃ v, gI g310193 231 11 = v := ⟨_, rfl⟩
            have tv310210 := congrArg Int32.toInt hv310210
            have x310211 := HI.eqI hI310194 (p := 231) (b := 11) (hv310210)
            obtain ⟨v310212, hv310212⟩ : ∃ v, gI g310193 231 14 = v := ⟨_, rfl⟩
            have tv310212 := congrArg Int32.toInt hv310212
            have x310213 := HI.eqI hI310194 (p := 231) (b := 14) (hv310212)
            obtain ⟨c310214, c310215, c310216, c310217, c310218, c310219, c310220⟩ := hr310197
            refine At.enter rfl ?_
            refine r_aload_n e267478 ?_
            refine r_iconst 0 rfl ?_
            refine q_putI (Sh.int hI310194.1 kx_231 rfl) rfl ?_
            have hI310221 := HI.wI1 hI310194 kx_231 rfl (p := 231) (b := 8) (v := 0) rfl (by decide)
            have hF310222 := Fr.wI (p := 231) (b := 8) (v := 0) hF310198 rfl
            refine r_aload_n e267478 ?_
            refine q_getI (Sh.int hI310221.1 kx_231 rfl) v310212 ((gI_sI_ne (by decide)).trans hv310212) ?_
            refine r_ifs 109 rfl (fun c310223 => ?_) (fun c310223 => ?_)
            · have c310223_ : v310212.toInt = 0 := en_k_eq_t c310223
              obtain ⟨i310224, i310225, i310226⟩ := c310220 (by omega)
              refine At.enter rfl ?_
              refine r_bipush 110 rfl ?_
              refine r_sipush 900 rfl ?_
              refine r_aload_n e267478 ?_
              refine q_getR (Sh.ref hI310221.1 kx_231 rfl) ?_
              refine r_iconst 2 rfl ?_
              refine q_iald (Sh.arr hI310221.1 ka_233) 2 rfl (by decide) v213960 ((eA_c ((gA_sI).trans ((hF310195.2.1 233 (by decide)).trans ((hF299525.2.1 233 (by decide)).trans (q267480.2.1 233 (by decide)))))).trans hv213960) ?_
              refine q_imul (900 * v213960.toInt) rfl (by omega) (fun v310227 hv310227 => ?_)
              refine q_iadd (110 + v310227.toInt) rfl (by omega) (fun v310228 hv310228 => ?_)
              refine r_istore_n _ rfl ?_
              refine r_aload_n (w_p1 (by decide) (Or.inr rfl) e267478) ?_
              refine q_getR (Sh.ref hI310221.1 kx_231 rfl) ?_
              refine r_iload_n (w_e1 _ _ _) ?_
              refine r_iconst 1 rfl ?_
              refine q_iadd (v310228.toInt + 1) rfl (by omega) (fun v310229 hv310229 => ?_)
              refine r_aload_n (w_p1 (by decide) (Or.inr rfl) e267478) ?_
              refine q_getI (Sh.int hI310221.1 kx_231 rfl) v267504 (((gI_sI_ne (by decide)).trans ((hF310195.1 231 15 (by decide)).trans (hF299525.1 231 15 (by decide)))).trans hv267504) ?_
              refine q_iast (Sh.arr hI310221.1 ka_233) ((900 * v213960.toInt + 111)) (by omega) (by omega) ?_
              have x310232 := HI.eqA hI310221 (p := 233) (j := 2) ((((eA_c gA_sI).trans ((eA_c (hF310195.2.1 233 (by decide))).trans ((eA_c (hF299525.2.1 233 (by decide))).trans (eA_c (q267480.2.1 233 (by decide)))))).trans hv213960))
              have hI310230 := HI.wfree hI310221 (j := (900 * v213960.toInt + 111)) (v := v267504) ⟨by omega, by omega⟩
              have hF310231 := Fr.wA (p := 233) (j := (900 * v213960.toInt + 111)) (v := v267504) hF310222 rfl
              refine r_iconst 0 rfl ?_
              refine r_istore_n _ rfl ?_
              refine Ar.fall 144 rfl ?_
              have z_320208 : (0 : Int32).toInt = 0 := rfl
              have x320209 := HI.eqI hI310194 (p := 231) (b := 15) ((((hF310195.1 231 15 (by decide)).trans (hF299525.1 231 15 (by decide))).trans hv267504))
              have x320210 := HI.eqI hI310194 (p := 231) (b := 17) ((((hF310195.1 231 17 (by decide)).trans (hF299525.1 231 17 (by decide))).trans hv267506))
              refine w_loopI (fun n_ l_ g_ => ∃ x320193 : Int32, n_ = 96 - x320193.toInt ∧ HI g_ ∧ Fr F_X11_law_231 A_X11_law_231 g0 g_ ∧ en_get 0 l_ = some (.ref 231) ∧ en_get 1 l_ = some (.int v310228) ∧ en_get 2 l_ = some (.int x320193) ∧ (0 ≤ x320193.toInt ∧ x320193.toInt ≤ 96) ∧ (Fr [(231, 8)] [233] g310193 g_) ∧ ((eA g_ 233 (v310228.toInt + 1)).toInt = (gI g310193 231 15).toInt) ∧ (∀ i : Int, 0 ≤ i → i < x320193.toInt → (eA g_ 233 (v310228.toInt + 2 + i)).toInt = (eA g310193 237 i).toInt) ∧ (∀ i : Int, 0 ≤ i → i < 110 → eA g_ 233 i = eA g310193 233 i)) ?_ (96 - 0) ⟨0, by first | rfl | omega, hI310230, hF310231, (w_p1 (by decide) (Or.inr rfl) (w_p1 (by decide) (Or.inr rfl) e267478)), (w_p1 (by decide) (Or.inr rfl) (w_e1 _ _ _)), (w_e1 _ _ _), by decide, (Fr.wA (p := 233) (Fr.wI (p := 231) (b := 8) Fr.rf rfl) rfl), ((congrArg Int32.toInt (eA_sA_eq hI310221.1 ka_233 (by omega) (by omega) (by omega))).trans (by omega)), (fun i i0 i1 => absurd i1 (by omega)), (fun i i0 i1 => ((eA_sA_ne (i := i) hI310221.1 ka_233 (by omega) (by omega) (by omega)).trans (eA_c gA_sI)))⟩
              rintro n320198 l320197 g320194 ⟨x320193, hm320211, hI320195, hF320196, e320200, e320201, e320202, r320203, q320204, q320205, q320206, q320207⟩ ih320199
              have x320212 := HI.eqI hI310194 (p := 231) (b := 15) ((((hF310195.1 231 15 (by decide)).trans (hF299525.1 231 15 (by decide))).trans hv267504))
              have x320213 := HI.eqI hI310194 (p := 231) (b := 17) ((((hF310195.1 231 17 (by decide)).trans (hF299525.1 231 17 (by decide))).trans hv267506))
              have t320214 := congrArg Int32.toInt ((q320207 2 (by decide) (by decide)).trans (((eA_c (hF310195.2.1 233 (by decide))).trans ((eA_c (hF299525.2.1 233 (by decide))).trans (eA_c (q267480.2.1 233 (by decide))))).trans hv213960))
              refine At.enter rfl ?_
              refine r_iload_n e320202 ?_
              refine r_bipush 8 rfl ?_
              refine r_aload_n e320200 ?_
              refine q_getI (Sh.int hI320195.1 kx_231 rfl) v267504 (((q320204.1 231 15 (by decide)).trans ((hF310195.1 231 15 (by decide)).trans (hF299525.1 231 15 (by decide)))).trans hv267504) ?_
              refine q_imul (8 * v267504.toInt) rfl (by omega) (fun v320215 hv320215 => ?_)
              have bv320217 := q_bnd x320193
              have bv320218 := q_bnd v320215
              refine r_ics 155 rfl (fun c320216 => ?_) (fun c320216 => ?_)
              · have c320216_ : x320193.toInt ≥ v320215.toInt := en_i_ge_t c320216
                refine At.enter rfl ?_
                refine r_iconst 0 rfl ?_
                refine r_istore_n _ rfl ?_
                refine Ar.fall 179 rfl ?_
                have z_320830 : (0 : Int32).toInt = 0 := rfl
                have x320831 := HI.eqI hI310194 (p := 231) (b := 15) ((((hF310195.1 231 15 (by decide)).trans (hF299525.1 231 15 (by decide))).trans hv267504))
                have x320832 := HI.eqI hI310194 (p := 231) (b := 17) ((((hF310195.1 231 17 (by decide)).trans (hF299525.1 231 17 (by decide))).trans hv267506))
                refine w_loopI (fun n_ l_ g_ => ∃ x320814 : Int32, n_ = 400 - x320814.toInt ∧ HI g_ ∧ Fr F_X11_law_231 A_X11_law_231 g0 g_ ∧ en_get 0 l_ = some (.ref 231) ∧ en_get 1 l_ = some (.int v310228) ∧ en_get 2 l_ = some (.int x320814) ∧ (0 ≤ x320814.toInt ∧ x320814.toInt ≤ 400) ∧ (Fr [(231, 8)] [233] g310193 g_) ∧ ((eA g_ 233 (v310228.toInt + 1)).toInt = (gI g310193 231 15).toInt) ∧ (∀ i : Int, 0 ≤ i → i < 8 * (gI g310193 231 15).toInt → (eA g_ 233 (v310228.toInt + 2 + i)).toInt = (eA g310193 237 i).toInt) ∧ (∀ i : Int, 0 ≤ i → i < 110 → eA g_ 233 i = eA g310193 233 i) ∧ (∀ i : Int, 0 ≤ i → i < x320814.toInt → (eA g_ 233 (v310228.toInt + 98 + 2 * i)).toInt = (eA g310193 238 i).toInt ∧ (eA g_ 233 (v310228.toInt + 98 + 2 * i + 1)).toInt = (eA g310193 239 i).toInt)) ?_ (400 - 0) ⟨0, by first | rfl | omega, hI320195, hF320196, (w_p1 (by decide) (Or.inr rfl) e320200), (w_p1 (by decide) (Or.inr rfl) e320201), (w_e1 _ _ _), by decide, (Fr.tr Fr.rf q320204 rfl rfl), ((congrArg Int32.toInt (rfl)).trans q320205), (fun i i0 i1 => q320206 i i0 (by omega)), (fun i i0 i1 => (rfl).trans (q320207 i i0 i1)), (fun i i0 i1 => absurd i1 (by omega))⟩
                rintro n320819 l320818 g320815 ⟨x320814, hm320833, hI320816, hF320817, e320821, e320822, e320823, r320824, q320825, q320826, q320827, q320828, q320829⟩ ih320820
                have x320834 := HI.eqI hI310194 (p := 231) (b := 15) ((((hF310195.1 231 15 (by decide)).trans (hF299525.1 231 15 (by decide))).trans hv267504))
                have x320835 := HI.eqI hI310194 (p := 231) (b := 17) ((((hF310195.1 231 17 (by decide)).trans (hF299525.1 231 17 (by decide))).trans hv267506))
                have t320836 := congrArg Int32.toInt ((q320828 2 (by decide) (by decide)).trans (((eA_c (hF310195.2.1 233 (by decide))).trans ((eA_c (hF299525.2.1 233 (by decide))).trans (eA_c (q267480.2.1 233 (by decide))))).trans hv213960))
                refine At.enter rfl ?_
                refine r_iload_n e320823 ?_
                refine r_aload_n e320821 ?_
                refine q_getI (Sh.int hI320816.1 kx_231 rfl) v267506 (((q320825.1 231 17 (by decide)).trans ((hF310195.1 231 17 (by decide)).trans (hF299525.1 231 17 (by decide)))).trans hv267506) ?_
                have bv320838 := q_bnd x320814
                have bv320839 := q_bnd v267506
                refine r_ics 187 rfl (fun c320837 => ?_) (fun c320837 => ?_)
                · have c320837_ : x320814.toInt ≥ v267506.toInt := en_i_ge_t c320837
                  refine At.enter rfl ?_
                  refine r_aload_n e320821 ?_
                  refine q_getR (Sh.ref hI320816.1 kx_231 rfl) ?_
                  refine r_iconst 2 rfl ?_
                  refine r_dup2 ⟨rfl, rfl⟩ ?_
                  refine q_iald (Sh.arr hI320816.1 ka_233) 2 rfl (by decide) v213960 ((q320828 2 (by decide) (by decide)).trans (((eA_c (hF310195.2.1 233 (by decide))).trans ((eA_c (hF299525.2.1 233 (by decide))).trans (eA_c (q267480.2.1 233 (by decide))))).trans hv213960)) ?_
                  refine r_iconst 1 rfl ?_
                  refine q_iadd (v213960.toInt + 1) rfl (by omega) (fun v320840 hv320840 => ?_)
                  refine q_iast (Sh.arr hI320816.1 ka_233) (2) rfl (by decide) ?_
                  have x320843 := HI.eqA hI320816 (p := 233) (j := 2) (((q320828 2 (by decide) (by decide)).trans (((eA_c (hF310195.2.1 233 (by decide))).trans ((eA_c (hF299525.2.1 233 (by decide))).trans (eA_c (q267480.2.1 233 (by decide))))).trans hv213960)))
                  have hI320841 := HI.wt2 hI320816 (v := v320840) (by omega) (by omega) (by rw [show 110 + 900 * (eA _ 233 2).toInt = v310228.toInt by omega]; exact LAW.mk (CLS.cong2 (q267486 (by omega)).2 hI310194 (((hF310195.2.1 238 (by decide)).trans (hF299525.2.1 238 (by decide)))) (((hF310195.2.1 239 (by decide)).trans (hF299525.2.1 239 (by decide)))) (((hF310195.2.1 237 (by decide)).trans (hF299525.2.1 237 (by decide)))) (((hF310195.1 231 15 (by decide)).trans (hF299525.1 231 15 (by decide)))) (((hF310195.1 231 17 (by decide)).trans (hF299525.1 231 17 (by decide))))) ⟨by omega, by omega⟩ (by omega) q320826 q320827 (fun i i0 i1 => q320829 i i0 (by omega)))
                  have hF320842 := Fr.wA (p := 233) (j := 2) (v := v320840) hF320817 rfl
                  refine r_aload_n e320821 ?_
                  refine r_aload_n e320821 ?_
                  refine q_getR (Sh.ref hI320841.1 kx_231 rfl) ?_
                  refine r_iconst 2 rfl ?_
                  refine q_iald (Sh.arr hI320841.1 ka_233) 2 rfl (by decide) v320840 (eA_sA_eq hI320816.1 ka_233 (by first | rfl | omega) (by first | decide | omega) (by first | decide | omega)) ?_
                  refine r_iconst 1 rfl ?_
                  refine q_isub (v320840.toInt - 1) rfl (by omega) (fun v320844 hv320844 => ?_)
                  refine r_callV 255 rfl [.ref 231, .int v320844] [] (Nat.le_of_ble_eq_true rfl) rfl (T_X11_tell_231 _ hI320841 v320844 (by omega)) ?_
                  rintro _ _ ⟨g320845, rfl, hI320846, hF320847, v320848, rfl, hr320849⟩
                  refine At.sti ?_
                  have hF320850 := Fr.tr hF320842 hF320847 rfl rfl
                  refine At.enter rfl ?_
                  refine r_ireti ?_
                  obtain ⟨v320851, hv320851⟩ : ∃ v, gI g320815 231 8 = v := ⟨_, rfl⟩
                  have rv320851 := RgF.at hI320816.2.1 (p := 231) (b := 8) rfl
                  rw [hv320851] at rv320851
                  dsimp only at rv320851
                  have tv320851 := congrArg Int32.toInt hv320851
                  have x320852 := HI.eqI hI320846 (p := 231) (b := 8) ((((hF320847.1 231 8 (by decide)).trans (gI_sW)).trans hv320851))
                  exact ⟨_, rfl, hI320846, hF320850, _, rfl, by omega, ⟨(fun i i0 i1 i2 => ((eA_c (hF320847.2.1 233 (by decide))).trans ((eA_sA_ne (i := i) hI320816.1 ka_233 (by omega) (by omega) (by omega)).trans ((q320828 i i0 i1).trans (eA_c (((hF310195.2.1 233 (by decide)).trans ((hF299525.2.1 233 (by decide)).trans (q267480.2.1 233 (by decide)))))))))), by omega⟩⟩
                · have c320837_ : x320814.toInt < v267506.toInt := en_i_ge_f c320837
                  refine At.enter rfl ?_
                  refine r_aload_n e320821 ?_
                  refine q_getR (Sh.ref hI320816.1 kx_231 rfl) ?_
                  refine r_iload_n e320822 ?_
                  refine r_bipush 98 rfl ?_
                  refine q_iadd (v310228.toInt + 98) rfl (by omega) (fun v320853 hv320853 => ?_)
                  refine r_iconst 2 rfl ?_
                  refine r_iload_n e320823 ?_
                  refine q_imul (2 * x320814.toInt) rfl (by omega) (fun v320854 hv320854 => ?_)
                  refine q_iadd (v320853.toInt + v320854.toInt) rfl (by omega) (fun v320855 hv320855 => ?_)
                  refine r_aload_n e320821 ?_
                  refine q_getR (Sh.ref hI320816.1 kx_231 rfl) ?_
                  refine r_iload_n e320823 ?_
                  obtain ⟨v320856, hv320856⟩ : ∃ v, eA g267471 238 x320814.toInt = v := ⟨_, rfl⟩
                  refine q_iald (Sh.arr hI320816.1 ka_238) x320814.toInt rfl (by omega) v320856 ((eA_c ((q320825.2.1 238 (by decide)).trans ((hF310195.2.1 238 (by decide)).trans (hF299525.2.1 238 (by decide))))).trans hv320856) ?_
                  refine q_iast (Sh.arr hI320816.1 ka_233) ((900 * v213960.toInt + 2 * x320814.toInt + 208)) (by omega) (by omega) ?_
                  have x320859 := HI.eqA hI320816 (p := 233) (j := 2) (((q320828 2 (by decide) (by decide)).trans (((eA_c (hF310195.2.1 233 (by decide))).trans ((eA_c (hF299525.2.1 233 (by decide))).trans (eA_c (q267480.2.1 233 (by decide))))).trans hv213960)))
                  have hI320857 := HI.wfree hI320816 (j := (900 * v213960.toInt + 2 * x320814.toInt + 208)) (v := v320856) ⟨by omega, by omega⟩
                  have hF320858 := Fr.wA (p := 233) (j := (900 * v213960.toInt + 2 * x320814.toInt + 208)) (v := v320856) hF320817 rfl
                  refine r_aload_n e320821 ?_
                  refine q_getR (Sh.ref hI320857.1 kx_231 rfl) ?_
                  refine r_iload_n e320822 ?_
                  refine r_bipush 98 rfl ?_
                  refine q_iadd (v310228.toInt + 98) rfl (by omega) (fun v320860 hv320860 => ?_)
                  refine r_iconst 2 rfl ?_
                  refine r_iload_n e320823 ?_
                  refine q_imul (2 * x320814.toInt) rfl (by omega) (fun v320861 hv320861 => ?_)
                  refine q_iadd (v320860.toInt + v320861.toInt) rfl (by omega) (fun v320862 hv320862 => ?_)
                  refine r_iconst 1 rfl ?_
                  refine q_iadd (v320862.toInt + 1) rfl (by omega) (fun v320863 hv320863 => ?_)
                  refine r_aload_n e320821 ?_
                  refine q_getR (Sh.ref hI320857.1 kx_231 rfl) ?_
                  refine r_iload_n e320823 ?_
                  obtain ⟨v320864, hv320864⟩ : ∃ v, eA g267471 239 x320814.toInt = v := ⟨_, rfl⟩
                  refine q_iald (Sh.arr hI320857.1 ka_239) x320814.toInt rfl (by omega) v320864 ((eA_c ((gA_sA_ne (by decide)).trans ((q320825.2.1 239 (by decide)).trans ((hF310195.2.1 239 (by decide)).trans (hF299525.2.1 239 (by decide)))))).trans hv320864) ?_
                  refine q_iast (Sh.arr hI320857.1 ka_233) ((900 * v213960.toInt + 2 * x320814.toInt + 209)) (by omega) (by omega) ?_
                  have x320867 := HI.eqA hI320857 (p := 233) (j := 2) (((eA_sA_ne hI320816.1 ka_233 (by first | decide | omega) (by first | decide | omega) (by first | decide | omega)).trans ((q320828 2 (by decide) (by decide)).trans (((eA_c (hF310195.2.1 233 (by decide))).trans ((eA_c (hF299525.2.1 233 (by decide))).trans (eA_c (q267480.2.1 233 (by decide))))).trans hv213960))))
                  have hI320865 := HI.wfree hI320857 (j := (900 * v213960.toInt + 2 * x320814.toInt + 209)) (v := v320864) ⟨by omega, by omega⟩
                  have hF320866 := Fr.wA (p := 233) (j := (900 * v213960.toInt + 2 * x320814.toInt + 209)) (v := v320864) hF320858 rfl
                  refine q_iinc e320823 (x320814.toInt + 1) rfl (by omega) (fun v320868 hv320868 => ?_)
                  refine r_goto ?_
                  exact ih320820 (400 - v320868.toInt) _ _ ⟨v320868, by first | rfl | omega, hI320865, hF320866, (w_p1 (by decide) (Or.inr rfl) e320821), (w_p1 (by decide) (Or.inr rfl) e320822), (w_e1 _ _ _), by omega, (Fr.wA (p := 233) (Fr.wA (p := 233) q320825 rfl) rfl), ((congrArg Int32.toInt (((eA_sA_ne (i := v310228.toInt + 1) hI320857.1 ka_233 (by omega) (by omega) (by omega)).trans (eA_sA_ne (i := v310228.toInt + 1) hI320816.1 ka_233 (by omega) (by omega) (by omega))))).trans q320826), (fun i i0 i1 => (congrArg Int32.toInt (((eA_sA_ne (i := v310228.toInt + 2 + i) hI320857.1 ka_233 (by omega) (by omega) (by omega)).trans (eA_sA_ne (i := v310228.toInt + 2 + i) hI320816.1 ka_233 (by omega) (by omega) (by omega))))).trans (q320827 i i0 i1)), (fun i i0 i1 => (((eA_sA_ne (i := i) hI320857.1 ka_233 (by omega) (by omega) (by omega)).trans (eA_sA_ne (i := i) hI320816.1 ka_233 (by omega) (by omega) (by omega)))).trans (q320828 i i0 i1)), (fun i i0 i1 => (Decidable.em (i = x320814.toInt)).elim (fun e => by rw [e]; exact ⟨((congrArg Int32.toInt ((eA_sA_ne (i := v310228.toInt + 98 + 2 * x320814.toInt) hI320857.1 ka_233 (by omega) (by omega) (by omega)).trans (eA_sA_eq hI320816.1 ka_233 (by omega) (by omega) (by omega)))).trans (congrArg Int32.toInt ((eA_c (((hF310195.2.1 238 (by decide)).trans (hF299525.2.1 238 (by decide))))).trans hv320856)).symm), ((congrArg Int32.toInt (eA_sA_eq hI320857.1 ka_233 (by omega) (by omega) (by omega))).trans (congrArg Int32.toInt ((eA_c (((hF310195.2.1 239 (by decide)).trans (hF299525.2.1 239 (by decide))))).trans hv320864)).symm)⟩) (fun e => ⟨(congrArg Int32.toInt (((eA_sA_ne (i := v310228.toInt + 98 + 2 * i) hI320857.1 ka_233 (by omega) (by omega) (by omega)).trans (eA_sA_ne (i := v310228.toInt + 98 + 2 * i) hI320816.1 ka_233 (by omega) (by omega) (by omega))))).trans (q320829 i i0 (by omega)).1, (congrArg Int32.toInt (((eA_sA_ne (i := v310228.toInt + 98 + 2 * i + 1) hI320857.1 ka_233 (by omega) (by omega) (by omega)).trans (eA_sA_ne (i := v310228.toInt + 98 + 2 * i + 1) hI320816.1 ka_233 (by omega) (by omega) (by omega))))).trans (q320829 i i0 (by omega)).2⟩))⟩ ⟨by omega, by omega⟩
              · have c320216_ : x320193.toInt < v320215.toInt := en_i_ge_f c320216
                refine At.enter rfl ?_
                refine r_aload_n e320200 ?_
                refine q_getR (Sh.ref hI320195.1 kx_231 rfl) ?_
                refine r_iload_n e320201 ?_
                refine r_iconst 2 rfl ?_
                refine q_iadd (v310228.toInt + 2) rfl (by omega) (fun v320869 hv320869 => ?_)
                refine r_iload_n e320202 ?_
                refine q_iadd (v320869.toInt + x320193.toInt) rfl (by omega) (fun v320870 hv320870 => ?_)
                refine r_aload_n e320200 ?_
                refine q_getR (Sh.ref hI320195.1 kx_231 rfl) ?_
                refine r_iload_n e320202 ?_
                obtain ⟨v320871, hv320871⟩ : ∃ v, eA g267471 237 x320193.toInt = v := ⟨_, rfl⟩
                refine q_iald (Sh.arr hI320195.1 ka_237) x320193.toInt rfl (by omega) v320871 ((eA_c ((q320204.2.1 237 (by decide)).trans ((hF310195.2.1 237 (by decide)).trans (hF299525.2.1 237 (by decide))))).trans hv320871) ?_
                refine q_iast (Sh.arr hI320195.1 ka_233) ((900 * v213960.toInt + x320193.toInt + 112)) (by omega) (by omega) ?_
                have x320874 := HI.eqA hI320195 (p := 233) (j := 2) (((q320207 2 (by decide) (by decide)).trans (((eA_c (hF310195.2.1 233 (by decide))).trans ((eA_c (hF299525.2.1 233 (by decide))).trans (eA_c (q267480.2.1 233 (by decide))))).trans hv213960)))
                have hI320872 := HI.wfree hI320195 (j := (900 * v213960.toInt + x320193.toInt + 112)) (v := v320871) ⟨by omega, by omega⟩
                have hF320873 := Fr.wA (p := 233) (j := (900 * v213960.toInt + x320193.toInt + 112)) (v := v320871) hF320196 rfl
                refine q_iinc e320202 (x320193.toInt + 1) rfl (by omega) (fun v320875 hv320875 => ?_)
                refine r_goto ?_
                exact ih320199 (96 - v320875.toInt) _ _ ⟨v320875, by first | rfl | omega, hI320872, hF320873, (w_p1 (by decide) (Or.inr rfl) e320200), (w_p1 (by decide) (Or.inr rfl) e320201), (w_e1 _ _ _), by omega, (Fr.wA (p := 233) q320204 rfl), ((congrArg Int32.toInt ((eA_sA_ne (i := v310228.toInt + 1) hI320195.1 ka_233 (by omega) (by omega) (by omega)))).trans q320205), (fun i i0 i1 => (Decidable.em (i = x320193.toInt)).elim (fun e => by rw [e]; exact (congrArg Int32.toInt (eA_sA_eq hI320195.1 ka_233 (by omega) (by omega) (by omega))).trans (congrArg Int32.toInt ((eA_c (((hF310195.2.1 237 (by decide)).trans (hF299525.2.1 237 (by decide))))).trans hv320871)).symm) (fun e => (congrArg Int32.toInt ((eA_sA_ne (i := v310228.toInt + 2 + i) hI320195.1 ka_233 (by omega) (by omega) (by omega)))).trans (q320206 i i0 (by omega)))), (fun i i0 i1 => ((eA_sA_ne (i := i) hI320195.1 ka_233 (by omega) (by omega) (by omega))).trans (q320207 i i0 i1))⟩ ⟨by omega, by omega⟩
            · have c310223_ : v310212.toInt ≠ 0 := en_k_eq_f c310223
              clear c310220
              refine At.enter rfl ?_
              refine r_aload_n e267478 ?_
              refine r_bipush (-6) rfl ?_
              refine r_callV 115 rfl [.ref 231, .int (-6)] [] (Nat.le_of_ble_eq_true rfl) rfl (T_X11_tell_231 _ hI310221 (-6) (by decide)) ?_
              rintro _ _ ⟨g320876, rfl, hI320877, hF320878, v320879, rfl, hr320880⟩
              refine At.sti ?_
              have hF320881 := Fr.tr hF310222 hF320878 rfl rfl
              have zv320882 : ((-6) : Int32).toInt = (-6) := rfl
              refine At.enter rfl ?_
              refine r_ireti ?_
              have x320883 := HI.eqI hI320877 (p := 231) (b := 8) (((hF320878.1 231 8 (by decide)).trans (gI_sI_eq hI310194.1 kx_231 rfl _)))
              have zv320884 : (0 : Int32).toInt = 0 := rfl
              exact ⟨_, rfl, hI320877, hF320881, _, rfl, by omega, ⟨(fun i i0 i1 i2 => eA_c (((hF320878.2.1 233 (by decide)).trans ((gA_sI).trans ((hF310195.2.1 233 (by decide)).trans ((hF299525.2.1 233 (by decide)).trans (q267480.2.1 233 (by decide)))))))), by omega⟩⟩
      · have c299532_ : v299526.toInt ≠ 0 := en_k_eq_f c299532
        refine At.enter rfl ?_
        refine r_aload_n e267478 ?_
        have x320885 := HI.eqI hI299524 (p := 231) (b := 8) ((((hF299525.1 231 8 (by decide)).trans (q267480.1 231 8 (by decide))).trans hv1))
        have x320886 := HI.eqI hI299524 (p := 231) (b := 10) (((hF299525.1 231 10 (by decide)).trans hv267498))
        refine r_callV 71 rfl [.ref 231] [] (Nat.le_of_ble_eq_true rfl) rfl (T_X11_next_231 _ hI299524 (by omega)) ?_
        rintro _ _ ⟨g320887, rfl, hI320888, hF320889, rfl, hr320891⟩
        refine At.stn ?_
        have hF320892 := Fr.tr hF299528 hF320889 rfl rfl
        have x320893 := HI.eqI hI299524 (p := 231) (b := 8) ((((hF299525.1 231 8 (by decide)).trans (q267480.1 231 8 (by decide))).trans hv1))
        have x320894 := HI.eqI hI299524 (p := 231) (b := 10) (((hF299525.1 231 10 (by decide)).trans hv267498))
        have x320895 := HI.eqI hI320888 (p := 231) (b := 8) ((((hF320889.1 231 8 (by decide)).trans ((hF299525.1 231 8 (by decide)).trans (q267480.1 231 8 (by decide)))).trans hv1))
        obtain ⟨v320896, hv320896⟩ : ∃ v, gI g320887 231 9 = v := ⟨_, rfl⟩
        have rv320896 := RgF.at hI320888.2.1 (p := 231) (b := 9) rfl
        rw [hv320896] at rv320896
        dsimp only at rv320896
        have tv320896 := congrArg Int32.toInt hv320896
        have x320897 := HI.eqI hI320888 (p := 231) (b := 9) (hv320896)
        obtain ⟨v320898, hv320898⟩ : ∃ v, gI g320887 231 10 = v := ⟨_, rfl⟩
        have rv320898 := RgF.at hI320888.2.1 (p := 231) (b := 10) rfl
        rw [hv320898] at rv320898
        dsimp only at rv320898
        have tv320898 := congrArg Int32.toInt hv320898
        have x320899 := HI.eqI hI320888 (p := 231) (b := 10) (hv320898)
        obtain ⟨v320900, hv320900⟩ : ∃ v, gI g320887 231 11 = v := ⟨_, rfl⟩
        have tv320900 := congrArg Int32.toInt hv320900
        have x320901 := HI.eqI hI320888 (p := 231) (b := 11) (hv320900)
        obtain ⟨c320902, c320903, c320904, c320905, c320906, c320907⟩ := hr320891
        refine At.enter rfl ?_
        refine r_aload_n e267478 ?_
        have x320908 := HI.eqI hI320888 (p := 231) (b := 8) ((((hF320889.1 231 8 (by decide)).trans ((hF299525.1 231 8 (by decide)).trans (q267480.1 231 8 (by decide)))).trans hv1))
        have x320909 := HI.eqI hI320888 (p := 231) (b := 9) (hv320896)
        have x320910 := HI.eqI hI320888 (p := 231) (b := 10) (hv320898)
        have x320911 := HI.eqI hI320888 (p := 231) (b := 11) (hv320900)
        have x320912 := HI.eqI hI320888 (p := 231) (b := 14) ((((hF320889.1 231 14 (by decide)).trans (hF299525.1 231 14 (by decide))).trans hv267502))
        have x320913 := HI.eqI hI320888 (p := 231) (b := 15) ((((hF320889.1 231 15 (by decide)).trans (hF299525.1 231 15 (by decide))).trans hv267504))
        have x320914 := HI.eqI hI320888 (p := 231) (b := 17) ((((hF320889.1 231 17 (by decide)).trans (hF299525.1 231 17 (by decide))).trans hv267506))
        have y320915 := (q267486 (by omega)).1
        refine r_callV 75 rfl [.ref 231] [] (Nat.le_of_ble_eq_true rfl) rfl (T_X11_readClause_231 _ hI320888 (by refine ⟨?_, ?_, ?_, ?_⟩ <;> omega) (by omega) (by omega) c320907 (CLS.cong2 (q267486 (by omega)).2 hI320888 (((hF320889.2.1 238 (by decide)).trans (hF299525.2.1 238 (by decide)))) (((hF320889.2.1 239 (by decide)).trans (hF299525.2.1 239 (by decide)))) (((hF320889.2.1 237 (by decide)).trans (hF299525.2.1 237 (by decide)))) (((hF320889.1 231 15 (by decide)).trans (hF299525.1 231 15 (by decide)))) (((hF320889.1 231 17 (by decide)).trans (hF299525.1 231 17 (by decide)))))) ?_
        rintro _ _ ⟨g320916, rfl, hI320917, hF320918, rfl, hr320920⟩
        refine At.stn ?_
        have hF320921 := Fr.tr hF320892 hF320918 rfl rfl
        have x320922 := HI.eqI hI320888 (p := 231) (b := 9) (hv320896)
        have x320923 := HI.eqI hI320917 (p := 231) (b := 8) ((((hF320918.1 231 8 (by decide)).trans ((hF320889.1 231 8 (by decide)).trans ((hF299525.1 231 8 (by decide)).trans (q267480.1 231 8 (by decide))))).trans hv1))
        obtain ⟨v320924, hv320924⟩ : ∃ v, gI g320916 231 9 = v := ⟨_, rfl⟩
        have rv320924 := RgF.at hI320917.2.1 (p := 231) (b := 9) rfl
        rw [hv320924] at rv320924
        dsimp only at rv320924
        have tv320924 := congrArg Int32.toInt hv320924
        have x320925 := HI.eqI hI320917 (p := 231) (b := 9) (hv320924)
        obtain ⟨v320926, hv320926⟩ : ∃ v, gI g320916 231 10 = v := ⟨_, rfl⟩
        have rv320926 := RgF.at hI320917.2.1 (p := 231) (b := 10) rfl
        rw [hv320926] at rv320926
        dsimp only at rv320926
        have tv320926 := congrArg Int32.toInt hv320926
        have x320927 := HI.eqI hI320917 (p := 231) (b := 10) (hv320926)
        obtain ⟨v320928, hv320928⟩ : ∃ v, gI g320916 231 11 = v := ⟨_, rfl⟩
        have tv320928 := congrArg Int32.toInt hv320928
        have x320929 := HI.eqI hI320917 (p := 231) (b := 11) (hv320928)
        obtain ⟨v320930, hv320930⟩ : ∃ v, gI g320916 231 14 = v := ⟨_, rfl⟩
        have tv320930 := congrArg Int32.toInt hv320930
        have x320931 := HI.eqI hI320917 (p := 231) (b := 14) (hv320930)
        obtain ⟨v320932, hv320932⟩ : ∃ v, gI g320916 231 15 = v := ⟨_, rfl⟩
        have rv320932 := RgF.at hI320917.2.1 (p := 231) (b := 15) rfl
        rw [hv320932] at rv320932
        dsimp only at rv320932
        have tv320932 := congrArg Int32.toInt hv320932
        have x320933 := HI.eqI hI320917 (p := 231) (b := 15) (hv320932)
        obtain ⟨v320934, hv320934⟩ : ∃ v, gI g320916 231 17 = v := ⟨_, rfl⟩
        have rv320934 := RgF.at hI320917.2.1 (p := 231) (b := 17) rfl
        rw [hv320934] at rv320934
        dsimp only at rv320934
        have tv320934 := congrArg Int32.toInt hv320934
        have x320935 := HI.eqI hI320917 (p := 231) (b := 17) (hv320934)
        obtain ⟨c320936, c320937, c320938, c320939, c320940, c320941, c320942⟩ := hr320920
        refine At.enter rfl ?_
        refine r_goto ?_
        have x320943 := HI.eqI hI320917 (p := 231) (b := 8) ((((hF320918.1 231 8 (by decide)).trans ((hF320889.1 231 8 (by decide)).trans ((hF299525.1 231 8 (by decide)).trans (q267480.1 231 8 (by decide))))).trans hv1))
        have x320944 := HI.eqI hI320917 (p := 231) (b := 9) (hv320924)
        have x320945 := HI.eqI hI320917 (p := 231) (b := 10) (hv320926)
        have x320946 := HI.eqI hI320917 (p := 231) (b := 11) (hv320928)
        have x320947 := HI.eqI hI320917 (p := 231) (b := 14) (hv320930)
        have x320948 := HI.eqI hI320917 (p := 231) (b := 15) (hv320932)
        have x320949 := HI.eqI hI320917 (p := 231) (b := 17) (hv320934)
        exact ih267476 (400 - v320924.toInt) _ _ ⟨v320924, by first | rfl | omega, hI320917, hF320921, hv320924, e267478, by omega, (Fr.tr (Fr.tr (Fr.tr q267480 hF299525 rfl rfl) hF320889 rfl rfl) hF320918 rfl rfl), by omega, by omega, by omega, by omega, c320940, c320942⟩ ⟨by omega, by omega⟩
  · have c213961_ : v213960.toInt = 6 := en_i_ne_f c213961
    refine At.enter rfl ?_
    refine r_aload_n rfl ?_
    refine r_iconst 0 rfl ?_
    refine q_putI (Sh.int hI213958.1 kx_231 rfl) rfl ?_
    have hI320950 := HI.wI1 hI213958 kx_231 rfl (p := 231) (b := 8) (v := 0) rfl (by decide)
    have hF320951 := Fr.wI (p := 231) (b := 8) (v := 0) hF213959 rfl
    refine r_aload_n rfl ?_
    refine r_bipush (-5) rfl ?_
    refine r_callV 27 rfl [.ref 231, .int (-5)] [] (Nat.le_of_ble_eq_true rfl) rfl (T_X11_tell_231 _ hI320950 (-5) (by decide)) ?_
    rintro _ _ ⟨g320952, rfl, hI320953, hF320954, v320955, rfl, hr320956⟩
    refine At.sti ?_
    have hF320957 := Fr.tr hF320951 hF320954 rfl rfl
    have zv320958 : ((-5) : Int32).toInt = (-5) := rfl
    refine At.enter rfl ?_
    refine r_ireti ?_
    have x320959 := HI.eqI hI320953 (p := 231) (b := 8) (((hF320954.1 231 8 (by decide)).trans (gI_sI_eq hI213958.1 kx_231 rfl _)))
    have zv320960 : (0 : Int32).toInt = 0 := rfl
    exact ⟨_, rfl, hI320953, hF320957, _, rfl, by omega, ⟨(fun i i0 i1 i2 => eA_c (((hF320954.2.1 233 (by decide)).trans ((gA_sI).trans (gA_sI))))), by omega⟩⟩
