def F_X11_row_231 : List (Nat × Nat) := [(231, 0), (231, 1), (231, 6), (231, 8)]
def A_X11_row_231 : List Nat := [232, 233]
theorem mf_X11_tell_231_231_8 : memF F_X11_tell_231 231 8 = false := by decide
theorem mf_X11_addLoad_231_231_8 : memF F_X11_addLoad_231 231 8 = false := by decide
set_option maxRecDepth 100000 in
set_option maxHeartbeats 4000000 in
theorem T_X11_row_231 (d : Nat) {N : Nat} {g0 : List en_E} (hI0 : HI g0) : Ev (d + 3) 182 [.ref 231] (g0, N) (fun w h' => ∃ g', h' = (g', N) ∧ HI g' ∧ Fr F_X11_row_231 A_X11_row_231 g0 g' ∧ ∃ r : Int32, w = some (.int r) ∧ ((-6) ≤ r.toInt ∧ r.toInt ≤ 400) ∧ ((gI g' 231 8).toInt = 0 ∧ (eA g' 233 0).toInt = (eA g0 233 0).toInt ∧ (eA g' 233 4).toInt = (eA g0 233 4).toInt ∧ (eA g' 233 5).toInt = (eA g0 233 5).toInt ∧ (eA g' 233 6).toInt = (eA g0 233 6).toInt ∧ (eA g' 233 2).toInt = (eA g0 233 2).toInt ∧ (eA g' 233 3).toInt = (eA g0 233 3).toInt)) := by
  have hF0 : Fr F_X11_row_231 A_X11_row_231 g0 g0 := Fr.rf
  refine Ev.mk rfl rfl ⟨Nat.le_of_ble_eq_true rfl, Or.inr (q_rc hI0.1 kx_231 rfl)⟩ ?_
  show At _ none _ _ (0, [(0, .ref 231)], [], (_, _)) _
  refine At.enter rfl ?_
  refine r_aload_n rfl ?_
  refine r_iconst 0 rfl ?_
  refine q_putI (Sh.int hI0.1 kx_231 rfl) rfl ?_
  have hI6989 := HI.wI0 hI0 kx_231 rfl (p := 231) (b := 0) (v := 0) rfl
  have hF6990 := Fr.wI (p := 231) (b := 0) (v := 0) hF0 rfl
  refine r_aload_n rfl ?_
  obtain ⟨v6991, hv6991⟩ : ∃ v, gI g0 231 8 = v := ⟨_, rfl⟩
  have rv6991 := RgF.at hI0.2.1 (p := 231) (b := 8) rfl
  rw [hv6991] at rv6991
  dsimp only at rv6991
  refine q_getI (Sh.int hI6989.1 kx_231 rfl) v6991 ((gI_sI_ne (by decide)).trans hv6991) ?_
  refine r_istore_n ([(1, .int v6991), (0, .ref 231)]) rfl ?_
  refine r_aload_n rfl ?_
  refine r_iconst 0 rfl ?_
  refine q_putI (Sh.int hI6989.1 kx_231 rfl) rfl ?_
  have hI6992 := HI.wI1 hI6989 kx_231 rfl (p := 231) (b := 8) (v := 0) rfl (by decide)
  have hF6993 := Fr.wI (p := 231) (b := 8) (v := 0) hF6990 rfl
  refine r_iload_n rfl ?_
  refine r_ifs 19 rfl (fun c6994 => ?_) (fun c6994 => ?_)
  · have c6994_ : v6991.toInt ≠ 0 := en_k_ne_t c6994
    refine At.enter rfl ?_
    refine r_aload_n rfl ?_
    refine r_iconst 0 rfl ?_
    refine q_putI (Sh.int hI6992.1 kx_231 rfl) rfl ?_
    have hI6995 := HI.wI0 hI6992 kx_231 rfl (p := 231) (b := 6) (v := 0) rfl
    have hF6996 := Fr.wI (p := 231) (b := 6) (v := 0) hF6993 rfl
    refine r_iconst 0 rfl ?_
    refine r_istore_n ([(2, .int 0), (1, .int v6991), (0, .ref 231)]) rfl ?_
    refine r_iconst 0 rfl ?_
    refine r_istore_n ([(3, .int 0), (2, .int 0), (1, .int v6991), (0, .ref 231)]) rfl ?_
    refine Ar.fall 35 rfl ?_
    obtain ⟨v6997, hv6997⟩ : ∃ v, eA g0 233 0 = v := ⟨_, rfl⟩
    have tv6997 := congrArg Int32.toInt hv6997
    have wv6997 := HI.t0 hI0
    rw [hv6997] at wv6997
    have tv6997 := congrArg Int32.toInt hv6997
    obtain ⟨v6998, hv6998⟩ : ∃ v, eA g0 233 4 = v := ⟨_, rfl⟩
    have wv6998 := HI.t4 hI0
    rw [hv6998] at wv6998
    have tv6998 := congrArg Int32.toInt hv6998
    obtain ⟨v6999, hv6999⟩ : ∃ v, eA g0 233 5 = v := ⟨_, rfl⟩
    have wv6999 := HI.t5 hI0
    rw [hv6999] at wv6999
    have tv6999 := congrArg Int32.toInt hv6999
    obtain ⟨v7000, hv7000⟩ : ∃ v, eA g0 233 6 = v := ⟨_, rfl⟩
    have wv7000 := HI.t6 hI0
    rw [hv7000] at wv7000
    have tv7000 := congrArg Int32.toInt hv7000
    obtain ⟨v7001, hv7001⟩ : ∃ v, eA g0 233 2 = v := ⟨_, rfl⟩
    have tv7001 := congrArg Int32.toInt hv7001
    have wv7001 := HI.t2 hI0
    rw [hv7001] at wv7001
    have tv7001 := congrArg Int32.toInt hv7001
    obtain ⟨v7002, hv7002⟩ : ∃ v, eA g0 233 3 = v := ⟨_, rfl⟩
    have wv7002 := HI.t3 hI0
    rw [hv7002] at wv7002
    have tv7002 := congrArg Int32.toInt hv7002
    have z_10331 : (0 : Int32).toInt = 0 := rfl
    have z_10332 : (0 : Int32).toInt = 0 := rfl
    refine w_loopI (fun n_ l_ g_ => ∃ x10309 : Int32, ∃ x10310 : Int32, n_ = 405 - x10310.toInt ∧ HI g_ ∧ Fr F_X11_row_231 A_X11_row_231 g0 g_ ∧ gI g_ 231 8 = 0 ∧ eA g_ 233 0 = v6997 ∧ eA g_ 233 4 = v6998 ∧ eA g_ 233 5 = v6999 ∧ eA g_ 233 6 = v7000 ∧ eA g_ 233 2 = v7001 ∧ eA g_ 233 3 = v7002 ∧ en_get 0 l_ = some (.ref 231) ∧ en_get 1 l_ = some (.int v6991) ∧ en_get 2 l_ = some (.int x10309) ∧ en_get 3 l_ = some (.int x10310) ∧ (0 ≤ x10309.toInt ∧ x10309.toInt ≤ 400) ∧ (0 ≤ x10310.toInt ∧ x10310.toInt ≤ 405) ∧ (x10309.toInt ≤ x10310.toInt)) ?_ (405 - 0) ⟨0, 0, by first | rfl | omega, hI6995, hF6996, ((gI_sI_ne (by decide)).trans (gI_sI_eq hI6989.1 kx_231 rfl _)), (((eA_c gA_sI).trans ((eA_c gA_sI).trans (eA_c gA_sI))).trans hv6997), (((eA_c gA_sI).trans ((eA_c gA_sI).trans (eA_c gA_sI))).trans hv6998), (((eA_c gA_sI).trans ((eA_c gA_sI).trans (eA_c gA_sI))).trans hv6999), (((eA_c gA_sI).trans ((eA_c gA_sI).trans (eA_c gA_sI))).trans hv7000), (((eA_c gA_sI).trans ((eA_c gA_sI).trans (eA_c gA_sI))).trans hv7001), (((eA_c gA_sI).trans ((eA_c gA_sI).trans (eA_c gA_sI))).trans hv7002), rfl, rfl, rfl, rfl, by decide, by decide, by omega⟩
    rintro n10315 l10314 g10311 ⟨x10309, x10310, hm10333, hI10312, hF10313, e10317, e10318, e10319, e10320, e10321, e10322, e10323, e10324, e10325, e10326, e10327, r10328, r10329, q10330⟩ ih10316
    have tv10334 := congrArg Int32.toInt e10318
    have tv10335 := congrArg Int32.toInt e10319
    have tv10336 := congrArg Int32.toInt e10320
    have tv10337 := congrArg Int32.toInt e10321
    have tv10338 := congrArg Int32.toInt e10322
    have tv10339 := congrArg Int32.toInt e10323
    have tv10340 := congrArg Int32.toInt e10317
    refine At.enter rfl ?_
    refine r_iload_n e10327 ?_
    refine r_iload_n e10325 ?_
    have bv10342 := q_bnd x10310
    have bv10343 := q_bnd v6991
    refine r_ics 40 rfl (fun c10341 => ?_) (fun c10341 => ?_)
    · have c10341_ : x10310.toInt ≥ v6991.toInt := en_i_ge_t c10341
      refine At.enter rfl ?_
      refine r_aload_n e10324 ?_
      refine r_iload_n e10326 ?_
      refine r_callV 225 rfl [.ref 231, .int x10309] [] (Nat.le_of_ble_eq_true rfl) rfl (T_X11_tell_231 _ hI10312 x10309 (by omega)) ?_
      rintro _ _ ⟨g10344, rfl, hI10345, hF10346, v10347, rfl, hr10348⟩
      refine At.sti ?_
      have hF10349 := Fr.tr hF10313 hF10346 rfl rfl
      refine At.enter rfl ?_
      refine r_ireti ?_
      have x10350 := HI.eqI hI10345 (p := 231) (b := 8) (((hF10346.1 231 8 mf_X11_tell_231_231_8).trans e10317))
      have zv10351 : (0 : Int32).toInt = 0 := rfl
      have x10352 := HI.eqA hI10345 (p := 233) (j := 0) (((eA_c (hF10346.2.1 233 ma_X11_tell_231_233)).trans e10318))
      have x10353 := HI.eqA hI10345 (p := 233) (j := 4) (((eA_c (hF10346.2.1 233 ma_X11_tell_231_233)).trans e10319))
      have x10354 := HI.eqA hI10345 (p := 233) (j := 5) (((eA_c (hF10346.2.1 233 ma_X11_tell_231_233)).trans e10320))
      have x10355 := HI.eqA hI10345 (p := 233) (j := 6) (((eA_c (hF10346.2.1 233 ma_X11_tell_231_233)).trans e10321))
      have x10356 := HI.eqA hI10345 (p := 233) (j := 2) (((eA_c (hF10346.2.1 233 ma_X11_tell_231_233)).trans e10322))
      have x10357 := HI.eqA hI10345 (p := 233) (j := 3) (((eA_c (hF10346.2.1 233 ma_X11_tell_231_233)).trans e10323))
      have x10358 := HI.eqA hI0 (p := 233) (j := 0) (hv6997)
      have x10359 := HI.eqA hI0 (p := 233) (j := 4) (hv6998)
      have x10360 := HI.eqA hI0 (p := 233) (j := 5) (hv6999)
      have x10361 := HI.eqA hI0 (p := 233) (j := 6) (hv7000)
      have x10362 := HI.eqA hI0 (p := 233) (j := 2) (hv7001)
      have x10363 := HI.eqA hI0 (p := 233) (j := 3) (hv7002)
      exact ⟨_, rfl, hI10345, hF10349, _, rfl, by omega, ⟨by omega, by omega, by omega, by omega, by omega, by omega, by omega⟩⟩
    · have c10341_ : x10310.toInt < v6991.toInt := en_i_ge_f c10341
      refine At.enter rfl ?_
      refine r_iload_n e10327 ?_
      refine r_iconst 5 rfl ?_
      refine q_iadd (x10310.toInt + 5) rfl (by omega) (fun v10364 hv10364 => ?_)
      refine r_iload_n e10325 ?_
      have bv10366 := q_bnd v10364
      refine r_ics 47 rfl (fun c10365 => ?_) (fun c10365 => ?_)
      · have c10365_ : v10364.toInt ≥ v6991.toInt := en_i_ge_t c10365
        refine At.enter rfl ?_
        refine r_iconst 0 rfl ?_
        refine Ar.fall 63 rfl ?_
        refine At.enter rfl ?_
        refine r_istore _ rfl ?_
        refine r_iload (w_e1 _ _ _) ?_
        refine r_ift (by decide) ?_
        refine At.enter rfl ?_
        refine r_iconst 0 rfl ?_
        refine Ar.fall 141 rfl ?_
        refine At.enter rfl ?_
        refine r_istore _ rfl ?_
        refine r_iload (w_e1 _ _ _) ?_
        refine r_ift (by decide) ?_
        refine At.enter rfl ?_
        refine r_aload_n (w_p1 (by decide) (Or.inr rfl) (w_p1 (by decide) (Or.inr rfl) e10324)) ?_
        refine r_dup rfl ?_
        obtain ⟨v10367, hv10367⟩ : ∃ v, gI g10311 231 6 = v := ⟨_, rfl⟩
        refine q_getI (Sh.int hI10312.1 kx_231 rfl) v10367 hv10367 ?_
        refine r_iconst 1 rfl ?_
        refine q_iaddO (fun v10368 _ => ?_)
        refine q_putI (Sh.int hI10312.1 kx_231 rfl) rfl ?_
        have hI10369 := HI.wI0 hI10312 kx_231 rfl (p := 231) (b := 6) (v := v10368) rfl
        have hF10370 := Fr.wI (p := 231) (b := 6) (v := v10368) hF10313 rfl
        refine Ar.fall 214 rfl ?_
        refine At.enter rfl ?_
        refine q_iinc (w_p1 (by decide) (Or.inr rfl) (w_p1 (by decide) (Or.inr rfl) e10327)) (x10310.toInt + 6) rfl (by omega) (fun v10371 hv10371 => ?_)
        refine r_goto ?_
        exact ih10316 (405 - v10371.toInt) _ _ ⟨x10309, v10371, by first | rfl | omega, hI10369, hF10370, ((gI_sI_ne (by decide)).trans e10317), ((eA_c gA_sI).trans e10318), ((eA_c gA_sI).trans e10319), ((eA_c gA_sI).trans e10320), ((eA_c gA_sI).trans e10321), ((eA_c gA_sI).trans e10322), ((eA_c gA_sI).trans e10323), (w_p1 (by decide) (Or.inr rfl) (w_p1 (by decide) (Or.inr rfl) (w_p1 (by decide) (Or.inr rfl) e10324))), (w_p1 (by decide) (Or.inr rfl) (w_p1 (by decide) (Or.inr rfl) (w_p1 (by decide) (Or.inr rfl) e10325))), (w_p1 (by decide) (Or.inr rfl) (w_p1 (by decide) (Or.inr rfl) (w_p1 (by decide) (Or.inr rfl) e10326))), (w_e1 _ _ _), by omega, by omega, by omega⟩ ⟨by omega, by omega⟩
      · have c10365_ : v10364.toInt < v6991.toInt := en_i_ge_f c10365
        refine At.enter rfl ?_
        refine r_aload_n e10324 ?_
        refine q_getR (Sh.ref hI10312.1 kx_231 rfl) ?_
        refine r_iconst 1 rfl ?_
        obtain ⟨v10372, hv10372⟩ : ∃ v, eA g10311 233 1 = v := ⟨_, rfl⟩
        have tv10372 := congrArg Int32.toInt hv10372
        have wv10372 := HI.t1 hI10312
        rw [hv10372] at wv10372
        refine q_iald (Sh.arr hI10312.1 ka_233) 1 rfl (by decide) v10372 hv10372 ?_
        refine r_bipush 8 rfl ?_
        refine r_ics 58 rfl (fun c10373 => ?_) (fun c10373 => ?_)
        · have c10373_ : v10372.toInt ≥ 8 := en_i_ge_t c10373
          refine At.enter rfl ?_
          refine r_iconst 0 rfl ?_
          refine Ar.fall 63 rfl ?_
          refine At.enter rfl ?_
          refine r_istore _ rfl ?_
          refine r_iload (w_e1 _ _ _) ?_
          refine r_ift (by decide) ?_
          refine At.enter rfl ?_
          refine r_iconst 0 rfl ?_
          refine Ar.fall 141 rfl ?_
          refine At.enter rfl ?_
          refine r_istore _ rfl ?_
          refine r_iload (w_e1 _ _ _) ?_
          refine r_ift (by decide) ?_
          refine At.enter rfl ?_
          refine r_aload_n (w_p1 (by decide) (Or.inr rfl) (w_p1 (by decide) (Or.inr rfl) e10324)) ?_
          refine r_dup rfl ?_
          obtain ⟨v10374, hv10374⟩ : ∃ v, gI g10311 231 6 = v := ⟨_, rfl⟩
          refine q_getI (Sh.int hI10312.1 kx_231 rfl) v10374 hv10374 ?_
          refine r_iconst 1 rfl ?_
          refine q_iaddO (fun v10375 _ => ?_)
          refine q_putI (Sh.int hI10312.1 kx_231 rfl) rfl ?_
          have hI10376 := HI.wI0 hI10312 kx_231 rfl (p := 231) (b := 6) (v := v10375) rfl
          have hF10377 := Fr.wI (p := 231) (b := 6) (v := v10375) hF10313 rfl
          refine Ar.fall 214 rfl ?_
          refine At.enter rfl ?_
          refine q_iinc (w_p1 (by decide) (Or.inr rfl) (w_p1 (by decide) (Or.inr rfl) e10327)) (x10310.toInt + 6) rfl (by omega) (fun v10378 hv10378 => ?_)
          refine r_goto ?_
          exact ih10316 (405 - v10378.toInt) _ _ ⟨x10309, v10378, by first | rfl | omega, hI10376, hF10377, ((gI_sI_ne (by decide)).trans e10317), ((eA_c gA_sI).trans e10318), ((eA_c gA_sI).trans e10319), ((eA_c gA_sI).trans e10320), ((eA_c gA_sI).trans e10321), ((eA_c gA_sI).trans e10322), ((eA_c gA_sI).trans e10323), (w_p1 (by decide) (Or.inr rfl) (w_p1 (by decide) (Or.inr rfl) (w_p1 (by decide) (Or.inr rfl) e10324))), (w_p1 (by decide) (Or.inr rfl) (w_p1 (by decide) (Or.inr rfl) (w_p1 (by decide) (Or.inr rfl) e10325))), (w_p1 (by decide) (Or.inr rfl) (w_p1 (by decide) (Or.inr rfl) (w_p1 (by decide) (Or.inr rfl) e10326))), (w_e1 _ _ _), by omega, by omega, by omega⟩ ⟨by omega, by omega⟩
        · have c10373_ : v10372.toInt < 8 := en_i_ge_f c10373
          refine At.enter rfl ?_
          refine r_iconst 1 rfl ?_
          refine r_goto ?_
          refine At.enter rfl ?_
          refine r_istore _ rfl ?_
          refine r_iload (w_e1 _ _ _) ?_
          refine r_iff 70 rfl (by decide) ?_
          refine At.enter rfl ?_
          refine r_aload_n (w_p1 (by decide) (Or.inr rfl) e10324) ?_
          refine q_getR (Sh.ref hI10312.1 kx_231 rfl) ?_
          refine r_iload_n (w_p1 (by decide) (Or.inr rfl) e10327) ?_
          obtain ⟨v10379, hv10379⟩ : ∃ v, eA g0 236 x10310.toInt = v := ⟨_, rfl⟩
          refine q_iald (Sh.arr hI10312.1 ka_236) x10310.toInt rfl (by omega) v10379 ((eA_c (hF10313.2.1 236 (by decide))).trans hv10379) ?_
          refine r_aload_n (w_p1 (by decide) (Or.inr rfl) e10324) ?_
          refine q_getR (Sh.ref hI10312.1 kx_231 rfl) ?_
          refine r_iload_n (w_p1 (by decide) (Or.inr rfl) e10327) ?_
          refine r_iconst 3 rfl ?_
          refine q_iadd (x10310.toInt + 3) rfl (by omega) (fun v10380 hv10380 => ?_)
          obtain ⟨v10381, hv10381⟩ : ∃ v, eA g0 236 (x10310.toInt + 3) = v := ⟨_, rfl⟩
          refine q_iald (Sh.arr hI10312.1 ka_236) (x10310.toInt + 3) (by omega) (by omega) v10381 ((eA_c (hF10313.2.1 236 (by decide))).trans hv10381) ?_
          refine r_aload_n (w_p1 (by decide) (Or.inr rfl) e10324) ?_
          refine q_getR (Sh.ref hI10312.1 kx_231 rfl) ?_
          refine r_iload_n (w_p1 (by decide) (Or.inr rfl) e10327) ?_
          refine r_iconst 4 rfl ?_
          refine q_iadd (x10310.toInt + 4) rfl (by omega) (fun v10382 hv10382 => ?_)
          obtain ⟨v10383, hv10383⟩ : ∃ v, eA g0 236 (x10310.toInt + 4) = v := ⟨_, rfl⟩
          refine q_iald (Sh.arr hI10312.1 ka_236) (x10310.toInt + 4) (by omega) (by omega) v10383 ((eA_c (hF10313.2.1 236 (by decide))).trans hv10383) ?_
          refine r_aload_n (w_p1 (by decide) (Or.inr rfl) e10324) ?_
          refine q_getR (Sh.ref hI10312.1 kx_231 rfl) ?_
          refine r_iload_n (w_p1 (by decide) (Or.inr rfl) e10327) ?_
          refine r_iconst 5 rfl ?_
          refine q_iadd (x10310.toInt + 5) rfl (by omega) (fun v10384 hv10384 => ?_)
          obtain ⟨v10385, hv10385⟩ : ∃ v, eA g0 236 (x10310.toInt + 5) = v := ⟨_, rfl⟩
          refine q_iald (Sh.arr hI10312.1 ka_236) (x10310.toInt + 5) (by omega) (by omega) v10385 ((eA_c (hF10313.2.1 236 (by decide))).trans hv10385) ?_
          refine q_inlS 103 rfl [.int v10379, .int v10381, .int v10383, .int v10385] [] (Nat.le_of_ble_eq_true rfl) rfl ?_
          refine Ev.mk rfl rfl ⟨Nat.le_of_ble_eq_true rfl, Or.inl rfl⟩ ?_
          show At _ none _ _ (0, [(0, .int v10379), (1, .int v10381), (2, .int v10383), (3, .int v10385)], [], (_, _)) _
          refine At.enter rfl ?_
          refine r_iload_n rfl ?_
          refine q_i2l (fun v10386 hv10386 => ?_)
          refine r_lconst 1 rfl ?_
          refine r_ldc2 9 rfl ?_
          refine q_inlS 9 rfl [.long v10386, .long 1, .long 9] [] (Nat.le_of_ble_eq_true rfl) rfl ?_
          refine Ev.mk rfl rfl ⟨Nat.le_of_ble_eq_true rfl, Or.inl rfl⟩ ?_
          show At _ none _ _ (0, [(0, .long v10386), (2, .long 1), (4, .long 9)], [], (_, _)) _
          refine At.enter rfl ?_
          refine r_lload_n rfl ?_
          refine r_lload_n rfl ?_
          refine r_lcmp _ rfl ?_
          refine r_ifs 6 rfl (fun c10387 => ?_) (fun c10387 => ?_)
          · have c10387_ : v10386.toInt < 1 := en_j_lt_t c10387
            refine At.enter rfl ?_
            refine r_iconst 0 rfl ?_
            refine Ar.fall 18 rfl ?_
            refine At.enter rfl ?_
            refine q_iretz (by decide) ?_
            refine At.enter rfl ?_
            refine r_ift (by decide) ?_
            refine At.enter rfl ?_
            refine r_iconst 0 rfl ?_
            refine Ar.fall 53 rfl ?_
            refine At.enter rfl ?_
            refine q_iretz (by decide) ?_
            refine At.enter rfl ?_
            refine r_ift (by decide) ?_
            refine At.enter rfl ?_
            refine r_iconst 0 rfl ?_
            refine Ar.fall 141 rfl ?_
            refine At.enter rfl ?_
            refine r_istore _ rfl ?_
            refine r_iload (w_e1 _ _ _) ?_
            refine r_ift (by decide) ?_
            refine At.enter rfl ?_
            refine r_aload_n (w_p1 (by decide) (Or.inr rfl) (w_p1 (by decide) (Or.inr rfl) e10324)) ?_
            refine r_dup rfl ?_
            obtain ⟨v10388, hv10388⟩ : ∃ v, gI g10311 231 6 = v := ⟨_, rfl⟩
            refine q_getI (Sh.int hI10312.1 kx_231 rfl) v10388 hv10388 ?_
            refine r_iconst 1 rfl ?_
            refine q_iaddO (fun v10389 _ => ?_)
            refine q_putI (Sh.int hI10312.1 kx_231 rfl) rfl ?_
            have hI10390 := HI.wI0 hI10312 kx_231 rfl (p := 231) (b := 6) (v := v10389) rfl
            have hF10391 := Fr.wI (p := 231) (b := 6) (v := v10389) hF10313 rfl
            refine Ar.fall 214 rfl ?_
            refine At.enter rfl ?_
            refine q_iinc (w_p1 (by decide) (Or.inr rfl) (w_p1 (by decide) (Or.inr rfl) e10327)) (x10310.toInt + 6) rfl (by omega) (fun v10392 hv10392 => ?_)
            refine r_goto ?_
            exact ih10316 (405 - v10392.toInt) _ _ ⟨x10309, v10392, by first | rfl | omega, hI10390, hF10391, ((gI_sI_ne (by decide)).trans e10317), ((eA_c gA_sI).trans e10318), ((eA_c gA_sI).trans e10319), ((eA_c gA_sI).trans e10320), ((eA_c gA_sI).trans e10321), ((eA_c gA_sI).trans e10322), ((eA_c gA_sI).trans e10323), (w_p1 (by decide) (Or.inr rfl) (w_p1 (by decide) (Or.inr rfl) (w_p1 (by decide) (Or.inr rfl) e10324))), (w_p1 (by decide) (Or.inr rfl) (w_p1 (by decide) (Or.inr rfl) (w_p1 (by decide) (Or.inr rfl) e10325))), (w_p1 (by decide) (Or.inr rfl) (w_p1 (by decide) (Or.inr rfl) (w_p1 (by decide) (Or.inr rfl) e10326))), (w_e1 _ _ _), by omega, by omega, by omega⟩ ⟨by omega, by omega⟩
          · have c10387_ : v10386.toInt ≥ 1 := en_j_lt_f c10387
            refine At.enter rfl ?_
            refine r_lload_n rfl ?_
            refine r_lload rfl ?_
            refine r_lcmp _ rfl ?_
            refine r_ifs 13 rfl (fun c10393 => ?_) (fun c10393 => ?_)
            · have c10393_ : v10386.toInt > 9 := en_j_gt_t c10393
              refine At.enter rfl ?_
              refine r_iconst 0 rfl ?_
              refine Ar.fall 18 rfl ?_
              refine At.enter rfl ?_
              refine q_iretz (by decide) ?_
              refine At.enter rfl ?_
              refine r_ift (by decide) ?_
              refine At.enter rfl ?_
              refine r_iconst 0 rfl ?_
              refine Ar.fall 53 rfl ?_
              refine At.enter rfl ?_
              refine q_iretz (by decide) ?_
              refine At.enter rfl ?_
              refine r_ift (by decide) ?_
              refine At.enter rfl ?_
              refine r_iconst 0 rfl ?_
              refine Ar.fall 141 rfl ?_
              refine At.enter rfl ?_
              refine r_istore _ rfl ?_
              refine r_iload (w_e1 _ _ _) ?_
              refine r_ift (by decide) ?_
              refine At.enter rfl ?_
              refine r_aload_n (w_p1 (by decide) (Or.inr rfl) (w_p1 (by decide) (Or.inr rfl) e10324)) ?_
              refine r_dup rfl ?_
              obtain ⟨v10394, hv10394⟩ : ∃ v, gI g10311 231 6 = v := ⟨_, rfl⟩
              refine q_getI (Sh.int hI10312.1 kx_231 rfl) v10394 hv10394 ?_
              refine r_iconst 1 rfl ?_
              refine q_iaddO (fun v10395 _ => ?_)
              refine q_putI (Sh.int hI10312.1 kx_231 rfl) rfl ?_
              have hI10396 := HI.wI0 hI10312 kx_231 rfl (p := 231) (b := 6) (v := v10395) rfl
              have hF10397 := Fr.wI (p := 231) (b := 6) (v := v10395) hF10313 rfl
              refine Ar.fall 214 rfl ?_
              refine At.enter rfl ?_
              refine q_iinc (w_p1 (by decide) (Or.inr rfl) (w_p1 (by decide) (Or.inr rfl) e10327)) (x10310.toInt + 6) rfl (by omega) (fun v10398 hv10398 => ?_)
              refine r_goto ?_
              exact ih10316 (405 - v10398.toInt) _ _ ⟨x10309, v10398, by first | rfl | omega, hI10396, hF10397, ((gI_sI_ne (by decide)).trans e10317), ((eA_c gA_sI).trans e10318), ((eA_c gA_sI).trans e10319), ((eA_c gA_sI).trans e10320), ((eA_c gA_sI).trans e10321), ((eA_c gA_sI).trans e10322), ((eA_c gA_sI).trans e10323), (w_p1 (by decide) (Or.inr rfl) (w_p1 (by decide) (Or.inr rfl) (w_p1 (by decide) (Or.inr rfl) e10324))), (w_p1 (by decide) (Or.inr rfl) (w_p1 (by decide) (Or.inr rfl) (w_p1 (by decide) (Or.inr rfl) e10325))), (w_p1 (by decide) (Or.inr rfl) (w_p1 (by decide) (Or.inr rfl) (w_p1 (by decide) (Or.inr rfl) e10326))), (w_e1 _ _ _), by omega, by omega, by omega⟩ ⟨by omega, by omega⟩
            · have c10393_ : v10386.toInt ≤ 9 := en_j_gt_f c10393
              refine At.enter rfl ?_
              refine r_iconst 1 rfl ?_
              refine r_goto ?_
              refine At.enter rfl ?_
              refine q_iretz (by decide) ?_
              refine At.enter rfl ?_
              refine r_iff 12 rfl (by decide) ?_
              refine At.enter rfl ?_
              refine r_iload_n rfl ?_
              refine q_i2l (fun v10399 hv10399 => ?_)
              refine r_lconst 0 rfl ?_
              refine r_ldc2 99 rfl ?_
              refine q_inlS 21 rfl [.long v10399, .long 0, .long 99] [] (Nat.le_of_ble_eq_true rfl) rfl ?_
              refine Ev.mk rfl rfl ⟨Nat.le_of_ble_eq_true rfl, Or.inl rfl⟩ ?_
              show At _ none _ _ (0, [(0, .long v10399), (2, .long 0), (4, .long 99)], [], (_, _)) _
              refine At.enter rfl ?_
              refine r_lload_n rfl ?_
              refine r_lload_n rfl ?_
              refine r_lcmp _ rfl ?_
              refine r_ifs 6 rfl (fun c10400 => ?_) (fun c10400 => ?_)
              · have c10400_ : v10399.toInt < 0 := en_j_lt_t c10400
                refine At.enter rfl ?_
                refine r_iconst 0 rfl ?_
                refine Ar.fall 18 rfl ?_
                refine At.enter rfl ?_
                refine q_iretz (by decide) ?_
                refine At.enter rfl ?_
                refine r_ift (by decide) ?_
                refine At.enter rfl ?_
                refine r_iconst 0 rfl ?_
                refine Ar.fall 53 rfl ?_
                refine At.enter rfl ?_
                refine q_iretz (by decide) ?_
                refine At.enter rfl ?_
                refine r_ift (by decide) ?_
                refine At.enter rfl ?_
                refine r_iconst 0 rfl ?_
                refine Ar.fall 141 rfl ?_
                refine At.enter rfl ?_
                refine r_istore _ rfl ?_
                refine r_iload (w_e1 _ _ _) ?_
                refine r_ift (by decide) ?_
                refine At.enter rfl ?_
                refine r_aload_n (w_p1 (by decide) (Or.inr rfl) (w_p1 (by decide) (Or.inr rfl) e10324)) ?_
                refine r_dup rfl ?_
                obtain ⟨v10401, hv10401⟩ : ∃ v, gI g10311 231 6 = v := ⟨_, rfl⟩
                refine q_getI (Sh.int hI10312.1 kx_231 rfl) v10401 hv10401 ?_
                refine r_iconst 1 rfl ?_
                refine q_iaddO (fun v10402 _ => ?_)
                refine q_putI (Sh.int hI10312.1 kx_231 rfl) rfl ?_
                have hI10403 := HI.wI0 hI10312 kx_231 rfl (p := 231) (b := 6) (v := v10402) rfl
                have hF10404 := Fr.wI (p := 231) (b := 6) (v := v10402) hF10313 rfl
                refine Ar.fall 214 rfl ?_
                refine At.enter rfl ?_
                refine q_iinc (w_p1 (by decide) (Or.inr rfl) (w_p1 (by decide) (Or.inr rfl) e10327)) (x10310.toInt + 6) rfl (by omega) (fun v10405 hv10405 => ?_)
                refine r_goto ?_
                exact ih10316 (405 - v10405.toInt) _ _ ⟨x10309, v10405, by first | rfl | omega, hI10403, hF10404, ((gI_sI_ne (by decide)).trans e10317), ((eA_c gA_sI).trans e10318), ((eA_c gA_sI).trans e10319), ((eA_c gA_sI).trans e10320), ((eA_c gA_sI).trans e10321), ((eA_c gA_sI).trans e10322), ((eA_c gA_sI).trans e10323), (w_p1 (by decide) (Or.inr rfl) (w_p1 (by decide) (Or.inr rfl) (w_p1 (by decide) (Or.inr rfl) e10324))), (w_p1 (by decide) (Or.inr rfl) (w_p1 (by decide) (Or.inr rfl) (w_p1 (by decide) (Or.inr rfl) e10325))), (w_p1 (by decide) (Or.inr rfl) (w_p1 (by decide) (Or.inr rfl) (w_p1 (by decide) (Or.inr rfl) e10326))), (w_e1 _ _ _), by omega, by omega, by omega⟩ ⟨by omega, by omega⟩
              · have c10400_ : v10399.toInt ≥ 0 := en_j_lt_f c10400
                refine At.enter rfl ?_
                refine r_lload_n rfl ?_
                refine r_lload rfl ?_
                refine r_lcmp _ rfl ?_
                refine r_ifs 13 rfl (fun c10406 => ?_) (fun c10406 => ?_)
                · have c10406_ : v10399.toInt > 99 := en_j_gt_t c10406
                  refine At.enter rfl ?_
                  refine r_iconst 0 rfl ?_
                  refine Ar.fall 18 rfl ?_
                  refine At.enter rfl ?_
                  refine q_iretz (by decide) ?_
                  refine At.enter rfl ?_
                  refine r_ift (by decide) ?_
                  refine At.enter rfl ?_
                  refine r_iconst 0 rfl ?_
                  refine Ar.fall 53 rfl ?_
                  refine At.enter rfl ?_
                  refine q_iretz (by decide) ?_
                  refine At.enter rfl ?_
                  refine r_ift (by decide) ?_
                  refine At.enter rfl ?_
                  refine r_iconst 0 rfl ?_
                  refine Ar.fall 141 rfl ?_
                  refine At.enter rfl ?_
                  refine r_istore _ rfl ?_
                  refine r_iload (w_e1 _ _ _) ?_
                  refine r_ift (by decide) ?_
                  refine At.enter rfl ?_
                  refine r_aload_n (w_p1 (by decide) (Or.inr rfl) (w_p1 (by decide) (Or.inr rfl) e10324)) ?_
                  refine r_dup rfl ?_
                  obtain ⟨v10407, hv10407⟩ : ∃ v, gI g10311 231 6 = v := ⟨_, rfl⟩
                  refine q_getI (Sh.int hI10312.1 kx_231 rfl) v10407 hv10407 ?_
                  refine r_iconst 1 rfl ?_
                  refine q_iaddO (fun v10408 _ => ?_)
                  refine q_putI (Sh.int hI10312.1 kx_231 rfl) rfl ?_
                  have hI10409 := HI.wI0 hI10312 kx_231 rfl (p := 231) (b := 6) (v := v10408) rfl
                  have hF10410 := Fr.wI (p := 231) (b := 6) (v := v10408) hF10313 rfl
                  refine Ar.fall 214 rfl ?_
                  refine At.enter rfl ?_
                  refine q_iinc (w_p1 (by decide) (Or.inr rfl) (w_p1 (by decide) (Or.inr rfl) e10327)) (x10310.toInt + 6) rfl (by omega) (fun v10411 hv10411 => ?_)
                  refine r_goto ?_
                  exact ih10316 (405 - v10411.toInt) _ _ ⟨x10309, v10411, by first | rfl | omega, hI10409, hF10410, ((gI_sI_ne (by decide)).trans e10317), ((eA_c gA_sI).trans e10318), ((eA_c gA_sI).trans e10319), ((eA_c gA_sI).trans e10320), ((eA_c gA_sI).trans e10321), ((eA_c gA_sI).trans e10322), ((eA_c gA_sI).trans e10323), (w_p1 (by decide) (Or.inr rfl) (w_p1 (by decide) (Or.inr rfl) (w_p1 (by decide) (Or.inr rfl) e10324))), (w_p1 (by decide) (Or.inr rfl) (w_p1 (by decide) (Or.inr rfl) (w_p1 (by decide) (Or.inr rfl) e10325))), (w_p1 (by decide) (Or.inr rfl) (w_p1 (by decide) (Or.inr rfl) (w_p1 (by decide) (Or.inr rfl) e10326))), (w_e1 _ _ _), by omega, by omega, by omega⟩ ⟨by omega, by omega⟩
                · have c10406_ : v10399.toInt ≤ 99 := en_j_gt_f c10406
                  refine At.enter rfl ?_
                  refine r_iconst 1 rfl ?_
                  refine r_goto ?_
                  refine At.enter rfl ?_
                  refine q_iretz (by decide) ?_
                  refine At.enter rfl ?_
                  refine r_iff 24 rfl (by decide) ?_
                  refine At.enter rfl ?_
                  refine r_iload_n rfl ?_
                  refine q_i2l (fun v10412 hv10412 => ?_)
                  refine r_lconst 0 rfl ?_
                  refine r_ldc2 9 rfl ?_
                  refine q_inlS 33 rfl [.long v10412, .long 0, .long 9] [] (Nat.le_of_ble_eq_true rfl) rfl ?_
                  refine Ev.mk rfl rfl ⟨Nat.le_of_ble_eq_true rfl, Or.inl rfl⟩ ?_
                  show At _ none _ _ (0, [(0, .long v10412), (2, .long 0), (4, .long 9)], [], (_, _)) _
                  refine At.enter rfl ?_
                  refine r_lload_n rfl ?_
                  refine r_lload_n rfl ?_
                  refine r_lcmp _ rfl ?_
                  refine r_ifs 6 rfl (fun c10413 => ?_) (fun c10413 => ?_)
                  · have c10413_ : v10412.toInt < 0 := en_j_lt_t c10413
                    refine At.enter rfl ?_
                    refine r_iconst 0 rfl ?_
                    refine Ar.fall 18 rfl ?_
                    refine At.enter rfl ?_
                    refine q_iretz (by decide) ?_
                    refine At.enter rfl ?_
                    refine r_ift (by decide) ?_
                    refine At.enter rfl ?_
                    refine r_iconst 0 rfl ?_
                    refine Ar.fall 53 rfl ?_
                    refine At.enter rfl ?_
                    refine q_iretz (by decide) ?_
                    refine At.enter rfl ?_
                    refine r_ift (by decide) ?_
                    refine At.enter rfl ?_
                    refine r_iconst 0 rfl ?_
                    refine Ar.fall 141 rfl ?_
                    refine At.enter rfl ?_
                    refine r_istore _ rfl ?_
                    refine r_iload (w_e1 _ _ _) ?_
                    refine r_ift (by decide) ?_
                    refine At.enter rfl ?_
                    refine r_aload_n (w_p1 (by decide) (Or.inr rfl) (w_p1 (by decide) (Or.inr rfl) e10324)) ?_
                    refine r_dup rfl ?_
                    obtain ⟨v10414, hv10414⟩ : ∃ v, gI g10311 231 6 = v := ⟨_, rfl⟩
                    refine q_getI (Sh.int hI10312.1 kx_231 rfl) v10414 hv10414 ?_
                    refine r_iconst 1 rfl ?_
                    refine q_iaddO (fun v10415 _ => ?_)
                    refine q_putI (Sh.int hI10312.1 kx_231 rfl) rfl ?_
                    have hI10416 := HI.wI0 hI10312 kx_231 rfl (p := 231) (b := 6) (v := v10415) rfl
                    have hF10417 := Fr.wI (p := 231) (b := 6) (v := v10415) hF10313 rfl
                    refine Ar.fall 214 rfl ?_
                    refine At.enter rfl ?_
                    refine q_iinc (w_p1 (by decide) (Or.inr rfl) (w_p1 (by decide) (Or.inr rfl) e10327)) (x10310.toInt + 6) rfl (by omega) (fun v10418 hv10418 => ?_)
                    refine r_goto ?_
                    exact ih10316 (405 - v10418.toInt) _ _ ⟨x10309, v10418, by first | rfl | omega, hI10416, hF10417, ((gI_sI_ne (by decide)).trans e10317), ((eA_c gA_sI).trans e10318), ((eA_c gA_sI).trans e10319), ((eA_c gA_sI).trans e10320), ((eA_c gA_sI).trans e10321), ((eA_c gA_sI).trans e10322), ((eA_c gA_sI).trans e10323), (w_p1 (by decide) (Or.inr rfl) (w_p1 (by decide) (Or.inr rfl) (w_p1 (by decide) (Or.inr rfl) e10324))), (w_p1 (by decide) (Or.inr rfl) (w_p1 (by decide) (Or.inr rfl) (w_p1 (by decide) (Or.inr rfl) e10325))), (w_p1 (by decide) (Or.inr rfl) (w_p1 (by decide) (Or.inr rfl) (w_p1 (by decide) (Or.inr rfl) e10326))), (w_e1 _ _ _), by omega, by omega, by omega⟩ ⟨by omega, by omega⟩
                  · have c10413_ : v10412.toInt ≥ 0 := en_j_lt_f c10413
                    refine At.enter rfl ?_
                    refine r_lload_n rfl ?_
                    refine r_lload rfl ?_
                    refine r_lcmp _ rfl ?_
                    refine r_ifs 13 rfl (fun c10419 => ?_) (fun c10419 => ?_)
                    · have c10419_ : v10412.toInt > 9 := en_j_gt_t c10419
                      refine At.enter rfl ?_
                      refine r_iconst 0 rfl ?_
                      refine Ar.fall 18 rfl ?_
                      refine At.enter rfl ?_
                      refine q_iretz (by decide) ?_
                      refine At.enter rfl ?_
                      refine r_ift (by decide) ?_
                      refine At.enter rfl ?_
                      refine r_iconst 0 rfl ?_
                      refine Ar.fall 53 rfl ?_
                      refine At.enter rfl ?_
                      refine q_iretz (by decide) ?_
                      refine At.enter rfl ?_
                      refine r_ift (by decide) ?_
                      refine At.enter rfl ?_
                      refine r_iconst 0 rfl ?_
                      refine Ar.fall 141 rfl ?_
                      refine At.enter rfl ?_
                      refine r_istore _ rfl ?_
                      refine r_iload (w_e1 _ _ _) ?_
                      refine r_ift (by decide) ?_
                      refine At.enter rfl ?_
                      refine r_aload_n (w_p1 (by decide) (Or.inr rfl) (w_p1 (by decide) (Or.inr rfl) e10324)) ?_
                      refine r_dup rfl ?_
                      obtain ⟨v10420, hv10420⟩ : ∃ v, gI g10311 231 6 = v := ⟨_, rfl⟩
                      refine q_getI (Sh.int hI10312.1 kx_231 rfl) v10420 hv10420 ?_
                      refine r_iconst 1 rfl ?_
                      refine q_iaddO (fun v10421 _ => ?_)
                      refine q_putI (Sh.int hI10312.1 kx_231 rfl) rfl ?_
                      have hI10422 := HI.wI0 hI10312 kx_231 rfl (p := 231) (b := 6) (v := v10421) rfl
                      have hF10423 := Fr.wI (p := 231) (b := 6) (v := v10421) hF10313 rfl
                      refine Ar.fall 214 rfl ?_
                      refine At.enter rfl ?_
                      refine q_iinc (w_p1 (by decide) (Or.inr rfl) (w_p1 (by decide) (Or.inr rfl) e10327)) (x10310.toInt + 6) rfl (by omega) (fun v10424 hv10424 => ?_)
                      refine r_goto ?_
                      exact ih10316 (405 - v10424.toInt) _ _ ⟨x10309, v10424, by first | rfl | omega, hI10422, hF10423, ((gI_sI_ne (by decide)).trans e10317), ((eA_c gA_sI).trans e10318), ((eA_c gA_sI).trans e10319), ((eA_c gA_sI).trans e10320), ((eA_c gA_sI).trans e10321), ((eA_c gA_sI).trans e10322), ((eA_c gA_sI).trans e10323), (w_p1 (by decide) (Or.inr rfl) (w_p1 (by decide) (Or.inr rfl) (w_p1 (by decide) (Or.inr rfl) e10324))), (w_p1 (by decide) (Or.inr rfl) (w_p1 (by decide) (Or.inr rfl) (w_p1 (by decide) (Or.inr rfl) e10325))), (w_p1 (by decide) (Or.inr rfl) (w_p1 (by decide) (Or.inr rfl) (w_p1 (by decide) (Or.inr rfl) e10326))), (w_e1 _ _ _), by omega, by omega, by omega⟩ ⟨by omega, by omega⟩
                    · have c10419_ : v10412.toInt ≤ 9 := en_j_gt_f c10419
                      refine At.enter rfl ?_
                      refine r_iconst 1 rfl ?_
                      refine r_goto ?_
                      refine At.enter rfl ?_
                      refine q_iretz (by decide) ?_
                      refine At.enter rfl ?_
                      refine r_iff 36 rfl (by decide) ?_
                      refine At.enter rfl ?_
                      refine r_iload_n rfl ?_
                      refine q_i2l (fun v10425 hv10425 => ?_)
                      refine r_lconst 0 rfl ?_
                      refine r_ldc2 9999 rfl ?_
                      refine q_inlS 45 rfl [.long v10425, .long 0, .long 9999] [] (Nat.le_of_ble_eq_true rfl) rfl ?_
                      refine Ev.mk rfl rfl ⟨Nat.le_of_ble_eq_true rfl, Or.inl rfl⟩ ?_
                      show At _ none _ _ (0, [(0, .long v10425), (2, .long 0), (4, .long 9999)], [], (_, _)) _
                      refine At.enter rfl ?_
                      refine r_lload_n rfl ?_
                      refine r_lload_n rfl ?_
                      refine r_lcmp _ rfl ?_
                      refine r_ifs 6 rfl (fun c10426 => ?_) (fun c10426 => ?_)
                      · have c10426_ : v10425.toInt < 0 := en_j_lt_t c10426
                        refine At.enter rfl ?_
                        refine r_iconst 0 rfl ?_
                        refine Ar.fall 18 rfl ?_
                        refine At.enter rfl ?_
                        refine q_iretz (by decide) ?_
                        refine At.enter rfl ?_
                        refine r_ift (by decide) ?_
                        refine At.enter rfl ?_
                        refine r_iconst 0 rfl ?_
                        refine Ar.fall 53 rfl ?_
                        refine At.enter rfl ?_
                        refine q_iretz (by decide) ?_
                        refine At.enter rfl ?_
                        refine r_ift (by decide) ?_
                        refine At.enter rfl ?_
                        refine r_iconst 0 rfl ?_
                        refine Ar.fall 141 rfl ?_
                        refine At.enter rfl ?_
                        refine r_istore _ rfl ?_
                        refine r_iload (w_e1 _ _ _) ?_
                        refine r_ift (by decide) ?_
                        refine At.enter rfl ?_
                        refine r_aload_n (w_p1 (by decide) (Or.inr rfl) (w_p1 (by decide) (Or.inr rfl) e10324)) ?_
                        refine r_dup rfl ?_
                        obtain ⟨v10427, hv10427⟩ : ∃ v, gI g10311 231 6 = v := ⟨_, rfl⟩
                        refine q_getI (Sh.int hI10312.1 kx_231 rfl) v10427 hv10427 ?_
                        refine r_iconst 1 rfl ?_
                        refine q_iaddO (fun v10428 _ => ?_)
                        refine q_putI (Sh.int hI10312.1 kx_231 rfl) rfl ?_
                        have hI10429 := HI.wI0 hI10312 kx_231 rfl (p := 231) (b := 6) (v := v10428) rfl
                        have hF10430 := Fr.wI (p := 231) (b := 6) (v := v10428) hF10313 rfl
                        refine Ar.fall 214 rfl ?_
                        refine At.enter rfl ?_
                        refine q_iinc (w_p1 (by decide) (Or.inr rfl) (w_p1 (by decide) (Or.inr rfl) e10327)) (x10310.toInt + 6) rfl (by omega) (fun v10431 hv10431 => ?_)
                        refine r_goto ?_
                        exact ih10316 (405 - v10431.toInt) _ _ ⟨x10309, v10431, by first | rfl | omega, hI10429, hF10430, ((gI_sI_ne (by decide)).trans e10317), ((eA_c gA_sI).trans e10318), ((eA_c gA_sI).trans e10319), ((eA_c gA_sI).trans e10320), ((eA_c gA_sI).trans e10321), ((eA_c gA_sI).trans e10322), ((eA_c gA_sI).trans e10323), (w_p1 (by decide) (Or.inr rfl) (w_p1 (by decide) (Or.inr rfl) (w_p1 (by decide) (Or.inr rfl) e10324))), (w_p1 (by decide) (Or.inr rfl) (w_p1 (by decide) (Or.inr rfl) (w_p1 (by decide) (Or.inr rfl) e10325))), (w_p1 (by decide) (Or.inr rfl) (w_p1 (by decide) (Or.inr rfl) (w_p1 (by decide) (Or.inr rfl) e10326))), (w_e1 _ _ _), by omega, by omega, by omega⟩ ⟨by omega, by omega⟩
                      · have c10426_ : v10425.toInt ≥ 0 := en_j_lt_f c10426
                        refine At.enter rfl ?_
                        refine r_lload_n rfl ?_
                        refine r_lload rfl ?_
                        refine r_lcmp _ rfl ?_
                        refine r_ifs 13 rfl (fun c10432 => ?_) (fun c10432 => ?_)
                        · have c10432_ : v10425.toInt > 9999 := en_j_gt_t c10432
                          refine At.enter rfl ?_
                          refine r_iconst 0 rfl ?_
                          refine Ar.fall 18 rfl ?_
                          refine At.enter rfl ?_
                          refine q_iretz (by decide) ?_
                          refine At.enter rfl ?_
                          refine r_ift (by decide) ?_
                          refine At.enter rfl ?_
                          refine r_iconst 0 rfl ?_
                          refine Ar.fall 53 rfl ?_
                          refine At.enter rfl ?_
                          refine q_iretz (by decide) ?_
                          refine At.enter rfl ?_
                          refine r_ift (by decide) ?_
                          refine At.enter rfl ?_
                          refine r_iconst 0 rfl ?_
                          refine Ar.fall 141 rfl ?_
                          refine At.enter rfl ?_
                          refine r_istore _ rfl ?_
                          refine r_iload (w_e1 _ _ _) ?_
                          refine r_ift (by decide) ?_
                          refine At.enter rfl ?_
                          refine r_aload_n (w_p1 (by decide) (Or.inr rfl) (w_p1 (by decide) (Or.inr rfl) e10324)) ?_
                          refine r_dup rfl ?_
                          obtain ⟨v10433, hv10433⟩ : ∃ v, gI g10311 231 6 = v := ⟨_, rfl⟩
                          refine q_getI (Sh.int hI10312.1 kx_231 rfl) v10433 hv10433 ?_
                          refine r_iconst 1 rfl ?_
                          refine q_iaddO (fun v10434 _ => ?_)
                          refine q_putI (Sh.int hI10312.1 kx_231 rfl) rfl ?_
                          have hI10435 := HI.wI0 hI10312 kx_231 rfl (p := 231) (b := 6) (v := v10434) rfl
                          have hF10436 := Fr.wI (p := 231) (b := 6) (v := v10434) hF10313 rfl
                          refine Ar.fall 214 rfl ?_
                          refine At.enter rfl ?_
                          refine q_iinc (w_p1 (by decide) (Or.inr rfl) (w_p1 (by decide) (Or.inr rfl) e10327)) (x10310.toInt + 6) rfl (by omega) (fun v10437 hv10437 => ?_)
                          refine r_goto ?_
                          exact ih10316 (405 - v10437.toInt) _ _ ⟨x10309, v10437, by first | rfl | omega, hI10435, hF10436, ((gI_sI_ne (by decide)).trans e10317), ((eA_c gA_sI).trans e10318), ((eA_c gA_sI).trans e10319), ((eA_c gA_sI).trans e10320), ((eA_c gA_sI).trans e10321), ((eA_c gA_sI).trans e10322), ((eA_c gA_sI).trans e10323), (w_p1 (by decide) (Or.inr rfl) (w_p1 (by decide) (Or.inr rfl) (w_p1 (by decide) (Or.inr rfl) e10324))), (w_p1 (by decide) (Or.inr rfl) (w_p1 (by decide) (Or.inr rfl) (w_p1 (by decide) (Or.inr rfl) e10325))), (w_p1 (by decide) (Or.inr rfl) (w_p1 (by decide) (Or.inr rfl) (w_p1 (by decide) (Or.inr rfl) e10326))), (w_e1 _ _ _), by omega, by omega, by omega⟩ ⟨by omega, by omega⟩
                        · have c10432_ : v10425.toInt ≤ 9999 := en_j_gt_f c10432
                          refine At.enter rfl ?_
                          refine r_iconst 1 rfl ?_
                          refine r_goto ?_
                          refine At.enter rfl ?_
                          refine q_iretz (by decide) ?_
                          refine At.enter rfl ?_
                          refine r_iff 48 rfl (by decide) ?_
                          refine At.enter rfl ?_
                          refine r_iconst 1 rfl ?_
                          refine r_goto ?_
                          refine At.enter rfl ?_
                          refine q_iretz (by decide) ?_
                          refine At.enter rfl ?_
                          refine r_iff 106 rfl (by decide) ?_
                          refine At.enter rfl ?_
                          refine r_aload_n (w_p1 (by decide) (Or.inr rfl) e10324) ?_
                          refine r_aload_n (w_p1 (by decide) (Or.inr rfl) e10324) ?_
                          refine q_getR (Sh.ref hI10312.1 kx_231 rfl) ?_
                          refine r_iload_n (w_p1 (by decide) (Or.inr rfl) e10327) ?_
                          refine r_iconst 1 rfl ?_
                          refine q_iadd (x10310.toInt + 1) rfl (by omega) (fun v10438 hv10438 => ?_)
                          obtain ⟨v10439, hv10439⟩ : ∃ v, eA g0 236 (x10310.toInt + 1) = v := ⟨_, rfl⟩
                          refine q_iald (Sh.arr hI10312.1 ka_236) (x10310.toInt + 1) (by omega) (by omega) v10439 ((eA_c (hF10313.2.1 236 (by decide))).trans hv10439) ?_
                          refine q_inlV 118 rfl [.ref 231, .int v10439] [] (Nat.le_of_ble_eq_true rfl) rfl ?_
                          refine Ev.mk rfl rfl ⟨Nat.le_of_ble_eq_true rfl, Or.inr (q_rc hI10312.1 kx_231 rfl)⟩ ?_
                          show At _ none _ _ (0, [(0, .ref 231), (1, .int v10439)], [], (_, _)) _
                          refine At.enter rfl ?_
                          refine r_iload_n rfl ?_
                          refine q_i2l (fun v10440 hv10440 => ?_)
                          refine r_lconst 0 rfl ?_
                          refine r_aload_n rfl ?_
                          refine q_getR (Sh.ref hI10312.1 kx_231 rfl) ?_
                          refine r_iconst 0 rfl ?_
                          refine q_iald (Sh.arr hI10312.1 ka_233) 0 rfl (by decide) v6997 e10318 ?_
                          refine q_i2l (fun v10441 hv10441 => ?_)
                          refine r_lconst 1 rfl ?_
                          refine q_lsub (v10441.toInt - 1) rfl (by omega) (fun v10442 hv10442 => ?_)
                          refine q_inlS 15 rfl [.long v10440, .long 0, .long v10442] [] (Nat.le_of_ble_eq_true rfl) rfl ?_
                          refine Ev.mk rfl rfl ⟨Nat.le_of_ble_eq_true rfl, Or.inl rfl⟩ ?_
                          show At _ none _ _ (0, [(0, .long v10440), (2, .long 0), (4, .long v10442)], [], (_, _)) _
                          refine At.enter rfl ?_
                          refine r_lload_n rfl ?_
                          refine r_lload_n rfl ?_
                          refine r_lcmp _ rfl ?_
                          refine r_ifs 6 rfl (fun c10443 => ?_) (fun c10443 => ?_)
                          · have c10443_ : v10440.toInt < 0 := en_j_lt_t c10443
                            refine At.enter rfl ?_
                            refine r_iconst 0 rfl ?_
                            refine Ar.fall 18 rfl ?_
                            refine At.enter rfl ?_
                            refine q_iretz (by decide) ?_
                            refine At.enter rfl ?_
                            refine q_iretz (by decide) ?_
                            refine At.enter rfl ?_
                            refine r_ift (by decide) ?_
                            refine At.enter rfl ?_
                            refine r_iconst 0 rfl ?_
                            refine Ar.fall 141 rfl ?_
                            refine At.enter rfl ?_
                            refine r_istore _ rfl ?_
                            refine r_iload (w_e1 _ _ _) ?_
                            refine r_ift (by decide) ?_
                            refine At.enter rfl ?_
                            refine r_aload_n (w_p1 (by decide) (Or.inr rfl) (w_p1 (by decide) (Or.inr rfl) e10324)) ?_
                            refine r_dup rfl ?_
                            obtain ⟨v10444, hv10444⟩ : ∃ v, gI g10311 231 6 = v := ⟨_, rfl⟩
                            refine q_getI (Sh.int hI10312.1 kx_231 rfl) v10444 hv10444 ?_
                            refine r_iconst 1 rfl ?_
                            refine q_iaddO (fun v10445 _ => ?_)
                            refine q_putI (Sh.int hI10312.1 kx_231 rfl) rfl ?_
                            have hI10446 := HI.wI0 hI10312 kx_231 rfl (p := 231) (b := 6) (v := v10445) rfl
                            have hF10447 := Fr.wI (p := 231) (b := 6) (v := v10445) hF10313 rfl
                            refine Ar.fall 214 rfl ?_
                            refine At.enter rfl ?_
                            refine q_iinc (w_p1 (by decide) (Or.inr rfl) (w_p1 (by decide) (Or.inr rfl) e10327)) (x10310.toInt + 6) rfl (by omega) (fun v10448 hv10448 => ?_)
                            refine r_goto ?_
                            exact ih10316 (405 - v10448.toInt) _ _ ⟨x10309, v10448, by first | rfl | omega, hI10446, hF10447, ((gI_sI_ne (by decide)).trans e10317), ((eA_c gA_sI).trans e10318), ((eA_c gA_sI).trans e10319), ((eA_c gA_sI).trans e10320), ((eA_c gA_sI).trans e10321), ((eA_c gA_sI).trans e10322), ((eA_c gA_sI).trans e10323), (w_p1 (by decide) (Or.inr rfl) (w_p1 (by decide) (Or.inr rfl) (w_p1 (by decide) (Or.inr rfl) e10324))), (w_p1 (by decide) (Or.inr rfl) (w_p1 (by decide) (Or.inr rfl) (w_p1 (by decide) (Or.inr rfl) e10325))), (w_p1 (by decide) (Or.inr rfl) (w_p1 (by decide) (Or.inr rfl) (w_p1 (by decide) (Or.inr rfl) e10326))), (w_e1 _ _ _), by omega, by omega, by omega⟩ ⟨by omega, by omega⟩
                          · have c10443_ : v10440.toInt ≥ 0 := en_j_lt_f c10443
                            refine At.enter rfl ?_
                            refine r_lload_n rfl ?_
                            refine r_lload rfl ?_
                            refine r_lcmp _ rfl ?_
                            refine r_ifs 13 rfl (fun c10449 => ?_) (fun c10449 => ?_)
                            · have c10449_ : v10440.toInt > v10442.toInt := en_j_gt_t c10449
                              refine At.enter rfl ?_
                              refine r_iconst 0 rfl ?_
                              refine Ar.fall 18 rfl ?_
                              refine At.enter rfl ?_
                              refine q_iretz (by decide) ?_
                              refine At.enter rfl ?_
                              refine q_iretz (by decide) ?_
                              refine At.enter rfl ?_
                              refine r_ift (by decide) ?_
                              refine At.enter rfl ?_
                              refine r_iconst 0 rfl ?_
                              refine Ar.fall 141 rfl ?_
                              refine At.enter rfl ?_
                              refine r_istore _ rfl ?_
                              refine r_iload (w_e1 _ _ _) ?_
                              refine r_ift (by decide) ?_
                              refine At.enter rfl ?_
                              refine r_aload_n (w_p1 (by decide) (Or.inr rfl) (w_p1 (by decide) (Or.inr rfl) e10324)) ?_
                              refine r_dup rfl ?_
                              obtain ⟨v10450, hv10450⟩ : ∃ v, gI g10311 231 6 = v := ⟨_, rfl⟩
                              refine q_getI (Sh.int hI10312.1 kx_231 rfl) v10450 hv10450 ?_
                              refine r_iconst 1 rfl ?_
                              refine q_iaddO (fun v10451 _ => ?_)
                              refine q_putI (Sh.int hI10312.1 kx_231 rfl) rfl ?_
                              have hI10452 := HI.wI0 hI10312 kx_231 rfl (p := 231) (b := 6) (v := v10451) rfl
                              have hF10453 := Fr.wI (p := 231) (b := 6) (v := v10451) hF10313 rfl
                              refine Ar.fall 214 rfl ?_
                              refine At.enter rfl ?_
                              refine q_iinc (w_p1 (by decide) (Or.inr rfl) (w_p1 (by decide) (Or.inr rfl) e10327)) (x10310.toInt + 6) rfl (by omega) (fun v10454 hv10454 => ?_)
                              refine r_goto ?_
                              exact ih10316 (405 - v10454.toInt) _ _ ⟨x10309, v10454, by first | rfl | omega, hI10452, hF10453, ((gI_sI_ne (by decide)).trans e10317), ((eA_c gA_sI).trans e10318), ((eA_c gA_sI).trans e10319), ((eA_c gA_sI).trans e10320), ((eA_c gA_sI).trans e10321), ((eA_c gA_sI).trans e10322), ((eA_c gA_sI).trans e10323), (w_p1 (by decide) (Or.inr rfl) (w_p1 (by decide) (Or.inr rfl) (w_p1 (by decide) (Or.inr rfl) e10324))), (w_p1 (by decide) (Or.inr rfl) (w_p1 (by decide) (Or.inr rfl) (w_p1 (by decide) (Or.inr rfl) e10325))), (w_p1 (by decide) (Or.inr rfl) (w_p1 (by decide) (Or.inr rfl) (w_p1 (by decide) (Or.inr rfl) e10326))), (w_e1 _ _ _), by omega, by omega, by omega⟩ ⟨by omega, by omega⟩
                            · have c10449_ : v10440.toInt ≤ v10442.toInt := en_j_gt_f c10449
                              refine At.enter rfl ?_
                              refine r_iconst 1 rfl ?_
                              refine r_goto ?_
                              refine At.enter rfl ?_
                              refine q_iretz (by decide) ?_
                              refine At.enter rfl ?_
                              refine q_iretz (by decide) ?_
                              refine At.enter rfl ?_
                              refine r_iff 121 rfl (by decide) ?_
                              refine At.enter rfl ?_
                              refine r_aload_n (w_p1 (by decide) (Or.inr rfl) e10324) ?_
                              refine r_aload_n (w_p1 (by decide) (Or.inr rfl) e10324) ?_
                              refine q_getR (Sh.ref hI10312.1 kx_231 rfl) ?_
                              refine r_iload_n (w_p1 (by decide) (Or.inr rfl) e10327) ?_
                              refine r_iconst 2 rfl ?_
                              refine q_iadd (x10310.toInt + 2) rfl (by omega) (fun v10455 hv10455 => ?_)
                              obtain ⟨v10456, hv10456⟩ : ∃ v, eA g0 236 (x10310.toInt + 2) = v := ⟨_, rfl⟩
                              refine q_iald (Sh.arr hI10312.1 ka_236) (x10310.toInt + 2) (by omega) (by omega) v10456 ((eA_c (hF10313.2.1 236 (by decide))).trans hv10456) ?_
                              refine q_inlV 133 rfl [.ref 231, .int v10456] [] (Nat.le_of_ble_eq_true rfl) rfl ?_
                              refine Ev.mk rfl rfl ⟨Nat.le_of_ble_eq_true rfl, Or.inr (q_rc hI10312.1 kx_231 rfl)⟩ ?_
                              show At _ none _ _ (0, [(0, .ref 231), (1, .int v10456)], [], (_, _)) _
                              refine At.enter rfl ?_
                              refine r_iload_n rfl ?_
                              refine q_i2l (fun v10457 hv10457 => ?_)
                              refine r_lconst 0 rfl ?_
                              refine r_aload_n rfl ?_
                              refine q_getR (Sh.ref hI10312.1 kx_231 rfl) ?_
                              refine r_iconst 0 rfl ?_
                              refine q_iald (Sh.arr hI10312.1 ka_233) 0 rfl (by decide) v6997 e10318 ?_
                              refine q_i2l (fun v10458 hv10458 => ?_)
                              refine r_lconst 1 rfl ?_
                              refine q_lsub (v10458.toInt - 1) rfl (by omega) (fun v10459 hv10459 => ?_)
                              refine q_inlS 15 rfl [.long v10457, .long 0, .long v10459] [] (Nat.le_of_ble_eq_true rfl) rfl ?_
                              refine Ev.mk rfl rfl ⟨Nat.le_of_ble_eq_true rfl, Or.inl rfl⟩ ?_
                              show At _ none _ _ (0, [(0, .long v10457), (2, .long 0), (4, .long v10459)], [], (_, _)) _
                              refine At.enter rfl ?_
                              refine r_lload_n rfl ?_
                              refine r_lload_n rfl ?_
                              refine r_lcmp _ rfl ?_
                              refine r_ifs 6 rfl (fun c10460 => ?_) (fun c10460 => ?_)
                              · have c10460_ : v10457.toInt < 0 := en_j_lt_t c10460
                                refine At.enter rfl ?_
                                refine r_iconst 0 rfl ?_
                                refine Ar.fall 18 rfl ?_
                                refine At.enter rfl ?_
                                refine q_iretz (by decide) ?_
                                refine At.enter rfl ?_
                                refine q_iretz (by decide) ?_
                                refine At.enter rfl ?_
                                refine r_ift (by decide) ?_
                                refine At.enter rfl ?_
                                refine r_iconst 0 rfl ?_
                                refine Ar.fall 141 rfl ?_
                                refine At.enter rfl ?_
                                refine r_istore _ rfl ?_
                                refine r_iload (w_e1 _ _ _) ?_
                                refine r_ift (by decide) ?_
                                refine At.enter rfl ?_
                                refine r_aload_n (w_p1 (by decide) (Or.inr rfl) (w_p1 (by decide) (Or.inr rfl) e10324)) ?_
                                refine r_dup rfl ?_
                                obtain ⟨v10461, hv10461⟩ : ∃ v, gI g10311 231 6 = v := ⟨_, rfl⟩
                                refine q_getI (Sh.int hI10312.1 kx_231 rfl) v10461 hv10461 ?_
                                refine r_iconst 1 rfl ?_
                                refine q_iaddO (fun v10462 _ => ?_)
                                refine q_putI (Sh.int hI10312.1 kx_231 rfl) rfl ?_
                                have hI10463 := HI.wI0 hI10312 kx_231 rfl (p := 231) (b := 6) (v := v10462) rfl
                                have hF10464 := Fr.wI (p := 231) (b := 6) (v := v10462) hF10313 rfl
                                refine Ar.fall 214 rfl ?_
                                refine At.enter rfl ?_
                                refine q_iinc (w_p1 (by decide) (Or.inr rfl) (w_p1 (by decide) (Or.inr rfl) e10327)) (x10310.toInt + 6) rfl (by omega) (fun v10465 hv10465 => ?_)
                                refine r_goto ?_
                                exact ih10316 (405 - v10465.toInt) _ _ ⟨x10309, v10465, by first | rfl | omega, hI10463, hF10464, ((gI_sI_ne (by decide)).trans e10317), ((eA_c gA_sI).trans e10318), ((eA_c gA_sI).trans e10319), ((eA_c gA_sI).trans e10320), ((eA_c gA_sI).trans e10321), ((eA_c gA_sI).trans e10322), ((eA_c gA_sI).trans e10323), (w_p1 (by decide) (Or.inr rfl) (w_p1 (by decide) (Or.inr rfl) (w_p1 (by decide) (Or.inr rfl) e10324))), (w_p1 (by decide) (Or.inr rfl) (w_p1 (by decide) (Or.inr rfl) (w_p1 (by decide) (Or.inr rfl) e10325))), (w_p1 (by decide) (Or.inr rfl) (w_p1 (by decide) (Or.inr rfl) (w_p1 (by decide) (Or.inr rfl) e10326))), (w_e1 _ _ _), by omega, by omega, by omega⟩ ⟨by omega, by omega⟩
                              · have c10460_ : v10457.toInt ≥ 0 := en_j_lt_f c10460
                                refine At.enter rfl ?_
                                refine r_lload_n rfl ?_
                                refine r_lload rfl ?_
                                refine r_lcmp _ rfl ?_
                                refine r_ifs 13 rfl (fun c10466 => ?_) (fun c10466 => ?_)
                                · have c10466_ : v10457.toInt > v10459.toInt := en_j_gt_t c10466
                                  refine At.enter rfl ?_
                                  refine r_iconst 0 rfl ?_
                                  refine Ar.fall 18 rfl ?_
                                  refine At.enter rfl ?_
                                  refine q_iretz (by decide) ?_
                                  refine At.enter rfl ?_
                                  refine q_iretz (by decide) ?_
                                  refine At.enter rfl ?_
                                  refine r_ift (by decide) ?_
                                  refine At.enter rfl ?_
                                  refine r_iconst 0 rfl ?_
                                  refine Ar.fall 141 rfl ?_
                                  refine At.enter rfl ?_
                                  refine r_istore _ rfl ?_
                                  refine r_iload (w_e1 _ _ _) ?_
                                  refine r_ift (by decide) ?_
                                  refine At.enter rfl ?_
                                  refine r_aload_n (w_p1 (by decide) (Or.inr rfl) (w_p1 (by decide) (Or.inr rfl) e10324)) ?_
                                  refine r_dup rfl ?_
                                  obtain ⟨v10467, hv10467⟩ : ∃ v, gI g10311 231 6 = v := ⟨_, rfl⟩
                                  refine q_getI (Sh.int hI10312.1 kx_231 rfl) v10467 hv10467 ?_
                                  refine r_iconst 1 rfl ?_
                                  refine q_iaddO (fun v10468 _ => ?_)
                                  refine q_putI (Sh.int hI10312.1 kx_231 rfl) rfl ?_
                                  have hI10469 := HI.wI0 hI10312 kx_231 rfl (p := 231) (b := 6) (v := v10468) rfl
                                  have hF10470 := Fr.wI (p := 231) (b := 6) (v := v10468) hF10313 rfl
                                  refine Ar.fall 214 rfl ?_
                                  refine At.enter rfl ?_
                                  refine q_iinc (w_p1 (by decide) (Or.inr rfl) (w_p1 (by decide) (Or.inr rfl) e10327)) (x10310.toInt + 6) rfl (by omega) (fun v10471 hv10471 => ?_)
                                  refine r_goto ?_
                                  exact ih10316 (405 - v10471.toInt) _ _ ⟨x10309, v10471, by first | rfl | omega, hI10469, hF10470, ((gI_sI_ne (by decide)).trans e10317), ((eA_c gA_sI).trans e10318), ((eA_c gA_sI).trans e10319), ((eA_c gA_sI).trans e10320), ((eA_c gA_sI).trans e10321), ((eA_c gA_sI).trans e10322), ((eA_c gA_sI).trans e10323), (w_p1 (by decide) (Or.inr rfl) (w_p1 (by decide) (Or.inr rfl) (w_p1 (by decide) (Or.inr rfl) e10324))), (w_p1 (by decide) (Or.inr rfl) (w_p1 (by decide) (Or.inr rfl) (w_p1 (by decide) (Or.inr rfl) e10325))), (w_p1 (by decide) (Or.inr rfl) (w_p1 (by decide) (Or.inr rfl) (w_p1 (by decide) (Or.inr rfl) e10326))), (w_e1 _ _ _), by omega, by omega, by omega⟩ ⟨by omega, by omega⟩
                                · have c10466_ : v10457.toInt ≤ v10459.toInt := en_j_gt_f c10466
                                  refine At.enter rfl ?_
                                  refine r_iconst 1 rfl ?_
                                  refine r_goto ?_
                                  refine At.enter rfl ?_
                                  refine q_iretz (by decide) ?_
                                  refine At.enter rfl ?_
                                  refine q_iretz (by decide) ?_
                                  refine At.enter rfl ?_
                                  refine r_iff 136 rfl (by decide) ?_
                                  refine At.enter rfl ?_
                                  refine r_iconst 1 rfl ?_
                                  refine r_goto ?_
                                  refine At.enter rfl ?_
                                  refine r_istore _ rfl ?_
                                  refine r_iload (w_e1 _ _ _) ?_
                                  refine r_iff 148 rfl (by decide) ?_
                                  refine At.enter rfl ?_
                                  refine r_aload_n (w_p1 (by decide) (Or.inr rfl) (w_p1 (by decide) (Or.inr rfl) e10324)) ?_
                                  refine r_aload_n (w_p1 (by decide) (Or.inr rfl) (w_p1 (by decide) (Or.inr rfl) e10324)) ?_
                                  refine q_getR (Sh.ref hI10312.1 kx_231 rfl) ?_
                                  refine r_iload_n (w_p1 (by decide) (Or.inr rfl) (w_p1 (by decide) (Or.inr rfl) e10327)) ?_
                                  refine q_iald (Sh.arr hI10312.1 ka_236) x10310.toInt rfl (by omega) v10379 ((eA_c (hF10313.2.1 236 (by decide))).trans hv10379) ?_
                                  refine r_aload_n (w_p1 (by decide) (Or.inr rfl) (w_p1 (by decide) (Or.inr rfl) e10324)) ?_
                                  refine q_getR (Sh.ref hI10312.1 kx_231 rfl) ?_
                                  refine r_iload_n (w_p1 (by decide) (Or.inr rfl) (w_p1 (by decide) (Or.inr rfl) e10327)) ?_
                                  refine r_iconst 1 rfl ?_
                                  refine q_iadd (x10310.toInt + 1) rfl (by omega) (fun v10472 hv10472 => ?_)
                                  refine q_iald (Sh.arr hI10312.1 ka_236) (x10310.toInt + 1) (by omega) (by omega) v10439 ((eA_c (hF10313.2.1 236 (by decide))).trans hv10439) ?_
                                  refine r_aload_n (w_p1 (by decide) (Or.inr rfl) (w_p1 (by decide) (Or.inr rfl) e10324)) ?_
                                  refine q_getR (Sh.ref hI10312.1 kx_231 rfl) ?_
                                  refine r_iload_n (w_p1 (by decide) (Or.inr rfl) (w_p1 (by decide) (Or.inr rfl) e10327)) ?_
                                  refine r_iconst 2 rfl ?_
                                  refine q_iadd (x10310.toInt + 2) rfl (by omega) (fun v10473 hv10473 => ?_)
                                  refine q_iald (Sh.arr hI10312.1 ka_236) (x10310.toInt + 2) (by omega) (by omega) v10456 ((eA_c (hF10313.2.1 236 (by decide))).trans hv10456) ?_
                                  refine r_aload_n (w_p1 (by decide) (Or.inr rfl) (w_p1 (by decide) (Or.inr rfl) e10324)) ?_
                                  refine q_getR (Sh.ref hI10312.1 kx_231 rfl) ?_
                                  refine r_iload_n (w_p1 (by decide) (Or.inr rfl) (w_p1 (by decide) (Or.inr rfl) e10327)) ?_
                                  refine r_iconst 3 rfl ?_
                                  refine q_iadd (x10310.toInt + 3) rfl (by omega) (fun v10474 hv10474 => ?_)
                                  refine q_iald (Sh.arr hI10312.1 ka_236) (x10310.toInt + 3) (by omega) (by omega) v10381 ((eA_c (hF10313.2.1 236 (by decide))).trans hv10381) ?_
                                  refine r_aload_n (w_p1 (by decide) (Or.inr rfl) (w_p1 (by decide) (Or.inr rfl) e10324)) ?_
                                  refine q_getR (Sh.ref hI10312.1 kx_231 rfl) ?_
                                  refine r_iload_n (w_p1 (by decide) (Or.inr rfl) (w_p1 (by decide) (Or.inr rfl) e10327)) ?_
                                  refine r_iconst 4 rfl ?_
                                  refine q_iadd (x10310.toInt + 4) rfl (by omega) (fun v10475 hv10475 => ?_)
                                  refine q_iald (Sh.arr hI10312.1 ka_236) (x10310.toInt + 4) (by omega) (by omega) v10383 ((eA_c (hF10313.2.1 236 (by decide))).trans hv10383) ?_
                                  refine r_aload_n (w_p1 (by decide) (Or.inr rfl) (w_p1 (by decide) (Or.inr rfl) e10324)) ?_
                                  refine q_getR (Sh.ref hI10312.1 kx_231 rfl) ?_
                                  refine r_iload_n (w_p1 (by decide) (Or.inr rfl) (w_p1 (by decide) (Or.inr rfl) e10327)) ?_
                                  refine r_iconst 5 rfl ?_
                                  refine q_iadd (x10310.toInt + 5) rfl (by omega) (fun v10476 hv10476 => ?_)
                                  refine q_iald (Sh.arr hI10312.1 ka_236) (x10310.toInt + 5) (by omega) (by omega) v10385 ((eA_c (hF10313.2.1 236 (by decide))).trans hv10385) ?_
                                  have x10477 := HI.eqA hI10312 (p := 233) (j := 0) (e10318)
                                  have x10478 := HI.eqA hI10312 (p := 233) (j := 1) (hv10372)
                                  refine r_callV 198 rfl [.ref 231, .int v10379, .int v10439, .int v10456, .int v10381, .int v10383, .int v10385] [] (Nat.le_of_ble_eq_true rfl) rfl (T_X11_addLoad_231 _ hI10312 v10379 (by omega) v10439 (by omega) v10456 (by omega) v10381 (by omega) v10383 (by omega) v10385 (by omega) (by omega) (by omega) (by omega)) ?_
                                  rintro _ _ ⟨g10479, rfl, hI10480, hF10481, rfl, hr10483⟩
                                  refine At.stn ?_
                                  have hF10484 := Fr.tr hF10313 hF10481 rfl rfl
                                  obtain ⟨v10485, hv10485⟩ : ∃ v, eA g10479 233 1 = v := ⟨_, rfl⟩
                                  have y10486 := hr10483.2
                                  have tv10485 := congrArg Int32.toInt hv10485
                                  have x10487 := HI.eqA hI10312 (p := 233) (j := 1) (hv10372)
                                  refine At.enter rfl ?_
                                  refine q_iinc (w_p1 (by decide) (Or.inr rfl) (w_p1 (by decide) (Or.inr rfl) e10326)) (x10309.toInt + 1) rfl (by omega) (fun v10488 hv10488 => ?_)
                                  refine r_goto ?_
                                  refine At.enter rfl ?_
                                  refine q_iinc (w_p1 (by decide) (Or.inr rfl) (w_p1 (by decide) (Or.inr rfl) (w_p1 (by decide) (Or.inr rfl) e10327))) (x10310.toInt + 6) rfl (by omega) (fun v10489 hv10489 => ?_)
                                  refine r_goto ?_
                                  exact ih10316 (405 - v10489.toInt) _ _ ⟨v10488, v10489, by first | rfl | omega, hI10480, hF10484, ((hF10481.1 231 8 mf_X11_addLoad_231_231_8).trans e10317), ((hr10483.1 0 (by decide) (by decide) (by decide)).trans e10318), ((hr10483.1 4 (by decide) (by decide) (by decide)).trans e10319), ((hr10483.1 5 (by decide) (by decide) (by decide)).trans e10320), ((hr10483.1 6 (by decide) (by decide) (by decide)).trans e10321), ((hr10483.1 2 (by decide) (by decide) (by decide)).trans e10322), ((hr10483.1 3 (by decide) (by decide) (by decide)).trans e10323), (w_p1 (by decide) (Or.inr rfl) (w_p1 (by decide) (Or.inr rfl) (w_p1 (by decide) (Or.inr rfl) (w_p1 (by decide) (Or.inr rfl) e10324)))), (w_p1 (by decide) (Or.inr rfl) (w_p1 (by decide) (Or.inr rfl) (w_p1 (by decide) (Or.inr rfl) (w_p1 (by decide) (Or.inr rfl) e10325)))), (w_p1 (by decide) (Or.inr rfl) (w_e1 _ _ _)), (w_e1 _ _ _), by omega, by omega, by omega⟩ ⟨by omega, by omega⟩
  · have c6994_ : v6991.toInt = 0 := en_k_ne_f c6994
    refine At.enter rfl ?_
    refine r_aload_n rfl ?_
    refine r_bipush (-6) rfl ?_
    refine r_callV 25 rfl [.ref 231, .int (-6)] [] (Nat.le_of_ble_eq_true rfl) rfl (T_X11_tell_231 _ hI6992 (-6) (by decide)) ?_
    rintro _ _ ⟨g10490, rfl, hI10491, hF10492, v10493, rfl, hr10494⟩
    refine At.sti ?_
    have hF10495 := Fr.tr hF6993 hF10492 rfl rfl
    have zv10496 : ((-6) : Int32).toInt = (-6) := rfl
    refine At.enter rfl ?_
    refine r_ireti ?_
    have x10497 := HI.eqI hI10491 (p := 231) (b := 8) (((hF10492.1 231 8 mf_X11_tell_231_231_8).trans (gI_sI_eq hI6989.1 kx_231 rfl _)))
    have zv10498 : (0 : Int32).toInt = 0 := rfl
    obtain ⟨v10499, hv10499⟩ : ∃ v, eA g0 233 0 = v := ⟨_, rfl⟩
    have tv10499 := congrArg Int32.toInt hv10499
    have wv10499 := HI.t0 hI0
    rw [hv10499] at wv10499
    have tv10499 := congrArg Int32.toInt hv10499
    have x10500 := HI.eqA hI10491 (p := 233) (j := 0) ((((eA_c (hF10492.2.1 233 ma_X11_tell_231_233)).trans ((eA_c gA_sI).trans (eA_c gA_sI))).trans hv10499))
    obtain ⟨v10501, hv10501⟩ : ∃ v, eA g0 233 4 = v := ⟨_, rfl⟩
    have wv10501 := HI.t4 hI0
    rw [hv10501] at wv10501
    have tv10501 := congrArg Int32.toInt hv10501
    have x10502 := HI.eqA hI10491 (p := 233) (j := 4) ((((eA_c (hF10492.2.1 233 ma_X11_tell_231_233)).trans ((eA_c gA_sI).trans (eA_c gA_sI))).trans hv10501))
    obtain ⟨v10503, hv10503⟩ : ∃ v, eA g0 233 5 = v := ⟨_, rfl⟩
    have wv10503 := HI.t5 hI0
    rw [hv10503] at wv10503
    have tv10503 := congrArg Int32.toInt hv10503
    have x10504 := HI.eqA hI10491 (p := 233) (j := 5) ((((eA_c (hF10492.2.1 233 ma_X11_tell_231_233)).trans ((eA_c gA_sI).trans (eA_c gA_sI))).trans hv10503))
    obtain ⟨v10505, hv10505⟩ : ∃ v, eA g0 233 6 = v := ⟨_, rfl⟩
    have wv10505 := HI.t6 hI0
    rw [hv10505] at wv10505
    have tv10505 := congrArg Int32.toInt hv10505
    have x10506 := HI.eqA hI10491 (p := 233) (j := 6) ((((eA_c (hF10492.2.1 233 ma_X11_tell_231_233)).trans ((eA_c gA_sI).trans (eA_c gA_sI))).trans hv10505))
    obtain ⟨v10507, hv10507⟩ : ∃ v, eA g0 233 2 = v := ⟨_, rfl⟩
    have tv10507 := congrArg Int32.toInt hv10507
    have wv10507 := HI.t2 hI0
    rw [hv10507] at wv10507
    have tv10507 := congrArg Int32.toInt hv10507
    have x10508 := HI.eqA hI10491 (p := 233) (j := 2) ((((eA_c (hF10492.2.1 233 ma_X11_tell_231_233)).trans ((eA_c gA_sI).trans (eA_c gA_sI))).trans hv10507))
    obtain ⟨v10509, hv10509⟩ : ∃ v, eA g0 233 3 = v := ⟨_, rfl⟩
    have wv10509 := HI.t3 hI0
    rw [hv10509] at wv10509
    have tv10509 := congrArg Int32.toInt hv10509
    have x10510 := HI.eqA hI10491 (p := 233) (j := 3) ((((eA_c (hF10492.2.1 233 ma_X11_tell_231_233)).trans ((eA_c gA_sI).trans (eA_c gA_sI))).trans hv10509))
    have x10511 := HI.eqA hI0 (p := 233) (j := 0) (hv10499)
    have x10512 := HI.eqA hI0 (p := 233) (j := 4) (hv10501)
    have x10513 := HI.eqA hI0 (p := 233) (j := 5) (hv10503)
    have x10514 := HI.eqA hI0 (p := 233) (j := 6) (hv10505)
    have x10515 := HI.eqA hI0 (p := 233) (j := 2) (hv10507)
    have x10516 := HI.eqA hI0 (p := 233) (j := 3) (hv10509)
    exact ⟨_, rfl, hI10491, hF10495, _, rfl, by omega, ⟨by omega, by omega, by omega, by omega, by omega, by omega, by omega⟩⟩
