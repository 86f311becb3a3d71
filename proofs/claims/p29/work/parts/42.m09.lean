def F_X11_run_231 : List (Nat × Nat) := [(231, 27), (231, 30), (231, 31), (231, 32)]
def A_X11_run_231 : List Nat := [250, 251, 252, 253, 254, 255, 256]
theorem ma_X11_first_231_250 : memA A_X11_first_231 250 = false := by decide
theorem ma_X11_first_231_255 : memA A_X11_first_231 255 = false := by decide
theorem ma_X11_first_231_233 : memA A_X11_first_231 233 = false := by decide
theorem ma_X11_goOn_231_255 : memA A_X11_goOn_231 255 = false := by decide
theorem ma_X11_goOn_231_233 : memA A_X11_goOn_231 233 = false := by decide
theorem ma_X11_tells_231_250 : memA A_X11_tells_231 250 = false := by decide
theorem ma_X11_tells_231_255 : memA A_X11_tells_231 255 = false := by decide
set_option maxRecDepth 100000 in
set_option maxHeartbeats 4000000 in
theorem T_X11_run_231 (d : Nat) {N : Nat} {g0 : List en_E} (hI0 : HI g0) : Ev (d + 7) 225 [.ref 231] (g0, N) (fun w h' => ∃ g', h' = (g', N) ∧ HI g' ∧ Fr F_X11_run_231 A_X11_run_231 g0 g' ∧ w = none) := by
  have hF0 : Fr F_X11_run_231 A_X11_run_231 g0 g0 := Fr.rf
  refine Ev.mk rfl rfl ⟨Nat.le_of_ble_eq_true rfl, Or.inr (q_rc hI0.1 kx_231 rfl)⟩ ?_
  show At _ none _ _ (0, [(0, .ref 231)], [], (_, _)) _
  refine At.enter rfl ?_
  refine r_iconst 0 rfl ?_
  refine r_istore_n ([(1, .int 0), (0, .ref 231)]) rfl ?_
  refine Ar.fall 2 rfl ?_
  have z_891336 : (0 : Int32).toInt = 0 := rfl
  refine w_loopI (fun n_ l_ g_ => ∃ x891326 : Int32, n_ = 8 - x891326.toInt ∧ HI g_ ∧ Fr F_X11_run_231 A_X11_run_231 g0 g_ ∧ en_get 0 l_ = some (.ref 231) ∧ en_get 1 l_ = some (.int x891326) ∧ (0 ≤ x891326.toInt ∧ x891326.toInt ≤ 8)) ?_ (8 - 0) ⟨0, by first | rfl | omega, hI0, hF0, rfl, rfl, by decide⟩
  rintro n891331 l891330 g891327 ⟨x891326, hm891337, hI891328, hF891329, e891333, e891334, r891335⟩ ih891332
  refine At.enter rfl ?_
  refine r_iload_n e891334 ?_
  refine r_aload_n e891333 ?_
  refine q_getR (Sh.ref hI891328.1 kx_231 rfl) ?_
  refine r_iconst 1 rfl ?_
  obtain ⟨v891338, hv891338⟩ : ∃ v, eA g0 233 1 = v := ⟨_, rfl⟩
  have tv891338 := congrArg Int32.toInt hv891338
  have wv891338 := HI.t1 hI0
  rw [hv891338] at wv891338
  refine q_iald (Sh.arr hI891328.1 ka_233) 1 rfl (by decide) v891338 ((eA_c (hF891329.2.1 233 (by decide))).trans hv891338) ?_
  have bv891340 := q_bnd x891326
  have bv891341 := q_bnd v891338
  refine r_ics 12 rfl (fun c891339 => ?_) (fun c891339 => ?_)
  · have c891339_ : x891326.toInt ≥ v891338.toInt := en_i_ge_t c891339
    refine At.enter rfl ?_
    refine r_iconst 0 rfl ?_
    refine r_istore_n _ rfl ?_
    refine Ar.fall 48 rfl ?_
    have z_932568 : (0 : Int32).toInt = 0 := rfl
    refine w_loopI (fun n_ l_ g_ => ∃ x932558 : Int32, n_ = 100 - x932558.toInt ∧ HI g_ ∧ Fr F_X11_run_231 A_X11_run_231 g0 g_ ∧ en_get 0 l_ = some (.ref 231) ∧ en_get 1 l_ = some (.int x932558) ∧ (0 ≤ x932558.toInt ∧ x932558.toInt ≤ 100)) ?_ (100 - 0) ⟨0, by first | rfl | omega, hI891328, hF891329, (w_p1 (by decide) (Or.inr rfl) e891333), (w_e1 _ _ _), by decide⟩
    rintro n932563 l932562 g932559 ⟨x932558, hm932569, hI932560, hF932561, e932565, e932566, r932567⟩ ih932564
    refine At.enter rfl ?_
    refine r_iload_n e932566 ?_
    refine r_bipush 100 rfl ?_
    refine r_ics 54 rfl (fun c932570 => ?_) (fun c932570 => ?_)
    · have c932570_ : x932558.toInt ≥ 100 := en_i_ge_t c932570
      refine At.enter rfl ?_
      refine r_vret ?_
      exact ⟨_, rfl, hI932560, hF932561, rfl⟩
    · have c932570_ : x932558.toInt < 100 := en_i_ge_f c932570
      refine At.enter rfl ?_
      refine r_aload_n e932565 ?_
      refine r_iload_n e932566 ?_
      refine r_callV 59 rfl [.ref 231, .int x932558] [] (Nat.le_of_ble_eq_true rfl) rfl (T_X11_bring_231 _ hI932560 x932558 (by omega)) ?_
      rintro _ _ ⟨g932571, rfl, hI932572, hF932573, rfl⟩
      refine At.stn ?_
      have hF932576 := Fr.tr hF932561 hF932573 rfl rfl
      refine At.enter rfl ?_
      refine r_iconst 0 rfl ?_
      refine r_istore_n _ rfl ?_
      refine Ar.fall 61 rfl ?_
      have z_935021 : (0 : Int32).toInt = 0 := rfl
      refine w_loopI (fun n_ l_ g_ => ∃ x935009 : Int32, n_ = 8 - x935009.toInt ∧ HI g_ ∧ Fr F_X11_run_231 A_X11_run_231 g0 g_ ∧ en_get 0 l_ = some (.ref 231) ∧ en_get 1 l_ = some (.int x932558) ∧ en_get 2 l_ = some (.int x935009) ∧ (0 ≤ x935009.toInt ∧ x935009.toInt ≤ 8) ∧ (∀ j : Int, 0 ≤ j → j < x935009.toInt → (eA g_ 255 j).toInt = 0 → 0 ≤ (eA g_ 250 j).toInt)) ?_ (8 - 0) ⟨0, by first | rfl | omega, hI932572, hF932576, (w_p1 (by decide) (Or.inr rfl) e932565), (w_p1 (by decide) (Or.inr rfl) e932566), (w_e1 _ _ _), by decide, (fun j h0 h1 _ => absurd h1 (by omega))⟩
      rintro n935014 l935013 g935010 ⟨x935009, hm935022, hI935011, hF935012, e935016, e935017, e935018, r935019, q935020⟩ ih935015
      refine At.enter rfl ?_
      refine r_iload_n e935018 ?_
      refine r_aload_n e935016 ?_
      refine q_getR (Sh.ref hI935011.1 kx_231 rfl) ?_
      refine r_iconst 1 rfl ?_
      refine q_iald (Sh.arr hI935011.1 ka_233) 1 rfl (by decide) v891338 ((eA_c (hF935012.2.1 233 (by decide))).trans hv891338) ?_
      have bv935024 := q_bnd x935009
      refine r_ics 71 rfl (fun c935023 => ?_) (fun c935023 => ?_)
      · have c935023_ : x935009.toInt ≥ v891338.toInt := en_i_ge_t c935023
        refine At.enter rfl ?_
        refine r_aload_n e935016 ?_
        refine r_callV 141 rfl [.ref 231] [] (Nat.le_of_ble_eq_true rfl) rfl (T_X11_first_231 _ hI935011) ?_
        rintro _ _ ⟨g935025, rfl, hI935026, hF935027, v935028, rfl, hr935029⟩
        refine At.sti ?_
        have hF935030 := Fr.tr hF935012 hF935027 rfl rfl
        refine At.enter rfl ?_
        refine r_istore_n _ rfl ?_
        refine Ar.fall 142 rfl ?_
        refine w_loopI (fun n_ l_ g_ => ∃ x935329 : Int32, n_ = cz g_ ∧ HI g_ ∧ Fr F_X11_run_231 A_X11_run_231 g0 g_ ∧ en_get 0 l_ = some (.ref 231) ∧ en_get 1 l_ = some (.int x932558) ∧ en_get 2 l_ = some (.int x935329) ∧ ((-1) ≤ x935329.toInt ∧ x935329.toInt ≤ 7) ∧ (∀ j : Int, 0 ≤ j → j < (eA g0 233 1).toInt → (eA g_ 255 j).toInt = 0 → 0 ≤ (eA g_ 250 j).toInt) ∧ (x935329.toInt = -1 ∨ (0 ≤ x935329.toInt ∧ x935329.toInt < (eA g0 233 1).toInt ∧ (eA g_ 255 x935329.toInt).toInt = 0))) ?_ (_) ⟨v935028, rfl, hI935026, hF935030, (w_p1 (by decide) (Or.inr rfl) e935016), (w_p1 (by decide) (Or.inr rfl) e935017), (w_e1 _ _ _), by omega, (by intro j h0 h1 hz; rw [eA_c (hF935027.2.1 250 ma_X11_first_231_250)]; exact q935020 j h0 (by rw [hv891338] at h1; omega) ((congrArg Int32.toInt (eA_c (hF935027.2.1 255 ma_X11_first_231_255))).symm.trans hz)), (by rw [← eA_c ((hF935027.2.1 233 ma_X11_first_231_233).trans (hF935012.2.1 233 (by decide)))]; exact hr935029.2)⟩
        rintro n935334 l935333 g935330 ⟨x935329, hm935342, hI935331, hF935332, e935336, e935337, e935338, r935339, q935340, q935341⟩ ih935335
        refine At.enter rfl ?_
        refine r_iload_n e935338 ?_
        refine r_iconst (-1) rfl ?_
        refine r_ics 147 rfl (fun c935343 => ?_) (fun c935343 => ?_)
        · have c935343_ : x935329.toInt = (-1) := en_i_eq_t c935343
          refine At.enter rfl ?_
          refine r_iconst 0 rfl ?_
          refine r_istore_n _ rfl ?_
          refine Ar.fall 170 rfl ?_
          have z_935461 : (0 : Int32).toInt = 0 := rfl
          refine w_loopI (fun n_ l_ g_ => ∃ x935449 : Int32, n_ = 8 - x935449.toInt ∧ HI g_ ∧ Fr F_X11_run_231 A_X11_run_231 g0 g_ ∧ en_get 0 l_ = some (.ref 231) ∧ en_get 1 l_ = some (.int x932558) ∧ en_get 2 l_ = some (.int x935329) ∧ en_get 3 l_ = some (.int x935449) ∧ (0 ≤ x935449.toInt ∧ x935449.toInt ≤ 8)) ?_ (8 - 0) ⟨0, by first | rfl | omega, hI935331, hF935332, (w_p1 (by decide) (Or.inr rfl) e935336), (w_p1 (by decide) (Or.inr rfl) e935337), (w_p1 (by decide) (Or.inr rfl) e935338), (w_e1 _ _ _), by decide⟩
          rintro n935454 l935453 g935450 ⟨x935449, hm935462, hI935451, hF935452, e935456, e935457, e935458, e935459, r935460⟩ ih935455
          refine At.enter rfl ?_
          refine r_iload_n e935459 ?_
          refine r_aload_n e935456 ?_
          refine q_getR (Sh.ref hI935451.1 kx_231 rfl) ?_
          refine r_iconst 1 rfl ?_
          refine q_iald (Sh.arr hI935451.1 ka_233) 1 rfl (by decide) v891338 ((eA_c (hF935452.2.1 233 (by decide))).trans hv891338) ?_
          have bv935464 := q_bnd x935449
          refine r_ics 180 rfl (fun c935463 => ?_) (fun c935463 => ?_)
          · have c935463_ : x935449.toInt ≥ v891338.toInt := en_i_ge_t c935463
            refine At.enter rfl ?_
            refine q_iinc e935457 (x932558.toInt + 1) rfl (by omega) (fun v935465 hv935465 => ?_)
            refine r_goto ?_
            exact ih932564 (100 - v935465.toInt) _ _ ⟨v935465, by first | rfl | omega, hI935451, hF935452, (w_p1 (by decide) (Or.inr rfl) e935456), (w_e1 _ _ _), by omega⟩ ⟨by omega, by omega⟩
          · have c935463_ : x935449.toInt < v891338.toInt := en_i_ge_f c935463
            refine At.enter rfl ?_
            refine r_aload_n e935456 ?_
            refine q_getR (Sh.ref hI935451.1 kx_231 rfl) ?_
            refine r_bipush 100 rfl ?_
            refine r_iload_n e935459 ?_
            refine q_imul (100 * x935449.toInt) rfl (by omega) (fun v935466 hv935466 => ?_)
            refine r_iload_n e935457 ?_
            refine q_iadd (v935466.toInt + x932558.toInt) rfl (by omega) (fun v935467 hv935467 => ?_)
            refine r_aload_n e935456 ?_
            refine q_getR (Sh.ref hI935451.1 kx_231 rfl) ?_
            refine r_iload_n e935459 ?_
            obtain ⟨v935468, hv935468⟩ : ∃ v, eA g935450 250 x935449.toInt = v := ⟨_, rfl⟩
            have rv935468 := RgA.at hI935451.2.2.1 (Sh.arr hI935451.1 ka_250).2 (p := 250) rfl (j := x935449.toInt) (by omega)
            rw [hv935468] at rv935468
            dsimp only at rv935468
            refine q_iald (Sh.arr hI935451.1 ka_250) x935449.toInt rfl (by omega) v935468 hv935468 ?_
            refine r_ifs 199 rfl (fun c935469 => ?_) (fun c935469 => ?_)
            · have c935469_ : v935468.toInt ≥ 0 := en_k_ge_t c935469
              refine At.enter rfl ?_
              refine r_aload_n e935456 ?_
              refine q_getR (Sh.ref hI935451.1 kx_231 rfl) ?_
              refine r_iload_n e935459 ?_
              refine q_iald (Sh.arr hI935451.1 ka_250) x935449.toInt rfl (by omega) v935468 hv935468 ?_
              refine Ar.fall 209 rfl ?_
              refine At.enter rfl ?_
              refine q_iast (Sh.arr hI935451.1 ka_256) ((100 * x935449.toInt + x932558.toInt)) (by omega) (by omega) ?_
              have hI935470 := HI.wA0 hI935451 ka_256 (p := 256) rfl rfl ((100 * x935449.toInt + x932558.toInt)) (v935468)
              have hF935471 := Fr.wA (p := 256) (j := (100 * x935449.toInt + x932558.toInt)) (v := v935468) hF935452 rfl
              refine q_iinc e935459 (x935449.toInt + 1) rfl (by omega) (fun v935472 hv935472 => ?_)
              refine r_goto ?_
              exact ih935455 (8 - v935472.toInt) _ _ ⟨v935472, by first | rfl | omega, hI935470, hF935471, (w_p1 (by decide) (Or.inr rfl) e935456), (w_p1 (by decide) (Or.inr rfl) e935457), (w_p1 (by decide) (Or.inr rfl) e935458), (w_e1 _ _ _), by omega⟩ ⟨by omega, by omega⟩
            · have c935469_ : v935468.toInt < 0 := en_k_ge_f c935469
              refine At.enter rfl ?_
              refine r_iconst (-1) rfl ?_
              refine r_goto ?_
              refine At.enter rfl ?_
              refine q_iast (Sh.arr hI935451.1 ka_256) ((100 * x935449.toInt + x932558.toInt)) (by omega) (by omega) ?_
              have hI935473 := HI.wA0 hI935451 ka_256 (p := 256) rfl rfl ((100 * x935449.toInt + x932558.toInt)) ((-1))
              have hF935474 := Fr.wA (p := 256) (j := (100 * x935449.toInt + x932558.toInt)) (v := (-1)) hF935452 rfl
              refine q_iinc e935459 (x935449.toInt + 1) rfl (by omega) (fun v935475 hv935475 => ?_)
              refine r_goto ?_
              exact ih935455 (8 - v935475.toInt) _ _ ⟨v935475, by first | rfl | omega, hI935473, hF935474, (w_p1 (by decide) (Or.inr rfl) e935456), (w_p1 (by decide) (Or.inr rfl) e935457), (w_p1 (by decide) (Or.inr rfl) e935458), (w_e1 _ _ _), by omega⟩ ⟨by omega, by omega⟩
        · have c935343_ : x935329.toInt ≠ (-1) := en_i_eq_f c935343
          refine At.enter rfl ?_
          refine r_aload_n e935336 ?_
          refine q_getR (Sh.ref hI935331.1 kx_231 rfl) ?_
          refine r_iload_n e935338 ?_
          refine r_iconst 1 rfl ?_
          refine q_bast (Sh.arr hI935331.1 ka_255) (x935329.toInt) rfl (by omega) rfl ?_
          have hI935476 := HI.wA0 hI935331 ka_255 (p := 255) rfl rfl (x935329.toInt) (1)
          have hF935477 := Fr.wA (p := 255) (j := x935329.toInt) (v := 1) hF935332 rfl
          refine r_aload_n e935336 ?_
          refine r_iload_n e935338 ?_
          refine r_iload_n e935337 ?_
          refine r_callV 160 rfl [.ref 231, .int x935329, .int x932558] [] (Nat.le_of_ble_eq_true rfl) rfl (T_X11_goOn_231 _ hI935476 x935329 (by omega) x932558 (by omega) (by rw [eA_c (gA_sA_ne (by decide))]; exact q935341.elim (fun h => absurd h (by omega)) (fun h => q935340 _ h.1 h.2.1 h.2.2))) ?_
          rintro _ _ ⟨g935478, rfl, hI935479, hF935480, rfl, hr935482⟩
          refine At.stn ?_
          have hF935483 := Fr.tr hF935477 hF935480 rfl rfl
          refine At.enter rfl ?_
          refine r_aload_n e935336 ?_
          refine r_callV 164 rfl [.ref 231] [] (Nat.le_of_ble_eq_true rfl) rfl (T_X11_first_231 _ hI935479) ?_
          rintro _ _ ⟨g935484, rfl, hI935485, hF935486, v935487, rfl, hr935488⟩
          refine At.sti ?_
          have hF935489 := Fr.tr hF935483 hF935486 rfl rfl
          refine At.enter rfl ?_
          refine r_istore_n _ rfl ?_
          refine r_goto ?_
          exact ih935335 (_) _ _ ⟨v935487, rfl, hI935485, hF935489, (w_p1 (by decide) (Or.inr rfl) e935336), (w_p1 (by decide) (Or.inr rfl) e935337), (w_e1 _ _ _), by omega, (by intro j h0 h1 hz; exact (Decidable.em (j = x935329.toInt)).elim (fun e => absurd hz (by rw [e, ((eA_c ((hF935486.2.1 255 ma_X11_first_231_255).trans (hF935480.2.1 255 ma_X11_goOn_231_255))).trans (eA_sA_eq hI935331.1 ka_255 rfl (by omega) (by omega)))]; decide)) (fun e => by rw [eA_c (hF935486.2.1 250 ma_X11_first_231_250), hr935482 j h0 e, eA_c (gA_sA_ne (by decide))]; exact q935340 j h0 h1 ((congrArg Int32.toInt ((eA_c ((hF935486.2.1 255 ma_X11_first_231_255).trans (hF935480.2.1 255 ma_X11_goOn_231_255))).trans (eA_sA_ne hI935331.1 ka_255 e (by omega) h0))).symm.trans hz))), (by rw [← eA_c ((hF935486.2.1 233 ma_X11_first_231_233).trans ((hF935480.2.1 233 ma_X11_goOn_231_233).trans ((gA_sA_ne (by decide)).trans (hF935332.2.1 233 (by decide)))))]; exact hr935488.2)⟩ ⟨cz_nn _, by rw [hm935342, cz_c ((hF935486.2.1 255 ma_X11_first_231_255).trans (hF935480.2.1 255 ma_X11_goOn_231_255))]; exact cz_lt hI935331.1 ⟨by omega, by omega⟩ (by decide) (q935341.elim (fun h => absurd h (by omega)) (fun h => h.2.2))⟩
      · have c935023_ : x935009.toInt < v891338.toInt := en_i_ge_f c935023
        refine At.enter rfl ?_
        refine r_aload_n e935016 ?_
        refine q_getR (Sh.ref hI935011.1 kx_231 rfl) ?_
        refine r_iload_n e935018 ?_
        refine r_aload_n e935016 ?_
        refine q_getR (Sh.ref hI935011.1 kx_231 rfl) ?_
        refine r_iload_n e935018 ?_
        obtain ⟨v935490, hv935490⟩ : ∃ v, eA g935010 250 x935009.toInt = v := ⟨_, rfl⟩
        have rv935490 := RgA.at hI935011.2.2.1 (Sh.arr hI935011.1 ka_250).2 (p := 250) rfl (j := x935009.toInt) (by omega)
        rw [hv935490] at rv935490
        dsimp only at rv935490
        refine q_iald (Sh.arr hI935011.1 ka_250) x935009.toInt rfl (by omega) v935490 hv935490 ?_
        refine r_ifs 85 rfl (fun c935491 => ?_) (fun c935491 => ?_)
        · have c935491_ : v935490.toInt ≥ 0 := en_k_ge_t c935491
          refine At.enter rfl ?_
          refine r_iconst 0 rfl ?_
          refine Ar.fall 90 rfl ?_
          refine At.enter rfl ?_
          refine q_bast (Sh.arr hI935011.1 ka_255) (x935009.toInt) rfl (by omega) rfl ?_
          have hI935492 := HI.wA0 hI935011 ka_255 (p := 255) rfl rfl (x935009.toInt) (0)
          have hF935493 := Fr.wA (p := 255) (j := x935009.toInt) (v := 0) hF935012 rfl
          refine r_aload_n e935016 ?_
          refine q_getR (Sh.ref hI935492.1 kx_231 rfl) ?_
          refine r_iload_n e935018 ?_
          refine r_aload_n e935016 ?_
          refine q_getR (Sh.ref hI935492.1 kx_231 rfl) ?_
          refine r_iload_n e935018 ?_
          refine q_bald (Sh.arr hI935492.1 ka_255) x935009.toInt rfl (by omega) 0 (eA_sA_eq hI935011.1 ka_255 (by first | rfl | omega) (by first | decide | omega) (by first | decide | omega)) ?_
          refine r_ift (by decide) ?_
          refine At.enter rfl ?_
          refine r_aload_n e935016 ?_
          refine r_iconst 0 rfl ?_
          refine r_iload_n e935018 ?_
          refine r_aload_n e935016 ?_
          refine q_getR (Sh.ref hI935492.1 kx_231 rfl) ?_
          refine r_iload_n e935018 ?_
          refine q_iald (Sh.arr hI935492.1 ka_250) x935009.toInt rfl (by omega) v935490 ((eA_c (gA_sA_ne (by decide))).trans hv935490) ?_
          refine r_iload_n e935017 ?_
          refine r_aload_n e935016 ?_
          refine q_getR (Sh.ref hI935492.1 kx_231 rfl) ?_
          refine r_iload_n e935018 ?_
          obtain ⟨v935494, hv935494⟩ : ∃ v, eA g935010 251 x935009.toInt = v := ⟨_, rfl⟩
          refine q_iald (Sh.arr hI935492.1 ka_251) x935009.toInt rfl (by omega) v935494 ((eA_c (gA_sA_ne (by decide))).trans hv935494) ?_
          refine r_lconst 0 rfl ?_
          refine r_callV 129 rfl [.ref 231, .int 0, .int x935009, .int v935490, .int x932558, .int v935494, .long 0] [.int x935009, .ref 254] (Nat.le_of_ble_eq_true rfl) rfl (T_X11_tells_231 _ hI935492 0 x935009 (by omega) v935490 (by omega) x932558 v935494 0) ?_
          rintro _ _ ⟨g935495, rfl, hI935496, hF935497, v935498, rfl, hr935499⟩
          refine At.stl ?_
          have hF935500 := Fr.tr hF935493 hF935497 rfl rfl
          have zv935501 : (0 : Int32).toInt = 0 := rfl
          have zv935502 : (0 : Int64).toInt = 0 := rfl
          refine At.enter rfl ?_
          refine q_l2iO (fun v935503 hv935503 => ?_)
          refine Ar.fall 130 rfl ?_
          refine At.enter rfl ?_
          refine q_iast (Sh.arr hI935496.1 ka_254) (x935009.toInt) rfl (by omega) ?_
          have hI935504 := HI.wA0 hI935496 ka_254 (p := 254) rfl rfl (x935009.toInt) (v935503)
          have hF935505 := Fr.wA (p := 254) (j := x935009.toInt) (v := v935503) hF935500 rfl
          refine q_iinc e935018 (x935009.toInt + 1) rfl (by omega) (fun v935506 hv935506 => ?_)
          refine r_goto ?_
          exact ih935015 (8 - v935506.toInt) _ _ ⟨v935506, by first | rfl | omega, hI935504, hF935505, (w_p1 (by decide) (Or.inr rfl) e935016), (w_p1 (by decide) (Or.inr rfl) e935017), (w_e1 _ _ _), by omega, (by intro j h0 h1 hz; rw [eA_c ((gA_sA_ne (by decide)).trans ((hF935497.2.1 250 ma_X11_tells_231_250).trans (gA_sA_ne (by decide))))]; exact (Decidable.em (j = x935009.toInt)).elim (fun e => by rw [e, hv935490]; omega) (fun e => q935020 j h0 (by omega) ((congrArg Int32.toInt ((eA_c ((gA_sA_ne (by decide)).trans (hF935497.2.1 255 ma_X11_tells_231_255))).trans (eA_sA_ne hI935011.1 ka_255 e (by omega) h0))).symm.trans hz)))⟩ ⟨by omega, by omega⟩
        · have c935491_ : v935490.toInt < 0 := en_k_ge_f c935491
          refine At.enter rfl ?_
          refine r_iconst 1 rfl ?_
          refine r_goto ?_
          refine At.enter rfl ?_
          refine q_bast (Sh.arr hI935011.1 ka_255) (x935009.toInt) rfl (by omega) rfl ?_
          have hI935507 := HI.wA0 hI935011 ka_255 (p := 255) rfl rfl (x935009.toInt) (1)
          have hF935508 := Fr.wA (p := 255) (j := x935009.toInt) (v := 1) hF935012 rfl
          refine r_aload_n e935016 ?_
          refine q_getR (Sh.ref hI935507.1 kx_231 rfl) ?_
          refine r_iload_n e935018 ?_
          refine r_aload_n e935016 ?_
          refine q_getR (Sh.ref hI935507.1 kx_231 rfl) ?_
          refine r_iload_n e935018 ?_
          refine q_bald (Sh.arr hI935507.1 ka_255) x935009.toInt rfl (by omega) 1 (eA_sA_eq hI935011.1 ka_255 (by first | rfl | omega) (by first | decide | omega) (by first | decide | omega)) ?_
          refine r_iff 105 rfl (by decide) ?_
          refine At.enter rfl ?_
          refine r_iconst 0 rfl ?_
          refine r_goto ?_
          refine At.enter rfl ?_
          refine q_iast (Sh.arr hI935507.1 ka_254) (x935009.toInt) rfl (by omega) ?_
          have hI935509 := HI.wA0 hI935507 ka_254 (p := 254) rfl rfl (x935009.toInt) (0)
          have hF935510 := Fr.wA (p := 254) (j := x935009.toInt) (v := 0) hF935508 rfl
          refine q_iinc e935018 (x935009.toInt + 1) rfl (by omega) (fun v935511 hv935511 => ?_)
          refine r_goto ?_
          exact ih935015 (8 - v935511.toInt) _ _ ⟨v935511, by first | rfl | omega, hI935509, hF935510, (w_p1 (by decide) (Or.inr rfl) e935016), (w_p1 (by decide) (Or.inr rfl) e935017), (w_e1 _ _ _), by omega, (by intro j h0 h1 hz; rw [eA_c ((gA_sA_ne (by decide)).trans (gA_sA_ne (by decide)))]; exact (Decidable.em (j = x935009.toInt)).elim (fun e => absurd hz (by rw [e, ((eA_c (gA_sA_ne (by decide))).trans (eA_sA_eq hI935011.1 ka_255 rfl (by omega) (by omega)))]; decide)) (fun e => q935020 j h0 (by omega) ((congrArg Int32.toInt ((eA_c (gA_sA_ne (by decide))).trans (eA_sA_ne hI935011.1 ka_255 e (by omega) h0))).symm.trans hz)))⟩ ⟨by omega, by omega⟩
  · have c891339_ : x891326.toInt < v891338.toInt := en_i_ge_f c891339
    refine At.enter rfl ?_
    refine r_aload_n e891333 ?_
    refine q_getR (Sh.ref hI891328.1 kx_231 rfl) ?_
    refine r_iload_n e891334 ?_
    refine r_iconst (-1) rfl ?_
    refine q_iast (Sh.arr hI891328.1 ka_250) (x891326.toInt) rfl (by omega) ?_
    have hI935512 := HI.wA1 hI891328 ka_250 (p := 250) rfl rfl (x891326.toInt) (v := (-1)) (by decide)
    have hF935513 := Fr.wA (p := 250) (j := x891326.toInt) (v := (-1)) hF891329 rfl
    refine r_aload_n e891333 ?_
    refine q_getR (Sh.ref hI935512.1 kx_231 rfl) ?_
    refine r_iload_n e891334 ?_
    refine r_iconst 0 rfl ?_
    refine q_iast (Sh.arr hI935512.1 ka_251) (x891326.toInt) rfl (by omega) ?_
    have hI935514 := HI.wA0 hI935512 ka_251 (p := 251) rfl rfl (x891326.toInt) (0)
    have hF935515 := Fr.wA (p := 251) (j := x891326.toInt) (v := 0) hF935513 rfl
    refine r_aload_n e891333 ?_
    refine q_getR (Sh.ref hI935514.1 kx_231 rfl) ?_
    refine r_iload_n e891334 ?_
    refine r_iconst 0 rfl ?_
    refine q_iast (Sh.arr hI935514.1 ka_252) (x891326.toInt) rfl (by omega) ?_
    have hI935516 := HI.wA0 hI935514 ka_252 (p := 252) rfl rfl (x891326.toInt) (0)
    have hF935517 := Fr.wA (p := 252) (j := x891326.toInt) (v := 0) hF935515 rfl
    refine r_aload_n e891333 ?_
    refine q_getR (Sh.ref hI935516.1 kx_231 rfl) ?_
    refine r_iload_n e891334 ?_
    refine r_iconst (-1) rfl ?_
    refine q_iast (Sh.arr hI935516.1 ka_253) (x891326.toInt) rfl (by omega) ?_
    have hI935518 := HI.wA0 hI935516 ka_253 (p := 253) rfl rfl (x891326.toInt) ((-1))
    have hF935519 := Fr.wA (p := 253) (j := x891326.toInt) (v := (-1)) hF935517 rfl
    refine q_iinc e891334 (x891326.toInt + 1) rfl (by omega) (fun v935520 hv935520 => ?_)
    refine r_goto ?_
    exact ih891332 (8 - v935520.toInt) _ _ ⟨v935520, by first | rfl | omega, hI935518, hF935519, (w_p1 (by decide) (Or.inr rfl) e891333), (w_e1 _ _ _), by omega⟩ ⟨by omega, by omega⟩

def F_X11_runDay_231 : List (Nat × Nat) := [(231, 27), (231, 30), (231, 31), (231, 32), (231, 36)]
def A_X11_runDay_231 : List Nat := [246, 247, 248, 250, 251, 252, 253, 254, 255, 256]
set_option maxRecDepth 100000 in
set_option maxHeartbeats 4000000 in
theorem T_X11_runDay_231 (d : Nat) {N : Nat} {g0 : List en_E} (hI0 : HI g0) : Ev (d + 8) 229 [.ref 231] (g0, N) (fun w h' => ∃ g', h' = (g', N) ∧ HI g' ∧ Fr F_X11_runDay_231 A_X11_runDay_231 g0 g' ∧ w = none) := by
  have hF0 : Fr F_X11_runDay_231 A_X11_runDay_231 g0 g0 := Fr.rf
  refine Ev.mk rfl rfl ⟨Nat.le_of_ble_eq_true rfl, Or.inr (q_rc hI0.1 kx_231 rfl)⟩ ?_
  show At _ none _ _ (0, [(0, .ref 231)], [], (_, _)) _
  refine At.enter rfl ?_
  refine r_aload_n rfl ?_
  refine r_callV 4 rfl [.ref 231] [] (Nat.le_of_ble_eq_true rfl) rfl (T_X11_asIs_231 _ hI0) ?_
  rintro _ _ ⟨g25, rfl, hI26, hF27, rfl, hr29⟩
  refine At.stn ?_
  have hF30 := Fr.tr hF0 hF27 rfl rfl
  refine At.enter rfl ?_
  refine r_aload_n rfl ?_
  refine r_callV 8 rfl [.ref 231] [] (Nat.le_of_ble_eq_true rfl) rfl (T_X11_run_231 _ hI26) ?_
  rintro _ _ ⟨g31, rfl, hI32, hF33, rfl⟩
  refine At.stn ?_
  have hF36 := Fr.tr hF30 hF33 rfl rfl
  refine At.enter rfl ?_
  refine r_vret ?_
  exact ⟨_, rfl, hI32, hF36, rfl⟩
