def F_X10_put_0 : List (Nat × Nat) := [(0, 14), (0, 17), (220, 2), (222, 2), (223, 5), (223, 10)]
def A_X10_put_0 : List Nat := [2, 3, 4, 230]
set_option maxRecDepth 100000 in
set_option maxHeartbeats 4000000 in
theorem T_X10_put_0 (d : Nat) {N : Nat} {g0 : List en_E} (hI0 : HI g0) (a1 : Int32) (a2 : Int32) (a3 : Int32) : Ev (d + 3) 105 [.ref 0, .int a1, .int a2, .int a3] (g0, N) (fun w h' => ∃ g', h' = (g', N) ∧ HI g' ∧ Fr F_X10_put_0 A_X10_put_0 g0 g' ∧ ∃ r : Int32, w = some (.int r) ∧ True) := by
  have hF0 : Fr F_X10_put_0 A_X10_put_0 g0 g0 := Fr.rf
  refine Ev.mk rfl rfl ⟨Nat.le_of_ble_eq_true rfl, Or.inr (q_rc hI0.1 kx_0 rfl)⟩ ?_
  show At _ none _ _ (0, [(0, .ref 0), (1, .int a1), (2, .int a2), (3, .int a3)], [], (_, _)) _
  refine At.enter rfl ?_
  refine r_iload_n rfl ?_
  refine r_ifs 4 rfl (fun c319 => ?_) (fun c319 => ?_)
  · have c319_ : a2.toInt ≠ 0 := en_k_ne_t c319
    refine At.enter rfl ?_
    refine r_iload_n rfl ?_
    refine r_iconst 1 rfl ?_
    refine r_ics 19 rfl (fun c320 => ?_) (fun c320 => ?_)
    · have c320_ : a2.toInt ≠ 1 := en_i_ne_t c320
      refine At.enter rfl ?_
      refine r_iload_n rfl ?_
      refine r_iconst 2 rfl ?_
      refine r_ics 31 rfl (fun c321 => ?_) (fun c321 => ?_)
      · have c321_ : a2.toInt ≠ 2 := en_i_ne_t c321
        refine At.enter rfl ?_
        refine r_iconst 0 rfl ?_
        refine Ar.fall 43 rfl ?_
        refine At.enter rfl ?_
        refine r_istore ([(4, .int 0), (0, .ref 0), (1, .int a1), (2, .int a2), (3, .int a3)]) rfl ?_
        refine r_iload rfl ?_
        refine r_iff 50 rfl (by decide) ?_
        refine At.enter rfl ?_
        refine r_aload_n rfl ?_
        refine r_iconst (-1) rfl ?_
        refine r_callV 55 rfl [.ref 0, .int (-1)] [] (Nat.le_of_ble_eq_true rfl) rfl (T_X10_refused_0 _ hI0 (-1) (by decide)) ?_
        rintro _ _ ⟨g322, rfl, hI323, hF324, v325, rfl, hr326⟩
        refine At.sti ?_
        have hF327 := Fr.tr hF0 hF324 rfl rfl
        have zv328 : ((-1) : Int32).toInt = (-1) := rfl
        refine At.enter rfl ?_
        refine r_ireti ?_
        exact ⟨_, rfl, hI323, hF327, _, rfl, trivial⟩
      · have c321_ : a2.toInt = 2 := en_i_ne_f c321
        refine At.enter rfl ?_
        refine r_iload_n rfl ?_
        refine q_inlS 35 rfl [.int a3] [] (Nat.le_of_ble_eq_true rfl) rfl ?_
        refine Ev.mk rfl rfl ⟨Nat.le_of_ble_eq_true rfl, Or.inl rfl⟩ ?_
        show At _ none _ _ (0, [(0, .int a3)], [], (_, _)) _
        refine At.enter rfl ?_
        refine r_iload_n rfl ?_
        refine r_iconst 0 rfl ?_
        refine r_bipush 99 rfl ?_
        refine q_inlS 7 rfl [.int a3, .int 0, .int 99] [] (Nat.le_of_ble_eq_true rfl) rfl ?_
        refine Ev.mk rfl rfl ⟨Nat.le_of_ble_eq_true rfl, Or.inl rfl⟩ ?_
        show At _ none _ _ (0, [(0, .int a3), (1, .int 0), (2, .int 99)], [], (_, _)) _
        refine At.enter rfl ?_
        refine r_iload_n rfl ?_
        refine r_iload_n rfl ?_
        refine r_ics 5 rfl (fun c329 => ?_) (fun c329 => ?_)
        · have c329_ : a3.toInt < 0 := en_i_lt_t c329
          refine At.enter rfl ?_
          refine r_iconst 0 rfl ?_
          refine Ar.fall 15 rfl ?_
          refine At.enter rfl ?_
          refine q_iretz (by decide) ?_
          refine At.enter rfl ?_
          refine q_iretz (by decide) ?_
          refine At.enter rfl ?_
          refine r_ift (by decide) ?_
          refine At.enter rfl ?_
          refine r_iconst 0 rfl ?_
          refine Ar.fall 43 rfl ?_
          refine At.enter rfl ?_
          refine r_istore ([(4, .int 0), (0, .ref 0), (1, .int a1), (2, .int a2), (3, .int a3)]) rfl ?_
          refine r_iload rfl ?_
          refine r_iff 50 rfl (by decide) ?_
          refine At.enter rfl ?_
          refine r_aload_n rfl ?_
          refine r_iconst (-1) rfl ?_
          refine r_callV 55 rfl [.ref 0, .int (-1)] [] (Nat.le_of_ble_eq_true rfl) rfl (T_X10_refused_0 _ hI0 (-1) (by decide)) ?_
          rintro _ _ ⟨g330, rfl, hI331, hF332, v333, rfl, hr334⟩
          refine At.sti ?_
          have hF335 := Fr.tr hF0 hF332 rfl rfl
          have zv336 : ((-1) : Int32).toInt = (-1) := rfl
          refine At.enter rfl ?_
          refine r_ireti ?_
          exact ⟨_, rfl, hI331, hF335, _, rfl, trivial⟩
        · have c329_ : a3.toInt ≥ 0 := en_i_lt_f c329
          refine At.enter rfl ?_
          refine r_iload_n rfl ?_
          refine r_iload_n rfl ?_
          refine r_ics 10 rfl (fun c337 => ?_) (fun c337 => ?_)
          · have c337_ : a3.toInt > 99 := en_i_gt_t c337
            refine At.enter rfl ?_
            refine r_iconst 0 rfl ?_
            refine Ar.fall 15 rfl ?_
            refine At.enter rfl ?_
            refine q_iretz (by decide) ?_
            refine At.enter rfl ?_
            refine q_iretz (by decide) ?_
            refine At.enter rfl ?_
            refine r_ift (by decide) ?_
            refine At.enter rfl ?_
            refine r_iconst 0 rfl ?_
            refine Ar.fall 43 rfl ?_
            refine At.enter rfl ?_
            refine r_istore ([(4, .int 0), (0, .ref 0), (1, .int a1), (2, .int a2), (3, .int a3)]) rfl ?_
            refine r_iload rfl ?_
            refine r_iff 50 rfl (by decide) ?_
            refine At.enter rfl ?_
            refine r_aload_n rfl ?_
            refine r_iconst (-1) rfl ?_
            refine r_callV 55 rfl [.ref 0, .int (-1)] [] (Nat.le_of_ble_eq_true rfl) rfl (T_X10_refused_0 _ hI0 (-1) (by decide)) ?_
            rintro _ _ ⟨g338, rfl, hI339, hF340, v341, rfl, hr342⟩
            refine At.sti ?_
            have hF343 := Fr.tr hF0 hF340 rfl rfl
            have zv344 : ((-1) : Int32).toInt = (-1) := rfl
            refine At.enter rfl ?_
            refine r_ireti ?_
            exact ⟨_, rfl, hI339, hF343, _, rfl, trivial⟩
          · have c337_ : a3.toInt ≤ 99 := en_i_gt_f c337
            refine At.enter rfl ?_
            refine r_iconst 1 rfl ?_
            refine r_goto ?_
            refine At.enter rfl ?_
            refine q_iretz (by decide) ?_
            refine At.enter rfl ?_
            refine q_iretz (by decide) ?_
            refine At.enter rfl ?_
            refine r_iff 38 rfl (by decide) ?_
            refine At.enter rfl ?_
            refine r_iconst 1 rfl ?_
            refine r_goto ?_
            refine At.enter rfl ?_
            refine r_istore ([(4, .int 1), (0, .ref 0), (1, .int a1), (2, .int a2), (3, .int a3)]) rfl ?_
            refine r_iload rfl ?_
            refine r_ift (by decide) ?_
            refine At.enter rfl ?_
            refine r_aload_n rfl ?_
            refine q_getR (Sh.ref hI0.1 kx_0 rfl) ?_
            refine r_iload_n rfl ?_
            refine q_inlV 64 rfl [.ref 1, .int a1] [] (Nat.le_of_ble_eq_true rfl) rfl ?_
            refine Ev.mk rfl rfl ⟨Nat.le_of_ble_eq_true rfl, Or.inr (q_rc hI0.1 kx_1 rfl)⟩ ?_
            show At _ none _ _ (0, [(0, .ref 1), (1, .int a1)], [], (_, _)) _
            refine At.enter rfl ?_
            refine r_iload_n rfl ?_
            refine r_ifs 4 rfl (fun c345 => ?_) (fun c345 => ?_)
            · have c345_ : a1.toInt < 0 := en_k_lt_t c345
              refine At.enter rfl ?_
              refine r_iconst 0 rfl ?_
              refine Ar.fall 17 rfl ?_
              refine At.enter rfl ?_
              refine q_iretz (by decide) ?_
              refine At.enter rfl ?_
              refine r_iff 67 rfl (by decide) ?_
              refine At.enter rfl ?_
              refine r_aload_n rfl ?_
              refine r_bipush (-2) rfl ?_
              refine r_callV 73 rfl [.ref 0, .int (-2)] [] (Nat.le_of_ble_eq_true rfl) rfl (T_X10_refused_0 _ hI0 (-2) (by decide)) ?_
              rintro _ _ ⟨g346, rfl, hI347, hF348, v349, rfl, hr350⟩
              refine At.sti ?_
              have hF351 := Fr.tr hF0 hF348 rfl rfl
              have zv352 : ((-2) : Int32).toInt = (-2) := rfl
              refine At.enter rfl ?_
              refine r_ireti ?_
              exact ⟨_, rfl, hI347, hF351, _, rfl, trivial⟩
            · have c345_ : a1.toInt ≥ 0 := en_k_lt_f c345
              refine At.enter rfl ?_
              refine r_iload_n rfl ?_
              refine r_aload_n rfl ?_
              obtain ⟨v353, hv353⟩ : ∃ v, gI g0 1 0 = v := ⟨_, rfl⟩
              have rv353 := RgF.at hI0.2.1 (p := 1) (b := 0) rfl
              rw [hv353] at rv353
              dsimp only at rv353
              refine q_getI (Sh.int hI0.1 kx_1 rfl) v353 hv353 ?_
              have bv355 := q_bnd a1
              have bv356 := q_bnd v353
              refine r_ics 12 rfl (fun c354 => ?_) (fun c354 => ?_)
              · have c354_ : a1.toInt ≥ v353.toInt := en_i_ge_t c354
                refine At.enter rfl ?_
                refine r_iconst 0 rfl ?_
                refine Ar.fall 17 rfl ?_
                refine At.enter rfl ?_
                refine q_iretz (by decide) ?_
                refine At.enter rfl ?_
                refine r_iff 67 rfl (by decide) ?_
                refine At.enter rfl ?_
                refine r_aload_n rfl ?_
                refine r_bipush (-2) rfl ?_
                refine r_callV 73 rfl [.ref 0, .int (-2)] [] (Nat.le_of_ble_eq_true rfl) rfl (T_X10_refused_0 _ hI0 (-2) (by decide)) ?_
                rintro _ _ ⟨g357, rfl, hI358, hF359, v360, rfl, hr361⟩
                refine At.sti ?_
                have hF362 := Fr.tr hF0 hF359 rfl rfl
                have zv363 : ((-2) : Int32).toInt = (-2) := rfl
                refine At.enter rfl ?_
                refine r_ireti ?_
                exact ⟨_, rfl, hI358, hF362, _, rfl, trivial⟩
              · have c354_ : a1.toInt < v353.toInt := en_i_ge_f c354
                refine At.enter rfl ?_
                refine r_iconst 1 rfl ?_
                refine r_goto ?_
                refine At.enter rfl ?_
                refine q_iretz (by decide) ?_
                refine At.enter rfl ?_
                refine r_ift (by decide) ?_
                refine At.enter rfl ?_
                refine r_iload_n rfl ?_
                refine r_ifs 78 rfl (fun c364 => ?_) (fun c364 => ?_)
                · have c364_ : a2.toInt ≠ 0 := en_k_ne_t c364
                  refine At.enter rfl ?_
                  refine r_iload_n rfl ?_
                  refine r_iconst 1 rfl ?_
                  refine r_ics 93 rfl (fun c365 => ?_) (fun c365 => ?_)
                  · have c365_ : a2.toInt ≠ 1 := en_i_ne_t c365
                    refine At.enter rfl ?_
                    refine r_aload_n rfl ?_
                    refine q_getR (Sh.ref hI0.1 kx_0 rfl) ?_
                    refine q_getR (Sh.ref hI0.1 kx_1 rfl) ?_
                    refine Ar.fall 110 rfl ?_
                    refine At.enter rfl ?_
                    refine r_astore ([(5, .ref 4), (4, .int 1), (0, .ref 0), (1, .int a1), (2, .int a2), (3, .int a3)]) rfl ?_
                    refine r_aload rfl ?_
                    refine r_iload_n rfl ?_
                    obtain ⟨v366, hv366⟩ : ∃ v, eA g0 4 a1.toInt = v := ⟨_, rfl⟩
                    refine q_iald (Sh.arr hI0.1 ka_4) a1.toInt rfl (by omega) v366 hv366 ?_
                    refine r_istore ([(6, .int v366), (5, .ref 4), (4, .int 1), (0, .ref 0), (1, .int a1), (2, .int a2), (3, .int a3)]) rfl ?_
                    refine r_aload rfl ?_
                    refine r_iload_n rfl ?_
                    refine r_iload_n rfl ?_
                    refine q_iast (Sh.arr hI0.1 ka_4) (a1.toInt) rfl (by omega) ?_
                    have hI367 := HI.wA0 hI0 ka_4 (p := 4) rfl rfl (a1.toInt) (a3)
                    have hF368 := Fr.wA (p := 4) (j := a1.toInt) (v := a3) hF0 rfl
                    refine r_aload_n rfl ?_
                    refine r_callV 127 rfl [.ref 0] [] (Nat.le_of_ble_eq_true rfl) rfl (T_X10_changed_0 _ hI367) ?_
                    rintro _ _ ⟨g369, rfl, hI370, hF371, rfl⟩
                    refine At.stn ?_
                    have hF374 := Fr.tr hF368 hF371 rfl rfl
                    refine At.enter rfl ?_
                    refine r_aload_n rfl ?_
                    refine r_iload rfl ?_
                    refine q_inlV 133 rfl [.ref 0, .int v366] [] (Nat.le_of_ble_eq_true rfl) rfl ?_
                    refine Ev.mk rfl rfl ⟨Nat.le_of_ble_eq_true rfl, Or.inr (q_rc hI370.1 kx_0 rfl)⟩ ?_
                    show At _ none _ _ (0, [(0, .ref 0), (1, .int v366)], [], (_, _)) _
                    refine At.enter rfl ?_
                    refine r_aload_n rfl ?_
                    refine r_iconst 0 rfl ?_
                    refine q_putI (Sh.int hI370.1 kx_0 rfl) rfl ?_
                    have hI375 := HI.wI0 hI370 kx_0 rfl (p := 0) (b := 17) (v := 0) rfl
                    have hF376 := Fr.wI (p := 0) (b := 17) (v := 0) hF374 rfl
                    refine r_iload_n rfl ?_
                    refine q_ireti ?_
                    refine At.enter rfl ?_
                    refine r_ireti ?_
                    exact ⟨_, rfl, hI375, hF376, _, rfl, trivial⟩
                  · have c365_ : a2.toInt = 1 := en_i_ne_f c365
                    exfalso; omega
                · have c364_ : a2.toInt = 0 := en_k_ne_f c364
                  exfalso; omega
    · have c320_ : a2.toInt = 1 := en_i_ne_f c320
      refine At.enter rfl ?_
      refine r_iload_n rfl ?_
      refine q_inlS 23 rfl [.int a3] [] (Nat.le_of_ble_eq_true rfl) rfl ?_
      refine Ev.mk rfl rfl ⟨Nat.le_of_ble_eq_true rfl, Or.inl rfl⟩ ?_
      show At _ none _ _ (0, [(0, .int a3)], [], (_, _)) _
      refine At.enter rfl ?_
      refine r_iload_n rfl ?_
      refine r_iconst 1 rfl ?_
      refine r_bipush 9 rfl ?_
      refine q_inlS 7 rfl [.int a3, .int 1, .int 9] [] (Nat.le_of_ble_eq_true rfl) rfl ?_
      refine Ev.mk rfl rfl ⟨Nat.le_of_ble_eq_true rfl, Or.inl rfl⟩ ?_
      show At _ none _ _ (0, [(0, .int a3), (1, .int 1), (2, .int 9)], [], (_, _)) _
      refine At.enter rfl ?_
      refine r_iload_n rfl ?_
      refine r_iload_n rfl ?_
      refine r_ics 5 rfl (fun c377 => ?_) (fun c377 => ?_)
      · have c377_ : a3.toInt < 1 := en_i_lt_t c377
        refine At.enter rfl ?_
        refine r_iconst 0 rfl ?_
        refine Ar.fall 15 rfl ?_
        refine At.enter rfl ?_
        refine q_iretz (by decide) ?_
        refine At.enter rfl ?_
        refine q_iretz (by decide) ?_
        refine At.enter rfl ?_
        refine r_iff 26 rfl (by decide) ?_
        refine At.enter rfl ?_
        refine r_iload_n rfl ?_
        refine r_iconst 2 rfl ?_
        refine r_ics 31 rfl (fun c378 => ?_) (fun c378 => ?_)
        · have c378_ : a2.toInt ≠ 2 := en_i_ne_t c378
          refine At.enter rfl ?_
          refine r_iconst 0 rfl ?_
          refine Ar.fall 43 rfl ?_
          refine At.enter rfl ?_
          refine r_istore ([(4, .int 0), (0, .ref 0), (1, .int a1), (2, .int a2), (3, .int a3)]) rfl ?_
          refine r_iload rfl ?_
          refine r_iff 50 rfl (by decide) ?_
          refine At.enter rfl ?_
          refine r_aload_n rfl ?_
          refine r_iconst (-1) rfl ?_
          refine r_callV 55 rfl [.ref 0, .int (-1)] [] (Nat.le_of_ble_eq_true rfl) rfl (T_X10_refused_0 _ hI0 (-1) (by decide)) ?_
          rintro _ _ ⟨g379, rfl, hI380, hF381, v382, rfl, hr383⟩
          refine At.sti ?_
          have hF384 := Fr.tr hF0 hF381 rfl rfl
          have zv385 : ((-1) : Int32).toInt = (-1) := rfl
          refine At.enter rfl ?_
          refine r_ireti ?_
          exact ⟨_, rfl, hI380, hF384, _, rfl, trivial⟩
        · have c378_ : a2.toInt = 2 := en_i_ne_f c378
          exfalso; omega
      · have c377_ : a3.toInt ≥ 1 := en_i_lt_f c377
        refine At.enter rfl ?_
        refine r_iload_n rfl ?_
        refine r_iload_n rfl ?_
        refine r_ics 10 rfl (fun c386 => ?_) (fun c386 => ?_)
        · have c386_ : a3.toInt > 9 := en_i_gt_t c386
          refine At.enter rfl ?_
          refine r_iconst 0 rfl ?_
          refine Ar.fall 15 rfl ?_
          refine At.enter rfl ?_
          refine q_iretz (by decide) ?_
          refine At.enter rfl ?_
          refine q_iretz (by decide) ?_
          refine At.enter rfl ?_
          refine r_iff 26 rfl (by decide) ?_
          refine At.enter rfl ?_
          refine r_iload_n rfl ?_
          refine r_iconst 2 rfl ?_
          refine r_ics 31 rfl (fun c387 => ?_) (fun c387 => ?_)
          · have c387_ : a2.toInt ≠ 2 := en_i_ne_t c387
            refine At.enter rfl ?_
            refine r_iconst 0 rfl ?_
            refine Ar.fall 43 rfl ?_
            refine At.enter rfl ?_
            refine r_istore ([(4, .int 0), (0, .ref 0), (1, .int a1), (2, .int a2), (3, .int a3)]) rfl ?_
            refine r_iload rfl ?_
            refine r_iff 50 rfl (by decide) ?_
            refine At.enter rfl ?_
            refine r_aload_n rfl ?_
            refine r_iconst (-1) rfl ?_
            refine r_callV 55 rfl [.ref 0, .int (-1)] [] (Nat.le_of_ble_eq_true rfl) rfl (T_X10_refused_0 _ hI0 (-1) (by decide)) ?_
            rintro _ _ ⟨g388, rfl, hI389, hF390, v391, rfl, hr392⟩
            refine At.sti ?_
            have hF393 := Fr.tr hF0 hF390 rfl rfl
            have zv394 : ((-1) : Int32).toInt = (-1) := rfl
            refine At.enter rfl ?_
            refine r_ireti ?_
            exact ⟨_, rfl, hI389, hF393, _, rfl, trivial⟩
          · have c387_ : a2.toInt = 2 := en_i_ne_f c387
            exfalso; omega
        · have c386_ : a3.toInt ≤ 9 := en_i_gt_f c386
          refine At.enter rfl ?_
          refine r_iconst 1 rfl ?_
          refine r_goto ?_
          refine At.enter rfl ?_
          refine q_iretz (by decide) ?_
          refine At.enter rfl ?_
          refine q_iretz (by decide) ?_
          refine At.enter rfl ?_
          refine r_ift (by decide) ?_
          refine At.enter rfl ?_
          refine r_iconst 1 rfl ?_
          refine r_goto ?_
          refine At.enter rfl ?_
          refine r_istore ([(4, .int 1), (0, .ref 0), (1, .int a1), (2, .int a2), (3, .int a3)]) rfl ?_
          refine r_iload rfl ?_
          refine r_ift (by decide) ?_
          refine At.enter rfl ?_
          refine r_aload_n rfl ?_
          refine q_getR (Sh.ref hI0.1 kx_0 rfl) ?_
          refine r_iload_n rfl ?_
          refine q_inlV 64 rfl [.ref 1, .int a1] [] (Nat.le_of_ble_eq_true rfl) rfl ?_
          refine Ev.mk rfl rfl ⟨Nat.le_of_ble_eq_true rfl, Or.inr (q_rc hI0.1 kx_1 rfl)⟩ ?_
          show At _ none _ _ (0, [(0, .ref 1), (1, .int a1)], [], (_, _)) _
          refine At.enter rfl ?_
          refine r_iload_n rfl ?_
          refine r_ifs 4 rfl (fun c395 => ?_) (fun c395 => ?_)
          · have c395_ : a1.toInt < 0 := en_k_lt_t c395
            refine At.enter rfl ?_
            refine r_iconst 0 rfl ?_
            refine Ar.fall 17 rfl ?_
            refine At.enter rfl ?_
            refine q_iretz (by decide) ?_
            refine At.enter rfl ?_
            refine r_iff 67 rfl (by decide) ?_
            refine At.enter rfl ?_
            refine r_aload_n rfl ?_
            refine r_bipush (-2) rfl ?_
            refine r_callV 73 rfl [.ref 0, .int (-2)] [] (Nat.le_of_ble_eq_true rfl) rfl (T_X10_refused_0 _ hI0 (-2) (by decide)) ?_
            rintro _ _ ⟨g396, rfl, hI397, hF398, v399, rfl, hr400⟩
            refine At.sti ?_
            have hF401 := Fr.tr hF0 hF398 rfl rfl
            have zv402 : ((-2) : Int32).toInt = (-2) := rfl
            refine At.enter rfl ?_
            refine r_ireti ?_
            exact ⟨_, rfl, hI397, hF401, _, rfl, trivial⟩
          · have c395_ : a1.toInt ≥ 0 := en_k_lt_f c395
            refine At.enter rfl ?_
            refine r_iload_n rfl ?_
            refine r_aload_n rfl ?_
            obtain ⟨v403, hv403⟩ : ∃ v, gI g0 1 0 = v := ⟨_, rfl⟩
            have rv403 := RgF.at hI0.2.1 (p := 1) (b := 0) rfl
            rw [hv403] at rv403
            dsimp only at rv403
            refine q_getI (Sh.int hI0.1 kx_1 rfl) v403 hv403 ?_
            have bv405 := q_bnd a1
            have bv406 := q_bnd v403
            refine r_ics 12 rfl (fun c404 => ?_) (fun c404 => ?_)
            · have c404_ : a1.toInt ≥ v403.toInt := en_i_ge_t c404
              refine At.enter rfl ?_
              refine r_iconst 0 rfl ?_
              refine Ar.fall 17 rfl ?_
              refine At.enter rfl ?_
              refine q_iretz (by decide) ?_
              refine At.enter rfl ?_
              refine r_iff 67 rfl (by decide) ?_
              refine At.enter rfl ?_
              refine r_aload_n rfl ?_
              refine r_bipush (-2) rfl ?_
              refine r_callV 73 rfl [.ref 0, .int (-2)] [] (Nat.le_of_ble_eq_true rfl) rfl (T_X10_refused_0 _ hI0 (-2) (by decide)) ?_
              rintro _ _ ⟨g407, rfl, hI408, hF409, v410, rfl, hr411⟩
              refine At.sti ?_
              have hF412 := Fr.tr hF0 hF409 rfl rfl
              have zv413 : ((-2) : Int32).toInt = (-2) := rfl
              refine At.enter rfl ?_
              refine r_ireti ?_
              exact ⟨_, rfl, hI408, hF412, _, rfl, trivial⟩
            · have c404_ : a1.toInt < v403.toInt := en_i_ge_f c404
              refine At.enter rfl ?_
              refine r_iconst 1 rfl ?_
              refine r_goto ?_
              refine At.enter rfl ?_
              refine q_iretz (by decide) ?_
              refine At.enter rfl ?_
              refine r_ift (by decide) ?_
              refine At.enter rfl ?_
              refine r_iload_n rfl ?_
              refine r_ifs 78 rfl (fun c414 => ?_) (fun c414 => ?_)
              · have c414_ : a2.toInt ≠ 0 := en_k_ne_t c414
                refine At.enter rfl ?_
                refine r_iload_n rfl ?_
                refine r_iconst 1 rfl ?_
                refine r_ics 93 rfl (fun c415 => ?_) (fun c415 => ?_)
                · have c415_ : a2.toInt ≠ 1 := en_i_ne_t c415
                  exfalso; omega
                · have c415_ : a2.toInt = 1 := en_i_ne_f c415
                  refine At.enter rfl ?_
                  refine r_aload_n rfl ?_
                  refine q_getR (Sh.ref hI0.1 kx_0 rfl) ?_
                  refine q_getR (Sh.ref hI0.1 kx_1 rfl) ?_
                  refine r_goto ?_
                  refine At.enter rfl ?_
                  refine r_astore ([(5, .ref 3), (4, .int 1), (0, .ref 0), (1, .int a1), (2, .int a2), (3, .int a3)]) rfl ?_
                  refine r_aload rfl ?_
                  refine r_iload_n rfl ?_
                  obtain ⟨v416, hv416⟩ : ∃ v, eA g0 3 a1.toInt = v := ⟨_, rfl⟩
                  refine q_iald (Sh.arr hI0.1 ka_3) a1.toInt rfl (by omega) v416 hv416 ?_
                  refine r_istore ([(6, .int v416), (5, .ref 3), (4, .int 1), (0, .ref 0), (1, .int a1), (2, .int a2), (3, .int a3)]) rfl ?_
                  refine r_aload rfl ?_
                  refine r_iload_n rfl ?_
                  refine r_iload_n rfl ?_
                  refine q_iast (Sh.arr hI0.1 ka_3) (a1.toInt) rfl (by omega) ?_
                  have hI417 := HI.wA0 hI0 ka_3 (p := 3) rfl rfl (a1.toInt) (a3)
                  have hF418 := Fr.wA (p := 3) (j := a1.toInt) (v := a3) hF0 rfl
                  refine r_aload_n rfl ?_
                  refine r_callV 127 rfl [.ref 0] [] (Nat.le_of_ble_eq_true rfl) rfl (T_X10_changed_0 _ hI417) ?_
                  rintro _ _ ⟨g419, rfl, hI420, hF421, rfl⟩
                  refine At.stn ?_
                  have hF424 := Fr.tr hF418 hF421 rfl rfl
                  refine At.enter rfl ?_
                  refine r_aload_n rfl ?_
                  refine r_iload rfl ?_
                  refine q_inlV 133 rfl [.ref 0, .int v416] [] (Nat.le_of_ble_eq_true rfl) rfl ?_
                  refine Ev.mk rfl rfl ⟨Nat.le_of_ble_eq_true rfl, Or.inr (q_rc hI420.1 kx_0 rfl)⟩ ?_
                  show At _ none _ _ (0, [(0, .ref 0), (1, .int v416)], [], (_, _)) _
                  refine At.enter rfl ?_
                  refine r_aload_n rfl ?_
                  refine r_iconst 0 rfl ?_
                  refine q_putI (Sh.int hI420.1 kx_0 rfl) rfl ?_
                  have hI425 := HI.wI0 hI420 kx_0 rfl (p := 0) (b := 17) (v := 0) rfl
                  have hF426 := Fr.wI (p := 0) (b := 17) (v := 0) hF424 rfl
                  refine r_iload_n rfl ?_
                  refine q_ireti ?_
                  refine At.enter rfl ?_
                  refine r_ireti ?_
                  exact ⟨_, rfl, hI425, hF426, _, rfl, trivial⟩
              · have c414_ : a2.toInt = 0 := en_k_ne_f c414
                exfalso; omega
  · have c319_ : a2.toInt = 0 := en_k_ne_f c319
    refine At.enter rfl ?_
    refine r_iload_n rfl ?_
    refine r_iconst (-1) rfl ?_
    refine r_bipush 11 rfl ?_
    refine q_inlS 11 rfl [.int a3, .int (-1), .int 11] [] (Nat.le_of_ble_eq_true rfl) rfl ?_
    refine Ev.mk rfl rfl ⟨Nat.le_of_ble_eq_true rfl, Or.inl rfl⟩ ?_
    show At _ none _ _ (0, [(0, .int a3), (1, .int (-1)), (2, .int 11)], [], (_, _)) _
    refine At.enter rfl ?_
    refine r_iload_n rfl ?_
    refine r_iload_n rfl ?_
    refine r_ics 5 rfl (fun c427 => ?_) (fun c427 => ?_)
    · have c427_ : a3.toInt < (-1) := en_i_lt_t c427
      refine At.enter rfl ?_
      refine r_iconst 0 rfl ?_
      refine Ar.fall 15 rfl ?_
      refine At.enter rfl ?_
      refine q_iretz (by decide) ?_
      refine At.enter rfl ?_
      refine r_iff 14 rfl (by decide) ?_
      refine At.enter rfl ?_
      refine r_iload_n rfl ?_
      refine r_iconst 1 rfl ?_
      refine r_ics 19 rfl (fun c428 => ?_) (fun c428 => ?_)
      · have c428_ : a2.toInt ≠ 1 := en_i_ne_t c428
        refine At.enter rfl ?_
        refine r_iload_n rfl ?_
        refine r_iconst 2 rfl ?_
        refine r_ics 31 rfl (fun c429 => ?_) (fun c429 => ?_)
        · have c429_ : a2.toInt ≠ 2 := en_i_ne_t c429
          refine At.enter rfl ?_
          refine r_iconst 0 rfl ?_
          refine Ar.fall 43 rfl ?_
          refine At.enter rfl ?_
          refine r_istore ([(4, .int 0), (0, .ref 0), (1, .int a1), (2, .int a2), (3, .int a3)]) rfl ?_
          refine r_iload rfl ?_
          refine r_iff 50 rfl (by decide) ?_
          refine At.enter rfl ?_
          refine r_aload_n rfl ?_
          refine r_iconst (-1) rfl ?_
          refine r_callV 55 rfl [.ref 0, .int (-1)] [] (Nat.le_of_ble_eq_true rfl) rfl (T_X10_refused_0 _ hI0 (-1) (by decide)) ?_
          rintro _ _ ⟨g430, rfl, hI431, hF432, v433, rfl, hr434⟩
          refine At.sti ?_
          have hF435 := Fr.tr hF0 hF432 rfl rfl
          have zv436 : ((-1) : Int32).toInt = (-1) := rfl
          refine At.enter rfl ?_
          refine r_ireti ?_
          exact ⟨_, rfl, hI431, hF435, _, rfl, trivial⟩
        · have c429_ : a2.toInt = 2 := en_i_ne_f c429
          exfalso; omega
      · have c428_ : a2.toInt = 1 := en_i_ne_f c428
        exfalso; omega
    · have c427_ : a3.toInt ≥ (-1) := en_i_lt_f c427
      refine At.enter rfl ?_
      refine r_iload_n rfl ?_
      refine r_iload_n rfl ?_
      refine r_ics 10 rfl (fun c437 => ?_) (fun c437 => ?_)
      · have c437_ : a3.toInt > 11 := en_i_gt_t c437
        refine At.enter rfl ?_
        refine r_iconst 0 rfl ?_
        refine Ar.fall 15 rfl ?_
        refine At.enter rfl ?_
        refine q_iretz (by decide) ?_
        refine At.enter rfl ?_
        refine r_iff 14 rfl (by decide) ?_
        refine At.enter rfl ?_
        refine r_iload_n rfl ?_
        refine r_iconst 1 rfl ?_
        refine r_ics 19 rfl (fun c438 => ?_) (fun c438 => ?_)
        · have c438_ : a2.toInt ≠ 1 := en_i_ne_t c438
          refine At.enter rfl ?_
          refine r_iload_n rfl ?_
          refine r_iconst 2 rfl ?_
          refine r_ics 31 rfl (fun c439 => ?_) (fun c439 => ?_)
          · have c439_ : a2.toInt ≠ 2 := en_i_ne_t c439
            refine At.enter rfl ?_
            refine r_iconst 0 rfl ?_
            refine Ar.fall 43 rfl ?_
            refine At.enter rfl ?_
            refine r_istore ([(4, .int 0), (0, .ref 0), (1, .int a1), (2, .int a2), (3, .int a3)]) rfl ?_
            refine r_iload rfl ?_
            refine r_iff 50 rfl (by decide) ?_
            refine At.enter rfl ?_
            refine r_aload_n rfl ?_
            refine r_iconst (-1) rfl ?_
            refine r_callV 55 rfl [.ref 0, .int (-1)] [] (Nat.le_of_ble_eq_true rfl) rfl (T_X10_refused_0 _ hI0 (-1) (by decide)) ?_
            rintro _ _ ⟨g440, rfl, hI441, hF442, v443, rfl, hr444⟩
            refine At.sti ?_
            have hF445 := Fr.tr hF0 hF442 rfl rfl
            have zv446 : ((-1) : Int32).toInt = (-1) := rfl
            refine At.enter rfl ?_
            refine r_ireti ?_
            exact ⟨_, rfl, hI441, hF445, _, rfl, trivial⟩
          · have c439_ : a2.toInt = 2 := en_i_ne_f c439
            exfalso; omega
        · have c438_ : a2.toInt = 1 := en_i_ne_f c438
          exfalso; omega
      · have c437_ : a3.toInt ≤ 11 := en_i_gt_f c437
        refine At.enter rfl ?_
        refine r_iconst 1 rfl ?_
        refine r_goto ?_
        refine At.enter rfl ?_
        refine q_iretz (by decide) ?_
        refine At.enter rfl ?_
        refine r_ift (by decide) ?_
        refine At.enter rfl ?_
        refine r_iconst 1 rfl ?_
        refine r_goto ?_
        refine At.enter rfl ?_
        refine r_istore ([(4, .int 1), (0, .ref 0), (1, .int a1), (2, .int a2), (3, .int a3)]) rfl ?_
        refine r_iload rfl ?_
        refine r_ift (by decide) ?_
        refine At.enter rfl ?_
        refine r_aload_n rfl ?_
        refine q_getR (Sh.ref hI0.1 kx_0 rfl) ?_
        refine r_iload_n rfl ?_
        refine q_inlV 64 rfl [.ref 1, .int a1] [] (Nat.le_of_ble_eq_true rfl) rfl ?_
        refine Ev.mk rfl rfl ⟨Nat.le_of_ble_eq_true rfl, Or.inr (q_rc hI0.1 kx_1 rfl)⟩ ?_
        show At _ none _ _ (0, [(0, .ref 1), (1, .int a1)], [], (_, _)) _
        refine At.enter rfl ?_
        refine r_iload_n rfl ?_
        refine r_ifs 4 rfl (fun c447 => ?_) (fun c447 => ?_)
        · have c447_ : a1.toInt < 0 := en_k_lt_t c447
          refine At.enter rfl ?_
          refine r_iconst 0 rfl ?_
          refine Ar.fall 17 rfl ?_
          refine At.enter rfl ?_
          refine q_iretz (by decide) ?_
          refine At.enter rfl ?_
          refine r_iff 67 rfl (by decide) ?_
          refine At.enter rfl ?_
          refine r_aload_n rfl ?_
          refine r_bipush (-2) rfl ?_
          refine r_callV 73 rfl [.ref 0, .int (-2)] [] (Nat.le_of_ble_eq_true rfl) rfl (T_X10_refused_0 _ hI0 (-2) (by decide)) ?_
          rintro _ _ ⟨g448, rfl, hI449, hF450, v451, rfl, hr452⟩
          refine At.sti ?_
          have hF453 := Fr.tr hF0 hF450 rfl rfl
          have zv454 : ((-2) : Int32).toInt = (-2) := rfl
          refine At.enter rfl ?_
          refine r_ireti ?_
          exact ⟨_, rfl, hI449, hF453, _, rfl, trivial⟩
        · have c447_ : a1.toInt ≥ 0 := en_k_lt_f c447
          refine At.enter rfl ?_
          refine r_iload_n rfl ?_
          refine r_aload_n rfl ?_
          obtain ⟨v455, hv455⟩ : ∃ v, gI g0 1 0 = v := ⟨_, rfl⟩
          have rv455 := RgF.at hI0.2.1 (p := 1) (b := 0) rfl
          rw [hv455] at rv455
          dsimp only at rv455
          refine q_getI (Sh.int hI0.1 kx_1 rfl) v455 hv455 ?_
          have bv457 := q_bnd a1
          have bv458 := q_bnd v455
          refine r_ics 12 rfl (fun c456 => ?_) (fun c456 => ?_)
          · have c456_ : a1.toInt ≥ v455.toInt := en_i_ge_t c456
            refine At.enter rfl ?_
            refine r_iconst 0 rfl ?_
            refine Ar.fall 17 rfl ?_
            refine At.enter rfl ?_
            refine q_iretz (by decide) ?_
            refine At.enter rfl ?_
            refine r_iff 67 rfl (by decide) ?_
            refine At.enter rfl ?_
            refine r_aload_n rfl ?_
            refine r_bipush (-2) rfl ?_
            refine r_callV 73 rfl [.ref 0, .int (-2)] [] (Nat.le_of_ble_eq_true rfl) rfl (T_X10_refused_0 _ hI0 (-2) (by decide)) ?_
            rintro _ _ ⟨g459, rfl, hI460, hF461, v462, rfl, hr463⟩
            refine At.sti ?_
            have hF464 := Fr.tr hF0 hF461 rfl rfl
            have zv465 : ((-2) : Int32).toInt = (-2) := rfl
            refine At.enter rfl ?_
            refine r_ireti ?_
            exact ⟨_, rfl, hI460, hF464, _, rfl, trivial⟩
          · have c456_ : a1.toInt < v455.toInt := en_i_ge_f c456
            refine At.enter rfl ?_
            refine r_iconst 1 rfl ?_
            refine r_goto ?_
            refine At.enter rfl ?_
            refine q_iretz (by decide) ?_
            refine At.enter rfl ?_
            refine r_ift (by decide) ?_
            refine At.enter rfl ?_
            refine r_iload_n rfl ?_
            refine r_ifs 78 rfl (fun c466 => ?_) (fun c466 => ?_)
            · have c466_ : a2.toInt ≠ 0 := en_k_ne_t c466
              exfalso; omega
            · have c466_ : a2.toInt = 0 := en_k_ne_f c466
              refine At.enter rfl ?_
              refine r_aload_n rfl ?_
              refine q_getR (Sh.ref hI0.1 kx_0 rfl) ?_
              refine q_getR (Sh.ref hI0.1 kx_1 rfl) ?_
              refine r_goto ?_
              refine At.enter rfl ?_
              refine r_astore ([(5, .ref 2), (4, .int 1), (0, .ref 0), (1, .int a1), (2, .int a2), (3, .int a3)]) rfl ?_
              refine r_aload rfl ?_
              refine r_iload_n rfl ?_
              obtain ⟨v467, hv467⟩ : ∃ v, eA g0 2 a1.toInt = v := ⟨_, rfl⟩
              refine q_iald (Sh.arr hI0.1 ka_2) a1.toInt rfl (by omega) v467 hv467 ?_
              refine r_istore ([(6, .int v467), (5, .ref 2), (4, .int 1), (0, .ref 0), (1, .int a1), (2, .int a2), (3, .int a3)]) rfl ?_
              refine r_aload rfl ?_
              refine r_iload_n rfl ?_
              refine r_iload_n rfl ?_
              refine q_iast (Sh.arr hI0.1 ka_2) (a1.toInt) rfl (by omega) ?_
              have hI468 := HI.wA0 hI0 ka_2 (p := 2) rfl rfl (a1.toInt) (a3)
              have hF469 := Fr.wA (p := 2) (j := a1.toInt) (v := a3) hF0 rfl
              refine r_aload_n rfl ?_
              refine r_callV 127 rfl [.ref 0] [] (Nat.le_of_ble_eq_true rfl) rfl (T_X10_changed_0 _ hI468) ?_
              rintro _ _ ⟨g470, rfl, hI471, hF472, rfl⟩
              refine At.stn ?_
              have hF475 := Fr.tr hF469 hF472 rfl rfl
              refine At.enter rfl ?_
              refine r_aload_n rfl ?_
              refine r_iload rfl ?_
              refine q_inlV 133 rfl [.ref 0, .int v467] [] (Nat.le_of_ble_eq_true rfl) rfl ?_
              refine Ev.mk rfl rfl ⟨Nat.le_of_ble_eq_true rfl, Or.inr (q_rc hI471.1 kx_0 rfl)⟩ ?_
              show At _ none _ _ (0, [(0, .ref 0), (1, .int v467)], [], (_, _)) _
              refine At.enter rfl ?_
              refine r_aload_n rfl ?_
              refine r_iconst 0 rfl ?_
              refine q_putI (Sh.int hI471.1 kx_0 rfl) rfl ?_
              have hI476 := HI.wI0 hI471 kx_0 rfl (p := 0) (b := 17) (v := 0) rfl
              have hF477 := Fr.wI (p := 0) (b := 17) (v := 0) hF475 rfl
              refine r_iload_n rfl ?_
              refine q_ireti ?_
              refine At.enter rfl ?_
              refine r_ireti ?_
              exact ⟨_, rfl, hI476, hF477, _, rfl, trivial⟩
