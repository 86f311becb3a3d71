def F_X11_enter_231 : List (Nat × Nat) := [(231, 0)]
def A_X11_enter_231 : List Nat := []
set_option maxRecDepth 100000 in
set_option maxHeartbeats 4000000 in
theorem T_X11_enter_231 (d : Nat) {N : Nat} {g0 : List en_E} (hI0 : HI g0) (a1 : Int32) (a2 : Int32) : Ev (d + 4) 222 [.ref 231, .int a1, .int a2] (g0, N) (fun w h' => ∃ g', h' = (g', N) ∧ HI g' ∧ Fr F_X11_enter_231 A_X11_enter_231 g0 g' ∧ ∃ r : Int32, w = some (.int r) ∧ True) := by
  have hF0 : Fr F_X11_enter_231 A_X11_enter_231 g0 g0 := Fr.rf
  refine Ev.mk rfl rfl ⟨Nat.le_of_ble_eq_true rfl, Or.inr (q_rc hI0.1 kx_231 rfl)⟩ ?_
  show At _ none _ _ (0, [(0, .ref 231), (1, .int a1), (2, .int a2)], [], (_, _)) _
  refine At.enter rfl ?_
  refine r_aload_n rfl ?_
  refine r_iconst 0 rfl ?_
  refine q_putI (Sh.int hI0.1 kx_231 rfl) rfl ?_
  have hI8431 := HI.wI0 hI0 kx_231 rfl (p := 231) (b := 0) (v := 0) rfl
  have hF8432 := Fr.wI (p := 231) (b := 0) (v := 0) hF0 rfl
  refine r_aload_n rfl ?_
  refine r_iload_n rfl ?_
  refine q_inlV 10 rfl [.ref 231, .int a1] [] (Nat.le_of_ble_eq_true rfl) rfl ?_
  refine Ev.mk rfl rfl ⟨Nat.le_of_ble_eq_true rfl, Or.inr (q_rc hI8431.1 kx_231 rfl)⟩ ?_
  show At _ none _ _ (0, [(0, .ref 231), (1, .int a1)], [], (_, _)) _
  refine At.enter rfl ?_
  refine r_iload_n rfl ?_
  refine q_i2l (fun v8433 hv8433 => ?_)
  refine r_lconst 0 rfl ?_
  refine r_aload_n rfl ?_
  refine q_getR (Sh.ref hI8431.1 kx_231 rfl) ?_
  refine r_iconst 0 rfl ?_
  obtain ⟨v8434, hv8434⟩ : ∃ v, eA g0 233 0 = v := ⟨_, rfl⟩
  have tv8434 := congrArg Int32.toInt hv8434
  have wv8434 := HI.t0 hI0
  rw [hv8434] at wv8434
  refine q_iald (Sh.arr hI8431.1 ka_233) 0 rfl (by decide) v8434 ((eA_c (gA_sI)).trans hv8434) ?_
  refine q_i2l (fun v8435 hv8435 => ?_)
  refine r_lconst 1 rfl ?_
  refine q_lsub (v8435.toInt - 1) rfl (by omega) (fun v8436 hv8436 => ?_)
  refine q_inlS 15 rfl [.long v8433, .long 0, .long v8436] [] (Nat.le_of_ble_eq_true rfl) rfl ?_
  refine Ev.mk rfl rfl ⟨Nat.le_of_ble_eq_true rfl, Or.inl rfl⟩ ?_
  show At _ none _ _ (0, [(0, .long v8433), (2, .long 0), (4, .long v8436)], [], (_, _)) _
  refine At.enter rfl ?_
  refine r_lload_n rfl ?_
  refine r_lload_n rfl ?_
  refine r_lcmp _ rfl ?_
  refine r_ifs 6 rfl (fun c8437 => ?_) (fun c8437 => ?_)
  · have c8437_ : v8433.toInt < 0 := en_j_lt_t c8437
    refine At.enter rfl ?_
    refine r_iconst 0 rfl ?_
    refine Ar.fall 18 rfl ?_
    refine At.enter rfl ?_
    refine q_iretz (by decide) ?_
    refine At.enter rfl ?_
    refine q_iretz (by decide) ?_
    refine At.enter rfl ?_
    refine r_ift (by decide) ?_
    refine At.enter rfl ?_
    refine r_iconst (-1) rfl ?_
    refine r_ireti ?_
    exact ⟨_, rfl, hI8431, hF8432, _, rfl, trivial⟩
  · have c8437_ : v8433.toInt ≥ 0 := en_j_lt_f c8437
    refine At.enter rfl ?_
    refine r_lload_n rfl ?_
    refine r_lload rfl ?_
    refine r_lcmp _ rfl ?_
    refine r_ifs 13 rfl (fun c8438 => ?_) (fun c8438 => ?_)
    · have c8438_ : v8433.toInt > v8436.toInt := en_j_gt_t c8438
      refine At.enter rfl ?_
      refine r_iconst 0 rfl ?_
      refine Ar.fall 18 rfl ?_
      refine At.enter rfl ?_
      refine q_iretz (by decide) ?_
      refine At.enter rfl ?_
      refine q_iretz (by decide) ?_
      refine At.enter rfl ?_
      refine r_ift (by decide) ?_
      refine At.enter rfl ?_
      refine r_iconst (-1) rfl ?_
      refine r_ireti ?_
      exact ⟨_, rfl, hI8431, hF8432, _, rfl, trivial⟩
    · have c8438_ : v8433.toInt ≤ v8436.toInt := en_j_gt_f c8438
      refine At.enter rfl ?_
      refine r_iconst 1 rfl ?_
      refine r_goto ?_
      refine At.enter rfl ?_
      refine q_iretz (by decide) ?_
      refine At.enter rfl ?_
      refine q_iretz (by decide) ?_
      refine At.enter rfl ?_
      refine r_iff 13 rfl (by decide) ?_
      refine At.enter rfl ?_
      refine r_aload_n rfl ?_
      refine r_iload_n rfl ?_
      refine q_inlV 18 rfl [.ref 231, .int a2] [] (Nat.le_of_ble_eq_true rfl) rfl ?_
      refine Ev.mk rfl rfl ⟨Nat.le_of_ble_eq_true rfl, Or.inr (q_rc hI8431.1 kx_231 rfl)⟩ ?_
      show At _ none _ _ (0, [(0, .ref 231), (1, .int a2)], [], (_, _)) _
      refine At.enter rfl ?_
      refine r_iload_n rfl ?_
      refine q_i2l (fun v8439 hv8439 => ?_)
      refine r_lconst 0 rfl ?_
      refine r_iconst 1 rfl ?_
      refine r_aload_n rfl ?_
      refine q_getR (Sh.ref hI8431.1 kx_231 rfl) ?_
      refine r_iconst 0 rfl ?_
      refine q_iald (Sh.arr hI8431.1 ka_233) 0 rfl (by decide) v8434 ((eA_c (gA_sI)).trans hv8434) ?_
      refine q_ishlO (fun v8440 hv8440 => ?_)
      refine q_i2l (fun v8441 hv8441 => ?_)
      refine r_lconst 1 rfl ?_
      have bv8442 := q_bnd v8440
      refine q_lsub (v8441.toInt - 1) rfl (by omega) (fun v8443 hv8443 => ?_)
      refine q_inlS 17 rfl [.long v8439, .long 0, .long v8443] [] (Nat.le_of_ble_eq_true rfl) rfl ?_
      refine Ev.mk rfl rfl ⟨Nat.le_of_ble_eq_true rfl, Or.inl rfl⟩ ?_
      show At _ none _ _ (0, [(0, .long v8439), (2, .long 0), (4, .long v8443)], [], (_, _)) _
      refine At.enter rfl ?_
      refine r_lload_n rfl ?_
      refine r_lload_n rfl ?_
      refine r_lcmp _ rfl ?_
      refine r_ifs 6 rfl (fun c8444 => ?_) (fun c8444 => ?_)
      · have c8444_ : v8439.toInt < 0 := en_j_lt_t c8444
        refine At.enter rfl ?_
        refine r_iconst 0 rfl ?_
        refine Ar.fall 18 rfl ?_
        refine At.enter rfl ?_
        refine q_iretz (by decide) ?_
        refine At.enter rfl ?_
        refine q_iretz (by decide) ?_
        refine At.enter rfl ?_
        refine r_iff 21 rfl (by decide) ?_
        refine At.enter rfl ?_
        refine r_iconst (-1) rfl ?_
        refine r_ireti ?_
        exact ⟨_, rfl, hI8431, hF8432, _, rfl, trivial⟩
      · have c8444_ : v8439.toInt ≥ 0 := en_j_lt_f c8444
        refine At.enter rfl ?_
        refine r_lload_n rfl ?_
        refine r_lload rfl ?_
        refine r_lcmp _ rfl ?_
        refine r_ifs 13 rfl (fun c8445 => ?_) (fun c8445 => ?_)
        · have c8445_ : v8439.toInt > v8443.toInt := en_j_gt_t c8445
          refine At.enter rfl ?_
          refine r_iconst 0 rfl ?_
          refine Ar.fall 18 rfl ?_
          refine At.enter rfl ?_
          refine q_iretz (by decide) ?_
          refine At.enter rfl ?_
          refine q_iretz (by decide) ?_
          refine At.enter rfl ?_
          refine r_iff 21 rfl (by decide) ?_
          refine At.enter rfl ?_
          refine r_iconst (-1) rfl ?_
          refine r_ireti ?_
          exact ⟨_, rfl, hI8431, hF8432, _, rfl, trivial⟩
        · have c8445_ : v8439.toInt ≤ v8443.toInt := en_j_gt_f c8445
          refine At.enter rfl ?_
          refine r_iconst 1 rfl ?_
          refine r_goto ?_
          refine At.enter rfl ?_
          refine q_iretz (by decide) ?_
          refine At.enter rfl ?_
          refine q_iretz (by decide) ?_
          refine At.enter rfl ?_
          refine r_ift (by decide) ?_
          refine At.enter rfl ?_
          refine r_iconst 0 rfl ?_
          refine r_istore_n ([(3, .int 0), (0, .ref 231), (1, .int a1), (2, .int a2)]) rfl ?_
          refine r_iconst 0 rfl ?_
          refine r_istore ([(4, .int 0), (3, .int 0), (0, .ref 231), (1, .int a1), (2, .int a2)]) rfl ?_
          refine Ar.fall 28 rfl ?_
          have z_12222 : (0 : Int32).toInt = 0 := rfl
          have z_12223 : (0 : Int32).toInt = 0 := rfl
          refine w_loopI (fun n_ l_ g_ => ∃ x12208 : Int32, ∃ x12209 : Int32, n_ = 12 - x12209.toInt ∧ HI g_ ∧ Fr F_X11_enter_231 A_X11_enter_231 g0 g_ ∧ en_get 0 l_ = some (.ref 231) ∧ en_get 1 l_ = some (.int a1) ∧ en_get 2 l_ = some (.int a2) ∧ en_get 3 l_ = some (.int x12208) ∧ en_get 4 l_ = some (.int x12209) ∧ (0 ≤ x12209.toInt ∧ x12209.toInt ≤ 12)) ?_ (12 - 0) ⟨0, 0, by first | rfl | omega, hI8431, hF8432, rfl, rfl, rfl, rfl, rfl, by decide⟩
          rintro n12214 l12213 g12210 ⟨x12208, x12209, hm12224, hI12211, hF12212, e12216, e12217, e12218, e12219, e12220, r12221⟩ ih12215
          refine At.enter rfl ?_
          refine r_iload e12220 ?_
          refine r_aload_n e12216 ?_
          refine q_getR (Sh.ref hI12211.1 kx_231 rfl) ?_
          refine r_iconst 0 rfl ?_
          refine q_iald (Sh.arr hI12211.1 ka_233) 0 rfl (by decide) v8434 ((eA_c (hF12212.2.1 233 (by decide))).trans hv8434) ?_
          have bv12226 := q_bnd x12209
          have bv12227 := q_bnd v8434
          refine r_ics 39 rfl (fun c12225 => ?_) (fun c12225 => ?_)
          · have c12225_ : x12209.toInt ≥ v8434.toInt := en_i_ge_t c12225
            refine At.enter rfl ?_
            refine r_iload_n e12219 ?_
            refine r_ireti ?_
            exact ⟨_, rfl, hI12211, hF12212, _, rfl, trivial⟩
          · have c12225_ : x12209.toInt < v8434.toInt := en_i_ge_f c12225
            refine At.enter rfl ?_
            refine r_iload e12220 ?_
            refine r_istore _ rfl ?_
            refine r_iconst 0 rfl ?_
            refine r_istore _ rfl ?_
            refine Ar.fall 46 rfl ?_
            have z_12606 : (0 : Int32).toInt = 0 := rfl
            refine w_loopI (fun n_ l_ g_ => ∃ x12588 : Int32, ∃ x12589 : Int32, ∃ x12590 : Int32, n_ = 13 - x12590.toInt ∧ HI g_ ∧ Fr F_X11_enter_231 A_X11_enter_231 g0 g_ ∧ en_get 0 l_ = some (.ref 231) ∧ en_get 1 l_ = some (.int a1) ∧ en_get 2 l_ = some (.int a2) ∧ en_get 3 l_ = some (.int x12588) ∧ en_get 4 l_ = some (.int x12209) ∧ en_get 5 l_ = some (.int x12589) ∧ en_get 6 l_ = some (.int x12590) ∧ ((-1) ≤ x12589.toInt ∧ x12589.toInt ≤ 11) ∧ (0 ≤ x12590.toInt ∧ x12590.toInt ≤ 13)) ?_ (13 - 0) ⟨x12208, x12209, 0, by first | rfl | omega, hI12211, hF12212, (w_p1 (by decide) (Or.inr rfl) (w_p1 (by decide) (Or.inr rfl) e12216)), (w_p1 (by decide) (Or.inr rfl) (w_p1 (by decide) (Or.inr rfl) e12217)), (w_p1 (by decide) (Or.inr rfl) (w_p1 (by decide) (Or.inr rfl) e12218)), (w_p1 (by decide) (Or.inr rfl) (w_p1 (by decide) (Or.inr rfl) e12219)), (w_p1 (by decide) (Or.inr rfl) (w_p1 (by decide) (Or.inr rfl) e12220)), (w_p1 (by decide) (Or.inr rfl) (w_e1 _ _ _)), (w_e1 _ _ _), by omega, by decide⟩
            rintro n12595 l12594 g12591 ⟨x12588, x12589, x12590, hm12607, hI12592, hF12593, e12597, e12598, e12599, e12600, e12601, e12602, e12603, r12604, r12605⟩ ih12596
            refine At.enter rfl ?_
            refine r_iload e12603 ?_
            refine r_bipush 13 rfl ?_
            refine r_ics 53 rfl (fun c12608 => ?_) (fun c12608 => ?_)
            · have c12608_ : x12590.toInt ≥ 13 := en_i_ge_t c12608
              refine At.enter rfl ?_
              refine q_iinc e12601 (x12209.toInt + 1) rfl (by omega) (fun v12609 hv12609 => ?_)
              refine r_goto ?_
              have bv12610 := q_bnd x12588
              exact ih12215 (12 - v12609.toInt) _ _ ⟨x12588, v12609, by first | rfl | omega, hI12592, hF12593, (w_p1 (by decide) (Or.inr rfl) e12597), (w_p1 (by decide) (Or.inr rfl) e12598), (w_p1 (by decide) (Or.inr rfl) e12599), (w_p1 (by decide) (Or.inr rfl) e12600), (w_e1 _ _ _), by omega⟩ ⟨by omega, by omega⟩
            · have c12608_ : x12590.toInt < 13 := en_i_ge_f c12608
              refine At.enter rfl ?_
              refine r_iload e12602 ?_
              refine r_iconst (-1) rfl ?_
              refine r_ics 59 rfl (fun c12611 => ?_) (fun c12611 => ?_)
              · have c12611_ : x12589.toInt = (-1) := en_i_eq_t c12611
                refine At.enter rfl ?_
                refine q_iinc e12601 (x12209.toInt + 1) rfl (by omega) (fun v12612 hv12612 => ?_)
                refine r_goto ?_
                have bv12613 := q_bnd x12588
                exact ih12215 (12 - v12612.toInt) _ _ ⟨x12588, v12612, by first | rfl | omega, hI12592, hF12593, (w_p1 (by decide) (Or.inr rfl) e12597), (w_p1 (by decide) (Or.inr rfl) e12598), (w_p1 (by decide) (Or.inr rfl) e12599), (w_p1 (by decide) (Or.inr rfl) e12600), (w_e1 _ _ _), by omega⟩ ⟨by omega, by omega⟩
              · have c12611_ : x12589.toInt ≠ (-1) := en_i_eq_f c12611
                refine At.enter rfl ?_
                refine r_iload_n e12599 ?_
                refine r_iload e12602 ?_
                refine r_iconst (-1) rfl ?_
                refine r_ics 66 rfl (fun c12614 => ?_) (fun c12614 => ?_)
                · have c12614_ : x12589.toInt ≠ (-1) := en_i_ne_t c12614
                  refine At.enter rfl ?_
                  refine r_iload e12602 ?_
                  refine Ar.fall 72 rfl ?_
                  refine At.enter rfl ?_
                  refine q_inlS 75 rfl [.int a2, .int x12589] [] (Nat.le_of_ble_eq_true rfl) rfl ?_
                  refine Ev.mk rfl rfl ⟨Nat.le_of_ble_eq_true rfl, Or.inl rfl⟩ ?_
                  show At _ none _ _ (0, [(0, .int a2), (1, .int x12589)], [], (_, _)) _
                  refine At.enter rfl ?_
                  refine r_iload_n rfl ?_
                  refine r_iload_n rfl ?_
                  refine q_ishrO (fun v12615 hv12615 => ?_)
                  refine r_iconst 1 rfl ?_
                  refine q_iandO (fun v12616 hv12616 => ?_)
                  refine r_iconst 1 rfl ?_
                  refine r_ics 9 rfl (fun c12617 => ?_) (fun c12617 => ?_)
                  · have c12617_ : v12616.toInt ≠ 1 := en_i_ne_t c12617
                    refine At.enter rfl ?_
                    refine r_iconst 0 rfl ?_
                    refine Ar.fall 14 rfl ?_
                    refine At.enter rfl ?_
                    refine q_iretz (by decide) ?_
                    refine At.enter rfl ?_
                    refine r_iff 78 rfl (by decide) ?_
                    refine At.enter rfl ?_
                    refine r_iload_n e12600 ?_
                    refine r_iload e12602 ?_
                    refine r_iload_n e12598 ?_
                    refine r_ics 85 rfl (fun c12618 => ?_) (fun c12618 => ?_)
                    · have c12618_ : x12589.toInt ≠ a1.toInt := en_i_ne_t c12618
                      refine At.enter rfl ?_
                      refine r_iconst 0 rfl ?_
                      refine Ar.fall 93 rfl ?_
                      refine At.enter rfl ?_
                      refine q_iorO (fun v12619 hv12619 => ?_)
                      refine r_istore_n _ rfl ?_
                      refine r_iload (w_p1 (by decide) (Or.inr rfl) e12602) ?_
                      refine r_iload_n (w_p1 (by decide) (Or.inr rfl) e12598) ?_
                      refine r_ics 101 rfl (fun c12620 => ?_) (fun c12620 => ?_)
                      · have c12620_ : x12589.toInt ≠ a1.toInt := en_i_ne_t c12620
                        refine At.enter rfl ?_
                        refine r_aload_n (w_p1 (by decide) (Or.inr rfl) e12597) ?_
                        refine r_iload (w_p1 (by decide) (Or.inr rfl) e12602) ?_
                        refine r_iconst 0 rfl ?_
                        refine r_callV 112 rfl [.ref 231, .int x12589, .int 0] [] (Nat.le_of_ble_eq_true rfl) rfl (T_X11_nextOf_231 _ hI12592 x12589 (by omega) 0) ?_
                        rintro _ _ ⟨g12621, rfl, hI12622, hF12623, v12624, rfl, hr12625⟩
                        refine At.sti ?_
                        have hF12626 := Fr.tr hF12593 hF12623 rfl rfl
                        have zv12627 : (0 : Int32).toInt = 0 := rfl
                        rw [eA_c ((hF12593.2.1 233 (by decide)))] at hr12625
                        refine At.enter rfl ?_
                        refine r_istore _ rfl ?_
                        refine q_iinc (w_p1 (by decide) (Or.inr rfl) (w_p1 (by decide) (Or.inr rfl) e12603)) (x12590.toInt + 1) rfl (by omega) (fun v12628 hv12628 => ?_)
                        refine r_goto ?_
                        have bv12629 := q_bnd v12619
                        exact ih12596 (13 - v12628.toInt) _ _ ⟨v12619, v12624, v12628, by first | rfl | omega, hI12622, hF12626, (w_p1 (by decide) (Or.inr rfl) (w_p1 (by decide) (Or.inr rfl) (w_p1 (by decide) (Or.inr rfl) e12597))), (w_p1 (by decide) (Or.inr rfl) (w_p1 (by decide) (Or.inr rfl) (w_p1 (by decide) (Or.inr rfl) e12598))), (w_p1 (by decide) (Or.inr rfl) (w_p1 (by decide) (Or.inr rfl) (w_p1 (by decide) (Or.inr rfl) e12599))), (w_p1 (by decide) (Or.inr rfl) (w_p1 (by decide) (Or.inr rfl) (w_e1 _ _ _))), (w_p1 (by decide) (Or.inr rfl) (w_p1 (by decide) (Or.inr rfl) (w_p1 (by decide) (Or.inr rfl) e12601))), (w_p1 (by decide) (Or.inr rfl) (w_e1 _ _ _)), (w_e1 _ _ _), by omega, by omega⟩ ⟨by omega, by omega⟩
                      · have c12620_ : x12589.toInt = a1.toInt := en_i_ne_f c12620
                        refine At.enter rfl ?_
                        refine r_iconst (-1) rfl ?_
                        refine r_goto ?_
                        refine At.enter rfl ?_
                        refine r_istore _ rfl ?_
                        refine q_iinc (w_p1 (by decide) (Or.inr rfl) (w_p1 (by decide) (Or.inr rfl) e12603)) (x12590.toInt + 1) rfl (by omega) (fun v12630 hv12630 => ?_)
                        refine r_goto ?_
                        have bv12631 := q_bnd v12619
                        exact ih12596 (13 - v12630.toInt) _ _ ⟨v12619, (-1), v12630, by first | rfl | omega, hI12592, hF12593, (w_p1 (by decide) (Or.inr rfl) (w_p1 (by decide) (Or.inr rfl) (w_p1 (by decide) (Or.inr rfl) e12597))), (w_p1 (by decide) (Or.inr rfl) (w_p1 (by decide) (Or.inr rfl) (w_p1 (by decide) (Or.inr rfl) e12598))), (w_p1 (by decide) (Or.inr rfl) (w_p1 (by decide) (Or.inr rfl) (w_p1 (by decide) (Or.inr rfl) e12599))), (w_p1 (by decide) (Or.inr rfl) (w_p1 (by decide) (Or.inr rfl) (w_e1 _ _ _))), (w_p1 (by decide) (Or.inr rfl) (w_p1 (by decide) (Or.inr rfl) (w_p1 (by decide) (Or.inr rfl) e12601))), (w_p1 (by decide) (Or.inr rfl) (w_e1 _ _ _)), (w_e1 _ _ _), by decide, by omega⟩ ⟨by omega, by omega⟩
                    · have c12618_ : x12589.toInt = a1.toInt := en_i_ne_f c12618
                      refine At.enter rfl ?_
                      refine r_iconst 1 rfl ?_
                      refine r_iload e12601 ?_
                      refine q_ishlO (fun v12632 hv12632 => ?_)
                      refine r_goto ?_
                      refine At.enter rfl ?_
                      refine q_iorO (fun v12633 hv12633 => ?_)
                      refine r_istore_n _ rfl ?_
                      refine r_iload (w_p1 (by decide) (Or.inr rfl) e12602) ?_
                      refine r_iload_n (w_p1 (by decide) (Or.inr rfl) e12598) ?_
                      refine r_ics 101 rfl (fun c12634 => ?_) (fun c12634 => ?_)
                      · have c12634_ : x12589.toInt ≠ a1.toInt := en_i_ne_t c12634
                        refine At.enter rfl ?_
                        refine r_aload_n (w_p1 (by decide) (Or.inr rfl) e12597) ?_
                        refine r_iload (w_p1 (by decide) (Or.inr rfl) e12602) ?_
                        refine r_iconst 0 rfl ?_
                        refine r_callV 112 rfl [.ref 231, .int x12589, .int 0] [] (Nat.le_of_ble_eq_true rfl) rfl (T_X11_nextOf_231 _ hI12592 x12589 (by omega) 0) ?_
                        rintro _ _ ⟨g12635, rfl, hI12636, hF12637, v12638, rfl, hr12639⟩
                        refine At.sti ?_
                        have hF12640 := Fr.tr hF12593 hF12637 rfl rfl
                        have zv12641 : (0 : Int32).toInt = 0 := rfl
                        rw [eA_c ((hF12593.2.1 233 (by decide)))] at hr12639
                        refine At.enter rfl ?_
                        refine r_istore _ rfl ?_
                        refine q_iinc (w_p1 (by decide) (Or.inr rfl) (w_p1 (by decide) (Or.inr rfl) e12603)) (x12590.toInt + 1) rfl (by omega) (fun v12642 hv12642 => ?_)
                        refine r_goto ?_
                        have bv12643 := q_bnd v12633
                        exact ih12596 (13 - v12642.toInt) _ _ ⟨v12633, v12638, v12642, by first | rfl | omega, hI12636, hF12640, (w_p1 (by decide) (Or.inr rfl) (w_p1 (by decide) (Or.inr rfl) (w_p1 (by decide) (Or.inr rfl) e12597))), (w_p1 (by decide) (Or.inr rfl) (w_p1 (by decide) (Or.inr rfl) (w_p1 (by decide) (Or.inr rfl) e12598))), (w_p1 (by decide) (Or.inr rfl) (w_p1 (by decide) (Or.inr rfl) (w_p1 (by decide) (Or.inr rfl) e12599))), (w_p1 (by decide) (Or.inr rfl) (w_p1 (by decide) (Or.inr rfl) (w_e1 _ _ _))), (w_p1 (by decide) (Or.inr rfl) (w_p1 (by decide) (Or.inr rfl) (w_p1 (by decide) (Or.inr rfl) e12601))), (w_p1 (by decide) (Or.inr rfl) (w_e1 _ _ _)), (w_e1 _ _ _), by omega, by omega⟩ ⟨by omega, by omega⟩
                      · have c12634_ : x12589.toInt = a1.toInt := en_i_ne_f c12634
                        refine At.enter rfl ?_
                        refine r_iconst (-1) rfl ?_
                        refine r_goto ?_
                        refine At.enter rfl ?_
                        refine r_istore _ rfl ?_
                        refine q_iinc (w_p1 (by decide) (Or.inr rfl) (w_p1 (by decide) (Or.inr rfl) e12603)) (x12590.toInt + 1) rfl (by omega) (fun v12644 hv12644 => ?_)
                        refine r_goto ?_
                        have bv12645 := q_bnd v12633
                        exact ih12596 (13 - v12644.toInt) _ _ ⟨v12633, (-1), v12644, by first | rfl | omega, hI12592, hF12593, (w_p1 (by decide) (Or.inr rfl) (w_p1 (by decide) (Or.inr rfl) (w_p1 (by decide) (Or.inr rfl) e12597))), (w_p1 (by decide) (Or.inr rfl) (w_p1 (by decide) (Or.inr rfl) (w_p1 (by decide) (Or.inr rfl) e12598))), (w_p1 (by decide) (Or.inr rfl) (w_p1 (by decide) (Or.inr rfl) (w_p1 (by decide) (Or.inr rfl) e12599))), (w_p1 (by decide) (Or.inr rfl) (w_p1 (by decide) (Or.inr rfl) (w_e1 _ _ _))), (w_p1 (by decide) (Or.inr rfl) (w_p1 (by decide) (Or.inr rfl) (w_p1 (by decide) (Or.inr rfl) e12601))), (w_p1 (by decide) (Or.inr rfl) (w_e1 _ _ _)), (w_e1 _ _ _), by decide, by omega⟩ ⟨by omega, by omega⟩
                  · have c12617_ : v12616.toInt = 1 := en_i_ne_f c12617
                    refine At.enter rfl ?_
                    refine r_iconst 1 rfl ?_
                    refine r_goto ?_
                    refine At.enter rfl ?_
                    refine q_iretz (by decide) ?_
                    refine At.enter rfl ?_
                    refine r_ift (by decide) ?_
                    refine At.enter rfl ?_
                    refine q_iinc e12601 (x12209.toInt + 1) rfl (by omega) (fun v12646 hv12646 => ?_)
                    refine r_goto ?_
                    have bv12647 := q_bnd x12588
                    exact ih12215 (12 - v12646.toInt) _ _ ⟨x12588, v12646, by first | rfl | omega, hI12592, hF12593, (w_p1 (by decide) (Or.inr rfl) e12597), (w_p1 (by decide) (Or.inr rfl) e12598), (w_p1 (by decide) (Or.inr rfl) e12599), (w_p1 (by decide) (Or.inr rfl) e12600), (w_e1 _ _ _), by omega⟩ ⟨by omega, by omega⟩
                · have c12614_ : x12589.toInt = (-1) := en_i_ne_f c12614
                  exfalso; omega
