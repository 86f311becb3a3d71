def F_X11_swaps_231 : List (Nat × Nat) := [(231, 0), (231, 27), (231, 30), (231, 31), (231, 32), (231, 36), (231, 45), (231, 46)]
def A_X11_swaps_231 : List Nat := [246, 247, 248, 250, 251, 252, 253, 254, 255, 256]
set_option maxRecDepth 100000 in
set_option maxHeartbeats 4000000 in
theorem T_X11_swaps_231 (d : Nat) {N : Nat} {g0 : List en_E} (hI0 : HI g0) (a1 : Int32) (a2 : Int32) : Ev (d + 10) 239 [.ref 231, .int a1, .int a2] (g0, N) (fun w h' => ∃ g', h' = (g', N) ∧ HI g' ∧ Fr F_X11_swaps_231 A_X11_swaps_231 g0 g' ∧ ∃ r : Int32, w = some (.int r) ∧ True) := by
  have hF0 : Fr F_X11_swaps_231 A_X11_swaps_231 g0 g0 := Fr.rf
  refine Ev.mk rfl rfl ⟨Nat.le_of_ble_eq_true rfl, Or.inr (q_rc hI0.1 kx_231 rfl)⟩ ?_
  show At _ none _ _ (0, [(0, .ref 231), (1, .int a1), (2, .int a2)], [], (_, _)) _
  refine At.enter rfl ?_
  refine r_aload_n rfl ?_
  refine r_iconst 0 rfl ?_
  refine q_putI (Sh.int hI0.1 kx_231 rfl) rfl ?_
  have hI359 := HI.wI0 hI0 kx_231 rfl (p := 231) (b := 0) (v := 0) rfl
  have hF360 := Fr.wI (p := 231) (b := 0) (v := 0) hF0 rfl
  refine r_iload_n rfl ?_
  refine q_i2l (fun v361 hv361 => ?_)
  refine r_lconst 0 rfl ?_
  refine r_iconst 1 rfl ?_
  refine r_aload_n rfl ?_
  refine q_getR (Sh.ref hI359.1 kx_231 rfl) ?_
  refine r_iconst 1 rfl ?_
  obtain ⟨v362, hv362⟩ : ∃ v, eA g0 233 1 = v := ⟨_, rfl⟩
  have tv362 := congrArg Int32.toInt hv362
  have wv362 := HI.t1 hI0
  rw [hv362] at wv362
  refine q_iald (Sh.arr hI359.1 ka_233) 1 rfl (by decide) v362 ((eA_c (gA_sI)).trans hv362) ?_
  refine q_ishlO (fun v363 hv363 => ?_)
  refine q_i2l (fun v364 hv364 => ?_)
  refine r_lconst 1 rfl ?_
  have bv365 := q_bnd v363
  refine q_lsub (v364.toInt - 1) rfl (by omega) (fun v366 hv366 => ?_)
  refine q_inlS 22 rfl [.long v361, .long 0, .long v366] [] (Nat.le_of_ble_eq_true rfl) rfl ?_
  refine Ev.mk rfl rfl ⟨Nat.le_of_ble_eq_true rfl, Or.inl rfl⟩ ?_
  show At _ none _ _ (0, [(0, .long v361), (2, .long 0), (4, .long v366)], [], (_, _)) _
  refine At.enter rfl ?_
  refine r_lload_n rfl ?_
  refine r_lload_n rfl ?_
  refine r_lcmp _ rfl ?_
  refine r_ifs 6 rfl (fun c367 => ?_) (fun c367 => ?_)
  · have c367_ : v361.toInt < 0 := en_j_lt_t c367
    refine At.enter rfl ?_
    refine r_iconst 0 rfl ?_
    refine Ar.fall 18 rfl ?_
    refine At.enter rfl ?_
    refine q_iretz (by decide) ?_
    refine At.enter rfl ?_
    refine r_ift (by decide) ?_
    refine At.enter rfl ?_
    refine r_iconst (-1) rfl ?_
    refine r_ireti ?_
    exact ⟨_, rfl, hI359, hF360, _, rfl, trivial⟩
  · have c367_ : v361.toInt ≥ 0 := en_j_lt_f c367
    refine At.enter rfl ?_
    refine r_lload_n rfl ?_
    refine r_lload rfl ?_
    refine r_lcmp _ rfl ?_
    refine r_ifs 13 rfl (fun c368 => ?_) (fun c368 => ?_)
    · have c368_ : v361.toInt > v366.toInt := en_j_gt_t c368
      refine At.enter rfl ?_
      refine r_iconst 0 rfl ?_
      refine Ar.fall 18 rfl ?_
      refine At.enter rfl ?_
      refine q_iretz (by decide) ?_
      refine At.enter rfl ?_
      refine r_ift (by decide) ?_
      refine At.enter rfl ?_
      refine r_iconst (-1) rfl ?_
      refine r_ireti ?_
      exact ⟨_, rfl, hI359, hF360, _, rfl, trivial⟩
    · have c368_ : v361.toInt ≤ v366.toInt := en_j_gt_f c368
      refine At.enter rfl ?_
      refine r_iconst 1 rfl ?_
      refine r_goto ?_
      refine At.enter rfl ?_
      refine q_iretz (by decide) ?_
      refine At.enter rfl ?_
      refine r_iff 25 rfl (by decide) ?_
      refine At.enter rfl ?_
      refine r_iload_n rfl ?_
      refine q_i2l (fun v369 hv369 => ?_)
      refine r_lconst 0 rfl ?_
      refine r_ldc2 5 rfl ?_
      refine q_inlS 34 rfl [.long v369, .long 0, .long 5] [] (Nat.le_of_ble_eq_true rfl) rfl ?_
      refine Ev.mk rfl rfl ⟨Nat.le_of_ble_eq_true rfl, Or.inl rfl⟩ ?_
      show At _ none _ _ (0, [(0, .long v369), (2, .long 0), (4, .long 5)], [], (_, _)) _
      refine At.enter rfl ?_
      refine r_lload_n rfl ?_
      refine r_lload_n rfl ?_
      refine r_lcmp _ rfl ?_
      refine r_ifs 6 rfl (fun c370 => ?_) (fun c370 => ?_)
      · have c370_ : v369.toInt < 0 := en_j_lt_t c370
        refine At.enter rfl ?_
        refine r_iconst 0 rfl ?_
        refine Ar.fall 18 rfl ?_
        refine At.enter rfl ?_
        refine q_iretz (by decide) ?_
        refine At.enter rfl ?_
        refine r_iff 37 rfl (by decide) ?_
        refine At.enter rfl ?_
        refine r_iconst (-1) rfl ?_
        refine r_ireti ?_
        exact ⟨_, rfl, hI359, hF360, _, rfl, trivial⟩
      · have c370_ : v369.toInt ≥ 0 := en_j_lt_f c370
        refine At.enter rfl ?_
        refine r_lload_n rfl ?_
        refine r_lload rfl ?_
        refine r_lcmp _ rfl ?_
        refine r_ifs 13 rfl (fun c371 => ?_) (fun c371 => ?_)
        · have c371_ : v369.toInt > 5 := en_j_gt_t c371
          refine At.enter rfl ?_
          refine r_iconst 0 rfl ?_
          refine Ar.fall 18 rfl ?_
          refine At.enter rfl ?_
          refine q_iretz (by decide) ?_
          refine At.enter rfl ?_
          refine r_iff 37 rfl (by decide) ?_
          refine At.enter rfl ?_
          refine r_iconst (-1) rfl ?_
          refine r_ireti ?_
          exact ⟨_, rfl, hI359, hF360, _, rfl, trivial⟩
        · have c371_ : v369.toInt ≤ 5 := en_j_gt_f c371
          refine At.enter rfl ?_
          refine r_iconst 1 rfl ?_
          refine r_goto ?_
          refine At.enter rfl ?_
          refine q_iretz (by decide) ?_
          refine At.enter rfl ?_
          refine r_ift (by decide) ?_
          refine At.enter rfl ?_
          refine r_iconst 0 rfl ?_
          refine r_istore_n ([(3, .int 0), (0, .ref 231), (1, .int a1), (2, .int a2)]) rfl ?_
          refine Ar.fall 41 rfl ?_
          have z_501 : (0 : Int32).toInt = 0 := rfl
          refine w_loopI (fun n_ l_ g_ => ∃ x489 : Int32, n_ = 3 - x489.toInt ∧ HI g_ ∧ Fr F_X11_swaps_231 A_X11_swaps_231 g0 g_ ∧ en_get 0 l_ = some (.ref 231) ∧ en_get 1 l_ = some (.int a1) ∧ en_get 2 l_ = some (.int a2) ∧ en_get 3 l_ = some (.int x489) ∧ (0 ≤ x489.toInt ∧ x489.toInt ≤ 3)) ?_ (3 - 0) ⟨0, by first | rfl | omega, hI359, hF360, rfl, rfl, rfl, rfl, by decide⟩
          rintro n494 l493 g490 ⟨x489, hm502, hI491, hF492, e496, e497, e498, e499, r500⟩ ih495
          refine At.enter rfl ?_
          refine r_iload_n e499 ?_
          refine r_iconst 3 rfl ?_
          refine r_ics 46 rfl (fun c503 => ?_) (fun c503 => ?_)
          · have c503_ : x489.toInt ≥ 3 := en_i_ge_t c503
            refine At.enter rfl ?_
            refine r_iload_n e498 ?_
            refine r_iconst 5 rfl ?_
            refine r_ics 206 rfl (fun c504 => ?_) (fun c504 => ?_)
            · have c504_ : a2.toInt ≠ 5 := en_i_ne_t c504
              refine At.enter rfl ?_
              refine r_iconst (-1) rfl ?_
              refine Ar.fall 211 rfl ?_
              refine At.enter rfl ?_
              refine r_ireti ?_
              exact ⟨_, rfl, hI491, hF492, _, rfl, trivial⟩
            · have c504_ : a2.toInt = 5 := en_i_ne_f c504
              refine At.enter rfl ?_
              refine r_iconst 0 rfl ?_
              refine r_goto ?_
              refine At.enter rfl ?_
              refine r_ireti ?_
              exact ⟨_, rfl, hI491, hF492, _, rfl, trivial⟩
          · have c503_ : x489.toInt < 3 := en_i_ge_f c503
            refine At.enter rfl ?_
            refine r_aload_n e496 ?_
            refine r_iload_n e497 ?_
            refine r_iload_n e499 ?_
            refine r_callV 52 rfl [.ref 231, .int a1, .int x489] [] (Nat.le_of_ble_eq_true rfl) rfl (T_X11_findSwaps_231 _ hI491 a1 x489 (by omega)) ?_
            rintro _ _ ⟨g505, rfl, hI506, hF507, rfl⟩
            refine At.stn ?_
            have hF510 := Fr.tr hF492 hF507 rfl rfl
            refine At.enter rfl ?_
            refine r_aload_n e496 ?_
            obtain ⟨v511, hv511⟩ : ∃ v, gI g505 231 45 = v := ⟨_, rfl⟩
            refine q_getI (Sh.int hI506.1 kx_231 rfl) v511 hv511 ?_
            refine r_ifs 59 rfl (fun c512 => ?_) (fun c512 => ?_)
            · have c512_ : v511.toInt ≤ 0 := en_k_le_t c512
              refine At.enter rfl ?_
              refine q_iinc e499 (x489.toInt + 1) rfl (by omega) (fun v513 hv513 => ?_)
              refine r_goto ?_
              exact ih495 (3 - v513.toInt) _ _ ⟨v513, by first | rfl | omega, hI506, hF510, (w_p1 (by decide) (Or.inr rfl) e496), (w_p1 (by decide) (Or.inr rfl) e497), (w_p1 (by decide) (Or.inr rfl) e498), (w_e1 _ _ _), by omega⟩ ⟨by omega, by omega⟩
            · have c512_ : v511.toInt > 0 := en_k_le_f c512
              refine At.enter rfl ?_
              refine r_iload_n e499 ?_
              refine r_iconst 2 rfl ?_
              refine r_ics 64 rfl (fun c514 => ?_) (fun c514 => ?_)
              · have c514_ : x489.toInt ≠ 2 := en_i_ne_t c514
                refine At.enter rfl ?_
                refine r_aload_n e496 ?_
                obtain ⟨v515, hv515⟩ : ∃ v, gI g505 231 46 = v := ⟨_, rfl⟩
                refine q_getI (Sh.int hI506.1 kx_231 rfl) v515 hv515 ?_
                refine Ar.fall 79 rfl ?_
                refine At.enter rfl ?_
                refine r_istore _ rfl ?_
                refine r_aload_n (w_p1 (by decide) (Or.inr rfl) e496) ?_
                refine q_getI (Sh.int hI506.1 kx_231 rfl) v515 hv515 ?_
                refine r_sipush 144 rfl ?_
                refine q_iremO (by decide) (fun v516 _ => ?_)
                refine r_istore _ rfl ?_
                refine r_iload_n (w_p1 (by decide) (Or.inr rfl) (w_p1 (by decide) (Or.inr rfl) e498)) ?_
                by_cases c517_0 : a2.toInt = 0
                · refine r_tsw 128 (by rw [c517_0]; rfl) ?_
                  refine At.enter rfl ?_
                  refine r_iload_n (w_p1 (by decide) (Or.inr rfl) (w_p1 (by decide) (Or.inr rfl) e499)) ?_
                  refine r_ireti ?_
                  exact ⟨_, rfl, hI506, hF510, _, rfl, trivial⟩
                by_cases c517_1 : a2.toInt = 1
                · refine r_tsw 130 (by rw [c517_1]; rfl) ?_
                  refine At.enter rfl ?_
                  refine r_iload_n (w_p1 (by decide) (Or.inr rfl) (w_p1 (by decide) (Or.inr rfl) e499)) ?_
                  refine r_iconst 1 rfl ?_
                  refine r_ics 135 rfl (fun c518 => ?_) (fun c518 => ?_)
                  · have c518_ : x489.toInt ≥ 1 := en_i_ge_t c518
                    refine At.enter rfl ?_
                    refine r_iload (w_p1 (by decide) (Or.inr rfl) (w_e1 _ _ _)) ?_
                    refine r_bipush 12 rfl ?_
                    refine q_idivO (by decide) (fun v519 _ => ?_)
                    refine Ar.fall 144 rfl ?_
                    refine At.enter rfl ?_
                    refine r_ireti ?_
                    exact ⟨_, rfl, hI506, hF510, _, rfl, trivial⟩
                  · have c518_ : x489.toInt < 1 := en_i_ge_f c518
                    refine At.enter rfl ?_
                    refine r_iconst (-1) rfl ?_
                    refine r_goto ?_
                    refine At.enter rfl ?_
                    refine r_ireti ?_
                    exact ⟨_, rfl, hI506, hF510, _, rfl, trivial⟩
                by_cases c517_2 : a2.toInt = 2
                · refine r_tsw 145 (by rw [c517_2]; rfl) ?_
                  refine At.enter rfl ?_
                  refine r_iload_n (w_p1 (by decide) (Or.inr rfl) (w_p1 (by decide) (Or.inr rfl) e499)) ?_
                  refine r_iconst 1 rfl ?_
                  refine r_ics 150 rfl (fun c520 => ?_) (fun c520 => ?_)
                  · have c520_ : x489.toInt ≥ 1 := en_i_ge_t c520
                    refine At.enter rfl ?_
                    refine r_iload (w_p1 (by decide) (Or.inr rfl) (w_e1 _ _ _)) ?_
                    refine r_bipush 12 rfl ?_
                    refine q_iremO (by decide) (fun v521 _ => ?_)
                    refine Ar.fall 159 rfl ?_
                    refine At.enter rfl ?_
                    refine r_ireti ?_
                    exact ⟨_, rfl, hI506, hF510, _, rfl, trivial⟩
                  · have c520_ : x489.toInt < 1 := en_i_ge_f c520
                    refine At.enter rfl ?_
                    refine r_iconst (-1) rfl ?_
                    refine r_goto ?_
                    refine At.enter rfl ?_
                    refine r_ireti ?_
                    exact ⟨_, rfl, hI506, hF510, _, rfl, trivial⟩
                by_cases c517_3 : a2.toInt = 3
                · refine r_tsw 160 (by rw [c517_3]; rfl) ?_
                  refine At.enter rfl ?_
                  refine r_iload_n (w_p1 (by decide) (Or.inr rfl) (w_p1 (by decide) (Or.inr rfl) e499)) ?_
                  refine r_iconst 2 rfl ?_
                  refine r_ics 165 rfl (fun c522 => ?_) (fun c522 => ?_)
                  · have c522_ : x489.toInt ≥ 2 := en_i_ge_t c522
                    exfalso; omega
                  · have c522_ : x489.toInt < 2 := en_i_ge_f c522
                    refine At.enter rfl ?_
                    refine r_iconst (-1) rfl ?_
                    refine r_goto ?_
                    refine At.enter rfl ?_
                    refine r_ireti ?_
                    exact ⟨_, rfl, hI506, hF510, _, rfl, trivial⟩
                by_cases c517_4 : a2.toInt = 4
                · refine r_tsw 175 (by rw [c517_4]; rfl) ?_
                  refine At.enter rfl ?_
                  refine r_iload_n (w_p1 (by decide) (Or.inr rfl) (w_p1 (by decide) (Or.inr rfl) e499)) ?_
                  refine r_iconst 2 rfl ?_
                  refine r_ics 180 rfl (fun c523 => ?_) (fun c523 => ?_)
                  · have c523_ : x489.toInt ≥ 2 := en_i_ge_t c523
                    exfalso; omega
                  · have c523_ : x489.toInt < 2 := en_i_ge_f c523
                    refine At.enter rfl ?_
                    refine r_iconst (-1) rfl ?_
                    refine r_goto ?_
                    refine At.enter rfl ?_
                    refine r_ireti ?_
                    exact ⟨_, rfl, hI506, hF510, _, rfl, trivial⟩
                have c524 : a2.toInt < 0 ∨ 4 < a2.toInt := by omega
                refine r_tsw 190 (by unfold en_sw; rw [if_pos c524]; rfl) ?_
                refine At.enter rfl ?_
                refine r_aload_n (w_p1 (by decide) (Or.inr rfl) (w_p1 (by decide) (Or.inr rfl) e496)) ?_
                refine q_getI (Sh.int hI506.1 kx_231 rfl) v511 hv511 ?_
                refine r_ireti ?_
                exact ⟨_, rfl, hI506, hF510, _, rfl, trivial⟩
              · have c514_ : x489.toInt = 2 := en_i_ne_f c514
                refine At.enter rfl ?_
                refine r_aload_n e496 ?_
                obtain ⟨v525, hv525⟩ : ∃ v, gI g505 231 46 = v := ⟨_, rfl⟩
                refine q_getI (Sh.int hI506.1 kx_231 rfl) v525 hv525 ?_
                refine r_sipush 144 rfl ?_
                refine q_idivO (by decide) (fun v526 _ => ?_)
                refine r_goto ?_
                refine At.enter rfl ?_
                refine r_istore _ rfl ?_
                refine r_aload_n (w_p1 (by decide) (Or.inr rfl) e496) ?_
                refine q_getI (Sh.int hI506.1 kx_231 rfl) v525 hv525 ?_
                refine r_sipush 144 rfl ?_
                refine q_iremO (by decide) (fun v527 _ => ?_)
                refine r_istore _ rfl ?_
                refine r_iload_n (w_p1 (by decide) (Or.inr rfl) (w_p1 (by decide) (Or.inr rfl) e498)) ?_
                by_cases c528_0 : a2.toInt = 0
                · refine r_tsw 128 (by rw [c528_0]; rfl) ?_
                  refine At.enter rfl ?_
                  refine r_iload_n (w_p1 (by decide) (Or.inr rfl) (w_p1 (by decide) (Or.inr rfl) e499)) ?_
                  refine r_ireti ?_
                  exact ⟨_, rfl, hI506, hF510, _, rfl, trivial⟩
                by_cases c528_1 : a2.toInt = 1
                · refine r_tsw 130 (by rw [c528_1]; rfl) ?_
                  refine At.enter rfl ?_
                  refine r_iload_n (w_p1 (by decide) (Or.inr rfl) (w_p1 (by decide) (Or.inr rfl) e499)) ?_
                  refine r_iconst 1 rfl ?_
                  refine r_ics 135 rfl (fun c529 => ?_) (fun c529 => ?_)
                  · have c529_ : x489.toInt ≥ 1 := en_i_ge_t c529
                    refine At.enter rfl ?_
                    refine r_iload (w_p1 (by decide) (Or.inr rfl) (w_e1 _ _ _)) ?_
                    refine r_bipush 12 rfl ?_
                    refine q_idivO (by decide) (fun v530 _ => ?_)
                    refine Ar.fall 144 rfl ?_
                    refine At.enter rfl ?_
                    refine r_ireti ?_
                    exact ⟨_, rfl, hI506, hF510, _, rfl, trivial⟩
                  · have c529_ : x489.toInt < 1 := en_i_ge_f c529
                    exfalso; omega
                by_cases c528_2 : a2.toInt = 2
                · refine r_tsw 145 (by rw [c528_2]; rfl) ?_
                  refine At.enter rfl ?_
                  refine r_iload_n (w_p1 (by decide) (Or.inr rfl) (w_p1 (by decide) (Or.inr rfl) e499)) ?_
                  refine r_iconst 1 rfl ?_
                  refine r_ics 150 rfl (fun c531 => ?_) (fun c531 => ?_)
                  · have c531_ : x489.toInt ≥ 1 := en_i_ge_t c531
                    refine At.enter rfl ?_
                    refine r_iload (w_p1 (by decide) (Or.inr rfl) (w_e1 _ _ _)) ?_
                    refine r_bipush 12 rfl ?_
                    refine q_iremO (by decide) (fun v532 _ => ?_)
                    refine Ar.fall 159 rfl ?_
                    refine At.enter rfl ?_
                    refine r_ireti ?_
                    exact ⟨_, rfl, hI506, hF510, _, rfl, trivial⟩
                  · have c531_ : x489.toInt < 1 := en_i_ge_f c531
                    exfalso; omega
                by_cases c528_3 : a2.toInt = 3
                · refine r_tsw 160 (by rw [c528_3]; rfl) ?_
                  refine At.enter rfl ?_
                  refine r_iload_n (w_p1 (by decide) (Or.inr rfl) (w_p1 (by decide) (Or.inr rfl) e499)) ?_
                  refine r_iconst 2 rfl ?_
                  refine r_ics 165 rfl (fun c533 => ?_) (fun c533 => ?_)
                  · have c533_ : x489.toInt ≥ 2 := en_i_ge_t c533
                    refine At.enter rfl ?_
                    refine r_iload (w_e1 _ _ _) ?_
                    refine r_bipush 12 rfl ?_
                    refine q_idivO (by decide) (fun v534 _ => ?_)
                    refine Ar.fall 174 rfl ?_
                    refine At.enter rfl ?_
                    refine r_ireti ?_
                    exact ⟨_, rfl, hI506, hF510, _, rfl, trivial⟩
                  · have c533_ : x489.toInt < 2 := en_i_ge_f c533
                    exfalso; omega
                by_cases c528_4 : a2.toInt = 4
                · refine r_tsw 175 (by rw [c528_4]; rfl) ?_
                  refine At.enter rfl ?_
                  refine r_iload_n (w_p1 (by decide) (Or.inr rfl) (w_p1 (by decide) (Or.inr rfl) e499)) ?_
                  refine r_iconst 2 rfl ?_
                  refine r_ics 180 rfl (fun c535 => ?_) (fun c535 => ?_)
                  · have c535_ : x489.toInt ≥ 2 := en_i_ge_t c535
                    refine At.enter rfl ?_
                    refine r_iload (w_e1 _ _ _) ?_
                    refine r_bipush 12 rfl ?_
                    refine q_iremO (by decide) (fun v536 _ => ?_)
                    refine Ar.fall 189 rfl ?_
                    refine At.enter rfl ?_
                    refine r_ireti ?_
                    exact ⟨_, rfl, hI506, hF510, _, rfl, trivial⟩
                  · have c535_ : x489.toInt < 2 := en_i_ge_f c535
                    exfalso; omega
                have c537 : a2.toInt < 0 ∨ 4 < a2.toInt := by omega
                refine r_tsw 190 (by unfold en_sw; rw [if_pos c537]; rfl) ?_
                refine At.enter rfl ?_
                refine r_aload_n (w_p1 (by decide) (Or.inr rfl) (w_p1 (by decide) (Or.inr rfl) e496)) ?_
                refine q_getI (Sh.int hI506.1 kx_231 rfl) v511 hv511 ?_
                refine r_ireti ?_
                exact ⟨_, rfl, hI506, hF510, _, rfl, trivial⟩
