def F_X11_held_231 : List (Nat × Nat) := [(231, 0), (231, 27), (231, 30), (231, 31), (231, 32), (231, 36)]
def A_X11_held_231 : List Nat := [246, 247, 248, 250, 251, 252, 253, 254, 255, 256]
set_option maxRecDepth 100000 in
set_option maxHeartbeats 4000000 in
theorem T_X11_held_231 (d : Nat) {N : Nat} {g0 : List en_E} (hI0 : HI g0) (a1 : Int32) (a2 : Int32) (a3 : Int32) : Ev (d + 9) 233 [.ref 231, .int a1, .int a2, .int a3] (g0, N) (fun w h' => ∃ g', h' = (g', N) ∧ HI g' ∧ Fr F_X11_held_231 A_X11_held_231 g0 g' ∧ ∃ r : Int32, w = some (.int r) ∧ True) := by
  have hF0 : Fr F_X11_held_231 A_X11_held_231 g0 g0 := Fr.rf
  refine Ev.mk rfl rfl ⟨Nat.le_of_ble_eq_true rfl, Or.inr (q_rc hI0.1 kx_231 rfl)⟩ ?_
  show At _ none _ _ (0, [(0, .ref 231), (1, .int a1), (2, .int a2), (3, .int a3)], [], (_, _)) _
  refine At.enter rfl ?_
  refine r_aload_n rfl ?_
  refine r_iconst 0 rfl ?_
  refine q_putI (Sh.int hI0.1 kx_231 rfl) rfl ?_
  have hI605 := HI.wI0 hI0 kx_231 rfl (p := 231) (b := 0) (v := 0) rfl
  have hF606 := Fr.wI (p := 231) (b := 0) (v := 0) hF0 rfl
  refine r_aload_n rfl ?_
  refine r_iload_n rfl ?_
  refine q_inlV 10 rfl [.ref 231, .int a1] [] (Nat.le_of_ble_eq_true rfl) rfl ?_
  refine Ev.mk rfl rfl ⟨Nat.le_of_ble_eq_true rfl, Or.inr (q_rc hI605.1 kx_231 rfl)⟩ ?_
  show At _ none _ _ (0, [(0, .ref 231), (1, .int a1)], [], (_, _)) _
  refine At.enter rfl ?_
  refine r_iload_n rfl ?_
  refine q_i2l (fun v607 hv607 => ?_)
  refine r_lconst 0 rfl ?_
  refine r_aload_n rfl ?_
  refine q_getR (Sh.ref hI605.1 kx_231 rfl) ?_
  refine r_iconst 0 rfl ?_
  obtain ⟨v608, hv608⟩ : ∃ v, eA g0 233 0 = v := ⟨_, rfl⟩
  have tv608 := congrArg Int32.toInt hv608
  have wv608 := HI.t0 hI0
  rw [hv608] at wv608
  refine q_iald (Sh.arr hI605.1 ka_233) 0 rfl (by decide) v608 ((eA_c (gA_sI)).trans hv608) ?_
  refine q_i2l (fun v609 hv609 => ?_)
  refine r_lconst 1 rfl ?_
  refine q_lsub (v609.toInt - 1) rfl (by omega) (fun v610 hv610 => ?_)
  refine q_inlS 15 rfl [.long v607, .long 0, .long v610] [] (Nat.le_of_ble_eq_true rfl) rfl ?_
  refine Ev.mk rfl rfl ⟨Nat.le_of_ble_eq_true rfl, Or.inl rfl⟩ ?_
  show At _ none _ _ (0, [(0, .long v607), (2, .long 0), (4, .long v610)], [], (_, _)) _
  refine At.enter rfl ?_
  refine r_lload_n rfl ?_
  refine r_lload_n rfl ?_
  refine r_lcmp _ rfl ?_
  refine r_ifs 6 rfl (fun c611 => ?_) (fun c611 => ?_)
  · have c611_ : v607.toInt < 0 := en_j_lt_t c611
    refine At.enter rfl ?_
    refine r_iconst 0 rfl ?_
    refine Ar.fall 18 rfl ?_
    refine At.enter rfl ?_
    refine q_iretz (by decide) ?_
    refine At.enter rfl ?_
    refine q_iretz (by decide) ?_
    refine At.enter rfl ?_
    refine r_ift (by decide) ?_
    refine At.enter rfl ?_
    refine r_iconst (-1) rfl ?_
    refine r_ireti ?_
    exact ⟨_, rfl, hI605, hF606, _, rfl, trivial⟩
  · have c611_ : v607.toInt ≥ 0 := en_j_lt_f c611
    refine At.enter rfl ?_
    refine r_lload_n rfl ?_
    refine r_lload rfl ?_
    refine r_lcmp _ rfl ?_
    refine r_ifs 13 rfl (fun c612 => ?_) (fun c612 => ?_)
    · have c612_ : v607.toInt > v610.toInt := en_j_gt_t c612
      refine At.enter rfl ?_
      refine r_iconst 0 rfl ?_
      refine Ar.fall 18 rfl ?_
      refine At.enter rfl ?_
      refine q_iretz (by decide) ?_
      refine At.enter rfl ?_
      refine q_iretz (by decide) ?_
      refine At.enter rfl ?_
      refine r_ift (by decide) ?_
      refine At.enter rfl ?_
      refine r_iconst (-1) rfl ?_
      refine r_ireti ?_
      exact ⟨_, rfl, hI605, hF606, _, rfl, trivial⟩
    · have c612_ : v607.toInt ≤ v610.toInt := en_j_gt_f c612
      refine At.enter rfl ?_
      refine r_iconst 1 rfl ?_
      refine r_goto ?_
      refine At.enter rfl ?_
      refine q_iretz (by decide) ?_
      refine At.enter rfl ?_
      refine q_iretz (by decide) ?_
      refine At.enter rfl ?_
      refine r_iff 13 rfl (by decide) ?_
      refine At.enter rfl ?_
      refine r_iload_n rfl ?_
      refine q_inlS 17 rfl [.int a2] [] (Nat.le_of_ble_eq_true rfl) rfl ?_
      refine Ev.mk rfl rfl ⟨Nat.le_of_ble_eq_true rfl, Or.inl rfl⟩ ?_
      show At _ none _ _ (0, [(0, .int a2)], [], (_, _)) _
      refine At.enter rfl ?_
      refine r_iload_n rfl ?_
      refine q_i2l (fun v613 hv613 => ?_)
      refine r_lconst 0 rfl ?_
      refine r_ldc2 99 rfl ?_
      refine q_inlS 9 rfl [.long v613, .long 0, .long 99] [] (Nat.le_of_ble_eq_true rfl) rfl ?_
      refine Ev.mk rfl rfl ⟨Nat.le_of_ble_eq_true rfl, Or.inl rfl⟩ ?_
      show At _ none _ _ (0, [(0, .long v613), (2, .long 0), (4, .long 99)], [], (_, _)) _
      refine At.enter rfl ?_
      refine r_lload_n rfl ?_
      refine r_lload_n rfl ?_
      refine r_lcmp _ rfl ?_
      refine r_ifs 6 rfl (fun c614 => ?_) (fun c614 => ?_)
      · have c614_ : v613.toInt < 0 := en_j_lt_t c614
        refine At.enter rfl ?_
        refine r_iconst 0 rfl ?_
        refine Ar.fall 18 rfl ?_
        refine At.enter rfl ?_
        refine q_iretz (by decide) ?_
        refine At.enter rfl ?_
        refine q_iretz (by decide) ?_
        refine At.enter rfl ?_
        refine r_ift (by decide) ?_
        refine At.enter rfl ?_
        refine r_iconst (-1) rfl ?_
        refine r_ireti ?_
        exact ⟨_, rfl, hI605, hF606, _, rfl, trivial⟩
      · have c614_ : v613.toInt ≥ 0 := en_j_lt_f c614
        refine At.enter rfl ?_
        refine r_lload_n rfl ?_
        refine r_lload rfl ?_
        refine r_lcmp _ rfl ?_
        refine r_ifs 13 rfl (fun c615 => ?_) (fun c615 => ?_)
        · have c615_ : v613.toInt > 99 := en_j_gt_t c615
          refine At.enter rfl ?_
          refine r_iconst 0 rfl ?_
          refine Ar.fall 18 rfl ?_
          refine At.enter rfl ?_
          refine q_iretz (by decide) ?_
          refine At.enter rfl ?_
          refine q_iretz (by decide) ?_
          refine At.enter rfl ?_
          refine r_ift (by decide) ?_
          refine At.enter rfl ?_
          refine r_iconst (-1) rfl ?_
          refine r_ireti ?_
          exact ⟨_, rfl, hI605, hF606, _, rfl, trivial⟩
        · have c615_ : v613.toInt ≤ 99 := en_j_gt_f c615
          refine At.enter rfl ?_
          refine r_iconst 1 rfl ?_
          refine r_goto ?_
          refine At.enter rfl ?_
          refine q_iretz (by decide) ?_
          refine At.enter rfl ?_
          refine q_iretz (by decide) ?_
          refine At.enter rfl ?_
          refine r_iff 20 rfl (by decide) ?_
          refine At.enter rfl ?_
          refine r_iload_n rfl ?_
          refine q_i2l (fun v616 hv616 => ?_)
          refine r_lconst 0 rfl ?_
          refine r_lconst 1 rfl ?_
          refine q_inlS 27 rfl [.long v616, .long 0, .long 1] [] (Nat.le_of_ble_eq_true rfl) rfl ?_
          refine Ev.mk rfl rfl ⟨Nat.le_of_ble_eq_true rfl, Or.inl rfl⟩ ?_
          show At _ none _ _ (0, [(0, .long v616), (2, .long 0), (4, .long 1)], [], (_, _)) _
          refine At.enter rfl ?_
          refine r_lload_n rfl ?_
          refine r_lload_n rfl ?_
          refine r_lcmp _ rfl ?_
          refine r_ifs 6 rfl (fun c617 => ?_) (fun c617 => ?_)
          · have c617_ : v616.toInt < 0 := en_j_lt_t c617
            refine At.enter rfl ?_
            refine r_iconst 0 rfl ?_
            refine Ar.fall 18 rfl ?_
            refine At.enter rfl ?_
            refine q_iretz (by decide) ?_
            refine At.enter rfl ?_
            refine r_iff 30 rfl (by decide) ?_
            refine At.enter rfl ?_
            refine r_iconst (-1) rfl ?_
            refine r_ireti ?_
            exact ⟨_, rfl, hI605, hF606, _, rfl, trivial⟩
          · have c617_ : v616.toInt ≥ 0 := en_j_lt_f c617
            refine At.enter rfl ?_
            refine r_lload_n rfl ?_
            refine r_lload rfl ?_
            refine r_lcmp _ rfl ?_
            refine r_ifs 13 rfl (fun c618 => ?_) (fun c618 => ?_)
            · have c618_ : v616.toInt > 1 := en_j_gt_t c618
              refine At.enter rfl ?_
              refine r_iconst 0 rfl ?_
              refine Ar.fall 18 rfl ?_
              refine At.enter rfl ?_
              refine q_iretz (by decide) ?_
              refine At.enter rfl ?_
              refine r_iff 30 rfl (by decide) ?_
              refine At.enter rfl ?_
              refine r_iconst (-1) rfl ?_
              refine r_ireti ?_
              exact ⟨_, rfl, hI605, hF606, _, rfl, trivial⟩
            · have c618_ : v616.toInt ≤ 1 := en_j_gt_f c618
              refine At.enter rfl ?_
              refine r_iconst 1 rfl ?_
              refine r_goto ?_
              refine At.enter rfl ?_
              refine q_iretz (by decide) ?_
              refine At.enter rfl ?_
              refine r_ift (by decide) ?_
              refine At.enter rfl ?_
              refine r_aload_n rfl ?_
              refine r_callV 36 rfl [.ref 231] [] (Nat.le_of_ble_eq_true rfl) rfl (T_X11_runDay_231 _ hI605) ?_
              rintro _ _ ⟨g619, rfl, hI620, hF621, rfl⟩
              refine At.stn ?_
              have hF624 := Fr.tr hF606 hF621 rfl rfl
              refine At.enter rfl ?_
              refine r_iconst 0 rfl ?_
              refine r_istore ([(4, .int 0), (0, .ref 231), (1, .int a1), (2, .int a2), (3, .int a3)]) rfl ?_
              refine r_iconst 0 rfl ?_
              refine r_istore ([(5, .int 0), (4, .int 0), (0, .ref 231), (1, .int a1), (2, .int a2), (3, .int a3)]) rfl ?_
              refine Ar.fall 42 rfl ?_
              have z_884 : (0 : Int32).toInt = 0 := rfl
              have z_885 : (0 : Int32).toInt = 0 := rfl
              refine w_loopI (fun n_ l_ g_ => ∃ x869 : Int32, ∃ x870 : Int32, n_ = 8 - x870.toInt ∧ HI g_ ∧ Fr F_X11_held_231 A_X11_held_231 g0 g_ ∧ en_get 0 l_ = some (.ref 231) ∧ en_get 1 l_ = some (.int a1) ∧ en_get 2 l_ = some (.int a2) ∧ en_get 3 l_ = some (.int a3) ∧ en_get 4 l_ = some (.int x869) ∧ en_get 5 l_ = some (.int x870) ∧ (0 ≤ x870.toInt ∧ x870.toInt ≤ 8)) ?_ (8 - 0) ⟨0, 0, by first | rfl | omega, hI620, hF624, rfl, rfl, rfl, rfl, rfl, rfl, by decide⟩
              rintro n875 l874 g871 ⟨x869, x870, hm886, hI872, hF873, e877, e878, e879, e880, e881, e882, r883⟩ ih876
              refine At.enter rfl ?_
              refine r_iload e882 ?_
              refine r_aload_n e877 ?_
              refine q_getR (Sh.ref hI872.1 kx_231 rfl) ?_
              refine r_iconst 1 rfl ?_
              obtain ⟨v887, hv887⟩ : ∃ v, eA g0 233 1 = v := ⟨_, rfl⟩
              have tv887 := congrArg Int32.toInt hv887
              have wv887 := HI.t1 hI0
              rw [hv887] at wv887
              refine q_iald (Sh.arr hI872.1 ka_233) 1 rfl (by decide) v887 ((eA_c (hF873.2.1 233 (by decide))).trans hv887) ?_
              have bv889 := q_bnd x870
              have bv890 := q_bnd v887
              refine r_ics 53 rfl (fun c888 => ?_) (fun c888 => ?_)
              · have c888_ : x870.toInt ≥ v887.toInt := en_i_ge_t c888
                refine At.enter rfl ?_
                refine r_iload e881 ?_
                refine r_ireti ?_
                exact ⟨_, rfl, hI872, hF873, _, rfl, trivial⟩
              · have c888_ : x870.toInt < v887.toInt := en_i_ge_f c888
                refine At.enter rfl ?_
                refine r_iload e881 ?_
                refine r_aload_n e877 ?_
                refine q_getR (Sh.ref hI872.1 kx_231 rfl) ?_
                refine r_bipush 100 rfl ?_
                refine r_iload e882 ?_
                refine q_imul (100 * x870.toInt) rfl (by omega) (fun v891 hv891 => ?_)
                refine r_iload_n e879 ?_
                refine q_iadd (v891.toInt + a2.toInt) rfl (by omega) (fun v892 hv892 => ?_)
                obtain ⟨v893, hv893⟩ : ∃ v, eA g871 256 (100 * x870.toInt + a2.toInt) = v := ⟨_, rfl⟩
                refine q_iald (Sh.arr hI872.1 ka_256) (100 * x870.toInt + a2.toInt) (by omega) (by omega) v893 hv893 ?_
                refine r_iload_n e878 ?_
                refine r_ics 71 rfl (fun c894 => ?_) (fun c894 => ?_)
                · have c894_ : v893.toInt = a1.toInt := en_i_eq_t c894
                  refine At.enter rfl ?_
                  refine r_iload_n e880 ?_
                  refine r_ifs 79 rfl (fun c895 => ?_) (fun c895 => ?_)
                  · have c895_ : a3.toInt ≠ 0 := en_k_ne_t c895
                    refine At.enter rfl ?_
                    refine r_aload_n e877 ?_
                    refine r_iload e882 ?_
                    refine r_iconst 0 rfl ?_
                    refine q_inlV 90 rfl [.ref 231, .int x870, .int 0] [.int x869] (Nat.le_of_ble_eq_true rfl) rfl ?_
                    refine Ev.mk rfl rfl ⟨Nat.le_of_ble_eq_true rfl, Or.inr (q_rc hI872.1 kx_231 rfl)⟩ ?_
                    show At _ none _ _ (0, [(0, .ref 231), (1, .int x870), (2, .int 0)], [], (_, _)) _
                    refine At.enter rfl ?_
                    refine r_aload_n rfl ?_
                    refine q_getR (Sh.ref hI872.1 kx_231 rfl) ?_
                    refine r_bipush 46 rfl ?_
                    refine r_bipush 6 rfl ?_
                    refine r_iload_n rfl ?_
                    refine q_imul (6 * x870.toInt) rfl (by omega) (fun v896 hv896 => ?_)
                    refine q_iadd (46 + v896.toInt) rfl (by omega) (fun v897 hv897 => ?_)
                    refine r_iload_n rfl ?_
                    refine q_iadd (v897.toInt + 0) rfl (by omega) (fun v898 hv898 => ?_)
                    obtain ⟨v899, hv899⟩ : ∃ v, eA g0 233 (6 * x870.toInt + 46) = v := ⟨_, rfl⟩
                    have wv899 := HI.l0 hI0 (j := (6 * x870.toInt + 46)) (x870.toInt) (by omega) (by omega)
                    rw [hv899] at wv899
                    refine q_iald (Sh.arr hI872.1 ka_233) (6 * x870.toInt + 46) (by omega) (by omega) v899 ((eA_c (hF873.2.1 233 (by decide))).trans hv899) ?_
                    refine q_ireti ?_
                    refine At.enter rfl ?_
                    refine q_iaddO (fun v900 _ => ?_)
                    refine r_istore _ rfl ?_
                    refine q_iinc (w_p1 (by decide) (Or.inr rfl) e882) (x870.toInt + 1) rfl (by omega) (fun v901 hv901 => ?_)
                    refine r_goto ?_
                    have bv902 := q_bnd v900
                    exact ih876 (8 - v901.toInt) _ _ ⟨v900, v901, by first | rfl | omega, hI872, hF873, (w_p1 (by decide) (Or.inr rfl) (w_p1 (by decide) (Or.inr rfl) e877)), (w_p1 (by decide) (Or.inr rfl) (w_p1 (by decide) (Or.inr rfl) e878)), (w_p1 (by decide) (Or.inr rfl) (w_p1 (by decide) (Or.inr rfl) e879)), (w_p1 (by decide) (Or.inr rfl) (w_p1 (by decide) (Or.inr rfl) e880)), (w_p1 (by decide) (Or.inr rfl) (w_e1 _ _ _)), (w_e1 _ _ _), by omega⟩ ⟨by omega, by omega⟩
                  · have c895_ : a3.toInt = 0 := en_k_ne_f c895
                    refine At.enter rfl ?_
                    refine r_iconst 1 rfl ?_
                    refine r_goto ?_
                    refine At.enter rfl ?_
                    refine q_iaddO (fun v903 _ => ?_)
                    refine r_istore _ rfl ?_
                    refine q_iinc (w_p1 (by decide) (Or.inr rfl) e882) (x870.toInt + 1) rfl (by omega) (fun v904 hv904 => ?_)
                    refine r_goto ?_
                    have bv905 := q_bnd v903
                    exact ih876 (8 - v904.toInt) _ _ ⟨v903, v904, by first | rfl | omega, hI872, hF873, (w_p1 (by decide) (Or.inr rfl) (w_p1 (by decide) (Or.inr rfl) e877)), (w_p1 (by decide) (Or.inr rfl) (w_p1 (by decide) (Or.inr rfl) e878)), (w_p1 (by decide) (Or.inr rfl) (w_p1 (by decide) (Or.inr rfl) e879)), (w_p1 (by decide) (Or.inr rfl) (w_p1 (by decide) (Or.inr rfl) e880)), (w_p1 (by decide) (Or.inr rfl) (w_e1 _ _ _)), (w_e1 _ _ _), by omega⟩ ⟨by omega, by omega⟩
                · have c894_ : v893.toInt ≠ a1.toInt := en_i_eq_f c894
                  refine At.enter rfl ?_
                  refine r_iconst 0 rfl ?_
                  refine r_goto ?_
                  refine At.enter rfl ?_
                  have bv906 := q_bnd x869
                  refine q_iadd (x869.toInt + 0) rfl (by omega) (fun v907 hv907 => ?_)
                  refine r_istore _ rfl ?_
                  refine q_iinc (w_p1 (by decide) (Or.inr rfl) e882) (x870.toInt + 1) rfl (by omega) (fun v908 hv908 => ?_)
                  refine r_goto ?_
                  have bv909 := q_bnd v907
                  exact ih876 (8 - v908.toInt) _ _ ⟨v907, v908, by first | rfl | omega, hI872, hF873, (w_p1 (by decide) (Or.inr rfl) (w_p1 (by decide) (Or.inr rfl) e877)), (w_p1 (by decide) (Or.inr rfl) (w_p1 (by decide) (Or.inr rfl) e878)), (w_p1 (by decide) (Or.inr rfl) (w_p1 (by decide) (Or.inr rfl) e879)), (w_p1 (by decide) (Or.inr rfl) (w_p1 (by decide) (Or.inr rfl) e880)), (w_p1 (by decide) (Or.inr rfl) (w_e1 _ _ _)), (w_e1 _ _ _), by omega⟩ ⟨by omega, by omega⟩
