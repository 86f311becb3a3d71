def F_X11_meet_231 : List (Nat × Nat) := [(231, 0)]
def A_X11_meet_231 : List Nat := []
set_option maxRecDepth 100000 in
set_option maxHeartbeats 4000000 in
theorem T_X11_meet_231 (d : Nat) {N : Nat} {g0 : List en_E} (hI0 : HI g0) (a1 : Int32) (a2 : Int32) (a3 : Int32) : Ev (d + 5) 258 [.ref 231, .int a1, .int a2, .int a3] (g0, N) (fun w h' => ∃ g', h' = (g', N) ∧ HI g' ∧ Fr F_X11_meet_231 A_X11_meet_231 g0 g' ∧ ∃ r : Int32, w = some (.int r) ∧ ((-1) ≤ r.toInt ∧ r.toInt ≤ 99) ∧ (((0 ≤ a1.toInt ∧ a1.toInt < (eA g0 233 0).toInt ∧ 0 ≤ a2.toInt ∧ a2.toInt < (eA g0 233 0).toInt ∧ 0 ≤ a3.toInt ∧ a3.toInt ≤ 1) → MEET (NMq g0) 99 a1.toInt a2.toInt a3.toInt r.toInt) ∧ (¬ (0 ≤ a1.toInt ∧ a1.toInt < (eA g0 233 0).toInt ∧ 0 ≤ a2.toInt ∧ a2.toInt < (eA g0 233 0).toInt ∧ 0 ≤ a3.toInt ∧ a3.toInt ≤ 1) → r.toInt = -1))) := by
  have hF0 : Fr F_X11_meet_231 A_X11_meet_231 g0 g0 := Fr.rf
  refine Ev.mk rfl rfl ⟨Nat.le_of_ble_eq_true rfl, Or.inr (q_rc hI0.1 kx_231 rfl)⟩ ?_
  show At _ none _ _ (0, [(0, .ref 231), (1, .int a1), (2, .int a2), (3, .int a3)], [], (_, _)) _
  refine At.enter rfl ?_
  refine r_aload_n rfl ?_
  refine r_iconst 0 rfl ?_
  refine q_putI (Sh.int hI0.1 kx_231 rfl) rfl ?_
  have hI663 := HI.wI0 hI0 kx_231 rfl (p := 231) (b := 0) (v := 0) rfl
  have hF664 := Fr.wI (p := 231) (b := 0) (v := 0) hF0 rfl
  refine r_aload_n rfl ?_
  refine r_iload_n rfl ?_
  refine q_inlV 10 rfl [.ref 231, .int a1] [] (Nat.le_of_ble_eq_true rfl) rfl ?_
  refine Ev.mk rfl rfl ⟨Nat.le_of_ble_eq_true rfl, Or.inr (q_rc hI663.1 kx_231 rfl)⟩ ?_
  show At _ none _ _ (0, [(0, .ref 231), (1, .int a1)], [], (_, _)) _
  refine At.enter rfl ?_
  refine r_iload_n rfl ?_
  refine q_i2l (fun v665 hv665 => ?_)
  refine r_lconst 0 rfl ?_
  refine r_aload_n rfl ?_
  refine q_getR (Sh.ref hI663.1 kx_231 rfl) ?_
  refine r_iconst 0 rfl ?_
  obtain ⟨v666, hv666⟩ : ∃ v, eA g0 233 0 = v := ⟨_, rfl⟩
  have tv666 := congrArg Int32.toInt hv666
  have wv666 := HI.t0 hI0
  rw [hv666] at wv666
  refine q_iald (Sh.arr hI663.1 ka_233) 0 rfl (by decide) v666 ((eA_c (gA_sI)).trans hv666) ?_
  refine q_i2l (fun v667 hv667 => ?_)
  refine r_lconst 1 rfl ?_
  refine q_lsub (v667.toInt - 1) rfl (by omega) (fun v668 hv668 => ?_)
  refine q_inlS 15 rfl [.long v665, .long 0, .long v668] [] (Nat.le_of_ble_eq_true rfl) rfl ?_
  refine Ev.mk rfl rfl ⟨Nat.le_of_ble_eq_true rfl, Or.inl rfl⟩ ?_
  show At _ none _ _ (0, [(0, .long v665), (2, .long 0), (4, .long v668)], [], (_, _)) _
  refine At.enter rfl ?_
  refine r_lload_n rfl ?_
  refine r_lload_n rfl ?_
  refine r_lcmp _ rfl ?_
  refine r_ifs 6 rfl (fun c669 => ?_) (fun c669 => ?_)
  · have c669_ : v665.toInt < 0 := en_j_lt_t c669
    refine At.enter rfl ?_
    refine r_iconst 0 rfl ?_
    refine Ar.fall 18 rfl ?_
    refine At.enter rfl ?_
    refine q_iretz (by decide) ?_
    refine At.enter rfl ?_
    refine q_iretz (by decide) ?_
    refine At.enter rfl ?_
    refine r_ift (by decide) ?_
    refine At.enter rfl ?_
    refine r_iconst (-1) rfl ?_
    refine r_ireti ?_
    have zv670 : ((-1) : Int32).toInt = (-1) := rfl
    have x671 := HI.eqA hI0 (p := 233) (j := 0) (hv666)
    exact ⟨_, rfl, hI663, hF664, _, rfl, by decide, ⟨fun h => absurd h (by omega), fun _ => by omega⟩⟩
  · have c669_ : v665.toInt ≥ 0 := en_j_lt_f c669
    refine At.enter rfl ?_
    refine r_lload_n rfl ?_
    refine r_lload rfl ?_
    refine r_lcmp _ rfl ?_
    refine r_ifs 13 rfl (fun c672 => ?_) (fun c672 => ?_)
    · have c672_ : v665.toInt > v668.toInt := en_j_gt_t c672
      refine At.enter rfl ?_
      refine r_iconst 0 rfl ?_
      refine Ar.fall 18 rfl ?_
      refine At.enter rfl ?_
      refine q_iretz (by decide) ?_
      refine At.enter rfl ?_
      refine q_iretz (by decide) ?_
      refine At.enter rfl ?_
      refine r_ift (by decide) ?_
      refine At.enter rfl ?_
      refine r_iconst (-1) rfl ?_
      refine r_ireti ?_
      have zv673 : ((-1) : Int32).toInt = (-1) := rfl
      have x674 := HI.eqA hI0 (p := 233) (j := 0) (hv666)
      exact ⟨_, rfl, hI663, hF664, _, rfl, by decide, ⟨fun h => absurd h (by omega), fun _ => by omega⟩⟩
    · have c672_ : v665.toInt ≤ v668.toInt := en_j_gt_f c672
      refine At.enter rfl ?_
      refine r_iconst 1 rfl ?_
      refine r_goto ?_
      refine At.enter rfl ?_
      refine q_iretz (by decide) ?_
      refine At.enter rfl ?_
      refine q_iretz (by decide) ?_
      refine At.enter rfl ?_
      refine r_iff 13 rfl (by decide) ?_
      refine At.enter rfl ?_
      refine r_aload_n rfl ?_
      refine r_iload_n rfl ?_
      refine q_inlV 18 rfl [.ref 231, .int a2] [] (Nat.le_of_ble_eq_true rfl) rfl ?_
      refine Ev.mk rfl rfl ⟨Nat.le_of_ble_eq_true rfl, Or.inr (q_rc hI663.1 kx_231 rfl)⟩ ?_
      show At _ none _ _ (0, [(0, .ref 231), (1, .int a2)], [], (_, _)) _
      refine At.enter rfl ?_
      refine r_iload_n rfl ?_
      refine q_i2l (fun v675 hv675 => ?_)
      refine r_lconst 0 rfl ?_
      refine r_aload_n rfl ?_
      refine q_getR (Sh.ref hI663.1 kx_231 rfl) ?_
      refine r_iconst 0 rfl ?_
      refine q_iald (Sh.arr hI663.1 ka_233) 0 rfl (by decide) v666 ((eA_c (gA_sI)).trans hv666) ?_
      refine q_i2l (fun v676 hv676 => ?_)
      refine r_lconst 1 rfl ?_
      refine q_lsub (v676.toInt - 1) rfl (by omega) (fun v677 hv677 => ?_)
      refine q_inlS 15 rfl [.long v675, .long 0, .long v677] [] (Nat.le_of_ble_eq_true rfl) rfl ?_
      refine Ev.mk rfl rfl ⟨Nat.le_of_ble_eq_true rfl, Or.inl rfl⟩ ?_
      show At _ none _ _ (0, [(0, .long v675), (2, .long 0), (4, .long v677)], [], (_, _)) _
      refine At.enter rfl ?_
      refine r_lload_n rfl ?_
      refine r_lload_n rfl ?_
      refine r_lcmp _ rfl ?_
      refine r_ifs 6 rfl (fun c678 => ?_) (fun c678 => ?_)
      · have c678_ : v675.toInt < 0 := en_j_lt_t c678
        refine At.enter rfl ?_
        refine r_iconst 0 rfl ?_
        refine Ar.fall 18 rfl ?_
        refine At.enter rfl ?_
        refine q_iretz (by decide) ?_
        refine At.enter rfl ?_
        refine q_iretz (by decide) ?_
        refine At.enter rfl ?_
        refine r_ift (by decide) ?_
        refine At.enter rfl ?_
        refine r_iconst (-1) rfl ?_
        refine r_ireti ?_
        have zv679 : ((-1) : Int32).toInt = (-1) := rfl
        have x680 := HI.eqA hI0 (p := 233) (j := 0) (hv666)
        exact ⟨_, rfl, hI663, hF664, _, rfl, by decide, ⟨fun h => absurd h (by omega), fun _ => by omega⟩⟩
      · have c678_ : v675.toInt ≥ 0 := en_j_lt_f c678
        refine At.enter rfl ?_
        refine r_lload_n rfl ?_
        refine r_lload rfl ?_
        refine r_lcmp _ rfl ?_
        refine r_ifs 13 rfl (fun c681 => ?_) (fun c681 => ?_)
        · have c681_ : v675.toInt > v677.toInt := en_j_gt_t c681
          refine At.enter rfl ?_
          refine r_iconst 0 rfl ?_
          refine Ar.fall 18 rfl ?_
          refine At.enter rfl ?_
          refine q_iretz (by decide) ?_
          refine At.enter rfl ?_
          refine q_iretz (by decide) ?_
          refine At.enter rfl ?_
          refine r_ift (by decide) ?_
          refine At.enter rfl ?_
          refine r_iconst (-1) rfl ?_
          refine r_ireti ?_
          have zv682 : ((-1) : Int32).toInt = (-1) := rfl
          have x683 := HI.eqA hI0 (p := 233) (j := 0) (hv666)
          exact ⟨_, rfl, hI663, hF664, _, rfl, by decide, ⟨fun h => absurd h (by omega), fun _ => by omega⟩⟩
        · have c681_ : v675.toInt ≤ v677.toInt := en_j_gt_f c681
          refine At.enter rfl ?_
          refine r_iconst 1 rfl ?_
          refine r_goto ?_
          refine At.enter rfl ?_
          refine q_iretz (by decide) ?_
          refine At.enter rfl ?_
          refine q_iretz (by decide) ?_
          refine At.enter rfl ?_
          refine r_iff 21 rfl (by decide) ?_
          refine At.enter rfl ?_
          refine r_iload_n rfl ?_
          refine q_i2l (fun v684 hv684 => ?_)
          refine r_lconst 0 rfl ?_
          refine r_lconst 1 rfl ?_
          refine q_inlS 28 rfl [.long v684, .long 0, .long 1] [] (Nat.le_of_ble_eq_true rfl) rfl ?_
          refine Ev.mk rfl rfl ⟨Nat.le_of_ble_eq_true rfl, Or.inl rfl⟩ ?_
          show At _ none _ _ (0, [(0, .long v684), (2, .long 0), (4, .long 1)], [], (_, _)) _
          refine At.enter rfl ?_
          refine r_lload_n rfl ?_
          refine r_lload_n rfl ?_
          refine r_lcmp _ rfl ?_
          refine r_ifs 6 rfl (fun c685 => ?_) (fun c685 => ?_)
          · have c685_ : v684.toInt < 0 := en_j_lt_t c685
            refine At.enter rfl ?_
            refine r_iconst 0 rfl ?_
            refine Ar.fall 18 rfl ?_
            refine At.enter rfl ?_
            refine q_iretz (by decide) ?_
            refine At.enter rfl ?_
            refine r_iff 31 rfl (by decide) ?_
            refine At.enter rfl ?_
            refine r_iconst (-1) rfl ?_
            refine r_ireti ?_
            have zv686 : ((-1) : Int32).toInt = (-1) := rfl
            have x687 := HI.eqA hI0 (p := 233) (j := 0) (hv666)
            exact ⟨_, rfl, hI663, hF664, _, rfl, by decide, ⟨fun h => absurd h (by omega), fun _ => by omega⟩⟩
          · have c685_ : v684.toInt ≥ 0 := en_j_lt_f c685
            refine At.enter rfl ?_
            refine r_lload_n rfl ?_
            refine r_lload rfl ?_
            refine r_lcmp _ rfl ?_
            refine r_ifs 13 rfl (fun c688 => ?_) (fun c688 => ?_)
            · have c688_ : v684.toInt > 1 := en_j_gt_t c688
              refine At.enter rfl ?_
              refine r_iconst 0 rfl ?_
              refine Ar.fall 18 rfl ?_
              refine At.enter rfl ?_
              refine q_iretz (by decide) ?_
              refine At.enter rfl ?_
              refine r_iff 31 rfl (by decide) ?_
              refine At.enter rfl ?_
              refine r_iconst (-1) rfl ?_
              refine r_ireti ?_
              have zv689 : ((-1) : Int32).toInt = (-1) := rfl
              have x690 := HI.eqA hI0 (p := 233) (j := 0) (hv666)
              exact ⟨_, rfl, hI663, hF664, _, rfl, by decide, ⟨fun h => absurd h (by omega), fun _ => by omega⟩⟩
            · have c688_ : v684.toInt ≤ 1 := en_j_gt_f c688
              refine At.enter rfl ?_
              refine r_iconst 1 rfl ?_
              refine r_goto ?_
              refine At.enter rfl ?_
              refine q_iretz (by decide) ?_
              refine At.enter rfl ?_
              refine r_ift (by decide) ?_
              refine At.enter rfl ?_
              refine r_iconst 0 rfl ?_
              refine r_istore ([(4, .int 0), (0, .ref 231), (1, .int a1), (2, .int a2), (3, .int a3)]) rfl ?_
              refine Ar.fall 36 rfl ?_
              have z_986 : (0 : Int32).toInt = 0 := rfl
              refine w_loopI (fun n_ l_ g_ => ∃ x971 : Int32, n_ = 100 - x971.toInt ∧ HI g_ ∧ Fr F_X11_meet_231 A_X11_meet_231 g0 g_ ∧ en_get 0 l_ = some (.ref 231) ∧ en_get 1 l_ = some (.int a1) ∧ en_get 2 l_ = some (.int a2) ∧ en_get 3 l_ = some (.int a3) ∧ en_get 4 l_ = some (.int x971) ∧ (0 ≤ x971.toInt ∧ x971.toInt ≤ 100) ∧ (∀ j : Int, 0 ≤ j → j < x971.toInt → ¬ MT (NMq g0) a1.toInt a2.toInt j) ∧ (0 ≤ x971.toInt)) ?_ (100 - 0) ⟨0, by first | rfl | omega, hI663, hF664, rfl, rfl, rfl, rfl, rfl, by decide, (fun j h0 h1 => absurd h1 (by omega)), by omega⟩
              rintro n976 l975 g972 ⟨x971, hm987, hI973, hF974, e978, e979, e980, e981, e982, r983, q984, q985⟩ ih977
              refine At.enter rfl ?_
              refine r_iload e982 ?_
              refine r_bipush 100 rfl ?_
              refine r_ics 43 rfl (fun c988 => ?_) (fun c988 => ?_)
              · have c988_ : x971.toInt ≥ 100 := en_i_ge_t c988
                refine At.enter rfl ?_
                refine r_iconst (-1) rfl ?_
                refine r_ireti ?_
                have zv989 : ((-1) : Int32).toInt = (-1) := rfl
                have x990 := HI.eqA hI0 (p := 233) (j := 0) (hv666)
                exact ⟨_, rfl, hI973, hF974, _, rfl, by decide, ⟨fun _ => (by first | exact MEET.a x971.toInt (by omega) (by omega) (by omega) (by omega) q984 (by omega) (by omega) | exact MEET.n (NMq.e g0) q984 (by omega) (by omega)), fun h => absurd (by omega) h⟩⟩
              · have c988_ : x971.toInt < 100 := en_i_ge_f c988
                refine At.enter rfl ?_
                refine r_aload_n e978 ?_
                refine r_iload_n e979 ?_
                refine r_iload e982 ?_
                refine r_callV 50 rfl [.ref 231, .int a1, .int x971] [] (Nat.le_of_ble_eq_true rfl) rfl (T_X11_after_231 _ hI973 a1 (by omega) x971) ?_
                rintro _ _ ⟨g991, rfl, hI992, hF993, v994, rfl, hr995⟩
                refine At.sti ?_
                have hF996 := Fr.tr hF974 hF993 rfl rfl
                rw [NMq.cI ((hF974.2.1 233 (by decide)))] at hr995
                refine At.enter rfl ?_
                refine r_istore _ rfl ?_
                refine r_iload (w_e1 _ _ _) ?_
                refine r_iconst (-1) rfl ?_
                refine r_ics 58 rfl (fun c997 => ?_) (fun c997 => ?_)
                · have c997_ : v994.toInt = (-1) := en_i_eq_t c997
                  refine At.enter rfl ?_
                  refine q_iinc (w_p1 (by decide) (Or.inr rfl) e982) (x971.toInt + 1) rfl (by omega) (fun v998 hv998 => ?_)
                  refine r_goto ?_
                  exact ih977 (100 - v998.toInt) _ _ ⟨v998, by first | rfl | omega, hI992, hF996, (w_p1 (by decide) (Or.inr rfl) (w_p1 (by decide) (Or.inr rfl) e978)), (w_p1 (by decide) (Or.inr rfl) (w_p1 (by decide) (Or.inr rfl) e979)), (w_p1 (by decide) (Or.inr rfl) (w_p1 (by decide) (Or.inr rfl) e980)), (w_p1 (by decide) (Or.inr rfl) (w_p1 (by decide) (Or.inr rfl) e981)), (w_e1 _ _ _), by omega, (MT.step q984 (by omega) (show v998.toInt = x971.toInt + 1 from by omega)), by omega⟩ ⟨by omega, by omega⟩
                · have c997_ : v994.toInt ≠ (-1) := en_i_eq_f c997
                  refine At.enter rfl ?_
                  refine r_iload (w_e1 _ _ _) ?_
                  refine r_aload_n (w_p1 (by decide) (Or.inr rfl) e978) ?_
                  refine r_iload_n (w_p1 (by decide) (Or.inr rfl) e980) ?_
                  refine r_iload (w_p1 (by decide) (Or.inr rfl) e982) ?_
                  refine r_callV 67 rfl [.ref 231, .int a2, .int x971] [.int v994] (Nat.le_of_ble_eq_true rfl) rfl (T_X11_after_231 _ hI992 a2 (by omega) x971) ?_
                  rintro _ _ ⟨g999, rfl, hI1000, hF1001, v1002, rfl, hr1003⟩
                  refine At.sti ?_
                  have hF1004 := Fr.tr hF996 hF1001 rfl rfl
                  rw [NMq.cI (((hF993.2.1 233 (by decide)).trans (hF974.2.1 233 (by decide))))] at hr1003
                  refine At.enter rfl ?_
                  refine r_ics 70 rfl (fun c1005 => ?_) (fun c1005 => ?_)
                  · have c1005_ : v994.toInt ≠ v1002.toInt := en_i_ne_t c1005
                    refine At.enter rfl ?_
                    refine q_iinc (w_p1 (by decide) (Or.inr rfl) e982) (x971.toInt + 1) rfl (by omega) (fun v1006 hv1006 => ?_)
                    refine r_goto ?_
                    exact ih977 (100 - v1006.toInt) _ _ ⟨v1006, by first | rfl | omega, hI1000, hF1004, (w_p1 (by decide) (Or.inr rfl) (w_p1 (by decide) (Or.inr rfl) e978)), (w_p1 (by decide) (Or.inr rfl) (w_p1 (by decide) (Or.inr rfl) e979)), (w_p1 (by decide) (Or.inr rfl) (w_p1 (by decide) (Or.inr rfl) e980)), (w_p1 (by decide) (Or.inr rfl) (w_p1 (by decide) (Or.inr rfl) e981)), (w_e1 _ _ _), by omega, (MT.step q984 (by omega) (show v1006.toInt = x971.toInt + 1 from by omega)), by omega⟩ ⟨by omega, by omega⟩
                  · have c1005_ : v994.toInt = v1002.toInt := en_i_ne_f c1005
                    refine At.enter rfl ?_
                    refine r_iload_n (w_p1 (by decide) (Or.inr rfl) e981) ?_
                    refine r_ifs 74 rfl (fun c1007 => ?_) (fun c1007 => ?_)
                    · have c1007_ : a3.toInt ≠ 0 := en_k_ne_t c1007
                      refine At.enter rfl ?_
                      refine r_iload (w_e1 _ _ _) ?_
                      refine Ar.fall 81 rfl ?_
                      refine At.enter rfl ?_
                      refine r_ireti ?_
                      have x1008 := HI.eqA hI0 (p := 233) (j := 0) (hv666)
                      exact ⟨_, rfl, hI1000, hF1004, _, rfl, by omega, ⟨fun _ => (by first | exact MEET.a x971.toInt (by omega) (by omega) (by omega) (by omega) q984 (by omega) (by omega) | exact MEET.n (NMq.e g0) q984 (by omega) (by omega)), fun h => absurd (by omega) h⟩⟩
                    · have c1007_ : a3.toInt = 0 := en_k_ne_f c1007
                      refine At.enter rfl ?_
                      refine r_iload (w_p1 (by decide) (Or.inr rfl) e982) ?_
                      refine r_goto ?_
                      refine At.enter rfl ?_
                      refine r_ireti ?_
                      have x1009 := HI.eqA hI0 (p := 233) (j := 0) (hv666)
                      exact ⟨_, rfl, hI1000, hF1004, _, rfl, by omega, ⟨fun _ => (by first | exact MEET.a x971.toInt (by omega) (by omega) (by omega) (by omega) q984 (by omega) (by omega) | exact MEET.n (NMq.e g0) q984 (by omega) (by omega)), fun h => absurd (by omega) h⟩⟩

def F_X11_byNoon_231 : List (Nat × Nat) := []
def A_X11_byNoon_231 : List Nat := []
set_option maxRecDepth 100000 in
set_option maxHeartbeats 4000000 in
theorem T_X11_byNoon_231 (d : Nat) {N : Nat} {g0 : List en_E} (hI0 : HI g0) : Ev (d + 1) 260 [.ref 231] (g0, N) (fun w h' => ∃ g', h' = (g', N) ∧ HI g' ∧ Fr F_X11_byNoon_231 A_X11_byNoon_231 g0 g' ∧ ∃ r : Int32, w = some (.int r) ∧ (0 ≤ r.toInt ∧ r.toInt ≤ 8)) := by
  have hF0 : Fr F_X11_byNoon_231 A_X11_byNoon_231 g0 g0 := Fr.rf
  refine Ev.mk rfl rfl ⟨Nat.le_of_ble_eq_true rfl, Or.inr (q_rc hI0.1 kx_231 rfl)⟩ ?_
  show At _ none _ _ (0, [(0, .ref 231)], [], (_, _)) _
  refine At.enter rfl ?_
  refine r_iconst 0 rfl ?_
  refine r_istore_n ([(1, .int 0), (0, .ref 231)]) rfl ?_
  refine r_iconst 0 rfl ?_
  refine r_istore_n ([(2, .int 0), (1, .int 0), (0, .ref 231)]) rfl ?_
  refine Ar.fall 4 rfl ?_
  have z_1404 : (0 : Int32).toInt = 0 := rfl
  have z_1405 : (0 : Int32).toInt = 0 := rfl
  refine w_loopI (fun n_ l_ g_ => ∃ x1390 : Int32, ∃ x1391 : Int32, n_ = 8 - x1391.toInt ∧ HI g_ ∧ Fr F_X11_byNoon_231 A_X11_byNoon_231 g0 g_ ∧ en_get 0 l_ = some (.ref 231) ∧ en_get 1 l_ = some (.int x1390) ∧ en_get 2 l_ = some (.int x1391) ∧ (0 ≤ x1390.toInt ∧ x1390.toInt ≤ 8) ∧ (0 ≤ x1391.toInt ∧ x1391.toInt ≤ 8) ∧ (x1390.toInt ≤ x1391.toInt)) ?_ (8 - 0) ⟨0, 0, by first | rfl | omega, hI0, hF0, rfl, rfl, rfl, by decide, by decide, by omega⟩
  rintro n1396 l1395 g1392 ⟨x1390, x1391, hm1406, hI1393, hF1394, e1398, e1399, e1400, r1401, r1402, q1403⟩ ih1397
  refine At.enter rfl ?_
  refine r_iload_n e1400 ?_
  refine r_aload_n e1398 ?_
  refine q_getR (Sh.ref hI1393.1 kx_231 rfl) ?_
  refine r_iconst 1 rfl ?_
  obtain ⟨v1407, hv1407⟩ : ∃ v, eA g0 233 1 = v := ⟨_, rfl⟩
  have tv1407 := congrArg Int32.toInt hv1407
  have wv1407 := HI.t1 hI0
  rw [hv1407] at wv1407
  refine q_iald (Sh.arr hI1393.1 ka_233) 1 rfl (by decide) v1407 ((eA_c (hF1394.2.1 233 (by decide))).trans hv1407) ?_
  have bv1409 := q_bnd x1391
  have bv1410 := q_bnd v1407
  refine r_ics 14 rfl (fun c1408 => ?_) (fun c1408 => ?_)
  · have c1408_ : x1391.toInt ≥ v1407.toInt := en_i_ge_t c1408
    refine At.enter rfl ?_
    refine r_iload_n e1399 ?_
    refine r_ireti ?_
    exact ⟨_, rfl, hI1393, hF1394, _, rfl, by omega⟩
  · have c1408_ : x1391.toInt < v1407.toInt := en_i_ge_f c1408
    refine At.enter rfl ?_
    refine r_iload_n e1399 ?_
    refine r_aload_n e1398 ?_
    refine q_getR (Sh.ref hI1393.1 kx_231 rfl) ?_
    refine r_iload_n e1400 ?_
    obtain ⟨v1411, hv1411⟩ : ∃ v, eA g0 253 x1391.toInt = v := ⟨_, rfl⟩
    refine q_iald (Sh.arr hI1393.1 ka_253) x1391.toInt rfl (by omega) v1411 ((eA_c (hF1394.2.1 253 (by decide))).trans hv1411) ?_
    refine r_iconst (-1) rfl ?_
    refine r_ics 25 rfl (fun c1412 => ?_) (fun c1412 => ?_)
    · have c1412_ : v1411.toInt = (-1) := en_i_eq_t c1412
      refine At.enter rfl ?_
      refine r_iconst 0 rfl ?_
      refine Ar.fall 45 rfl ?_
      refine At.enter rfl ?_
      refine q_iadd (x1390.toInt + 0) rfl (by omega) (fun v1413 hv1413 => ?_)
      refine r_istore_n _ rfl ?_
      refine q_iinc (w_p1 (by decide) (Or.inr rfl) e1400) (x1391.toInt + 1) rfl (by omega) (fun v1414 hv1414 => ?_)
      refine r_goto ?_
      exact ih1397 (8 - v1414.toInt) _ _ ⟨v1413, v1414, by first | rfl | omega, hI1393, hF1394, (w_p1 (by decide) (Or.inr rfl) (w_p1 (by decide) (Or.inr rfl) e1398)), (w_p1 (by decide) (Or.inr rfl) (w_e1 _ _ _)), (w_e1 _ _ _), by omega, by omega, by omega⟩ ⟨by omega, by omega⟩
    · have c1412_ : v1411.toInt ≠ (-1) := en_i_eq_f c1412
      refine At.enter rfl ?_
      refine r_aload_n e1398 ?_
      refine q_getR (Sh.ref hI1393.1 kx_231 rfl) ?_
      refine r_iload_n e1400 ?_
      refine q_iald (Sh.arr hI1393.1 ka_253) x1391.toInt rfl (by omega) v1411 ((eA_c (hF1394.2.1 253 (by decide))).trans hv1411) ?_
      refine r_aload_n e1398 ?_
      refine q_getR (Sh.ref hI1393.1 kx_231 rfl) ?_
      refine r_iconst 5 rfl ?_
      obtain ⟨v1415, hv1415⟩ : ∃ v, eA g0 233 5 = v := ⟨_, rfl⟩
      have wv1415 := HI.t5 hI0
      rw [hv1415] at wv1415
      refine q_iald (Sh.arr hI1393.1 ka_233) 5 rfl (by decide) v1415 ((eA_c (hF1394.2.1 233 (by decide))).trans hv1415) ?_
      have bv1417 := q_bnd v1411
      have bv1418 := q_bnd v1415
      refine r_ics 40 rfl (fun c1416 => ?_) (fun c1416 => ?_)
      · have c1416_ : v1411.toInt > v1415.toInt := en_i_gt_t c1416
        refine At.enter rfl ?_
        refine r_iconst 0 rfl ?_
        refine Ar.fall 45 rfl ?_
        refine At.enter rfl ?_
        refine q_iadd (x1390.toInt + 0) rfl (by omega) (fun v1419 hv1419 => ?_)
        refine r_istore_n _ rfl ?_
        refine q_iinc (w_p1 (by decide) (Or.inr rfl) e1400) (x1391.toInt + 1) rfl (by omega) (fun v1420 hv1420 => ?_)
        refine r_goto ?_
        exact ih1397 (8 - v1420.toInt) _ _ ⟨v1419, v1420, by first | rfl | omega, hI1393, hF1394, (w_p1 (by decide) (Or.inr rfl) (w_p1 (by decide) (Or.inr rfl) e1398)), (w_p1 (by decide) (Or.inr rfl) (w_e1 _ _ _)), (w_e1 _ _ _), by omega, by omega, by omega⟩ ⟨by omega, by omega⟩
      · have c1416_ : v1411.toInt ≤ v1415.toInt := en_i_gt_f c1416
        refine At.enter rfl ?_
        refine r_iconst 1 rfl ?_
        refine r_goto ?_
        refine At.enter rfl ?_
        refine q_iadd (x1390.toInt + 1) rfl (by omega) (fun v1421 hv1421 => ?_)
        refine r_istore_n _ rfl ?_
        refine q_iinc (w_p1 (by decide) (Or.inr rfl) e1400) (x1391.toInt + 1) rfl (by omega) (fun v1422 hv1422 => ?_)
        refine r_goto ?_
        exact ih1397 (8 - v1422.toInt) _ _ ⟨v1421, v1422, by first | rfl | omega, hI1393, hF1394, (w_p1 (by decide) (Or.inr rfl) (w_p1 (by decide) (Or.inr rfl) e1398)), (w_p1 (by decide) (Or.inr rfl) (w_e1 _ _ _)), (w_e1 _ _ _), by omega, by omega, by omega⟩ ⟨by omega, by omega⟩
