def F_X11_pieces_231 : List (Nat × Nat) := [(231, 0)]
def A_X11_pieces_231 : List Nat := [249]
set_option maxRecDepth 100000 in
set_option maxHeartbeats 4000000 in
theorem T_X11_pieces_231 (d : Nat) {N : Nat} {g0 : List en_E} (hI0 : HI g0) (a1 : Int32) : Ev (d + 5) 253 [.ref 231, .int a1] (g0, N) (fun w h' => ∃ g', h' = (g', N) ∧ HI g' ∧ Fr F_X11_pieces_231 A_X11_pieces_231 g0 g' ∧ ∃ r : Int32, w = some (.int r) ∧ True ∧ ((¬ (0 ≤ a1.toInt ∧ a1.toInt < (eA g0 233 1).toInt) → r.toInt = -1) ∧ ((0 ≤ a1.toInt ∧ a1.toInt < (eA g0 233 1).toInt) → (eA g0 233 (46 + (6 * a1.toInt + 2))).toInt ≠ -1 → PCE (NMq g0) (SM g0) 12 (eA g0 233 (46 + (6 * a1.toInt + 1))).toInt (eA g0 233 (46 + (6 * a1.toInt + 2))).toInt (eA g0 233 (46 + (6 * a1.toInt + 0))).toInt r))) := by
  have hF0 : Fr F_X11_pieces_231 A_X11_pieces_231 g0 g0 := Fr.rf
  refine Ev.mk rfl rfl ⟨Nat.le_of_ble_eq_true rfl, Or.inr (q_rc hI0.1 kx_231 rfl)⟩ ?_
  show At _ none _ _ (0, [(0, .ref 231), (1, .int a1)], [], (_, _)) _
  refine At.enter rfl ?_
  refine r_aload_n rfl ?_
  refine r_iconst 0 rfl ?_
  refine q_putI (Sh.int hI0.1 kx_231 rfl) rfl ?_
  have hI681 := HI.wI0 hI0 kx_231 rfl (p := 231) (b := 0) (v := 0) rfl
  have hF682 := Fr.wI (p := 231) (b := 0) (v := 0) hF0 rfl
  refine r_aload_n rfl ?_
  refine r_iload_n rfl ?_
  refine q_inlV 10 rfl [.ref 231, .int a1] [] (Nat.le_of_ble_eq_true rfl) rfl ?_
  refine Ev.mk rfl rfl ⟨Nat.le_of_ble_eq_true rfl, Or.inr (q_rc hI681.1 kx_231 rfl)⟩ ?_
  show At _ none _ _ (0, [(0, .ref 231), (1, .int a1)], [], (_, _)) _
  refine At.enter rfl ?_
  refine r_iload_n rfl ?_
  refine q_i2l (fun v683 hv683 => ?_)
  refine r_lconst 0 rfl ?_
  refine r_aload_n rfl ?_
  refine q_getR (Sh.ref hI681.1 kx_231 rfl) ?_
  refine r_iconst 1 rfl ?_
  obtain ⟨v684, hv684⟩ : ∃ v, eA g0 233 1 = v := ⟨_, rfl⟩
  have tv684 := congrArg Int32.toInt hv684
  have wv684 := HI.t1 hI0
  rw [hv684] at wv684
  refine q_iald (Sh.arr hI681.1 ka_233) 1 rfl (by decide) v684 ((eA_c (gA_sI)).trans hv684) ?_
  refine q_i2l (fun v685 hv685 => ?_)
  refine r_lconst 1 rfl ?_
  refine q_lsub (v685.toInt - 1) rfl (by omega) (fun v686 hv686 => ?_)
  refine q_inlS 15 rfl [.long v683, .long 0, .long v686] [] (Nat.le_of_ble_eq_true rfl) rfl ?_
  refine Ev.mk rfl rfl ⟨Nat.le_of_ble_eq_true rfl, Or.inl rfl⟩ ?_
  show At _ none _ _ (0, [(0, .long v683), (2, .long 0), (4, .long v686)], [], (_, _)) _
  refine At.enter rfl ?_
  refine r_lload_n rfl ?_
  refine r_lload_n rfl ?_
  refine r_lcmp _ rfl ?_
  refine r_ifs 6 rfl (fun c687 => ?_) (fun c687 => ?_)
  · have c687_ : v683.toInt < 0 := en_j_lt_t c687
    refine At.enter rfl ?_
    refine r_iconst 0 rfl ?_
    refine Ar.fall 18 rfl ?_
    refine At.enter rfl ?_
    refine q_iretz (by decide) ?_
    refine At.enter rfl ?_
    refine q_iretz (by decide) ?_
    refine At.enter rfl ?_
    refine r_iff 13 rfl (by decide) ?_
    refine At.enter rfl ?_
    refine r_iconst (-1) rfl ?_
    refine r_ireti ?_
    have zv688 : ((-1) : Int32).toInt = (-1) := rfl
    have x689 := HI.eqA hI0 (p := 233) (j := 1) (hv684)
    exact ⟨_, rfl, hI681, hF682, _, rfl, trivial, ⟨fun _ => by omega, fun h => absurd h (by omega)⟩⟩
  · have c687_ : v683.toInt ≥ 0 := en_j_lt_f c687
    refine At.enter rfl ?_
    refine r_lload_n rfl ?_
    refine r_lload rfl ?_
    refine r_lcmp _ rfl ?_
    refine r_ifs 13 rfl (fun c690 => ?_) (fun c690 => ?_)
    · have c690_ : v683.toInt > v686.toInt := en_j_gt_t c690
      refine At.enter rfl ?_
      refine r_iconst 0 rfl ?_
      refine Ar.fall 18 rfl ?_
      refine At.enter rfl ?_
      refine q_iretz (by decide) ?_
      refine At.enter rfl ?_
      refine q_iretz (by decide) ?_
      refine At.enter rfl ?_
      refine r_iff 13 rfl (by decide) ?_
      refine At.enter rfl ?_
      refine r_iconst (-1) rfl ?_
      refine r_ireti ?_
      have zv691 : ((-1) : Int32).toInt = (-1) := rfl
      have x692 := HI.eqA hI0 (p := 233) (j := 1) (hv684)
      exact ⟨_, rfl, hI681, hF682, _, rfl, trivial, ⟨fun _ => by omega, fun h => absurd h (by omega)⟩⟩
    · have c690_ : v683.toInt ≤ v686.toInt := en_j_gt_f c690
      refine At.enter rfl ?_
      refine r_iconst 1 rfl ?_
      refine r_goto ?_
      refine At.enter rfl ?_
      refine q_iretz (by decide) ?_
      refine At.enter rfl ?_
      refine q_iretz (by decide) ?_
      refine At.enter rfl ?_
      refine r_ift (by decide) ?_
      refine At.enter rfl ?_
      refine r_aload_n rfl ?_
      refine r_iload_n rfl ?_
      refine r_callV 20 rfl [.ref 231, .int a1] [] (Nat.le_of_ble_eq_true rfl) rfl (T_X11_findWay_231 _ hI681 a1 (by omega) (by rw [eA_c ((gA_sI)), hv684]; omega)) ?_
      rintro _ _ ⟨g693, rfl, hI694, hF695, v696, rfl, hr697⟩
      refine At.sti ?_
      have hF698 := Fr.tr hF682 hF695 rfl rfl
      obtain ⟨w699, w700, w701, w702⟩ := hr697
      have w703 := And.intro w699 w700
      have fw704 : ∀ j : Int, 0 ≤ j → j ≤ v696.toInt → (eA g693 249 j).toInt < (eA g0 233 0).toInt := fun j a b => by have z := w703.2 j a b; rw [eA_c ((gA_sI))] at z; exact z
      have w705 := WAYF.cg ((gA_sI)) w701
      have w706 := itI.cg ((gA_sI)) w702
      refine At.enter rfl ?_
      refine r_istore_n ([(2, .int v696), (0, .ref 231), (1, .int a1)]) rfl ?_
      refine r_iload_n rfl ?_
      refine r_iconst 1 rfl ?_
      refine r_ics 26 rfl (fun c707 => ?_) (fun c707 => ?_)
      · have c707_ : v696.toInt ≥ 1 := en_i_ge_t c707
        refine At.enter rfl ?_
        refine r_bipush 9 rfl ?_
        refine r_istore_n ([(3, .int 9), (2, .int v696), (0, .ref 231), (1, .int a1)]) rfl ?_
        refine r_iconst 0 rfl ?_
        refine r_istore ([(4, .int 0), (3, .int 9), (2, .int v696), (0, .ref 231), (1, .int a1)]) rfl ?_
        refine Ar.fall 34 rfl ?_
        have z_999 : (9 : Int32).toInt = 9 := rfl
        have z_1000 : (0 : Int32).toInt = 0 := rfl
        refine w_loopI (fun n_ l_ g_ => ∃ x979 : Int32, ∃ x980 : Int32, n_ = 12 - x980.toInt ∧ HI g_ ∧ Fr F_X11_pieces_231 A_X11_pieces_231 g0 g_ ∧ en_get 0 l_ = some (.ref 231) ∧ en_get 1 l_ = some (.int a1) ∧ en_get 2 l_ = some (.int v696) ∧ en_get 3 l_ = some (.int x979) ∧ en_get 4 l_ = some (.int x980) ∧ (1 ≤ x979.toInt ∧ x979.toInt ≤ 9) ∧ (0 ≤ x980.toInt ∧ x980.toInt ≤ 12) ∧ (∀ j : Int, 0 ≤ j → j ≤ v696.toInt → (eA g_ 249 j).toInt < (eA g0 233 0).toInt) ∧ (∀ j : Int, 0 ≤ j → j ≤ v696.toInt → (eA g_ 249 j).toInt = itI (NMq g0) j (eA g0 233 (46 + (6 * a1.toInt + 1))).toInt) ∧ (x979.toInt = LSI (NMq g0) (SM g0) x980.toInt (eA g0 233 (46 + (6 * a1.toInt + 1))).toInt) ∧ (0 ≤ x980.toInt) ∧ (x980.toInt ≤ v696.toInt)) ?_ (12 - 0) ⟨9, 0, by first | rfl | omega, hI694, hF698, rfl, rfl, rfl, rfl, rfl, by decide, by decide, (fun j a b => by rw [eA_c (rfl)]; exact fw704 j a b), (fun j a b => (eA_ti (rfl)).trans (w706 j a b)), (LSI.z _ _ _ (by first | decide | omega)), by omega, by omega⟩
        rintro n985 l984 g981 ⟨x979, x980, hm1001, hI982, hF983, e987, e988, e989, e990, e991, r992, r993, q994, q995, q996, q997, q998⟩ ih986
        refine At.enter rfl ?_
        refine r_iload e991 ?_
        refine r_iload_n e989 ?_
        have bv1003 := q_bnd x980
        have bv1004 := q_bnd v696
        refine r_ics 40 rfl (fun c1002 => ?_) (fun c1002 => ?_)
        · have c1002_ : x980.toInt ≥ v696.toInt := en_i_ge_t c1002
          refine At.enter rfl ?_
          refine r_iload_n e989 ?_
          refine r_aload_n e987 ?_
          refine r_iload_n e988 ?_
          refine r_iconst 0 rfl ?_
          refine q_inlV 86 rfl [.ref 231, .int a1, .int 0] [.int v696] (Nat.le_of_ble_eq_true rfl) rfl ?_
          refine Ev.mk rfl rfl ⟨Nat.le_of_ble_eq_true rfl, Or.inr (q_rc hI982.1 kx_231 rfl)⟩ ?_
          show At _ none _ _ (0, [(0, .ref 231), (1, .int a1), (2, .int 0)], [], (_, _)) _
          refine At.enter rfl ?_
          refine r_aload_n rfl ?_
          refine q_getR (Sh.ref hI982.1 kx_231 rfl) ?_
          refine r_bipush 46 rfl ?_
          refine r_bipush 6 rfl ?_
          refine r_iload_n rfl ?_
          refine q_imul (6 * a1.toInt) rfl (by omega) (fun v1005 hv1005 => ?_)
          refine q_iadd (46 + v1005.toInt) rfl (by omega) (fun v1006 hv1006 => ?_)
          refine r_iload_n rfl ?_
          refine q_iadd (v1006.toInt + 0) rfl (by omega) (fun v1007 hv1007 => ?_)
          obtain ⟨v1008, hv1008⟩ : ∃ v, eA g0 233 (6 * a1.toInt + 46) = v := ⟨_, rfl⟩
          have wv1008 := HI.l0 hI0 (j := (6 * a1.toInt + 46)) (a1.toInt) (by omega) (by omega)
          rw [hv1008] at wv1008
          refine q_iald (Sh.arr hI982.1 ka_233) (6 * a1.toInt + 46) (by omega) (by omega) v1008 ((eA_c (hF983.2.1 233 (by decide))).trans hv1008) ?_
          refine q_ireti ?_
          refine At.enter rfl ?_
          refine r_iload_n e990 ?_
          refine q_iaddO (fun v1009 ov1009 => ?_)
          refine r_iconst 1 rfl ?_
          refine q_isubO (fun v1010 ov1010 => ?_)
          refine r_iload_n e990 ?_
          refine q_idivO (by omega) (fun v1011 ov1011 => ?_)
          refine q_iaddO (fun v1012 ov1012 => ?_)
          refine r_iconst 1 rfl ?_
          refine q_isubO (fun v1013 ov1013 => ?_)
          refine r_ireti ?_
          have x1014 := HI.eqA hI0 (p := 233) (j := 1) (hv684)
          exact ⟨_, rfl, hI982, hF983, _, rfl, trivial, ⟨fun h => absurd h (by omega), fun h hw => PCE.mk v696 x979 v1008 (w705 hw) (by rw [show v696.toInt = x980.toInt from by omega]; exact q996) (by omega) (by omega) ((congrArg Int32.toInt hv1008).symm.trans (eA_ix (by omega))) (by rw [ov1013, ov1012, ov1011, ov1010, ov1009])⟩⟩
        · have c1002_ : x980.toInt < v696.toInt := en_i_ge_f c1002
          refine At.enter rfl ?_
          refine r_aload_n e987 ?_
          refine r_aload_n e987 ?_
          refine q_getR (Sh.ref hI982.1 kx_231 rfl) ?_
          refine r_iload e991 ?_
          obtain ⟨v1015, hv1015⟩ : ∃ v, eA g981 249 x980.toInt = v := ⟨_, rfl⟩
          have rv1015 := RgA.at hI982.2.2.1 (Sh.arr hI982.1 ka_249).2 (p := 249) rfl (j := x980.toInt) (by omega)
          rw [hv1015] at rv1015
          dsimp only at rv1015
          have yv1015 := q994 x980.toInt (by omega) (by omega)
          rw [hv1015] at yv1015
          have zv1015 := q995 x980.toInt (by omega) (by omega)
          rw [hv1015] at zv1015
          refine q_iald (Sh.arr hI982.1 ka_249) x980.toInt rfl (by omega) v1015 hv1015 ?_
          refine r_iconst 1 rfl ?_
          refine q_inlV 52 rfl [.ref 231, .int v1015, .int 1] [] (Nat.le_of_ble_eq_true rfl) rfl ?_
          refine Ev.mk rfl rfl ⟨Nat.le_of_ble_eq_true rfl, Or.inr (q_rc hI982.1 kx_231 rfl)⟩ ?_
          show At _ none _ _ (0, [(0, .ref 231), (1, .int v1015), (2, .int 1)], [], (_, _)) _
          refine At.enter rfl ?_
          refine r_aload_n rfl ?_
          refine q_getR (Sh.ref hI982.1 kx_231 rfl) ?_
          refine r_bipush 10 rfl ?_
          refine r_iconst 3 rfl ?_
          refine r_iload_n rfl ?_
          refine q_imul (3 * v1015.toInt) rfl (by omega) (fun v1016 hv1016 => ?_)
          refine q_iadd (10 + v1016.toInt) rfl (by omega) (fun v1017 hv1017 => ?_)
          refine r_iload_n rfl ?_
          refine q_iadd (v1017.toInt + 1) rfl (by omega) (fun v1018 hv1018 => ?_)
          obtain ⟨v1019, hv1019⟩ : ∃ v, eA g0 233 (3 * v1015.toInt + 11) = v := ⟨_, rfl⟩
          have wv1019 := HI.s1 hI0 (j := (3 * v1015.toInt + 11)) (v1015.toInt) (by omega) (by omega)
          rw [hv1019] at wv1019
          refine q_iald (Sh.arr hI982.1 ka_233) (3 * v1015.toInt + 11) (by omega) (by omega) v1019 ((eA_c (hF983.2.1 233 (by decide))).trans hv1019) ?_
          refine q_ireti ?_
          refine At.enter rfl ?_
          refine r_iload_n e990 ?_
          have bv1021 := q_bnd v1019
          have bv1022 := q_bnd x979
          refine r_ics 56 rfl (fun c1020 => ?_) (fun c1020 => ?_)
          · have c1020_ : v1019.toInt ≥ x979.toInt := en_i_ge_t c1020
            refine At.enter rfl ?_
            refine r_iload_n e990 ?_
            refine Ar.fall 72 rfl ?_
            refine At.enter rfl ?_
            refine r_istore_n _ rfl ?_
            refine q_iinc (w_p1 (by decide) (Or.inr rfl) e991) (x980.toInt + 1) rfl (by omega) (fun v1023 hv1023 => ?_)
            refine r_goto ?_
            exact ih986 (12 - v1023.toInt) _ _ ⟨x979, v1023, by first | rfl | omega, hI982, hF983, (w_p1 (by decide) (Or.inr rfl) (w_p1 (by decide) (Or.inr rfl) e987)), (w_p1 (by decide) (Or.inr rfl) (w_p1 (by decide) (Or.inr rfl) e988)), (w_p1 (by decide) (Or.inr rfl) (w_p1 (by decide) (Or.inr rfl) e989)), (w_p1 (by decide) (Or.inr rfl) (w_e1 _ _ _)), (w_e1 _ _ _), by omega, by omega, (fun j a b => by rw [eA_c (rfl)]; exact q994 j a b), (fun j a b => (eA_ti (rfl)).trans (q995 j a b)), (LSI.step (x := v1019.toInt) (by omega) (show v1023.toInt = x980.toInt + 1 from by omega) q996 (by rw [← zv1015]; show (eA g0 233 (10 + 3 * v1015.toInt + 1)).toInt = _; exact (eA_ix (by omega)).trans (congrArg Int32.toInt hv1019)) ⟨by omega, by omega, by omega⟩), by omega, by omega⟩ ⟨by omega, by omega⟩
          · have c1020_ : v1019.toInt < x979.toInt := en_i_ge_f c1020
            refine At.enter rfl ?_
            refine r_aload_n e987 ?_
            refine r_aload_n e987 ?_
            refine q_getR (Sh.ref hI982.1 kx_231 rfl) ?_
            refine r_iload e991 ?_
            refine q_iald (Sh.arr hI982.1 ka_249) x980.toInt rfl (by omega) v1015 hv1015 ?_
            refine r_iconst 1 rfl ?_
            refine q_inlV 68 rfl [.ref 231, .int v1015, .int 1] [] (Nat.le_of_ble_eq_true rfl) rfl ?_
            refine Ev.mk rfl rfl ⟨Nat.le_of_ble_eq_true rfl, Or.inr (q_rc hI982.1 kx_231 rfl)⟩ ?_
            show At _ none _ _ (0, [(0, .ref 231), (1, .int v1015), (2, .int 1)], [], (_, _)) _
            refine At.enter rfl ?_
            refine r_aload_n rfl ?_
            refine q_getR (Sh.ref hI982.1 kx_231 rfl) ?_
            refine r_bipush 10 rfl ?_
            refine r_iconst 3 rfl ?_
            refine r_iload_n rfl ?_
            refine q_imul (3 * v1015.toInt) rfl (by omega) (fun v1024 hv1024 => ?_)
            refine q_iadd (10 + v1024.toInt) rfl (by omega) (fun v1025 hv1025 => ?_)
            refine r_iload_n rfl ?_
            refine q_iadd (v1025.toInt + 1) rfl (by omega) (fun v1026 hv1026 => ?_)
            refine q_iald (Sh.arr hI982.1 ka_233) (3 * v1015.toInt + 11) (by omega) (by omega) v1019 ((eA_c (hF983.2.1 233 (by decide))).trans hv1019) ?_
            refine q_ireti ?_
            refine At.enter rfl ?_
            refine r_goto ?_
            refine At.enter rfl ?_
            refine r_istore_n _ rfl ?_
            refine q_iinc (w_p1 (by decide) (Or.inr rfl) e991) (x980.toInt + 1) rfl (by omega) (fun v1027 hv1027 => ?_)
            refine r_goto ?_
            exact ih986 (12 - v1027.toInt) _ _ ⟨v1019, v1027, by first | rfl | omega, hI982, hF983, (w_p1 (by decide) (Or.inr rfl) (w_p1 (by decide) (Or.inr rfl) e987)), (w_p1 (by decide) (Or.inr rfl) (w_p1 (by decide) (Or.inr rfl) e988)), (w_p1 (by decide) (Or.inr rfl) (w_p1 (by decide) (Or.inr rfl) e989)), (w_p1 (by decide) (Or.inr rfl) (w_e1 _ _ _)), (w_e1 _ _ _), by omega, by omega, (fun j a b => by rw [eA_c (rfl)]; exact q994 j a b), (fun j a b => (eA_ti (rfl)).trans (q995 j a b)), (LSI.step (x := v1019.toInt) (by omega) (show v1027.toInt = x980.toInt + 1 from by omega) q996 (by rw [← zv1015]; show (eA g0 233 (10 + 3 * v1015.toInt + 1)).toInt = _; exact (eA_ix (by omega)).trans (congrArg Int32.toInt hv1019)) ⟨by omega, by omega, by omega⟩), by omega, by omega⟩ ⟨by omega, by omega⟩
      · have c707_ : v696.toInt < 1 := en_i_ge_f c707
        refine At.enter rfl ?_
        refine r_iload_n rfl ?_
        refine r_ireti ?_
        have x1028 := HI.eqA hI0 (p := 233) (j := 1) (hv684)
        exact ⟨_, rfl, hI694, hF698, _, rfl, trivial, ⟨fun h => absurd h (by omega), fun h hw => PCE.few v696 (w705 hw) (by omega) (by omega)⟩⟩

def F_X11_after_231 : List (Nat × Nat) := []
def A_X11_after_231 : List Nat := []
set_option maxRecDepth 100000 in
set_option maxHeartbeats 4000000 in
theorem T_X11_after_231 (d : Nat) {N : Nat} {g0 : List en_E} (hI0 : HI g0) (a1 : Int32) (h_a1 : (-1) ≤ a1.toInt ∧ a1.toInt ≤ 11) (a2 : Int32) : Ev (d + 4) 256 [.ref 231, .int a1, .int a2] (g0, N) (fun w h' => ∃ g', h' = (g', N) ∧ HI g' ∧ Fr F_X11_after_231 A_X11_after_231 g0 g' ∧ ∃ r : Int32, w = some (.int r) ∧ ((-1) ≤ r.toInt ∧ r.toInt ≤ 11) ∧ (r.toInt = itI (NMq g0) a2.toInt a1.toInt)) := by
  have hF0 : Fr F_X11_after_231 A_X11_after_231 g0 g0 := Fr.rf
  refine Ev.mk rfl rfl ⟨Nat.le_of_ble_eq_true rfl, Or.inr (q_rc hI0.1 kx_231 rfl)⟩ ?_
  show At _ none _ _ (0, [(0, .ref 231), (1, .int a1), (2, .int a2)], [], (_, _)) _
  refine At.enter rfl ?_
  refine r_iload_n rfl ?_
  refine r_istore_n ([(3, .int a1), (0, .ref 231), (1, .int a1), (2, .int a2)]) rfl ?_
  refine r_iconst 0 rfl ?_
  refine r_istore ([(4, .int 0), (3, .int a1), (0, .ref 231), (1, .int a1), (2, .int a2)]) rfl ?_
  refine Ar.fall 5 rfl ?_
  have z_1028 : (0 : Int32).toInt = 0 := rfl
  refine w_loopI (fun n_ l_ g_ => ∃ x1010 : Int32, ∃ x1011 : Int32, n_ = 2147483647 - x1011.toInt ∧ HI g_ ∧ Fr F_X11_after_231 A_X11_after_231 g0 g_ ∧ en_get 0 l_ = some (.ref 231) ∧ en_get 1 l_ = some (.int a1) ∧ en_get 2 l_ = some (.int a2) ∧ en_get 3 l_ = some (.int x1010) ∧ en_get 4 l_ = some (.int x1011) ∧ ((-1) ≤ x1010.toInt ∧ x1010.toInt ≤ 11) ∧ 0 ≤ x1011.toInt ∧ (x1010.toInt = itI (NMq g0) x1011.toInt a1.toInt) ∧ (0 ≤ x1011.toInt) ∧ (x1011.toInt ≤ a2.toInt ∨ x1011.toInt = 0)) ?_ (2147483647 - 0) ⟨a1, 0, by first | rfl | omega, hI0, hF0, rfl, rfl, rfl, rfl, rfl, by omega, by decide, (itI_n _ (by first | decide | omega) _).symm, by omega, by omega⟩
  rintro n1016 l1015 g1012 ⟨x1010, x1011, hm1029, hI1013, hF1014, e1018, e1019, e1020, e1021, e1022, r1023, r1024, q1025, q1026, q1027⟩ ih1017
  refine At.enter rfl ?_
  refine r_iload e1022 ?_
  refine r_iload_n e1020 ?_
  have bv1031 := q_bnd x1011
  have bv1032 := q_bnd a2
  refine r_ics 11 rfl (fun c1030 => ?_) (fun c1030 => ?_)
  · have c1030_ : x1011.toInt ≥ a2.toInt := en_i_ge_t c1030
    refine At.enter rfl ?_
    refine r_iload_n e1021 ?_
    refine r_ireti ?_
    exact ⟨_, rfl, hI1013, hF1014, _, rfl, by omega, (by first | exact (Decidable.em (a2.toInt ≤ 0)).elim (fun k => (by rw [itI_n _ k]; have z := itI_n (NMq g0) (k := x1011.toInt) (by omega) a1.toInt; omega)) (fun k => (by rw [show a2.toInt = x1011.toInt from by omega]; omega)) | (have z := itI_e (NMq.e g0) (i := x1011.toInt) (k := a2.toInt) (s := a1.toInt) (by omega) (by omega); omega))⟩
  · have c1030_ : x1011.toInt < a2.toInt := en_i_ge_f c1030
    refine At.enter rfl ?_
    refine r_iload_n e1021 ?_
    refine r_iconst (-1) rfl ?_
    refine r_ics 16 rfl (fun c1033 => ?_) (fun c1033 => ?_)
    · have c1033_ : x1010.toInt = (-1) := en_i_eq_t c1033
      refine At.enter rfl ?_
      refine r_iload_n e1021 ?_
      refine r_ireti ?_
      exact ⟨_, rfl, hI1013, hF1014, _, rfl, by omega, (by first | exact (Decidable.em (a2.toInt ≤ 0)).elim (fun k => (by rw [itI_n _ k]; have z := itI_n (NMq g0) (k := x1011.toInt) (by omega) a1.toInt; omega)) (fun k => (by rw [show a2.toInt = x1011.toInt from by omega]; omega)) | (have z := itI_e (NMq.e g0) (i := x1011.toInt) (k := a2.toInt) (s := a1.toInt) (by omega) (by omega); omega))⟩
    · have c1033_ : x1010.toInt ≠ (-1) := en_i_eq_f c1033
      refine At.enter rfl ?_
      refine r_aload_n e1018 ?_
      refine r_iload_n e1021 ?_
      refine r_iconst 0 rfl ?_
      refine r_callV 22 rfl [.ref 231, .int x1010, .int 0] [] (Nat.le_of_ble_eq_true rfl) rfl (T_X11_nextOf0_231 _ hI1013 x1010 (by omega)) ?_
      rintro _ _ ⟨g1034, rfl, hI1035, hF1036, v1037, rfl, hr1038⟩
      refine At.sti ?_
      have hF1039 := Fr.tr hF1014 hF1036 rfl rfl
      have zv1040 : (0 : Int32).toInt = 0 := rfl
      rw [eA_c ((hF1014.2.1 233 (by decide)))] at hr1038
      rw [NMo.c ((hF1014.2.1 233 (by decide)))] at hr1038
      refine At.enter rfl ?_
      refine r_istore_n _ rfl ?_
      refine q_iinc (w_p1 (by decide) (Or.inr rfl) e1022) (x1011.toInt + 1) rfl (by omega) (fun v1041 hv1041 => ?_)
      refine r_goto ?_
      have bv1042 := q_bnd v1041
      exact ih1017 (2147483647 - v1041.toInt) _ _ ⟨v1037, v1041, by first | rfl | omega, hI1035, hF1039, (w_p1 (by decide) (Or.inr rfl) (w_p1 (by decide) (Or.inr rfl) e1018)), (w_p1 (by decide) (Or.inr rfl) (w_p1 (by decide) (Or.inr rfl) e1019)), (w_p1 (by decide) (Or.inr rfl) (w_p1 (by decide) (Or.inr rfl) e1020)), (w_p1 (by decide) (Or.inr rfl) (w_e1 _ _ _)), (w_e1 _ _ _), by omega, by omega, (by rw [show v1041.toInt = x1011.toInt + 1 from by omega, itI_s (NMq g0) (by omega), ← q1025]; have z := NMq.ne (g := g0) (s := x1010.toInt) (by omega); omega), by omega, by omega⟩ ⟨by omega, by omega⟩
