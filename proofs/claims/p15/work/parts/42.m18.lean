def F_X11_pieces_231 : List (Nat × Nat) := [(231, 0)]
def A_X11_pieces_231 : List Nat := [249]
set_option maxRecDepth 100000 in
set_option maxHeartbeats 4000000 in
theorem T_X11_pieces_231 (d : Nat) {N : Nat} {g0 : List en_E} (hI0 : HI g0) (a1 : Int32) : Ev (d + 5) 253 [.ref 231, .int a1] (g0, N) (fun w h' => ∃ g', h' = (g', N) ∧ HI g' ∧ Fr F_X11_pieces_231 A_X11_pieces_231 g0 g' ∧ ∃ r : Int32, w = some (.int r) ∧ True) := by
  have hF0 : Fr F_X11_pieces_231 A_X11_pieces_231 g0 g0 := Fr.rf
  refine Ev.mk rfl rfl ⟨Nat.le_of_ble_eq_true rfl, Or.inr (q_rc hI0.1 kx_231 rfl)⟩ ?_
  show At _ none _ _ (0, [(0, .ref 231), (1, .int a1)], [], (_, _)) _
  refine At.enter rfl ?_
  refine r_aload_n rfl ?_
  refine r_iconst 0 rfl ?_
  refine q_putI (Sh.int hI0.1 kx_231 rfl) rfl ?_
  have hI663 := HI.wI0 hI0 kx_231 rfl (p := 231) (b := 0) (v := 0) rfl
  have hF664 := Fr.wI (p := 231) (b := 0) (v := 0) hF0 rfl
  refine r_aload_n rfl ?_
  refine r_iload_n rfl ?_
  refine q_inlV 10 rfl [.ref 231, .int a1] [] (Nat.le_of_ble_eq_true rfl) rfl ?_
  refine Ev.mk rfl rfl ⟨Nat.le_of_ble_eq_true rfl, Or.inr (q_rc hI663.1 kx_231 rfl)⟩ ?_
  show At _ none _ _ (0, [(0, .ref 231), (1, .int a1)], [], (_, _)) _
  refine At.enter rfl ?_
  refine r_iload_n rfl ?_
  refine q_i2l (fun v665 hv665 => ?_)
  refine r_lconst 0 rfl ?_
  refine r_aload_n rfl ?_
  refine q_getR (Sh.ref hI663.1 kx_231 rfl) ?_
  refine r_iconst 1 rfl ?_
  obtain ⟨v666, hv666⟩ : ∃ v, eA g0 233 1 = v := ⟨_, rfl⟩
  have tv666 := congrArg Int32.toInt hv666
  have wv666 := HI.t1 hI0
  rw [hv666] at wv666
  refine q_iald (Sh.arr hI663.1 ka_233) 1 rfl (by decide) v666 ((eA_c (gA_sI)).trans hv666) ?_
  refine q_i2l (fun v667 hv667 => ?_)
  refine r_lconst 1 rfl ?_
  refine q_lsub (v667.toInt - 1) rfl (by omega) (fun v668 hv668 => ?_)
  refine q_inlS 15 rfl [.long v665, .long 0, .long v668] [] (Nat.le_of_ble_eq_true rfl) rfl ?_
  refine Ev.mk rfl rfl ⟨Nat.le_of_ble_eq_true rfl, Or.inl rfl⟩ ?_
  show At _ none _ _ (0, [(0, .long v665), (2, .long 0), (4, .long v668)], [], (_, _)) _
  refine At.enter rfl ?_
  refine r_lload_n rfl ?_
  refine r_lload_n rfl ?_
  refine r_lcmp _ rfl ?_
  refine r_ifs 6 rfl (fun c669 => ?_) (fun c669 => ?_)
  · have c669_ : v665.toInt < 0 := en_j_lt_t c669
    refine At.enter rfl ?_
    refine r_iconst 0 rfl ?_
    refine Ar.fall 18 rfl ?_
    refine At.enter rfl ?_
    refine q_iretz (by decide) ?_
    refine At.enter rfl ?_
    refine q_iretz (by decide) ?_
    refine At.enter rfl ?_
    refine r_iff 13 rfl (by decide) ?_
    refine At.enter rfl ?_
    refine r_iconst (-1) rfl ?_
    refine r_ireti ?_
    exact ⟨_, rfl, hI663, hF664, _, rfl, trivial⟩
  · have c669_ : v665.toInt ≥ 0 := en_j_lt_f c669
    refine At.enter rfl ?_
    refine r_lload_n rfl ?_
    refine r_lload rfl ?_
    refine r_lcmp _ rfl ?_
    refine r_ifs 13 rfl (fun c670 => ?_) (fun c670 => ?_)
    · have c670_ : v665.toInt > v668.toInt := en_j_gt_t c670
      refine At.enter rfl ?_
      refine r_iconst 0 rfl ?_
      refine Ar.fall 18 rfl ?_
      refine At.enter rfl ?_
      refine q_iretz (by decide) ?_
      refine At.enter rfl ?_
      refine q_iretz (by decide) ?_
      refine At.enter rfl ?_
      refine r_iff 13 rfl (by decide) ?_
      refine At.enter rfl ?_
      refine r_iconst (-1) rfl ?_
      refine r_ireti ?_
      exact ⟨_, rfl, hI663, hF664, _, rfl, trivial⟩
    · have c670_ : v665.toInt ≤ v668.toInt := en_j_gt_f c670
      refine At.enter rfl ?_
      refine r_iconst 1 rfl ?_
      refine r_goto ?_
      refine At.enter rfl ?_
      refine q_iretz (by decide) ?_
      refine At.enter rfl ?_
      refine q_iretz (by decide) ?_
      refine At.enter rfl ?_
      refine r_ift (by decide) ?_
      refine At.enter rfl ?_
      refine r_aload_n rfl ?_
      refine r_iload_n rfl ?_
      refine r_callV 20 rfl [.ref 231, .int a1] [] (Nat.le_of_ble_eq_true rfl) rfl (T_X11_findWay_231 _ hI663 a1 (by omega) (by rw [eA_c ((gA_sI)), hv666]; omega)) ?_
      rintro _ _ ⟨g671, rfl, hI672, hF673, v674, rfl, hr675⟩
      refine At.sti ?_
      have hF676 := Fr.tr hF664 hF673 rfl rfl
      have fw677 : ∀ j : Int, 0 ≤ j → j ≤ v674.toInt → (eA g671 249 j).toInt < (eA g0 233 0).toInt := fun j a b => by have z := hr675.2 j a b; rw [eA_c ((gA_sI))] at z; exact z
      refine At.enter rfl ?_
      refine r_istore_n ([(2, .int v674), (0, .ref 231), (1, .int a1)]) rfl ?_
      refine r_iload_n rfl ?_
      refine r_iconst 1 rfl ?_
      refine r_ics 26 rfl (fun c678 => ?_) (fun c678 => ?_)
      · have c678_ : v674.toInt ≥ 1 := en_i_ge_t c678
        refine At.enter rfl ?_
        refine r_bipush 9 rfl ?_
        refine r_istore_n ([(3, .int 9), (2, .int v674), (0, .ref 231), (1, .int a1)]) rfl ?_
        refine r_iconst 0 rfl ?_
        refine r_istore ([(4, .int 0), (3, .int 9), (2, .int v674), (0, .ref 231), (1, .int a1)]) rfl ?_
        refine Ar.fall 34 rfl ?_
        have z_966 : (9 : Int32).toInt = 9 := rfl
        have z_967 : (0 : Int32).toInt = 0 := rfl
        refine w_loopI (fun n_ l_ g_ => ∃ x950 : Int32, ∃ x951 : Int32, n_ = 12 - x951.toInt ∧ HI g_ ∧ Fr F_X11_pieces_231 A_X11_pieces_231 g0 g_ ∧ en_get 0 l_ = some (.ref 231) ∧ en_get 1 l_ = some (.int a1) ∧ en_get 2 l_ = some (.int v674) ∧ en_get 3 l_ = some (.int x950) ∧ en_get 4 l_ = some (.int x951) ∧ (1 ≤ x950.toInt ∧ x950.toInt ≤ 9) ∧ (0 ≤ x951.toInt ∧ x951.toInt ≤ 12) ∧ (∀ j : Int, 0 ≤ j → j ≤ v674.toInt → (eA g_ 249 j).toInt < (eA g0 233 0).toInt)) ?_ (12 - 0) ⟨9, 0, by first | rfl | omega, hI672, hF676, rfl, rfl, rfl, rfl, rfl, by decide, by decide, (fun j a b => by rw [eA_c (rfl)]; exact fw677 j a b)⟩
        rintro n956 l955 g952 ⟨x950, x951, hm968, hI953, hF954, e958, e959, e960, e961, e962, r963, r964, q965⟩ ih957
        refine At.enter rfl ?_
        refine r_iload e962 ?_
        refine r_iload_n e960 ?_
        have bv970 := q_bnd x951
        have bv971 := q_bnd v674
        refine r_ics 40 rfl (fun c969 => ?_) (fun c969 => ?_)
        · have c969_ : x951.toInt ≥ v674.toInt := en_i_ge_t c969
          refine At.enter rfl ?_
          refine r_iload_n e960 ?_
          refine r_aload_n e958 ?_
          refine r_iload_n e959 ?_
          refine r_iconst 0 rfl ?_
          refine q_inlV 86 rfl [.ref 231, .int a1, .int 0] [.int v674] (Nat.le_of_ble_eq_true rfl) rfl ?_
          refine Ev.mk rfl rfl ⟨Nat.le_of_ble_eq_true rfl, Or.inr (q_rc hI953.1 kx_231 rfl)⟩ ?_
          show At _ none _ _ (0, [(0, .ref 231), (1, .int a1), (2, .int 0)], [], (_, _)) _
          refine At.enter rfl ?_
          refine r_aload_n rfl ?_
          refine q_getR (Sh.ref hI953.1 kx_231 rfl) ?_
          refine r_bipush 46 rfl ?_
          refine r_bipush 6 rfl ?_
          refine r_iload_n rfl ?_
          refine q_imul (6 * a1.toInt) rfl (by omega) (fun v972 hv972 => ?_)
          refine q_iadd (46 + v972.toInt) rfl (by omega) (fun v973 hv973 => ?_)
          refine r_iload_n rfl ?_
          refine q_iadd (v973.toInt + 0) rfl (by omega) (fun v974 hv974 => ?_)
          obtain ⟨v975, hv975⟩ : ∃ v, eA g0 233 (6 * a1.toInt + 46) = v := ⟨_, rfl⟩
          have wv975 := HI.l0 hI0 (j := (6 * a1.toInt + 46)) (a1.toInt) (by omega) (by omega)
          rw [hv975] at wv975
          refine q_iald (Sh.arr hI953.1 ka_233) (6 * a1.toInt + 46) (by omega) (by omega) v975 ((eA_c (hF954.2.1 233 (by decide))).trans hv975) ?_
          refine q_ireti ?_
          refine At.enter rfl ?_
          refine r_iload_n e961 ?_
          refine q_iadd (v975.toInt + x950.toInt) rfl (by omega) (fun v976 hv976 => ?_)
          refine r_iconst 1 rfl ?_
          refine q_isub (v976.toInt - 1) rfl (by omega) (fun v977 hv977 => ?_)
          refine r_iload_n e961 ?_
          refine q_idivO (by omega) (fun v978 _ => ?_)
          refine q_iaddO (fun v979 _ => ?_)
          refine r_iconst 1 rfl ?_
          refine q_isubO (fun v980 _ => ?_)
          refine r_ireti ?_
          exact ⟨_, rfl, hI953, hF954, _, rfl, trivial⟩
        · have c969_ : x951.toInt < v674.toInt := en_i_ge_f c969
          refine At.enter rfl ?_
          refine r_aload_n e958 ?_
          refine r_aload_n e958 ?_
          refine q_getR (Sh.ref hI953.1 kx_231 rfl) ?_
          refine r_iload e962 ?_
          obtain ⟨v981, hv981⟩ : ∃ v, eA g952 249 x951.toInt = v := ⟨_, rfl⟩
          have rv981 := RgA.at hI953.2.2.1 (Sh.arr hI953.1 ka_249).2 (p := 249) rfl (j := x951.toInt) (by omega)
          rw [hv981] at rv981
          dsimp only at rv981
          have yv981 := q965 x951.toInt (by omega) (by omega)
          rw [hv981] at yv981
          refine q_iald (Sh.arr hI953.1 ka_249) x951.toInt rfl (by omega) v981 hv981 ?_
          refine r_iconst 1 rfl ?_
          refine q_inlV 52 rfl [.ref 231, .int v981, .int 1] [] (Nat.le_of_ble_eq_true rfl) rfl ?_
          refine Ev.mk rfl rfl ⟨Nat.le_of_ble_eq_true rfl, Or.inr (q_rc hI953.1 kx_231 rfl)⟩ ?_
          show At _ none _ _ (0, [(0, .ref 231), (1, .int v981), (2, .int 1)], [], (_, _)) _
          refine At.enter rfl ?_
          refine r_aload_n rfl ?_
          refine q_getR (Sh.ref hI953.1 kx_231 rfl) ?_
          refine r_bipush 10 rfl ?_
          refine r_iconst 3 rfl ?_
          refine r_iload_n rfl ?_
          refine q_imul (3 * v981.toInt) rfl (by omega) (fun v982 hv982 => ?_)
          refine q_iadd (10 + v982.toInt) rfl (by omega) (fun v983 hv983 => ?_)
          refine r_iload_n rfl ?_
          refine q_iadd (v983.toInt + 1) rfl (by omega) (fun v984 hv984 => ?_)
          obtain ⟨v985, hv985⟩ : ∃ v, eA g0 233 (3 * v981.toInt + 11) = v := ⟨_, rfl⟩
          have wv985 := HI.s1 hI0 (j := (3 * v981.toInt + 11)) (v981.toInt) (by omega) (by omega)
          rw [hv985] at wv985
          refine q_iald (Sh.arr hI953.1 ka_233) (3 * v981.toInt + 11) (by omega) (by omega) v985 ((eA_c (hF954.2.1 233 (by decide))).trans hv985) ?_
          refine q_ireti ?_
          refine At.enter rfl ?_
          refine r_iload_n e961 ?_
          have bv987 := q_bnd v985
          have bv988 := q_bnd x950
          refine r_ics 56 rfl (fun c986 => ?_) (fun c986 => ?_)
          · have c986_ : v985.toInt ≥ x950.toInt := en_i_ge_t c986
            refine At.enter rfl ?_
            refine r_iload_n e961 ?_
            refine Ar.fall 72 rfl ?_
            refine At.enter rfl ?_
            refine r_istore_n _ rfl ?_
            refine q_iinc (w_p1 (by decide) (Or.inr rfl) e962) (x951.toInt + 1) rfl (by omega) (fun v989 hv989 => ?_)
            refine r_goto ?_
            exact ih957 (12 - v989.toInt) _ _ ⟨x950, v989, by first | rfl | omega, hI953, hF954, (w_p1 (by decide) (Or.inr rfl) (w_p1 (by decide) (Or.inr rfl) e958)), (w_p1 (by decide) (Or.inr rfl) (w_p1 (by decide) (Or.inr rfl) e959)), (w_p1 (by decide) (Or.inr rfl) (w_p1 (by decide) (Or.inr rfl) e960)), (w_p1 (by decide) (Or.inr rfl) (w_e1 _ _ _)), (w_e1 _ _ _), by omega, by omega, (fun j a b => by rw [eA_c (rfl)]; exact q965 j a b)⟩ ⟨by omega, by omega⟩
          · have c986_ : v985.toInt < x950.toInt := en_i_ge_f c986
            refine At.enter rfl ?_
            refine r_aload_n e958 ?_
            refine r_aload_n e958 ?_
            refine q_getR (Sh.ref hI953.1 kx_231 rfl) ?_
            refine r_iload e962 ?_
            refine q_iald (Sh.arr hI953.1 ka_249) x951.toInt rfl (by omega) v981 hv981 ?_
            refine r_iconst 1 rfl ?_
            refine q_inlV 68 rfl [.ref 231, .int v981, .int 1] [] (Nat.le_of_ble_eq_true rfl) rfl ?_
            refine Ev.mk rfl rfl ⟨Nat.le_of_ble_eq_true rfl, Or.inr (q_rc hI953.1 kx_231 rfl)⟩ ?_
            show At _ none _ _ (0, [(0, .ref 231), (1, .int v981), (2, .int 1)], [], (_, _)) _
            refine At.enter rfl ?_
            refine r_aload_n rfl ?_
            refine q_getR (Sh.ref hI953.1 kx_231 rfl) ?_
            refine r_bipush 10 rfl ?_
            refine r_iconst 3 rfl ?_
            refine r_iload_n rfl ?_
            refine q_imul (3 * v981.toInt) rfl (by omega) (fun v990 hv990 => ?_)
            refine q_iadd (10 + v990.toInt) rfl (by omega) (fun v991 hv991 => ?_)
            refine r_iload_n rfl ?_
            refine q_iadd (v991.toInt + 1) rfl (by omega) (fun v992 hv992 => ?_)
            refine q_iald (Sh.arr hI953.1 ka_233) (3 * v981.toInt + 11) (by omega) (by omega) v985 ((eA_c (hF954.2.1 233 (by decide))).trans hv985) ?_
            refine q_ireti ?_
            refine At.enter rfl ?_
            refine r_goto ?_
            refine At.enter rfl ?_
            refine r_istore_n _ rfl ?_
            refine q_iinc (w_p1 (by decide) (Or.inr rfl) e962) (x951.toInt + 1) rfl (by omega) (fun v993 hv993 => ?_)
            refine r_goto ?_
            exact ih957 (12 - v993.toInt) _ _ ⟨v985, v993, by first | rfl | omega, hI953, hF954, (w_p1 (by decide) (Or.inr rfl) (w_p1 (by decide) (Or.inr rfl) e958)), (w_p1 (by decide) (Or.inr rfl) (w_p1 (by decide) (Or.inr rfl) e959)), (w_p1 (by decide) (Or.inr rfl) (w_p1 (by decide) (Or.inr rfl) e960)), (w_p1 (by decide) (Or.inr rfl) (w_e1 _ _ _)), (w_e1 _ _ _), by omega, by omega, (fun j a b => by rw [eA_c (rfl)]; exact q965 j a b)⟩ ⟨by omega, by omega⟩
      · have c678_ : v674.toInt < 1 := en_i_ge_f c678
        refine At.enter rfl ?_
        refine r_iload_n rfl ?_
        refine r_ireti ?_
        exact ⟨_, rfl, hI672, hF676, _, rfl, trivial⟩

def F_X11_after_231 : List (Nat × Nat) := []
def A_X11_after_231 : List Nat := []
set_option maxRecDepth 100000 in
set_option maxHeartbeats 4000000 in
theorem T_X11_after_231 (d : Nat) {N : Nat} {g0 : List en_E} (hI0 : HI g0) (a1 : Int32) (h_a1 : (-1) ≤ a1.toInt ∧ a1.toInt ≤ 11) (a2 : Int32) : Ev (d + 4) 256 [.ref 231, .int a1, .int a2] (g0, N) (fun w h' => ∃ g', h' = (g', N) ∧ HI g' ∧ Fr F_X11_after_231 A_X11_after_231 g0 g' ∧ ∃ r : Int32, w = some (.int r) ∧ ((-1) ≤ r.toInt ∧ r.toInt ≤ 11)) := by
  have hF0 : Fr F_X11_after_231 A_X11_after_231 g0 g0 := Fr.rf
  refine Ev.mk rfl rfl ⟨Nat.le_of_ble_eq_true rfl, Or.inr (q_rc hI0.1 kx_231 rfl)⟩ ?_
  show At _ none _ _ (0, [(0, .ref 231), (1, .int a1), (2, .int a2)], [], (_, _)) _
  refine At.enter rfl ?_
  refine r_iload_n rfl ?_
  refine r_istore_n ([(3, .int a1), (0, .ref 231), (1, .int a1), (2, .int a2)]) rfl ?_
  refine r_iconst 0 rfl ?_
  refine r_istore ([(4, .int 0), (3, .int a1), (0, .ref 231), (1, .int a1), (2, .int a2)]) rfl ?_
  refine Ar.fall 5 rfl ?_
  have z_1019 : (0 : Int32).toInt = 0 := rfl
  refine w_loopI (fun n_ l_ g_ => ∃ x1004 : Int32, ∃ x1005 : Int32, n_ = 2147483647 - x1005.toInt ∧ HI g_ ∧ Fr F_X11_after_231 A_X11_after_231 g0 g_ ∧ en_get 0 l_ = some (.ref 231) ∧ en_get 1 l_ = some (.int a1) ∧ en_get 2 l_ = some (.int a2) ∧ en_get 3 l_ = some (.int x1004) ∧ en_get 4 l_ = some (.int x1005) ∧ ((-1) ≤ x1004.toInt ∧ x1004.toInt ≤ 11) ∧ 0 ≤ x1005.toInt) ?_ (2147483647 - 0) ⟨a1, 0, by first | rfl | omega, hI0, hF0, rfl, rfl, rfl, rfl, rfl, by omega, by decide⟩
  rintro n1010 l1009 g1006 ⟨x1004, x1005, hm1020, hI1007, hF1008, e1012, e1013, e1014, e1015, e1016, r1017, r1018⟩ ih1011
  refine At.enter rfl ?_
  refine r_iload e1016 ?_
  refine r_iload_n e1014 ?_
  have bv1022 := q_bnd x1005
  have bv1023 := q_bnd a2
  refine r_ics 11 rfl (fun c1021 => ?_) (fun c1021 => ?_)
  · have c1021_ : x1005.toInt ≥ a2.toInt := en_i_ge_t c1021
    refine At.enter rfl ?_
    refine r_iload_n e1015 ?_
    refine r_ireti ?_
    exact ⟨_, rfl, hI1007, hF1008, _, rfl, by omega⟩
  · have c1021_ : x1005.toInt < a2.toInt := en_i_ge_f c1021
    refine At.enter rfl ?_
    refine r_iload_n e1015 ?_
    refine r_iconst (-1) rfl ?_
    refine r_ics 16 rfl (fun c1024 => ?_) (fun c1024 => ?_)
    · have c1024_ : x1004.toInt = (-1) := en_i_eq_t c1024
      refine At.enter rfl ?_
      refine r_iload_n e1015 ?_
      refine r_ireti ?_
      exact ⟨_, rfl, hI1007, hF1008, _, rfl, by omega⟩
    · have c1024_ : x1004.toInt ≠ (-1) := en_i_eq_f c1024
      refine At.enter rfl ?_
      refine r_aload_n e1012 ?_
      refine r_iload_n e1015 ?_
      refine r_iconst 0 rfl ?_
      refine r_callV 22 rfl [.ref 231, .int x1004, .int 0] [] (Nat.le_of_ble_eq_true rfl) rfl (T_X11_nextOf_231 _ hI1007 x1004 (by omega) 0) ?_
      rintro _ _ ⟨g1025, rfl, hI1026, hF1027, v1028, rfl, hr1029⟩
      refine At.sti ?_
      have hF1030 := Fr.tr hF1008 hF1027 rfl rfl
      have zv1031 : (0 : Int32).toInt = 0 := rfl
      rw [eA_c ((hF1008.2.1 233 (by decide)))] at hr1029
      refine At.enter rfl ?_
      refine r_istore_n _ rfl ?_
      refine q_iinc (w_p1 (by decide) (Or.inr rfl) e1016) (x1005.toInt + 1) rfl (by omega) (fun v1032 hv1032 => ?_)
      refine r_goto ?_
      have bv1033 := q_bnd v1032
      exact ih1011 (2147483647 - v1032.toInt) _ _ ⟨v1028, v1032, by first | rfl | omega, hI1026, hF1030, (w_p1 (by decide) (Or.inr rfl) (w_p1 (by decide) (Or.inr rfl) e1012)), (w_p1 (by decide) (Or.inr rfl) (w_p1 (by decide) (Or.inr rfl) e1013)), (w_p1 (by decide) (Or.inr rfl) (w_p1 (by decide) (Or.inr rfl) e1014)), (w_p1 (by decide) (Or.inr rfl) (w_e1 _ _ _)), (w_e1 _ _ _), by omega, by omega⟩ ⟨by omega, by omega⟩

def F_X11_thieves_231 : List (Nat × Nat) := [(231, 0)]
def A_X11_thieves_231 : List Nat := []
theorem ma_X11_after_231_233 : memA A_X11_after_231 233 = false := by decide
set_option maxRecDepth 100000 in
set_option maxHeartbeats 4000000 in
theorem T_X11_thieves_231 (d : Nat) {N : Nat} {g0 : List en_E} (hI0 : HI g0) : Ev (d + 5) 257 [.ref 231] (g0, N) (fun w h' => ∃ g', h' = (g', N) ∧ HI g' ∧ Fr F_X11_thieves_231 A_X11_thieves_231 g0 g' ∧ ∃ r : Int32, w = some (.int r) ∧ True) := by
  have hF0 : Fr F_X11_thieves_231 A_X11_thieves_231 g0 g0 := Fr.rf
  refine Ev.mk rfl rfl ⟨Nat.le_of_ble_eq_true rfl, Or.inr (q_rc hI0.1 kx_231 rfl)⟩ ?_
  show At _ none _ _ (0, [(0, .ref 231)], [], (_, _)) _
  refine At.enter rfl ?_
  refine r_aload_n rfl ?_
  refine r_iconst 0 rfl ?_
  refine q_putI (Sh.int hI0.1 kx_231 rfl) rfl ?_
  have hI5369 := HI.wI0 hI0 kx_231 rfl (p := 231) (b := 0) (v := 0) rfl
  have hF5370 := Fr.wI (p := 231) (b := 0) (v := 0) hF0 rfl
  refine r_iconst 0 rfl ?_
  refine r_istore_n ([(1, .int 0), (0, .ref 231)]) rfl ?_
  refine r_iconst 0 rfl ?_
  refine r_istore_n ([(2, .int 0), (1, .int 0), (0, .ref 231)]) rfl ?_
  refine Ar.fall 9 rfl ?_
  have z_7786 : (0 : Int32).toInt = 0 := rfl
  have z_7787 : (0 : Int32).toInt = 0 := rfl
  refine w_loopI (fun n_ l_ g_ => ∃ x7774 : Int32, ∃ x7775 : Int32, n_ = 12 - x7775.toInt ∧ HI g_ ∧ Fr F_X11_thieves_231 A_X11_thieves_231 g0 g_ ∧ en_get 0 l_ = some (.ref 231) ∧ en_get 1 l_ = some (.int x7774) ∧ en_get 2 l_ = some (.int x7775) ∧ (0 ≤ x7775.toInt ∧ x7775.toInt ≤ 12)) ?_ (12 - 0) ⟨0, 0, by first | rfl | omega, hI5369, hF5370, rfl, rfl, rfl, by decide⟩
  rintro n7780 l7779 g7776 ⟨x7774, x7775, hm7788, hI7777, hF7778, e7782, e7783, e7784, r7785⟩ ih7781
  refine At.enter rfl ?_
  refine r_iload_n e7784 ?_
  refine r_aload_n e7782 ?_
  refine q_getR (Sh.ref hI7777.1 kx_231 rfl) ?_
  refine r_iconst 0 rfl ?_
  obtain ⟨v7789, hv7789⟩ : ∃ v, eA g0 233 0 = v := ⟨_, rfl⟩
  have tv7789 := congrArg Int32.toInt hv7789
  have wv7789 := HI.t0 hI0
  rw [hv7789] at wv7789
  refine q_iald (Sh.arr hI7777.1 ka_233) 0 rfl (by decide) v7789 ((eA_c (hF7778.2.1 233 (by decide))).trans hv7789) ?_
  have bv7791 := q_bnd x7775
  have bv7792 := q_bnd v7789
  refine r_ics 19 rfl (fun c7790 => ?_) (fun c7790 => ?_)
  · have c7790_ : x7775.toInt ≥ v7789.toInt := en_i_ge_t c7790
    refine At.enter rfl ?_
    refine r_iload_n e7783 ?_
    refine r_ireti ?_
    exact ⟨_, rfl, hI7777, hF7778, _, rfl, trivial⟩
  · have c7790_ : x7775.toInt < v7789.toInt := en_i_ge_f c7790
    refine At.enter rfl ?_
    refine r_iconst 1 rfl ?_
    refine r_istore_n _ rfl ?_
    refine r_iconst 0 rfl ?_
    refine r_istore _ rfl ?_
    refine Ar.fall 24 rfl ?_
    have z_8022 : (1 : Int32).toInt = 1 := rfl
    have z_8023 : (0 : Int32).toInt = 0 := rfl
    refine w_loopI (fun n_ l_ g_ => ∃ x8007 : Int32, ∃ x8008 : Int32, n_ = 8 - x8008.toInt ∧ HI g_ ∧ Fr F_X11_thieves_231 A_X11_thieves_231 g0 g_ ∧ en_get 0 l_ = some (.ref 231) ∧ en_get 1 l_ = some (.int x7774) ∧ en_get 2 l_ = some (.int x7775) ∧ en_get 3 l_ = some (.int x8007) ∧ en_get 4 l_ = some (.int x8008) ∧ (0 ≤ x8007.toInt ∧ x8007.toInt ≤ 1) ∧ (0 ≤ x8008.toInt ∧ x8008.toInt ≤ 8)) ?_ (8 - 0) ⟨1, 0, by first | rfl | omega, hI7777, hF7778, (w_p1 (by decide) (Or.inr rfl) (w_p1 (by decide) (Or.inr rfl) e7782)), (w_p1 (by decide) (Or.inr rfl) (w_p1 (by decide) (Or.inr rfl) e7783)), (w_p1 (by decide) (Or.inr rfl) (w_p1 (by decide) (Or.inr rfl) e7784)), (w_p1 (by decide) (Or.inr rfl) (w_e1 _ _ _)), (w_e1 _ _ _), by decide, by decide⟩
    rintro n8013 l8012 g8009 ⟨x8007, x8008, hm8024, hI8010, hF8011, e8015, e8016, e8017, e8018, e8019, r8020, r8021⟩ ih8014
    refine At.enter rfl ?_
    refine r_iload e8019 ?_
    refine r_aload_n e8015 ?_
    refine q_getR (Sh.ref hI8010.1 kx_231 rfl) ?_
    refine r_iconst 4 rfl ?_
    obtain ⟨v8025, hv8025⟩ : ∃ v, eA g0 233 4 = v := ⟨_, rfl⟩
    have wv8025 := HI.t4 hI0
    rw [hv8025] at wv8025
    refine q_iald (Sh.arr hI8010.1 ka_233) 4 rfl (by decide) v8025 ((eA_c (hF8011.2.1 233 (by decide))).trans hv8025) ?_
    have bv8027 := q_bnd x8008
    have bv8028 := q_bnd v8025
    refine r_ics 35 rfl (fun c8026 => ?_) (fun c8026 => ?_)
    · have c8026_ : x8008.toInt ≥ v8025.toInt := en_i_ge_t c8026
      refine At.enter rfl ?_
      refine r_iload_n e8016 ?_
      refine r_iload_n e8018 ?_
      refine r_ifs 90 rfl (fun c8029 => ?_) (fun c8029 => ?_)
      · have c8029_ : x8007.toInt = 0 := en_k_eq_t c8029
        refine At.enter rfl ?_
        refine r_iconst 0 rfl ?_
        refine Ar.fall 97 rfl ?_
        refine At.enter rfl ?_
        refine q_iorO (fun v8030 hv8030 => ?_)
        refine r_istore_n _ rfl ?_
        refine q_iinc (w_p1 (by decide) (Or.inr rfl) e8017) (x7775.toInt + 1) rfl (by omega) (fun v8031 hv8031 => ?_)
        refine r_goto ?_
        have bv8032 := q_bnd v8030
        exact ih7781 (12 - v8031.toInt) _ _ ⟨v8030, v8031, by first | rfl | omega, hI8010, hF8011, (w_p1 (by decide) (Or.inr rfl) (w_p1 (by decide) (Or.inr rfl) e8015)), (w_p1 (by decide) (Or.inr rfl) (w_e1 _ _ _)), (w_e1 _ _ _), by omega⟩ ⟨by omega, by omega⟩
      · have c8029_ : x8007.toInt ≠ 0 := en_k_eq_f c8029
        refine At.enter rfl ?_
        refine r_iconst 1 rfl ?_
        refine r_iload_n e8017 ?_
        refine q_ishlO (fun v8033 hv8033 => ?_)
        refine r_goto ?_
        refine At.enter rfl ?_
        refine q_iorO (fun v8034 hv8034 => ?_)
        refine r_istore_n _ rfl ?_
        refine q_iinc (w_p1 (by decide) (Or.inr rfl) e8017) (x7775.toInt + 1) rfl (by omega) (fun v8035 hv8035 => ?_)
        refine r_goto ?_
        have bv8036 := q_bnd v8034
        exact ih7781 (12 - v8035.toInt) _ _ ⟨v8034, v8035, by first | rfl | omega, hI8010, hF8011, (w_p1 (by decide) (Or.inr rfl) (w_p1 (by decide) (Or.inr rfl) e8015)), (w_p1 (by decide) (Or.inr rfl) (w_e1 _ _ _)), (w_e1 _ _ _), by omega⟩ ⟨by omega, by omega⟩
    · have c8026_ : x8008.toInt < v8025.toInt := en_i_ge_f c8026
      refine At.enter rfl ?_
      refine r_iload_n e8018 ?_
      refine r_ifs 39 rfl (fun c8037 => ?_) (fun c8037 => ?_)
      · have c8037_ : x8007.toInt = 0 := en_k_eq_t c8037
        refine At.enter rfl ?_
        refine r_iconst 0 rfl ?_
        refine Ar.fall 78 rfl ?_
        refine At.enter rfl ?_
        refine r_istore_n _ rfl ?_
        refine q_iinc (w_p1 (by decide) (Or.inr rfl) e8019) (x8008.toInt + 1) rfl (by omega) (fun v8038 hv8038 => ?_)
        refine r_goto ?_
        exact ih8014 (8 - v8038.toInt) _ _ ⟨0, v8038, by first | rfl | omega, hI8010, hF8011, (w_p1 (by decide) (Or.inr rfl) (w_p1 (by decide) (Or.inr rfl) e8015)), (w_p1 (by decide) (Or.inr rfl) (w_p1 (by decide) (Or.inr rfl) e8016)), (w_p1 (by decide) (Or.inr rfl) (w_p1 (by decide) (Or.inr rfl) e8017)), (w_p1 (by decide) (Or.inr rfl) (w_e1 _ _ _)), (w_e1 _ _ _), by decide, by omega⟩ ⟨by omega, by omega⟩
      · have c8037_ : x8007.toInt ≠ 0 := en_k_eq_f c8037
        refine At.enter rfl ?_
        refine r_aload_n e8015 ?_
        refine r_iload_n e8017 ?_
        refine r_aload_n e8015 ?_
        refine q_getR (Sh.ref hI8010.1 kx_231 rfl) ?_
        refine r_bipush 94 rfl ?_
        refine r_iconst 2 rfl ?_
        refine r_iload e8019 ?_
        refine q_imul (2 * x8008.toInt) rfl (by omega) (fun v8039 hv8039 => ?_)
        refine q_iadd (94 + v8039.toInt) rfl (by omega) (fun v8040 hv8040 => ?_)
        refine r_iconst 1 rfl ?_
        refine q_iadd (v8040.toInt + 1) rfl (by omega) (fun v8041 hv8041 => ?_)
        obtain ⟨v8042, hv8042⟩ : ∃ v, eA g0 233 (2 * x8008.toInt + 95) = v := ⟨_, rfl⟩
        have wv8042 := HI.g1 hI0 (j := (2 * x8008.toInt + 95)) (x8008.toInt) (by omega) (by omega)
        rw [hv8042] at wv8042
        refine q_iald (Sh.arr hI8010.1 ka_233) (2 * x8008.toInt + 95) (by omega) (by omega) v8042 ((eA_c (hF8011.2.1 233 (by decide))).trans hv8042) ?_
        refine r_callV 58 rfl [.ref 231, .int x7775, .int v8042] [] (Nat.le_of_ble_eq_true rfl) rfl (T_X11_after_231 _ hI8010 x7775 (by omega) v8042) ?_
        rintro _ _ ⟨g8043, rfl, hI8044, hF8045, v8046, rfl, hr8047⟩
        refine At.sti ?_
        have hF8048 := Fr.tr hF8011 hF8045 rfl rfl
        refine At.enter rfl ?_
        refine r_aload_n e8015 ?_
        refine q_getR (Sh.ref hI8044.1 kx_231 rfl) ?_
        refine r_bipush 94 rfl ?_
        refine r_iconst 2 rfl ?_
        refine r_iload e8019 ?_
        refine q_imul (2 * x8008.toInt) rfl (by omega) (fun v8049 hv8049 => ?_)
        refine q_iadd (94 + v8049.toInt) rfl (by omega) (fun v8050 hv8050 => ?_)
        obtain ⟨v8051, hv8051⟩ : ∃ v, eA g0 233 (2 * x8008.toInt + 94) = v := ⟨_, rfl⟩
        have wv8051 := HI.g0 hI0 (j := (2 * x8008.toInt + 94)) (x8008.toInt) (by omega) (by omega)
        rw [hv8051] at wv8051
        refine q_iald (Sh.arr hI8044.1 ka_233) (2 * x8008.toInt + 94) (by omega) (by omega) v8051 ((eA_c ((hF8045.2.1 233 ma_X11_after_231_233).trans (hF8011.2.1 233 (by decide)))).trans hv8051) ?_
        refine r_ics 73 rfl (fun c8052 => ?_) (fun c8052 => ?_)
        · have c8052_ : v8046.toInt ≠ v8051.toInt := en_i_ne_t c8052
          refine At.enter rfl ?_
          refine r_iconst 0 rfl ?_
          refine Ar.fall 78 rfl ?_
          refine At.enter rfl ?_
          refine r_istore_n _ rfl ?_
          refine q_iinc (w_p1 (by decide) (Or.inr rfl) e8019) (x8008.toInt + 1) rfl (by omega) (fun v8053 hv8053 => ?_)
          refine r_goto ?_
          exact ih8014 (8 - v8053.toInt) _ _ ⟨0, v8053, by first | rfl | omega, hI8044, hF8048, (w_p1 (by decide) (Or.inr rfl) (w_p1 (by decide) (Or.inr rfl) e8015)), (w_p1 (by decide) (Or.inr rfl) (w_p1 (by decide) (Or.inr rfl) e8016)), (w_p1 (by decide) (Or.inr rfl) (w_p1 (by decide) (Or.inr rfl) e8017)), (w_p1 (by decide) (Or.inr rfl) (w_e1 _ _ _)), (w_e1 _ _ _), by decide, by omega⟩ ⟨by omega, by omega⟩
        · have c8052_ : v8046.toInt = v8051.toInt := en_i_ne_f c8052
          refine At.enter rfl ?_
          refine r_iconst 1 rfl ?_
          refine r_goto ?_
          refine At.enter rfl ?_
          refine r_istore_n _ rfl ?_
          refine q_iinc (w_p1 (by decide) (Or.inr rfl) e8019) (x8008.toInt + 1) rfl (by omega) (fun v8054 hv8054 => ?_)
          refine r_goto ?_
          exact ih8014 (8 - v8054.toInt) _ _ ⟨1, v8054, by first | rfl | omega, hI8044, hF8048, (w_p1 (by decide) (Or.inr rfl) (w_p1 (by decide) (Or.inr rfl) e8015)), (w_p1 (by decide) (Or.inr rfl) (w_p1 (by decide) (Or.inr rfl) e8016)), (w_p1 (by decide) (Or.inr rfl) (w_p1 (by decide) (Or.inr rfl) e8017)), (w_p1 (by decide) (Or.inr rfl) (w_e1 _ _ _)), (w_e1 _ _ _), by decide, by omega⟩ ⟨by omega, by omega⟩
