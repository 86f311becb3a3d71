def F_X11_pieces_231 : List (Nat × Nat) := [(231, 0)]
def A_X11_pieces_231 : List Nat := [249]
set_option maxRecDepth 100000 in
set_option maxHeartbeats 4000000 in
theorem T_X11_pieces_231 (d : Nat) {N : Nat} {g0 : List en_E} (hI0 : HI g0) (a1 : Int32) : Ev (d + 5) 253 [.ref 231, .int a1] (g0, N) (fun w h' => ∃ g', h' = (g', N) ∧ HI g' ∧ Fr F_X11_pieces_231 A_X11_pieces_231 g0 g' ∧ ∃ r : Int32, w = some (.int r) ∧ True) := by
  have hF0 : Fr F_X11_pieces_231 A_X11_pieces_231 g0 g0 := Fr.rf
  refine Ev.mk rfl rfl ⟨Nat.le_of_ble_eq_true rfl, Or.inr (q_rc hI0.1 kx_231 rfl)⟩ ?_
  show At _ none _ _ (0, [(0, .ref 231), (1, .int a1)], [], (_, _)) _
  refine At.enter rfl ?_
  refine r_aload_n rfl ?_
  refine r_iconst 0 rfl ?_
  refine q_putI (Sh.int hI0.1 kx_231 rfl) rfl ?_
  have hI663 := HI.wI0 hI0 kx_231 rfl (p := 231) (b := 0) (v := 0) rfl
  have hF664 := Fr.wI (p := 231) (b := 0) (v := 0) hF0 rfl
  refine r_aload_n rfl ?_
  refine r_iload_n rfl ?_
  refine q_inlV 10 rfl [.ref 231, .int a1] [] (Nat.le_of_ble_eq_true rfl) rfl ?_
  refine Ev.mk rfl rfl ⟨Nat.le_of_ble_eq_true rfl, Or.inr (q_rc hI663.1 kx_231 rfl)⟩ ?_
  show At _ none _ _ (0, [(0, .ref 231), (1, .int a1)], [], (_, _)) _
  refine At.enter rfl ?_
  refine r_iload_n rfl ?_
  refine q_i2l (fun v665 hv665 => ?_)
  refine r_lconst 0 rfl ?_
  refine r_aload_n rfl ?_
  refine q_getR (Sh.ref hI663.1 kx_231 rfl) ?_
  refine r_iconst 1 rfl ?_
  obtain ⟨v666, hv666⟩ : ∃ v, eA g0 233 1 = v := ⟨_, rfl⟩
  have tv666 := congrArg Int32.toInt hv666
  have wv666 := HI.t1 hI0
  rw [hv666] at wv666
  refine q_iald (Sh.arr hI663.1 ka_233) 1 rfl (by decide) v666 ((eA_c (gA_sI)).trans hv666) ?_
  refine q_i2l (fun v667 hv667 => ?_)
  refine r_lconst 1 rfl ?_
  refine q_lsub (v667.toInt - 1) rfl (by omega) (fun v668 hv668 => ?_)
  refine q_inlS 15 rfl [.long v665, .long 0, .long v668] [] (Nat.le_of_ble_eq_true rfl) rfl ?_
  refine Ev.mk rfl rfl ⟨Nat.le_of_ble_eq_true rfl, Or.inl rfl⟩ ?_
  show At _ none _ _ (0, [(0, .long v665), (2, .long 0), (4, .long v668)], [], (_, _)) _
  refine At.enter rfl ?_
  refine r_lload_n rfl ?_
  refine r_lload_n rfl ?_
  refine r_lcmp _ rfl ?_
  refine r_ifs 6 rfl (fun c669 => ?_) (fun c669 => ?_)
  · have c669_ : v665.toInt < 0 := en_j_lt_t c669
    refine At.enter rfl ?_
    refine r_iconst 0 rfl ?_
    refine Ar.fall 18 rfl ?_
    refine At.enter rfl ?_
    refine q_iretz (by decide) ?_
    refine At.enter rfl ?_
    refine q_iretz (by decide) ?_
    refine At.enter rfl ?_
    refine r_iff 13 rfl (by decide) ?_
    refine At.enter rfl ?_
    refine r_iconst (-1) rfl ?_
    refine r_ireti ?_
    exact ⟨_, rfl, hI663, hF664, _, rfl, trivial⟩
  · have c669_ : v665.toInt ≥ 0 := en_j_lt_f c669
    refine At.enter rfl ?_
    refine r_lload_n rfl ?_
    refine r_lload rfl ?_
    refine r_lcmp _ rfl ?_
    refine r_ifs 13 rfl (fun c670 => ?_) (fun c670 => ?_)
    · have c670_ : v665.toInt > v668.toInt := en_j_gt_t c670
      refine At.enter rfl ?_
      refine r_iconst 0 rfl ?_
      refine Ar.fall 18 rfl ?_
      refine At.enter rfl ?_
      refine q_iretz (by decide) ?_
      refine At.enter rfl ?_
      refine q_iretz (by decide) ?_
      refine At.enter rfl ?_
      refine r_iff 13 rfl (by decide) ?_
      refine At.enter rfl ?_
      refine r_iconst (-1) rfl ?_
      refine r_ireti ?_
      exact ⟨_, rfl, hI663, hF664, _, rfl, trivial⟩
    · have c670_ : v665.toInt ≤ v668.toInt := en_j_gt_f c670
      refine At.enter rfl ?_
      refine r_iconst 1 rfl ?_
      refine r_goto ?_
      refine At.enter rfl ?_
      refine q_iretz (by decide) ?_
      refine At.enter rfl ?_
      refine q_iretz (by decide) ?_
      refine At.enter rfl ?_
      refine r_ift (by decide) ?_
      refine At.enter rfl ?_
      refine r_aload_n rfl ?_
      refine r_iload_n rfl ?_
      refine r_callV 20 rfl [.ref 231, .int a1] [] (Nat.le_of_ble_eq_true rfl) rfl (T_X11_findWay_231 _ hI663 a1 (by omega) (by rw [eA_c ((gA_sI)), hv666]; omega)) ?_
      rintro _ _ ⟨g671, rfl, hI672, hF673, v674, rfl, hr675⟩
      refine At.sti ?_
      have hF676 := Fr.tr hF664 hF673 rfl rfl
      have fw677 : ∀ j : Int, 0 ≤ j → j ≤ v674.toInt → (eA g671 249 j).toInt < (eA g0 233 0).toInt := fun j a b => by have z := hr675.2 j a b; rw [eA_c ((gA_sI))] at z; exact z
      refine At.enter rfl ?_
      refine r_istore_n ([(2, .int v674), (0, .ref 231), (1, .int a1)]) rfl ?_
      refine r_iload_n rfl ?_
      refine r_iconst 1 rfl ?_
      refine r_ics 26 rfl (fun c678 => ?_) (fun c678 => ?_)
      · have c678_ : v674.toInt ≥ 1 := en_i_ge_t c678
        refine At.enter rfl ?_
        refine r_bipush 9 rfl ?_
        refine r_istore_n ([(3, .int 9), (2, .int v674), (0, .ref 231), (1, .int a1)]) rfl ?_
        refine r_iconst 0 rfl ?_
        refine r_istore ([(4, .int 0), (3, .int 9), (2, .int v674), (0, .ref 231), (1, .int a1)]) rfl ?_
        refine Ar.fall 34 rfl ?_
        have z_966 : (9 : Int32).toInt = 9 := rfl
        have z_967 : (0 : Int32).toInt = 0 := rfl
        refine w_loopI (fun n_ l_ g_ => ∃ x950 : Int32, ∃ x951 : Int32, n_ = 12 - x951.toInt ∧ HI g_ ∧ Fr F_X11_pieces_231 A_X11_pieces_231 g0 g_ ∧ en_get 0 l_ = some (.ref 231) ∧ en_get 1 l_ = some (.int a1) ∧ en_get 2 l_ = some (.int v674) ∧ en_get 3 l_ = some (.int x950) ∧ en_get 4 l_ = some (.int x951) ∧ (1 ≤ x950.toInt ∧ x950.toInt ≤ 9) ∧ (0 ≤ x951.toInt ∧ x951.toInt ≤ 12) ∧ (∀ j : Int, 0 ≤ j → j ≤ v674.toInt → (eA g_ 249 j).toInt < (eA g0 233 0).toInt)) ?_ (12 - 0) ⟨9, 0, by first | rfl | omega, hI672, hF676, rfl, rfl, rfl, rfl, rfl, by decide, by decide, (fun j a b => by rw [eA_c (rfl)]; exact fw677 j a b)⟩
        rintro n956 l955 g952 ⟨x950, x951, hm968, hI953, hF954, e958, e959, e960, e961, e962, r963, r964, q965⟩ ih957
        refine At.enter rfl ?_
        refine r_iload e962 ?_
        refine r_iload_n e960 ?_
        have bv970 := q_bnd x951
        have bv971 := q_bnd v674
        refine r_ics 40 rfl (fun c969 => ?_) (fun c969 => ?_)
        · have c969_ : x951.toInt ≥ v674.toInt := en_i_ge_t c969
          refine At.enter rfl ?_
          refine r_iload_n e960 ?_
          refine r_aload_n e958 ?_
          refine r_iload_n e959 ?_
          refine r_iconst 0 rfl ?_
          refine q_inlV 86 rfl [.ref 231, .int a1, .int 0] [.int v674] (Nat.le_of_ble_eq_true rfl) rfl ?_
          refine Ev.mk rfl rfl ⟨Nat.le_of_ble_eq_true rfl, Or.inr (q_rc hI953.1 kx_231 rfl)⟩ ?_
          show At _ none _ _ (0, [(0, .ref 231), (1, .int a1), (2, .int 0)], [], (_, _)) _
          refine At.enter rfl ?_
          refine r_aload_n rfl ?_
          refine q_getR (Sh.ref hI953.1 kx_231 rfl) ?_
          refine r_bipush 46 rfl ?_
          refine r_bipush 6 rfl ?_
          refine r_iload_n rfl ?_
          refine q_imul (6 * a1.toInt) rfl (by omega) (fun v972 hv972 => ?_)
          refine q_iadd (46 + v972.toInt) rfl (by omega) (fun v973 hv973 => ?_)
          refine r_iload_n rfl ?_
          refine q_iadd (v973.toInt + 0) rfl (by omega) (fun v974 hv974 => ?_)
          obtain ⟨v975, hv975⟩ : ∃ v, eA g0 233 (6 * a1.toInt + 46) = v := ⟨_, rfl⟩
          have wv975 := HI.l0 hI0 (j := (6 * a1.toInt + 46)) (a1.toInt) (by omega) (by omega)
          rw [hv975] at wv975
          refine q_iald (Sh.arr hI953.1 ka_233) (6 * a1.toInt + 46) (by omega) (by omega) v975 ((eA_c (hF954.2.1 233 (by decide))).trans hv975) ?_
          refine q_ireti ?_
          refine At.enter rfl ?_
          refine r_iload_n e961 ?_
          refine q_iadd (v975.toInt + x950.toInt) rfl (by omega) (fun v976 hv976 => ?_)
          refine r_iconst 1 rfl ?_
          refine q_isub (v976.toInt - 1) rfl (by omega) (fun v977 hv977 => ?_)
          refine r_iload_n e961 ?_
          refine q_idivO (by omega) (fun v978 _ => ?_)
          refine q_iaddO (fun v979 _ => ?_)
          refine r_iconst 1 rfl ?_
          refine q_isubO (fun v980 _ => ?_)
          refine r_ireti ?_
          exact ⟨_, rfl, hI953, hF954, _, rfl, trivial⟩
        · have c969_ : x951.toInt < v674.toInt := en_i_ge_f c969
          refine At.enter rfl ?_
          refine r_aload_n e958 ?_
          refine r_aload_n e958 ?_
          refine q_getR (Sh.ref hI953.1 kx_231 rfl) ?_
          refine r_iload e962 ?_
          obtain ⟨v981, hv981⟩ : ∃ v, eA g952 249 x951.toInt = v := ⟨_, rfl⟩
          have rv981 := RgA.at hI953.2.2.1 (Sh.arr hI953.1 ka_249).2 (p := 249) rfl (j := x951.toInt) (by omega)
          rw [hv981] at rv981
          dsimp only at rv981
          have yv981 := q965 x951.toInt (by omega) (by omega)
          rw [hv981] at yv981
          refine q_iald (Sh.arr hI953.1 ka_249) x951.toInt rfl (by omega) v981 hv981 ?_
          refine r_iconst 1 rfl ?_
          refine q_inlV 52 rfl [.ref 231, .int v981, .int 1] [] (Nat.le_of_ble_eq_true rfl) rfl ?_
          refine Ev.mk rfl rfl ⟨Nat.le_of_ble_eq_true rfl, Or.inr (q_rc hI953.1 kx_231 rfl)⟩ ?_
          show At _ none _ _ (0, [(0, .ref 231), (1, .int v981), (2, .int 1)], [], (_, _)) _
          refine At.enter rfl ?_
          refine r_aload_n rfl ?_
          refine q_getR (Sh.ref hI953.1 kx_231 rfl) ?_
          refine r_bipush 10 rfl ?_
          refine r_iconst 3 rfl ?_
          refine r_iload_n rfl ?_
          refine q_imul (3 * v981.toInt) rfl (by omega) (fun v982 hv982 => ?_)
          refine q_iadd (10 + v982.toInt) rfl (by omega) (fun v983 hv983 => ?_)
          refine r_iload_n rfl ?_
          refine q_iadd (v983.toInt + 1) rfl (by omega) (fun v984 hv984 => ?_)
          obtain ⟨v985, hv985⟩ : ∃ v, eA g0 233 (3 * v981.toInt + 11) = v := ⟨_, rfl⟩
          have wv985 := HI.s1 hI0 (j := (3 * v981.toInt + 11)) (v981.toInt) (by omega) (by omega)
          rw [hv985] at wv985
          refine q_iald (Sh.arr hI953.1 ka_233) (3 * v981.toInt + 11) (by omega) (by omega) v985 ((eA_c (hF954.2.1 233 (by decide))).trans hv985) ?_
          refine q_ireti ?_
          refine At.enter rfl ?_
          refine r_iload_n e961 ?_
          have bv987 := q_bnd v985
          have bv988 := q_bnd x950
          refine r_ics 56 rfl (fun c986 => ?_) (fun c986 => ?_)
          · have c986_ : v985.toInt ≥ x950.toInt := en_i_ge_t c986
            refine At.enter rfl ?_
            refine r_iload_n e961 ?_
            refine Ar.fall 72 rfl ?_
            refine At.enter rfl ?_
            refine r_istore_n _ rfl ?_
            refine q_iinc (w_p1 (by decide) (Or.inr rfl) e962) (x951.toInt + 1) rfl (by omega) (fun v989 hv989 => ?_)
            refine r_goto ?_
            exact ih957 (12 - v989.toInt) _ _ ⟨x950, v989, by first | rfl | omega, hI953, hF954, (w_p1 (by decide) (Or.inr rfl) (w_p1 (by decide) (Or.inr rfl) e958)), (w_p1 (by decide) (Or.inr rfl) (w_p1 (by decide) (Or.inr rfl) e959)), (w_p1 (by decide) (Or.inr rfl) (w_p1 (by decide) (Or.inr rfl) e960)), (w_p1 (by decide) (Or.inr rfl) (w_e1 _ _ _)), (w_e1 _ _ _), by omega, by omega, (fun j a b => by rw [eA_c (rfl)]; exact q965 j a b)⟩ ⟨by omega, by omega⟩
          · have c986_ : v985.toInt < x950.toInt := en_i_ge_f c986
            refine At.enter rfl ?_
            refine r_aload_n e958 ?_
            refine r_aload_n e958 ?_
            refine q_getR (Sh.ref hI953.1 kx_231 rfl) ?_
            refine r_iload e962 ?_
            refine q_iald (Sh.arr hI953.1 ka_249) x951.toInt rfl (by omega) v981 hv981 ?_
            refine r_iconst 1 rfl ?_
            refine q_inlV 68 rfl [.ref 231, .int v981, .int 1] [] (Nat.le_of_ble_eq_true rfl) rfl ?_
            refine Ev.mk rfl rfl ⟨Nat.le_of_ble_eq_true rfl, Or.inr (q_rc hI953.1 kx_231 rfl)⟩ ?_
            show At _ none _ _ (0, [(0, .ref 231), (1, .int v981), (2, .int 1)], [], (_, _)) _
            refine At.enter rfl ?_
            refine r_aload_n rfl ?_
            refine q_getR (Sh.ref hI953.1 kx_231 rfl) ?_
            refine r_bipush 10 rfl ?_
            refine r_iconst 3 rfl ?_
            refine r_iload_n rfl ?_
            refine q_imul (3 * v981.toInt) rfl (by omega) (fun v990 hv990 => ?_)
            refine q_iadd (10 + v990.toInt) rfl (by omega) (fun v991 hv991 => ?_)
            refine r_iload_n rfl ?_
            refine q_iadd (v991.toInt + 1) rfl (by omega) (fun v992 hv992 => ?_)
            refine q_iald (Sh.arr hI953.1 ka_233) (3 * v981.toInt + 11) (by omega) (by omega) v985 ((eA_c (hF954.2.1 233 (by decide))).trans hv985) ?_
            refine q_ireti ?_
            refine At.enter rfl ?_
            refine r_goto ?_
            refine At.enter rfl ?_
            refine r_istore_n _ rfl ?_
            refine q_iinc (w_p1 (by decide) (Or.inr rfl) e962) (x951.toInt + 1) rfl (by omega) (fun v993 hv993 => ?_)
            refine r_goto ?_
            exact ih957 (12 - v993.toInt) _ _ ⟨v985, v993, by first | rfl | omega, hI953, hF954, (w_p1 (by decide) (Or.inr rfl) (w_p1 (by decide) (Or.inr rfl) e958)), (w_p1 (by decide) (Or.inr rfl) (w_p1 (by decide) (Or.inr rfl) e959)), (w_p1 (by decide) (Or.inr rfl) (w_p1 (by decide) (Or.inr rfl) e960)), (w_p1 (by decide) (Or.inr rfl) (w_e1 _ _ _)), (w_e1 _ _ _), by omega, by omega, (fun j a b => by rw [eA_c (rfl)]; exact q965 j a b)⟩ ⟨by omega, by omega⟩
      · have c678_ : v674.toInt < 1 := en_i_ge_f c678
        refine At.enter rfl ?_
        refine r_iload_n rfl ?_
        refine r_ireti ?_
        exact ⟨_, rfl, hI672, hF676, _, rfl, trivial⟩

def F_X11_after_231 : List (Nat × Nat) := []
def A_X11_after_231 : List Nat := []
set_option maxRecDepth 100000 in
set_option maxHeartbeats 4000000 in
theorem T_X11_after_231 (d : Nat) {N : Nat} {g0 : List en_E} (hI0 : HI g0) (a1 : Int32) (h_a1 : (-1) ≤ a1.toInt ∧ a1.toInt ≤ 11) (a2 : Int32) : Ev (d + 4) 256 [.ref 231, .int a1, .int a2] (g0, N) (fun w h' => ∃ g', h' = (g', N) ∧ HI g' ∧ Fr F_X11_after_231 A_X11_after_231 g0 g' ∧ ∃ r : Int32, w = some (.int r) ∧ ((-1) ≤ r.toInt ∧ r.toInt ≤ 11) ∧ (r.toInt = itI (NMq g0) a2.toInt a1.toInt)) := by
  have hF0 : Fr F_X11_after_231 A_X11_after_231 g0 g0 := Fr.rf
  refine Ev.mk rfl rfl ⟨Nat.le_of_ble_eq_true rfl, Or.inr (q_rc hI0.1 kx_231 rfl)⟩ ?_
  show At _ none _ _ (0, [(0, .ref 231), (1, .int a1), (2, .int a2)], [], (_, _)) _
  refine At.enter rfl ?_
  refine r_iload_n rfl ?_
  refine r_istore_n ([(3, .int a1), (0, .ref 231), (1, .int a1), (2, .int a2)]) rfl ?_
  refine r_iconst 0 rfl ?_
  refine r_istore ([(4, .int 0), (3, .int a1), (0, .ref 231), (1, .int a1), (2, .int a2)]) rfl ?_
  refine Ar.fall 5 rfl ?_
  have z_1028 : (0 : Int32).toInt = 0 := rfl
  refine w_loopI (fun n_ l_ g_ => ∃ x1010 : Int32, ∃ x1011 : Int32, n_ = 2147483647 - x1011.toInt ∧ HI g_ ∧ Fr F_X11_after_231 A_X11_after_231 g0 g_ ∧ en_get 0 l_ = some (.ref 231) ∧ en_get 1 l_ = some (.int a1) ∧ en_get 2 l_ = some (.int a2) ∧ en_get 3 l_ = some (.int x1010) ∧ en_get 4 l_ = some (.int x1011) ∧ ((-1) ≤ x1010.toInt ∧ x1010.toInt ≤ 11) ∧ 0 ≤ x1011.toInt ∧ (x1010.toInt = itI (NMq g0) x1011.toInt a1.toInt) ∧ (0 ≤ x1011.toInt) ∧ (x1011.toInt ≤ a2.toInt ∨ x1011.toInt = 0)) ?_ (2147483647 - 0) ⟨a1, 0, by first | rfl | omega, hI0, hF0, rfl, rfl, rfl, rfl, rfl, by omega, by decide, (itI_n _ (by first | decide | omega) _).symm, by omega, by omega⟩
  rintro n1016 l1015 g1012 ⟨x1010, x1011, hm1029, hI1013, hF1014, e1018, e1019, e1020, e1021, e1022, r1023, r1024, q1025, q1026, q1027⟩ ih1017
  refine At.enter rfl ?_
  refine r_iload e1022 ?_
  refine r_iload_n e1020 ?_
  have bv1031 := q_bnd x1011
  have bv1032 := q_bnd a2
  refine r_ics 11 rfl (fun c1030 => ?_) (fun c1030 => ?_)
  · have c1030_ : x1011.toInt ≥ a2.toInt := en_i_ge_t c1030
    refine At.enter rfl ?_
    refine r_iload_n e1021 ?_
    refine r_ireti ?_
    exact ⟨_, rfl, hI1013, hF1014, _, rfl, by omega, (by first | exact (Decidable.em (a2.toInt ≤ 0)).elim (fun k => (by rw [itI_n _ k]; have z := itI_n (NMq g0) (k := x1011.toInt) (by omega) a1.toInt; omega)) (fun k => (by rw [show a2.toInt = x1011.toInt from by omega]; omega)) | (have z := itI_e (NMq.e g0) (i := x1011.toInt) (k := a2.toInt) (s := a1.toInt) (by omega) (by omega); omega))⟩
  · have c1030_ : x1011.toInt < a2.toInt := en_i_ge_f c1030
    refine At.enter rfl ?_
    refine r_iload_n e1021 ?_
    refine r_iconst (-1) rfl ?_
    refine r_ics 16 rfl (fun c1033 => ?_) (fun c1033 => ?_)
    · have c1033_ : x1010.toInt = (-1) := en_i_eq_t c1033
      refine At.enter rfl ?_
      refine r_iload_n e1021 ?_
      refine r_ireti ?_
      exact ⟨_, rfl, hI1013, hF1014, _, rfl, by omega, (by first | exact (Decidable.em (a2.toInt ≤ 0)).elim (fun k => (by rw [itI_n _ k]; have z := itI_n (NMq g0) (k := x1011.toInt) (by omega) a1.toInt; omega)) (fun k => (by rw [show a2.toInt = x1011.toInt from by omega]; omega)) | (have z := itI_e (NMq.e g0) (i := x1011.toInt) (k := a2.toInt) (s := a1.toInt) (by omega) (by omega); omega))⟩
    · have c1033_ : x1010.toInt ≠ (-1) := en_i_eq_f c1033
      refine At.enter rfl ?_
      refine r_aload_n e1018 ?_
      refine r_iload_n e1021 ?_
      refine r_iconst 0 rfl ?_
      refine r_callV 22 rfl [.ref 231, .int x1010, .int 0] [] (Nat.le_of_ble_eq_true rfl) rfl (T_X11_nextOf0_231 _ hI1013 x1010 (by omega)) ?_
      rintro _ _ ⟨g1034, rfl, hI1035, hF1036, v1037, rfl, hr1038⟩
      refine At.sti ?_
      have hF1039 := Fr.tr hF1014 hF1036 rfl rfl
      have zv1040 : (0 : Int32).toInt = 0 := rfl
      rw [eA_c ((hF1014.2.1 233 (by decide)))] at hr1038
      rw [NMo.c ((hF1014.2.1 233 (by decide)))] at hr1038
      refine At.enter rfl ?_
      refine r_istore_n _ rfl ?_
      refine q_iinc (w_p1 (by decide) (Or.inr rfl) e1022) (x1011.toInt + 1) rfl (by omega) (fun v1041 hv1041 => ?_)
      refine r_goto ?_
      have bv1042 := q_bnd v1041
      exact ih1017 (2147483647 - v1041.toInt) _ _ ⟨v1037, v1041, by first | rfl | omega, hI1035, hF1039, (w_p1 (by decide) (Or.inr rfl) (w_p1 (by decide) (Or.inr rfl) e1018)), (w_p1 (by decide) (Or.inr rfl) (w_p1 (by decide) (Or.inr rfl) e1019)), (w_p1 (by decide) (Or.inr rfl) (w_p1 (by decide) (Or.inr rfl) e1020)), (w_p1 (by decide) (Or.inr rfl) (w_e1 _ _ _)), (w_e1 _ _ _), by omega, by omega, (by rw [show v1041.toInt = x1011.toInt + 1 from by omega, itI_s (NMq g0) (by omega), ← q1025]; have z := NMq.ne (g := g0) (s := x1010.toInt) (by omega); omega), by omega, by omega⟩ ⟨by omega, by omega⟩

def F_X11_thieves_231 : List (Nat × Nat) := [(231, 0)]
def A_X11_thieves_231 : List Nat := []
set_option maxRecDepth 100000 in
set_option maxHeartbeats 4000000 in
theorem T_X11_thieves_231 (d : Nat) {N : Nat} {g0 : List en_E} (hI0 : HI g0) : Ev (d + 5) 257 [.ref 231] (g0, N) (fun w h' => ∃ g', h' = (g', N) ∧ HI g' ∧ Fr F_X11_thieves_231 A_X11_thieves_231 g0 g' ∧ ∃ r : Int32, w = some (.int r) ∧ True ∧ (r.toInt = (ACI (FITM g0 (eA g0 233 4).toInt) (eA g0 233 0).toInt).toInt)) := by
  have hF0 : Fr F_X11_thieves_231 A_X11_thieves_231 g0 g0 := Fr.rf
  refine Ev.mk rfl rfl ⟨Nat.le_of_ble_eq_true rfl, Or.inr (q_rc hI0.1 kx_231 rfl)⟩ ?_
  show At _ none _ _ (0, [(0, .ref 231)], [], (_, _)) _
  refine At.enter rfl ?_
  refine r_aload_n rfl ?_
  refine r_iconst 0 rfl ?_
  refine q_putI (Sh.int hI0.1 kx_231 rfl) rfl ?_
  have hI5484 := HI.wI0 hI0 kx_231 rfl (p := 231) (b := 0) (v := 0) rfl
  have hF5485 := Fr.wI (p := 231) (b := 0) (v := 0) hF0 rfl
  refine r_iconst 0 rfl ?_
  refine r_istore_n ([(1, .int 0), (0, .ref 231)]) rfl ?_
  refine r_iconst 0 rfl ?_
  refine r_istore_n ([(2, .int 0), (1, .int 0), (0, .ref 231)]) rfl ?_
  refine Ar.fall 9 rfl ?_
  have z_7949 : (0 : Int32).toInt = 0 := rfl
  have z_7950 : (0 : Int32).toInt = 0 := rfl
  obtain ⟨v7951, hv7951⟩ : ∃ v, eA g0 233 0 = v := ⟨_, rfl⟩
  have tv7951 := congrArg Int32.toInt hv7951
  have wv7951 := HI.t0 hI0
  rw [hv7951] at wv7951
  have tv7951 := congrArg Int32.toInt hv7951
  have x7952 := HI.eqA hI5484 (p := 233) (j := 0) (((eA_c gA_sI).trans hv7951))
  obtain ⟨v7953, hv7953⟩ : ∃ v, eA g0 233 4 = v := ⟨_, rfl⟩
  have wv7953 := HI.t4 hI0
  rw [hv7953] at wv7953
  have tv7953 := congrArg Int32.toInt hv7953
  have x7954 := HI.eqA hI5484 (p := 233) (j := 4) (((eA_c gA_sI).trans hv7953))
  refine w_loopI (fun n_ l_ g_ => ∃ x7934 : Int32, ∃ x7935 : Int32, n_ = 12 - x7935.toInt ∧ HI g_ ∧ Fr F_X11_thieves_231 A_X11_thieves_231 g0 g_ ∧ en_get 0 l_ = some (.ref 231) ∧ en_get 1 l_ = some (.int x7934) ∧ en_get 2 l_ = some (.int x7935) ∧ (0 ≤ x7935.toInt ∧ x7935.toInt ≤ 12) ∧ (x7934.toInt = (ACI (FITM g0 (eA g0 233 4).toInt) x7935.toInt).toInt) ∧ (0 ≤ x7935.toInt) ∧ (x7935.toInt ≤ (eA g0 233 0).toInt)) ?_ (12 - 0) ⟨0, 0, by first | rfl | omega, hI5484, hF5485, rfl, rfl, rfl, by decide, ((by first | rfl | omega : _ = (0 : Int)).trans (ACI.z _ (by first | decide | omega))), by omega, by omega⟩
  rintro n7940 l7939 g7936 ⟨x7934, x7935, hm7955, hI7937, hF7938, e7942, e7943, e7944, r7945, q7946, q7947, q7948⟩ ih7941
  refine At.enter rfl ?_
  refine r_iload_n e7944 ?_
  refine r_aload_n e7942 ?_
  refine q_getR (Sh.ref hI7937.1 kx_231 rfl) ?_
  refine r_iconst 0 rfl ?_
  refine q_iald (Sh.arr hI7937.1 ka_233) 0 rfl (by decide) v7951 ((eA_c (hF7938.2.1 233 (by decide))).trans hv7951) ?_
  have bv7957 := q_bnd x7935
  have bv7958 := q_bnd v7951
  refine r_ics 19 rfl (fun c7956 => ?_) (fun c7956 => ?_)
  · have c7956_ : x7935.toInt ≥ v7951.toInt := en_i_ge_t c7956
    refine At.enter rfl ?_
    refine r_iload_n e7943 ?_
    refine r_ireti ?_
    have x7959 := HI.eqA hI0 (p := 233) (j := 0) (hv7951)
    exact ⟨_, rfl, hI7937, hF7938, _, rfl, trivial, (by rw [show (eA g0 233 0).toInt = x7935.toInt from by omega]; exact q7946)⟩
  · have c7956_ : x7935.toInt < v7951.toInt := en_i_ge_f c7956
    refine At.enter rfl ?_
    refine r_iconst 1 rfl ?_
    refine r_istore_n _ rfl ?_
    refine r_iconst 0 rfl ?_
    refine r_istore _ rfl ?_
    refine Ar.fall 24 rfl ?_
    have z_8185 : (1 : Int32).toInt = 1 := rfl
    have z_8186 : (0 : Int32).toInt = 0 := rfl
    have x8187 := HI.eqA hI7937 (p := 233) (j := 0) (((eA_c (hF7938.2.1 233 (by decide))).trans hv7951))
    have x8188 := HI.eqA hI7937 (p := 233) (j := 4) (((eA_c (hF7938.2.1 233 (by decide))).trans hv7953))
    refine w_loopI (fun n_ l_ g_ => ∃ x8167 : Int32, ∃ x8168 : Int32, n_ = 8 - x8168.toInt ∧ HI g_ ∧ Fr F_X11_thieves_231 A_X11_thieves_231 g0 g_ ∧ en_get 0 l_ = some (.ref 231) ∧ en_get 1 l_ = some (.int x7934) ∧ en_get 2 l_ = some (.int x7935) ∧ en_get 3 l_ = some (.int x8167) ∧ en_get 4 l_ = some (.int x8168) ∧ (0 ≤ x8167.toInt ∧ x8167.toInt ≤ 1) ∧ (0 ≤ x8168.toInt ∧ x8168.toInt ≤ 8) ∧ (BL (FITM g0 x8168.toInt x7935.toInt) x8167.toInt) ∧ (0 ≤ x8168.toInt) ∧ (x8168.toInt ≤ (eA g0 233 4).toInt)) ?_ (8 - 0) ⟨1, 0, by first | rfl | omega, hI7937, hF7938, (w_p1 (by decide) (Or.inr rfl) (w_p1 (by decide) (Or.inr rfl) e7942)), (w_p1 (by decide) (Or.inr rfl) (w_p1 (by decide) (Or.inr rfl) e7943)), (w_p1 (by decide) (Or.inr rfl) (w_p1 (by decide) (Or.inr rfl) e7944)), (w_p1 (by decide) (Or.inr rfl) (w_e1 _ _ _)), (w_e1 _ _ _), by decide, by decide, (FITM.z _ _ (by first | decide | omega) (by first | rfl | decide | omega)), by omega, by omega⟩
    rintro n8173 l8172 g8169 ⟨x8167, x8168, hm8189, hI8170, hF8171, e8175, e8176, e8177, e8178, e8179, r8180, r8181, q8182, q8183, q8184⟩ ih8174
    refine At.enter rfl ?_
    refine r_iload e8179 ?_
    refine r_aload_n e8175 ?_
    refine q_getR (Sh.ref hI8170.1 kx_231 rfl) ?_
    refine r_iconst 4 rfl ?_
    refine q_iald (Sh.arr hI8170.1 ka_233) 4 rfl (by decide) v7953 ((eA_c (hF8171.2.1 233 (by decide))).trans hv7953) ?_
    have bv8191 := q_bnd x8168
    have bv8192 := q_bnd v7953
    refine r_ics 35 rfl (fun c8190 => ?_) (fun c8190 => ?_)
    · have c8190_ : x8168.toInt ≥ v7953.toInt := en_i_ge_t c8190
      refine At.enter rfl ?_
      refine r_iload_n e8176 ?_
      refine r_iload_n e8178 ?_
      refine r_ifs 90 rfl (fun c8193 => ?_) (fun c8193 => ?_)
      · have c8193_ : x8167.toInt = 0 := en_k_eq_t c8193
        refine At.enter rfl ?_
        refine r_iconst 0 rfl ?_
        refine Ar.fall 97 rfl ?_
        refine At.enter rfl ?_
        refine q_iorO (fun v8194 hv8194 => ?_)
        refine r_istore_n _ rfl ?_
        refine q_iinc (w_p1 (by decide) (Or.inr rfl) e8177) (x7935.toInt + 1) rfl (by omega) (fun v8195 hv8195 => ?_)
        refine r_goto ?_
        have bv8196 := q_bnd v8194
        exact ih7941 (12 - v8195.toInt) _ _ ⟨v8194, v8195, by first | rfl | omega, hI8170, hF8171, (w_p1 (by decide) (Or.inr rfl) (w_p1 (by decide) (Or.inr rfl) e8175)), (w_p1 (by decide) (Or.inr rfl) (w_e1 _ _ _)), (w_e1 _ _ _), by omega, (by have fz : BL (FITM g0 (eA g0 233 4).toInt x7935.toInt) x8167.toInt := (show x8168.toInt = (eA g0 233 4).toInt from by omega) ▸ q8182; first | exact ACI.yes (i := x7935) (by omega) (show v8195.toInt = x7935.toInt + 1 from by omega) (BL.yes fz (by omega)) rfl hv8194 (by assumption) q7946 | exact (q_or0 hv8194 (by first | rfl | omega)).trans (ACI.no (by omega) (show v8195.toInt = x7935.toInt + 1 from by omega) (BL.no fz (by omega)) q7946)), by omega, by omega⟩ ⟨by omega, by omega⟩
      · have c8193_ : x8167.toInt ≠ 0 := en_k_eq_f c8193
        refine At.enter rfl ?_
        refine r_iconst 1 rfl ?_
        refine r_iload_n e8177 ?_
        refine q_ishlO (fun v8197 hv8197 => ?_)
        refine r_goto ?_
        refine At.enter rfl ?_
        refine q_iorO (fun v8198 hv8198 => ?_)
        refine r_istore_n _ rfl ?_
        refine q_iinc (w_p1 (by decide) (Or.inr rfl) e8177) (x7935.toInt + 1) rfl (by omega) (fun v8199 hv8199 => ?_)
        refine r_goto ?_
        have bv8200 := q_bnd v8198
        exact ih7941 (12 - v8199.toInt) _ _ ⟨v8198, v8199, by first | rfl | omega, hI8170, hF8171, (w_p1 (by decide) (Or.inr rfl) (w_p1 (by decide) (Or.inr rfl) e8175)), (w_p1 (by decide) (Or.inr rfl) (w_e1 _ _ _)), (w_e1 _ _ _), by omega, (by have fz : BL (FITM g0 (eA g0 233 4).toInt x7935.toInt) x8167.toInt := (show x8168.toInt = (eA g0 233 4).toInt from by omega) ▸ q8182; first | exact ACI.yes (i := x7935) (by omega) (show v8199.toInt = x7935.toInt + 1 from by omega) (BL.yes fz (by omega)) rfl hv8198 (by assumption) q7946 | exact (q_or0 hv8198 (by first | rfl | omega)).trans (ACI.no (by omega) (show v8199.toInt = x7935.toInt + 1 from by omega) (BL.no fz (by omega)) q7946)), by omega, by omega⟩ ⟨by omega, by omega⟩
    · have c8190_ : x8168.toInt < v7953.toInt := en_i_ge_f c8190
      refine At.enter rfl ?_
      refine r_iload_n e8178 ?_
      refine r_ifs 39 rfl (fun c8201 => ?_) (fun c8201 => ?_)
      · have c8201_ : x8167.toInt = 0 := en_k_eq_t c8201
        refine At.enter rfl ?_
        refine r_iconst 0 rfl ?_
        refine Ar.fall 78 rfl ?_
        refine At.enter rfl ?_
        refine r_istore_n _ rfl ?_
        refine q_iinc (w_p1 (by decide) (Or.inr rfl) e8179) (x8168.toInt + 1) rfl (by omega) (fun v8202 hv8202 => ?_)
        refine r_goto ?_
        exact ih8174 (8 - v8202.toInt) _ _ ⟨0, v8202, by first | rfl | omega, hI8170, hF8171, (w_p1 (by decide) (Or.inr rfl) (w_p1 (by decide) (Or.inr rfl) e8175)), (w_p1 (by decide) (Or.inr rfl) (w_p1 (by decide) (Or.inr rfl) e8176)), (w_p1 (by decide) (Or.inr rfl) (w_p1 (by decide) (Or.inr rfl) e8177)), (w_p1 (by decide) (Or.inr rfl) (w_e1 _ _ _)), (w_e1 _ _ _), by decide, by omega, (FITM.no2 q8182 (by omega) (show v8202.toInt = x8168.toInt + 1 from by omega) (by omega)), by omega, by omega⟩ ⟨by omega, by omega⟩
      · have c8201_ : x8167.toInt ≠ 0 := en_k_eq_f c8201
        refine At.enter rfl ?_
        refine r_aload_n e8175 ?_
        refine r_iload_n e8177 ?_
        refine r_aload_n e8175 ?_
        refine q_getR (Sh.ref hI8170.1 kx_231 rfl) ?_
        refine r_bipush 94 rfl ?_
        refine r_iconst 2 rfl ?_
        refine r_iload e8179 ?_
        refine q_imul (2 * x8168.toInt) rfl (by omega) (fun v8203 hv8203 => ?_)
        refine q_iadd (94 + v8203.toInt) rfl (by omega) (fun v8204 hv8204 => ?_)
        refine r_iconst 1 rfl ?_
        refine q_iadd (v8204.toInt + 1) rfl (by omega) (fun v8205 hv8205 => ?_)
        obtain ⟨v8206, hv8206⟩ : ∃ v, eA g0 233 (2 * x8168.toInt + 95) = v := ⟨_, rfl⟩
        have wv8206 := HI.g1 hI0 (j := (2 * x8168.toInt + 95)) (x8168.toInt) (by omega) (by omega)
        rw [hv8206] at wv8206
        refine q_iald (Sh.arr hI8170.1 ka_233) (2 * x8168.toInt + 95) (by omega) (by omega) v8206 ((eA_c (hF8171.2.1 233 (by decide))).trans hv8206) ?_
        refine r_callV 58 rfl [.ref 231, .int x7935, .int v8206] [] (Nat.le_of_ble_eq_true rfl) rfl (T_X11_after_231 _ hI8170 x7935 (by omega) v8206) ?_
        rintro _ _ ⟨g8207, rfl, hI8208, hF8209, v8210, rfl, hr8211⟩
        refine At.sti ?_
        have hF8212 := Fr.tr hF8171 hF8209 rfl rfl
        rw [NMq.cI ((hF8171.2.1 233 (by decide)))] at hr8211
        refine At.enter rfl ?_
        refine r_aload_n e8175 ?_
        refine q_getR (Sh.ref hI8208.1 kx_231 rfl) ?_
        refine r_bipush 94 rfl ?_
        refine r_iconst 2 rfl ?_
        refine r_iload e8179 ?_
        refine q_imul (2 * x8168.toInt) rfl (by omega) (fun v8213 hv8213 => ?_)
        refine q_iadd (94 + v8213.toInt) rfl (by omega) (fun v8214 hv8214 => ?_)
        obtain ⟨v8215, hv8215⟩ : ∃ v, eA g0 233 (2 * x8168.toInt + 94) = v := ⟨_, rfl⟩
        have wv8215 := HI.g0 hI0 (j := (2 * x8168.toInt + 94)) (x8168.toInt) (by omega) (by omega)
        rw [hv8215] at wv8215
        refine q_iald (Sh.arr hI8208.1 ka_233) (2 * x8168.toInt + 94) (by omega) (by omega) v8215 ((eA_c ((hF8209.2.1 233 (by decide)).trans (hF8171.2.1 233 (by decide)))).trans hv8215) ?_
        refine r_ics 73 rfl (fun c8216 => ?_) (fun c8216 => ?_)
        · have c8216_ : v8210.toInt ≠ v8215.toInt := en_i_ne_t c8216
          refine At.enter rfl ?_
          refine r_iconst 0 rfl ?_
          refine Ar.fall 78 rfl ?_
          refine At.enter rfl ?_
          refine r_istore_n _ rfl ?_
          refine q_iinc (w_p1 (by decide) (Or.inr rfl) e8179) (x8168.toInt + 1) rfl (by omega) (fun v8217 hv8217 => ?_)
          refine r_goto ?_
          exact ih8174 (8 - v8217.toInt) _ _ ⟨0, v8217, by first | rfl | omega, hI8208, hF8212, (w_p1 (by decide) (Or.inr rfl) (w_p1 (by decide) (Or.inr rfl) e8175)), (w_p1 (by decide) (Or.inr rfl) (w_p1 (by decide) (Or.inr rfl) e8176)), (w_p1 (by decide) (Or.inr rfl) (w_p1 (by decide) (Or.inr rfl) e8177)), (w_p1 (by decide) (Or.inr rfl) (w_e1 _ _ _)), (w_e1 _ _ _), by decide, by omega, (by first | exact FITM.yes q8182 (by omega) (show v8217.toInt = x8168.toInt + 1 from by omega) (by have y1 := (eA_ix (g := g0) (p := 233) (show 94 + 2 * x8168.toInt + 1 = (2 * x8168.toInt + 95) from by omega)).trans (congrArg Int32.toInt hv8206); have y0 := (eA_ix (g := g0) (p := 233) (show 94 + 2 * x8168.toInt = (2 * x8168.toInt + 94) from by omega)).trans (congrArg Int32.toInt hv8215); rw [y1, y0]; omega) (by omega) | exact FITM.no1 (by omega) (show v8217.toInt = x8168.toInt + 1 from by omega) (by have y1 := (eA_ix (g := g0) (p := 233) (show 94 + 2 * x8168.toInt + 1 = (2 * x8168.toInt + 95) from by omega)).trans (congrArg Int32.toInt hv8206); have y0 := (eA_ix (g := g0) (p := 233) (show 94 + 2 * x8168.toInt = (2 * x8168.toInt + 94) from by omega)).trans (congrArg Int32.toInt hv8215); rw [y1, y0]; omega) (by omega)), by omega, by omega⟩ ⟨by omega, by omega⟩
        · have c8216_ : v8210.toInt = v8215.toInt := en_i_ne_f c8216
          refine At.enter rfl ?_
          refine r_iconst 1 rfl ?_
          refine r_goto ?_
          refine At.enter rfl ?_
          refine r_istore_n _ rfl ?_
          refine q_iinc (w_p1 (by decide) (Or.inr rfl) e8179) (x8168.toInt + 1) rfl (by omega) (fun v8218 hv8218 => ?_)
          refine r_goto ?_
          exact ih8174 (8 - v8218.toInt) _ _ ⟨1, v8218, by first | rfl | omega, hI8208, hF8212, (w_p1 (by decide) (Or.inr rfl) (w_p1 (by decide) (Or.inr rfl) e8175)), (w_p1 (by decide) (Or.inr rfl) (w_p1 (by decide) (Or.inr rfl) e8176)), (w_p1 (by decide) (Or.inr rfl) (w_p1 (by decide) (Or.inr rfl) e8177)), (w_p1 (by decide) (Or.inr rfl) (w_e1 _ _ _)), (w_e1 _ _ _), by decide, by omega, (by first | exact FITM.yes q8182 (by omega) (show v8218.toInt = x8168.toInt + 1 from by omega) (by have y1 := (eA_ix (g := g0) (p := 233) (show 94 + 2 * x8168.toInt + 1 = (2 * x8168.toInt + 95) from by omega)).trans (congrArg Int32.toInt hv8206); have y0 := (eA_ix (g := g0) (p := 233) (show 94 + 2 * x8168.toInt = (2 * x8168.toInt + 94) from by omega)).trans (congrArg Int32.toInt hv8215); rw [y1, y0]; omega) (by omega) | exact FITM.no1 (by omega) (show v8218.toInt = x8168.toInt + 1 from by omega) (by have y1 := (eA_ix (g := g0) (p := 233) (show 94 + 2 * x8168.toInt + 1 = (2 * x8168.toInt + 95) from by omega)).trans (congrArg Int32.toInt hv8206); have y0 := (eA_ix (g := g0) (p := 233) (show 94 + 2 * x8168.toInt = (2 * x8168.toInt + 94) from by omega)).trans (congrArg Int32.toInt hv8215); rw [y1, y0]; omega) (by omega)), by omega, by omega⟩ ⟨by omega, by omega⟩
