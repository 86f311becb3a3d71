def F_X11_inner_231 : List (Nat × Nat) := []
def A_X11_inner_231 : List Nat := []
set_option maxRecDepth 100000 in
set_option maxHeartbeats 4000000 in
theorem T_X11_inner_231 (d : Nat) {N : Nat} {g0 : List en_E} (hI0 : HI g0) : Ev (d + 1) 199 [.ref 231] (g0, N) (fun w h' => ∃ g', h' = (g', N) ∧ HI g' ∧ Fr F_X11_inner_231 A_X11_inner_231 g0 g' ∧ ∃ r : Int32, w = some (.int r) ∧ ((-1) ≤ r.toInt ∧ r.toInt ≤ 31) ∧ INN g0 (gI g0 231 23).toInt r.toInt) := by
  have hF0 : Fr F_X11_inner_231 A_X11_inner_231 g0 g0 := Fr.rf
  obtain ⟨v1, hv1⟩ : ∃ v, gI g0 231 23 = v := ⟨_, rfl⟩
  have rv1 := RgF.at hI0.2.1 (p := 231) (b := 23) rfl
  rw [hv1] at rv1
  dsimp only at rv1
  have tv1 := congrArg Int32.toInt hv1
  refine Ev.mk rfl rfl ⟨Nat.le_of_ble_eq_true rfl, Or.inr (q_rc hI0.1 kx_231 rfl)⟩ ?_
  show At _ none _ _ (0, [(0, .ref 231)], [], (_, _)) _
  refine At.enter rfl ?_
  refine r_iconst (-1) rfl ?_
  refine r_istore_n ([(1, .int (-1)), (0, .ref 231)]) rfl ?_
  refine r_iconst 0 rfl ?_
  refine r_istore_n ([(2, .int 0), (1, .int (-1)), (0, .ref 231)]) rfl ?_
  refine Ar.fall 4 rfl ?_
  have z_595 : ((-1) : Int32).toInt = (-1) := rfl
  have z_596 : (0 : Int32).toInt = 0 := rfl
  refine w_loopI (fun n_ l_ g_ => ∃ x580 : Int32, ∃ x581 : Int32, n_ = 400 - x581.toInt ∧ HI g_ ∧ Fr F_X11_inner_231 A_X11_inner_231 g0 g_ ∧ en_get 0 l_ = some (.ref 231) ∧ en_get 1 l_ = some (.int x580) ∧ en_get 2 l_ = some (.int x581) ∧ ((-1) ≤ x580.toInt ∧ x580.toInt ≤ 31) ∧ (0 ≤ x581.toInt ∧ x581.toInt ≤ 400) ∧ (INN g0 x581.toInt x580.toInt) ∧ (x581.toInt ≤ (gI g0 231 23).toInt)) ?_ (400 - 0) ⟨(-1), 0, by first | rfl | omega, hI0, hF0, rfl, rfl, rfl, by decide, by decide, INN.zero, by omega⟩
  rintro n586 l585 g582 ⟨x580, x581, hm597, hI583, hF584, e588, e589, e590, r591, r592, q593, q594⟩ ih587
  refine At.enter rfl ?_
  refine r_iload_n e590 ?_
  refine r_aload_n e588 ?_
  refine q_getI (Sh.int hI583.1 kx_231 rfl) v1 ((hF584.1 231 23 (by decide)).trans hv1) ?_
  have bv599 := q_bnd x581
  have bv600 := q_bnd v1
  refine r_ics 12 rfl (fun c598 => ?_) (fun c598 => ?_)
  · have c598_ : x581.toInt ≥ v1.toInt := en_i_ge_t c598
    refine At.enter rfl ?_
    refine r_iload_n e589 ?_
    refine r_ireti ?_
    have x601 := HI.eqI hI583 (p := 231) (b := 23) (((hF584.1 231 23 (by decide)).trans hv1))
    have x602 := HI.eqI hI0 (p := 231) (b := 23) (hv1)
    exact ⟨_, rfl, hI583, hF584, _, rfl, by omega, (INN.eqk q593 (by omega))⟩
  · have c598_ : x581.toInt < v1.toInt := en_i_ge_f c598
    refine At.enter rfl ?_
    refine r_aload_n e588 ?_
    refine q_getR (Sh.ref hI583.1 kx_231 rfl) ?_
    refine r_iload_n e590 ?_
    obtain ⟨v603, hv603⟩ : ∃ v, eA g0 240 x581.toInt = v := ⟨_, rfl⟩
    have rv603 := RgA.at hI0.2.2.1 (Sh.arr hI0.1 ka_240).2 (p := 240) rfl (j := x581.toInt) (by omega)
    rw [hv603] at rv603
    dsimp only at rv603
    refine q_iald (Sh.arr hI583.1 ka_240) x581.toInt rfl (by omega) v603 ((eA_c (hF584.2.1 240 (by decide))).trans hv603) ?_
    refine r_bipush 30 rfl ?_
    refine r_ics 23 rfl (fun c604 => ?_) (fun c604 => ?_)
    · have c604_ : v603.toInt < 30 := en_i_lt_t c604
      refine At.enter rfl ?_
      refine r_iload_n e589 ?_
      refine Ar.fall 33 rfl ?_
      refine At.enter rfl ?_
      refine r_istore_n _ rfl ?_
      refine q_iinc (w_p1 (by decide) (Or.inr rfl) e590) (x581.toInt + 1) rfl (by omega) (fun v605 hv605 => ?_)
      refine r_goto ?_
      exact ih587 (400 - v605.toInt) _ _ ⟨x580, v605, by first | rfl | omega, hI583, hF584, (w_p1 (by decide) (Or.inr rfl) (w_p1 (by decide) (Or.inr rfl) e588)), (w_p1 (by decide) (Or.inr rfl) (w_e1 _ _ _)), (w_e1 _ _ _), by omega, by omega, (INN.step q593 (by omega) (by omega) (by have hz : pE g0 240 x581.toInt = v603.toInt := congrArg Int32.toInt hv603; rw [hz]; omega)), by omega⟩ ⟨by omega, by omega⟩
    · have c604_ : v603.toInt ≥ 30 := en_i_lt_f c604
      refine At.enter rfl ?_
      refine r_aload_n e588 ?_
      refine q_getR (Sh.ref hI583.1 kx_231 rfl) ?_
      refine r_iload_n e590 ?_
      refine q_iald (Sh.arr hI583.1 ka_240) x581.toInt rfl (by omega) v603 ((eA_c (hF584.2.1 240 (by decide))).trans hv603) ?_
      refine r_goto ?_
      refine At.enter rfl ?_
      refine r_istore_n _ rfl ?_
      refine q_iinc (w_p1 (by decide) (Or.inr rfl) e590) (x581.toInt + 1) rfl (by omega) (fun v606 hv606 => ?_)
      refine r_goto ?_
      exact ih587 (400 - v606.toInt) _ _ ⟨v603, v606, by first | rfl | omega, hI583, hF584, (w_p1 (by decide) (Or.inr rfl) (w_p1 (by decide) (Or.inr rfl) e588)), (w_p1 (by decide) (Or.inr rfl) (w_e1 _ _ _)), (w_e1 _ _ _), by omega, by omega, (INN.step q593 (by omega) (by omega) (by have hz : pE g0 240 x581.toInt = v603.toInt := congrArg Int32.toInt hv603; rw [hz]; omega)), by omega⟩ ⟨by omega, by omega⟩

def F_X11_isCompared_231 : List (Nat × Nat) := []
def A_X11_isCompared_231 : List Nat := []
set_option maxRecDepth 100000 in
set_option maxHeartbeats 4000000 in
theorem T_X11_isCompared_231 (d : Nat) {N : Nat} {g0 : List en_E} (hI0 : HI g0) : Ev (d + 2) 200 [.ref 231] (g0, N) (fun w h' => ∃ g', h' = (g', N) ∧ HI g' ∧ Fr F_X11_isCompared_231 A_X11_isCompared_231 g0 g' ∧ ∃ r : Int32, w = some (.int r) ∧ (0 ≤ r.toInt ∧ r.toInt ≤ 1)) := by
  have hF0 : Fr F_X11_isCompared_231 A_X11_isCompared_231 g0 g0 := Fr.rf
  refine Ev.mk rfl rfl ⟨Nat.le_of_ble_eq_true rfl, Or.inr (q_rc hI0.1 kx_231 rfl)⟩ ?_
  show At _ none _ _ (0, [(0, .ref 231)], [], (_, _)) _
  refine At.enter rfl ?_
  refine r_aload_n rfl ?_
  obtain ⟨v87, hv87⟩ : ∃ v, gI g0 231 23 = v := ⟨_, rfl⟩
  have rv87 := RgF.at hI0.2.1 (p := 231) (b := 23) rfl
  rw [hv87] at rv87
  dsimp only at rv87
  refine q_getI (Sh.int hI0.1 kx_231 rfl) v87 hv87 ?_
  refine r_iconst 1 rfl ?_
  refine q_isub (v87.toInt - 1) rfl (by omega) (fun v88 hv88 => ?_)
  refine r_istore_n ([(1, .int v88), (0, .ref 231)]) rfl ?_
  refine Ar.fall 7 rfl ?_
  refine w_loopI (fun n_ l_ g_ => ∃ x105 : Int32, n_ = x105.toInt - (-1) ∧ HI g_ ∧ Fr F_X11_isCompared_231 A_X11_isCompared_231 g0 g_ ∧ en_get 0 l_ = some (.ref 231) ∧ en_get 1 l_ = some (.int x105) ∧ ((-1) ≤ x105.toInt ∧ x105.toInt ≤ 399)) ?_ (v88.toInt - (-1)) ⟨v88, by first | rfl | omega, hI0, hF0, rfl, rfl, by omega⟩
  rintro n110 l109 g106 ⟨x105, hm115, hI107, hF108, e112, e113, r114⟩ ih111
  refine At.enter rfl ?_
  refine r_iload_n e113 ?_
  refine r_ifs 11 rfl (fun c116 => ?_) (fun c116 => ?_)
  · have c116_ : x105.toInt < 0 := en_k_lt_t c116
    refine At.enter rfl ?_
    refine r_iload_n e113 ?_
    refine r_ifs 40 rfl (fun c117 => ?_) (fun c117 => ?_)
    · have c117_ : x105.toInt < 0 := en_k_lt_t c117
      refine At.enter rfl ?_
      refine r_iconst 0 rfl ?_
      refine Ar.fall 64 rfl ?_
      refine At.enter rfl ?_
      refine r_iretz (by decide) ?_
      exact ⟨_, rfl, hI107, hF108, _, rfl, by decide⟩
    · have c117_ : x105.toInt ≥ 0 := en_k_lt_f c117
      exfalso; omega
  · have c116_ : x105.toInt ≥ 0 := en_k_lt_f c116
    refine At.enter rfl ?_
    refine r_aload_n e112 ?_
    refine q_getR (Sh.ref hI107.1 kx_231 rfl) ?_
    refine r_iload_n e113 ?_
    obtain ⟨v118, hv118⟩ : ∃ v, eA g0 240 x105.toInt = v := ⟨_, rfl⟩
    have rv118 := RgA.at hI0.2.2.1 (Sh.arr hI0.1 ka_240).2 (p := 240) rfl (j := x105.toInt) (by omega)
    rw [hv118] at rv118
    dsimp only at rv118
    refine q_iald (Sh.arr hI107.1 ka_240) x105.toInt rfl (by omega) v118 ((eA_c (hF108.2.1 240 (by decide))).trans hv118) ?_
    refine q_i2l (fun v119 hv119 => ?_)
    refine r_ldc2 20 rfl ?_
    refine r_ldc2 23 rfl ?_
    refine q_inlS 27 rfl [.long v119, .long 20, .long 23] [] (Nat.le_of_ble_eq_true rfl) rfl ?_
    refine Ev.mk rfl rfl ⟨Nat.le_of_ble_eq_true rfl, Or.inl rfl⟩ ?_
    show At _ none _ _ (0, [(0, .long v119), (2, .long 20), (4, .long 23)], [], (_, _)) _
    refine At.enter rfl ?_
    refine r_lload_n rfl ?_
    refine r_lload_n rfl ?_
    refine r_lcmp _ rfl ?_
    refine r_ifs 6 rfl (fun c120 => ?_) (fun c120 => ?_)
    · have c120_ : v119.toInt < 20 := en_j_lt_t c120
      refine At.enter rfl ?_
      refine r_iconst 0 rfl ?_
      refine Ar.fall 18 rfl ?_
      refine At.enter rfl ?_
      refine q_iretz (by decide) ?_
      refine At.enter rfl ?_
      refine r_ift (by decide) ?_
      refine At.enter rfl ?_
      refine r_iload_n e113 ?_
      refine r_ifs 40 rfl (fun c121 => ?_) (fun c121 => ?_)
      · have c121_ : x105.toInt < 0 := en_k_lt_t c121
        exfalso; omega
      · have c121_ : x105.toInt ≥ 0 := en_k_lt_f c121
        refine At.enter rfl ?_
        refine r_aload_n e112 ?_
        refine q_getR (Sh.ref hI107.1 kx_231 rfl) ?_
        refine r_iload_n e113 ?_
        refine q_iald (Sh.arr hI107.1 ka_240) x105.toInt rfl (by omega) v118 ((eA_c (hF108.2.1 240 (by decide))).trans hv118) ?_
        refine q_i2l (fun v122 hv122 => ?_)
        refine r_ldc2 24 rfl ?_
        refine r_ldc2 26 rfl ?_
        refine q_inlS 56 rfl [.long v122, .long 24, .long 26] [] (Nat.le_of_ble_eq_true rfl) rfl ?_
        refine Ev.mk rfl rfl ⟨Nat.le_of_ble_eq_true rfl, Or.inl rfl⟩ ?_
        show At _ none _ _ (0, [(0, .long v122), (2, .long 24), (4, .long 26)], [], (_, _)) _
        refine At.enter rfl ?_
        refine r_lload_n rfl ?_
        refine r_lload_n rfl ?_
        refine r_lcmp _ rfl ?_
        refine r_ifs 6 rfl (fun c123 => ?_) (fun c123 => ?_)
        · have c123_ : v122.toInt < 24 := en_j_lt_t c123
          refine At.enter rfl ?_
          refine r_iconst 0 rfl ?_
          refine Ar.fall 18 rfl ?_
          refine At.enter rfl ?_
          refine q_iretz (by decide) ?_
          refine At.enter rfl ?_
          refine r_ift (by decide) ?_
          refine At.enter rfl ?_
          refine r_iconst 0 rfl ?_
          refine Ar.fall 64 rfl ?_
          refine At.enter rfl ?_
          refine r_iretz (by decide) ?_
          exact ⟨_, rfl, hI107, hF108, _, rfl, by decide⟩
        · have c123_ : v122.toInt ≥ 24 := en_j_lt_f c123
          exfalso; omega
    · have c120_ : v119.toInt ≥ 20 := en_j_lt_f c120
      refine At.enter rfl ?_
      refine r_lload_n rfl ?_
      refine r_lload rfl ?_
      refine r_lcmp _ rfl ?_
      refine r_ifs 13 rfl (fun c124 => ?_) (fun c124 => ?_)
      · have c124_ : v119.toInt > 23 := en_j_gt_t c124
        refine At.enter rfl ?_
        refine r_iconst 0 rfl ?_
        refine Ar.fall 18 rfl ?_
        refine At.enter rfl ?_
        refine q_iretz (by decide) ?_
        refine At.enter rfl ?_
        refine r_ift (by decide) ?_
        refine At.enter rfl ?_
        refine r_iload_n e113 ?_
        refine r_ifs 40 rfl (fun c125 => ?_) (fun c125 => ?_)
        · have c125_ : x105.toInt < 0 := en_k_lt_t c125
          exfalso; omega
        · have c125_ : x105.toInt ≥ 0 := en_k_lt_f c125
          refine At.enter rfl ?_
          refine r_aload_n e112 ?_
          refine q_getR (Sh.ref hI107.1 kx_231 rfl) ?_
          refine r_iload_n e113 ?_
          refine q_iald (Sh.arr hI107.1 ka_240) x105.toInt rfl (by omega) v118 ((eA_c (hF108.2.1 240 (by decide))).trans hv118) ?_
          refine q_i2l (fun v126 hv126 => ?_)
          refine r_ldc2 24 rfl ?_
          refine r_ldc2 26 rfl ?_
          refine q_inlS 56 rfl [.long v126, .long 24, .long 26] [] (Nat.le_of_ble_eq_true rfl) rfl ?_
          refine Ev.mk rfl rfl ⟨Nat.le_of_ble_eq_true rfl, Or.inl rfl⟩ ?_
          show At _ none _ _ (0, [(0, .long v126), (2, .long 24), (4, .long 26)], [], (_, _)) _
          refine At.enter rfl ?_
          refine r_lload_n rfl ?_
          refine r_lload_n rfl ?_
          refine r_lcmp _ rfl ?_
          refine r_ifs 6 rfl (fun c127 => ?_) (fun c127 => ?_)
          · have c127_ : v126.toInt < 24 := en_j_lt_t c127
            exfalso; omega
          · have c127_ : v126.toInt ≥ 24 := en_j_lt_f c127
            refine At.enter rfl ?_
            refine r_lload_n rfl ?_
            refine r_lload rfl ?_
            refine r_lcmp _ rfl ?_
            refine r_ifs 13 rfl (fun c128 => ?_) (fun c128 => ?_)
            · have c128_ : v126.toInt > 26 := en_j_gt_t c128
              refine At.enter rfl ?_
              refine r_iconst 0 rfl ?_
              refine Ar.fall 18 rfl ?_
              refine At.enter rfl ?_
              refine q_iretz (by decide) ?_
              refine At.enter rfl ?_
              refine r_ift (by decide) ?_
              refine At.enter rfl ?_
              refine r_iconst 0 rfl ?_
              refine Ar.fall 64 rfl ?_
              refine At.enter rfl ?_
              refine r_iretz (by decide) ?_
              exact ⟨_, rfl, hI107, hF108, _, rfl, by decide⟩
            · have c128_ : v126.toInt ≤ 26 := en_j_gt_f c128
              refine At.enter rfl ?_
              refine r_iconst 1 rfl ?_
              refine r_goto ?_
              refine At.enter rfl ?_
              refine q_iretz (by decide) ?_
              refine At.enter rfl ?_
              refine r_iff 59 rfl (by decide) ?_
              refine At.enter rfl ?_
              refine r_iconst 1 rfl ?_
              refine r_goto ?_
              refine At.enter rfl ?_
              refine r_iretz (by decide) ?_
              exact ⟨_, rfl, hI107, hF108, _, rfl, by decide⟩
      · have c124_ : v119.toInt ≤ 23 := en_j_gt_f c124
        refine At.enter rfl ?_
        refine r_iconst 1 rfl ?_
        refine r_goto ?_
        refine At.enter rfl ?_
        refine q_iretz (by decide) ?_
        refine At.enter rfl ?_
        refine r_iff 30 rfl (by decide) ?_
        refine At.enter rfl ?_
        refine q_iinc e113 (x105.toInt + (-1)) rfl (by omega) (fun v129 hv129 => ?_)
        refine r_goto ?_
        exact ih111 (v129.toInt - (-1)) _ _ ⟨v129, by first | rfl | omega, hI107, hF108, (w_p1 (by decide) (Or.inr rfl) e112), (w_e1 _ _ _), by omega⟩ ⟨by omega, by omega⟩

def F_X11_partAt_231 : List (Nat × Nat) := []
def A_X11_partAt_231 : List Nat := []
set_option maxRecDepth 100000 in
set_option maxHeartbeats 4000000 in
theorem T_X11_partAt_231 (d : Nat) {N : Nat} {g0 : List en_E} (hI0 : HI g0) (h1 : 0 ≤ (gI g0 231 11).toInt) : Ev (d + 2) 201 [.ref 231] (g0, N) (fun w h' => ∃ g', h' = (g', N) ∧ HI g' ∧ Fr F_X11_partAt_231 A_X11_partAt_231 g0 g' ∧ ∃ r : Int32, w = some (.int r) ∧ ((-1) ≤ r.toInt ∧ r.toInt ≤ 9) ∧ (r.toInt + 1 ≤ 10 * (gI g0 231 11).toInt)) := by
  have hF0 : Fr F_X11_partAt_231 A_X11_partAt_231 g0 g0 := Fr.rf
  obtain ⟨v1, hv1⟩ : ∃ v, gI g0 231 11 = v := ⟨_, rfl⟩
  have tv1 := congrArg Int32.toInt hv1
  refine Ev.mk rfl rfl ⟨Nat.le_of_ble_eq_true rfl, Or.inr (q_rc hI0.1 kx_231 rfl)⟩ ?_
  show At _ none _ _ (0, [(0, .ref 231)], [], (_, _)) _
  refine At.enter rfl ?_
  refine r_iconst (-1) rfl ?_
  refine r_istore_n ([(1, .int (-1)), (0, .ref 231)]) rfl ?_
  refine r_iconst 0 rfl ?_
  refine r_istore_n ([(2, .int 0), (1, .int (-1)), (0, .ref 231)]) rfl ?_
  refine Ar.fall 4 rfl ?_
  have z_913 : ((-1) : Int32).toInt = (-1) := rfl
  have z_914 : (0 : Int32).toInt = 0 := rfl
  refine w_loopI (fun n_ l_ g_ => ∃ x898 : Int32, ∃ x899 : Int32, n_ = 9 - x899.toInt ∧ HI g_ ∧ Fr F_X11_partAt_231 A_X11_partAt_231 g0 g_ ∧ gI g_ 231 11 = v1 ∧ en_get 0 l_ = some (.ref 231) ∧ en_get 1 l_ = some (.int x898) ∧ en_get 2 l_ = some (.int x899) ∧ ((-1) ≤ x898.toInt ∧ x898.toInt ≤ 9) ∧ (0 ≤ x899.toInt ∧ x899.toInt ≤ 9) ∧ (x898.toInt + 1 ≤ 10 * (gI g0 231 11).toInt)) ?_ (9 - 0) ⟨(-1), 0, by first | rfl | omega, hI0, hF0, hv1, rfl, rfl, rfl, by decide, by decide, by omega⟩
  rintro n904 l903 g900 ⟨x898, x899, hm915, hI901, hF902, e906, e907, e908, e909, r910, r911, q912⟩ ih905
  have tv916 := congrArg Int32.toInt e906
  refine At.enter rfl ?_
  refine r_iload_n e909 ?_
  refine r_bipush 9 rfl ?_
  refine r_ics 10 rfl (fun c917 => ?_) (fun c917 => ?_)
  · have c917_ : x899.toInt ≥ 9 := en_i_ge_t c917
    refine At.enter rfl ?_
    refine r_iload_n e908 ?_
    refine r_ireti ?_
    have x918 := HI.eqI hI901 (p := 231) (b := 11) (((hF902.1 231 11 (by decide)).trans hv1))
    have x919 := HI.eqI hI0 (p := 231) (b := 11) (hv1)
    exact ⟨_, rfl, hI901, hF902, _, rfl, by omega, (by omega)⟩
  · have c917_ : x899.toInt < 9 := en_i_ge_f c917
    refine At.enter rfl ?_
    refine r_aload_n e907 ?_
    refine r_aload_n e907 ?_
    refine q_getR (Sh.ref hI901.1 kx_231 rfl) ?_
    refine r_iload_n e909 ?_
    refine q_lald (Sh.lar hI901.1 ka_242) (x899.toInt) rfl (by omega) (fun v920 => ?_)
    have x921 := HI.eqI hI901 (p := 231) (b := 11) (((hF902.1 231 11 (by decide)).trans hv1))
    refine r_callV 20 rfl [.ref 231, .long v920] [] (Nat.le_of_ble_eq_true rfl) rfl (T_X11_isWord_231 _ hI901 v920 (by omega)) ?_
    rintro _ _ ⟨g922, rfl, hI923, hF924, v925, rfl, hr926⟩
    refine At.sti ?_
    have hF927 := Fr.tr hF902 hF924 rfl rfl
    obtain ⟨v928, hv928⟩ : ∃ v, gI g0 231 9 = v := ⟨_, rfl⟩
    have rv928 := RgF.at hI0.2.1 (p := 231) (b := 9) rfl
    rw [hv928] at rv928
    dsimp only at rv928
    have tv928 := congrArg Int32.toInt hv928
    have x929 := HI.eqI hI901 (p := 231) (b := 9) (((hF902.1 231 9 (by decide)).trans hv928))
    obtain ⟨v930, hv930⟩ : ∃ v, gI g0 231 10 = v := ⟨_, rfl⟩
    have rv930 := RgF.at hI0.2.1 (p := 231) (b := 10) rfl
    rw [hv930] at rv930
    dsimp only at rv930
    have tv930 := congrArg Int32.toInt hv930
    have x931 := HI.eqI hI901 (p := 231) (b := 10) (((hF902.1 231 10 (by decide)).trans hv930))
    have x932 := HI.eqI hI901 (p := 231) (b := 11) (((hF902.1 231 11 (by decide)).trans hv1))
    have x933 := HI.eqI hI923 (p := 231) (b := 9) ((((hF924.1 231 9 (by decide)).trans (hF902.1 231 9 (by decide))).trans hv928))
    have x934 := HI.eqI hI923 (p := 231) (b := 10) ((((hF924.1 231 10 (by decide)).trans (hF902.1 231 10 (by decide))).trans hv930))
    have x935 := HI.eqI hI923 (p := 231) (b := 11) ((((hF924.1 231 11 (by decide)).trans (hF902.1 231 11 (by decide))).trans hv1))
    obtain ⟨c938, c936, isw937⟩ := hr926
    refine At.enter rfl ?_
    refine r_ifs 23 rfl (fun c939 => ?_) (fun c939 => ?_)
    · have c939_ : v925.toInt = 0 := en_k_eq_t c939
      refine At.enter rfl ?_
      refine r_iload_n e908 ?_
      refine Ar.fall 30 rfl ?_
      refine At.enter rfl ?_
      refine r_istore_n _ rfl ?_
      refine q_iinc (w_p1 (by decide) (Or.inr rfl) e909) (x899.toInt + 1) rfl (by omega) (fun v940 hv940 => ?_)
      refine r_goto ?_
      exact ih905 (9 - v940.toInt) _ _ ⟨x898, v940, by first | rfl | omega, hI923, hF927, (((hF924.1 231 11 (by decide)).trans (hF902.1 231 11 (by decide))).trans hv1), (w_p1 (by decide) (Or.inr rfl) (w_p1 (by decide) (Or.inr rfl) e907)), (w_p1 (by decide) (Or.inr rfl) (w_e1 _ _ _)), (w_e1 _ _ _), by omega, by omega, by omega⟩ ⟨by omega, by omega⟩
    · have c939_ : v925.toInt ≠ 0 := en_k_eq_f c939
      refine At.enter rfl ?_
      refine r_iload_n e909 ?_
      refine r_iconst 1 rfl ?_
      refine q_iadd (x899.toInt + 1) rfl (by omega) (fun v941 hv941 => ?_)
      refine r_goto ?_
      refine At.enter rfl ?_
      refine r_istore_n _ rfl ?_
      refine q_iinc (w_p1 (by decide) (Or.inr rfl) e909) (x899.toInt + 1) rfl (by omega) (fun v942 hv942 => ?_)
      refine r_goto ?_
      exact ih905 (9 - v942.toInt) _ _ ⟨v941, v942, by first | rfl | omega, hI923, hF927, (((hF924.1 231 11 (by decide)).trans (hF902.1 231 11 (by decide))).trans hv1), (w_p1 (by decide) (Or.inr rfl) (w_p1 (by decide) (Or.inr rfl) e907)), (w_p1 (by decide) (Or.inr rfl) (w_e1 _ _ _)), (w_e1 _ _ _), by omega, by omega, by omega⟩ ⟨by omega, by omega⟩
