def F_X11_nobodyOut_231 : List (Nat × Nat) := []
def A_X11_nobodyOut_231 : List Nat := []
set_option maxRecDepth 100000 in
set_option maxHeartbeats 4000000 in
theorem T_X11_nobodyOut_231 (d : Nat) {N : Nat} {g0 : List en_E} (hI0 : HI g0) : Ev (d + 3) 241 [.ref 231] (g0, N) (fun w h' => ∃ g', h' = (g', N) ∧ HI g' ∧ Fr F_X11_nobodyOut_231 A_X11_nobodyOut_231 g0 g' ∧ ∃ r : Int32, w = some (.int r) ∧ (0 ≤ r.toInt ∧ r.toInt ≤ 1)) := by
  have hF0 : Fr F_X11_nobodyOut_231 A_X11_nobodyOut_231 g0 g0 := Fr.rf
  refine Ev.mk rfl rfl ⟨Nat.le_of_ble_eq_true rfl, Or.inr (q_rc hI0.1 kx_231 rfl)⟩ ?_
  show At _ none _ _ (0, [(0, .ref 231)], [], (_, _)) _
  refine At.enter rfl ?_
  refine r_iconst 1 rfl ?_
  refine r_istore_n ([(1, .int 1), (0, .ref 231)]) rfl ?_
  refine r_iconst 0 rfl ?_
  refine r_istore_n ([(2, .int 0), (1, .int 1), (0, .ref 231)]) rfl ?_
  refine Ar.fall 4 rfl ?_
  have z_658 : (1 : Int32).toInt = 1 := rfl
  have z_659 : (0 : Int32).toInt = 0 := rfl
  refine w_loopI (fun n_ l_ g_ => ∃ x645 : Int32, ∃ x646 : Int32, n_ = 8 - x646.toInt ∧ HI g_ ∧ Fr F_X11_nobodyOut_231 A_X11_nobodyOut_231 g0 g_ ∧ en_get 0 l_ = some (.ref 231) ∧ en_get 1 l_ = some (.int x645) ∧ en_get 2 l_ = some (.int x646) ∧ (0 ≤ x645.toInt ∧ x645.toInt ≤ 1) ∧ (0 ≤ x646.toInt ∧ x646.toInt ≤ 8)) ?_ (8 - 0) ⟨1, 0, by first | rfl | omega, hI0, hF0, rfl, rfl, rfl, by decide, by decide⟩
  rintro n651 l650 g647 ⟨x645, x646, hm660, hI648, hF649, e653, e654, e655, r656, r657⟩ ih652
  refine At.enter rfl ?_
  refine r_iload_n e655 ?_
  refine r_aload_n e653 ?_
  refine q_getR (Sh.ref hI648.1 kx_231 rfl) ?_
  refine r_iconst 1 rfl ?_
  obtain ⟨v661, hv661⟩ : ∃ v, eA g0 233 1 = v := ⟨_, rfl⟩
  have tv661 := congrArg Int32.toInt hv661
  have wv661 := HI.t1 hI0
  rw [hv661] at wv661
  refine q_iald (Sh.arr hI648.1 ka_233) 1 rfl (by decide) v661 ((eA_c (hF649.2.1 233 (by decide))).trans hv661) ?_
  have bv663 := q_bnd x646
  have bv664 := q_bnd v661
  refine r_ics 14 rfl (fun c662 => ?_) (fun c662 => ?_)
  · have c662_ : x646.toInt ≥ v661.toInt := en_i_ge_t c662
    refine At.enter rfl ?_
    refine r_iload_n e654 ?_
    refine r_iretz (q_b01 (by omega)) ?_
    exact ⟨_, rfl, hI648, hF649, _, rfl, by omega⟩
  · have c662_ : x646.toInt < v661.toInt := en_i_ge_f c662
    refine At.enter rfl ?_
    refine r_iload_n e654 ?_
    refine r_ifs 18 rfl (fun c665 => ?_) (fun c665 => ?_)
    · have c665_ : x645.toInt = 0 := en_k_eq_t c665
      refine At.enter rfl ?_
      refine r_iconst 0 rfl ?_
      refine Ar.fall 31 rfl ?_
      refine At.enter rfl ?_
      refine r_istore_n _ rfl ?_
      refine q_iinc (w_p1 (by decide) (Or.inr rfl) e655) (x646.toInt + 1) rfl (by omega) (fun v666 hv666 => ?_)
      refine r_goto ?_
      have zv667 : (0 : Int32).toInt = 0 := rfl
      exact ih652 (8 - v666.toInt) _ _ ⟨0, v666, by first | rfl | omega, hI648, hF649, (w_p1 (by decide) (Or.inr rfl) (w_p1 (by decide) (Or.inr rfl) e653)), (w_p1 (by decide) (Or.inr rfl) (w_e1 _ _ _)), (w_e1 _ _ _), by decide, by omega⟩ ⟨by omega, by omega⟩
    · have c665_ : x645.toInt ≠ 0 := en_k_eq_f c665
      refine At.enter rfl ?_
      refine r_aload_n e653 ?_
      refine r_iload_n e655 ?_
      refine q_inlV 23 rfl [.ref 231, .int x646] [] (Nat.le_of_ble_eq_true rfl) rfl ?_
      refine Ev.mk rfl rfl ⟨Nat.le_of_ble_eq_true rfl, Or.inr (q_rc hI648.1 kx_231 rfl)⟩ ?_
      show At _ none _ _ (0, [(0, .ref 231), (1, .int x646)], [], (_, _)) _
      refine At.enter rfl ?_
      refine r_aload_n rfl ?_
      obtain ⟨v668, hv668⟩ : ∃ v, gI g0 231 36 = v := ⟨_, rfl⟩
      refine q_getI (Sh.int hI648.1 kx_231 rfl) v668 ((hF649.1 231 36 (by decide)).trans hv668) ?_
      refine r_aload_n rfl ?_
      refine r_iload_n rfl ?_
      refine r_iconst 1 rfl ?_
      refine q_inlV 10 rfl [.ref 231, .int x646, .int 1] [.int v668] (Nat.le_of_ble_eq_true rfl) rfl ?_
      refine Ev.mk rfl rfl ⟨Nat.le_of_ble_eq_true rfl, Or.inr (q_rc hI648.1 kx_231 rfl)⟩ ?_
      show At _ none _ _ (0, [(0, .ref 231), (1, .int x646), (2, .int 1)], [], (_, _)) _
      refine At.enter rfl ?_
      refine r_aload_n rfl ?_
      refine q_getR (Sh.ref hI648.1 kx_231 rfl) ?_
      refine r_bipush 46 rfl ?_
      refine r_bipush 6 rfl ?_
      refine r_iload_n rfl ?_
      refine q_imul (6 * x646.toInt) rfl (by omega) (fun v669 hv669 => ?_)
      refine q_iadd (46 + v669.toInt) rfl (by omega) (fun v670 hv670 => ?_)
      refine r_iload_n rfl ?_
      refine q_iadd (v670.toInt + 1) rfl (by omega) (fun v671 hv671 => ?_)
      obtain ⟨v672, hv672⟩ : ∃ v, eA g0 233 (6 * x646.toInt + 47) = v := ⟨_, rfl⟩
      have wv672 := HI.l1 hI0 (j := (6 * x646.toInt + 47)) (x646.toInt) (by omega) (by omega)
      rw [hv672] at wv672
      refine q_iald (Sh.arr hI648.1 ka_233) (6 * x646.toInt + 47) (by omega) (by omega) v672 ((eA_c (hF649.2.1 233 (by decide))).trans hv672) ?_
      refine q_ireti ?_
      refine At.enter rfl ?_
      refine q_inlS 13 rfl [.int v668, .int v672] [] (Nat.le_of_ble_eq_true rfl) rfl ?_
      refine Ev.mk rfl rfl ⟨Nat.le_of_ble_eq_true rfl, Or.inl rfl⟩ ?_
      show At _ none _ _ (0, [(0, .int v668), (1, .int v672)], [], (_, _)) _
      refine At.enter rfl ?_
      refine r_iload_n rfl ?_
      refine r_iload_n rfl ?_
      refine q_ishrO (fun v673 hv673 => ?_)
      refine r_iconst 1 rfl ?_
      refine q_iandO (fun v674 hv674 => ?_)
      refine r_iconst 1 rfl ?_
      refine r_ics 9 rfl (fun c675 => ?_) (fun c675 => ?_)
      · have c675_ : v674.toInt ≠ 1 := en_i_ne_t c675
        refine At.enter rfl ?_
        refine r_iconst 0 rfl ?_
        refine Ar.fall 14 rfl ?_
        refine At.enter rfl ?_
        refine q_iretz (by decide) ?_
        refine At.enter rfl ?_
        refine r_iff 16 rfl (by decide) ?_
        refine At.enter rfl ?_
        refine r_aload_n rfl ?_
        refine q_getI (Sh.int hI648.1 kx_231 rfl) v668 ((hF649.1 231 36 (by decide)).trans hv668) ?_
        refine r_aload_n rfl ?_
        refine r_iload_n rfl ?_
        refine r_iconst 2 rfl ?_
        refine q_inlV 26 rfl [.ref 231, .int x646, .int 2] [.int v668] (Nat.le_of_ble_eq_true rfl) rfl ?_
        refine Ev.mk rfl rfl ⟨Nat.le_of_ble_eq_true rfl, Or.inr (q_rc hI648.1 kx_231 rfl)⟩ ?_
        show At _ none _ _ (0, [(0, .ref 231), (1, .int x646), (2, .int 2)], [], (_, _)) _
        refine At.enter rfl ?_
        refine r_aload_n rfl ?_
        refine q_getR (Sh.ref hI648.1 kx_231 rfl) ?_
        refine r_bipush 46 rfl ?_
        refine r_bipush 6 rfl ?_
        refine r_iload_n rfl ?_
        refine q_imul (6 * x646.toInt) rfl (by omega) (fun v676 hv676 => ?_)
        refine q_iadd (46 + v676.toInt) rfl (by omega) (fun v677 hv677 => ?_)
        refine r_iload_n rfl ?_
        refine q_iadd (v677.toInt + 2) rfl (by omega) (fun v678 hv678 => ?_)
        obtain ⟨v679, hv679⟩ : ∃ v, eA g0 233 (6 * x646.toInt + 48) = v := ⟨_, rfl⟩
        have wv679 := HI.l2 hI0 (j := (6 * x646.toInt + 48)) (x646.toInt) (by omega) (by omega)
        rw [hv679] at wv679
        refine q_iald (Sh.arr hI648.1 ka_233) (6 * x646.toInt + 48) (by omega) (by omega) v679 ((eA_c (hF649.2.1 233 (by decide))).trans hv679) ?_
        refine q_ireti ?_
        refine At.enter rfl ?_
        refine q_inlS 29 rfl [.int v668, .int v679] [] (Nat.le_of_ble_eq_true rfl) rfl ?_
        refine Ev.mk rfl rfl ⟨Nat.le_of_ble_eq_true rfl, Or.inl rfl⟩ ?_
        show At _ none _ _ (0, [(0, .int v668), (1, .int v679)], [], (_, _)) _
        refine At.enter rfl ?_
        refine r_iload_n rfl ?_
        refine r_iload_n rfl ?_
        refine q_ishrO (fun v680 hv680 => ?_)
        refine r_iconst 1 rfl ?_
        refine q_iandO (fun v681 hv681 => ?_)
        refine r_iconst 1 rfl ?_
        refine r_ics 9 rfl (fun c682 => ?_) (fun c682 => ?_)
        · have c682_ : v681.toInt ≠ 1 := en_i_ne_t c682
          refine At.enter rfl ?_
          refine r_iconst 0 rfl ?_
          refine Ar.fall 14 rfl ?_
          refine At.enter rfl ?_
          refine q_iretz (by decide) ?_
          refine At.enter rfl ?_
          refine r_iff 32 rfl (by decide) ?_
          refine At.enter rfl ?_
          refine r_iconst 1 rfl ?_
          refine r_goto ?_
          refine At.enter rfl ?_
          refine q_iretz (by decide) ?_
          refine At.enter rfl ?_
          refine r_iff 26 rfl (by decide) ?_
          refine At.enter rfl ?_
          refine r_iconst 1 rfl ?_
          refine r_goto ?_
          refine At.enter rfl ?_
          refine r_istore_n _ rfl ?_
          refine q_iinc (w_p1 (by decide) (Or.inr rfl) e655) (x646.toInt + 1) rfl (by omega) (fun v683 hv683 => ?_)
          refine r_goto ?_
          have zv684 : (1 : Int32).toInt = 1 := rfl
          exact ih652 (8 - v683.toInt) _ _ ⟨1, v683, by first | rfl | omega, hI648, hF649, (w_p1 (by decide) (Or.inr rfl) (w_p1 (by decide) (Or.inr rfl) e653)), (w_p1 (by decide) (Or.inr rfl) (w_e1 _ _ _)), (w_e1 _ _ _), by decide, by omega⟩ ⟨by omega, by omega⟩
        · have c682_ : v681.toInt = 1 := en_i_ne_f c682
          refine At.enter rfl ?_
          refine r_iconst 1 rfl ?_
          refine r_goto ?_
          refine At.enter rfl ?_
          refine q_iretz (by decide) ?_
          refine At.enter rfl ?_
          refine r_ift (by decide) ?_
          refine At.enter rfl ?_
          refine r_iconst 0 rfl ?_
          refine Ar.fall 37 rfl ?_
          refine At.enter rfl ?_
          refine q_iretz (by decide) ?_
          refine At.enter rfl ?_
          refine r_ift (by decide) ?_
          refine At.enter rfl ?_
          refine r_iconst 0 rfl ?_
          refine Ar.fall 31 rfl ?_
          refine At.enter rfl ?_
          refine r_istore_n _ rfl ?_
          refine q_iinc (w_p1 (by decide) (Or.inr rfl) e655) (x646.toInt + 1) rfl (by omega) (fun v685 hv685 => ?_)
          refine r_goto ?_
          have zv686 : (0 : Int32).toInt = 0 := rfl
          exact ih652 (8 - v685.toInt) _ _ ⟨0, v685, by first | rfl | omega, hI648, hF649, (w_p1 (by decide) (Or.inr rfl) (w_p1 (by decide) (Or.inr rfl) e653)), (w_p1 (by decide) (Or.inr rfl) (w_e1 _ _ _)), (w_e1 _ _ _), by decide, by omega⟩ ⟨by omega, by omega⟩
      · have c675_ : v674.toInt = 1 := en_i_ne_f c675
        refine At.enter rfl ?_
        refine r_iconst 1 rfl ?_
        refine r_goto ?_
        refine At.enter rfl ?_
        refine q_iretz (by decide) ?_
        refine At.enter rfl ?_
        refine r_ift (by decide) ?_
        refine At.enter rfl ?_
        refine r_iconst 0 rfl ?_
        refine Ar.fall 37 rfl ?_
        refine At.enter rfl ?_
        refine q_iretz (by decide) ?_
        refine At.enter rfl ?_
        refine r_ift (by decide) ?_
        refine At.enter rfl ?_
        refine r_iconst 0 rfl ?_
        refine Ar.fall 31 rfl ?_
        refine At.enter rfl ?_
        refine r_istore_n _ rfl ?_
        refine q_iinc (w_p1 (by decide) (Or.inr rfl) e655) (x646.toInt + 1) rfl (by omega) (fun v687 hv687 => ?_)
        refine r_goto ?_
        have zv688 : (0 : Int32).toInt = 0 := rfl
        exact ih652 (8 - v687.toInt) _ _ ⟨0, v687, by first | rfl | omega, hI648, hF649, (w_p1 (by decide) (Or.inr rfl) (w_p1 (by decide) (Or.inr rfl) e653)), (w_p1 (by decide) (Or.inr rfl) (w_e1 _ _ _)), (w_e1 _ _ _), by decide, by omega⟩ ⟨by omega, by omega⟩

def F_X11_home_231 : List (Nat × Nat) := [(231, 0), (231, 27), (231, 30), (231, 31), (231, 32), (231, 36)]
def A_X11_home_231 : List Nat := [246, 247, 248, 250, 251, 252, 253, 254, 255, 256]
set_option maxRecDepth 100000 in
set_option maxHeartbeats 4000000 in
theorem T_X11_home_231 (d : Nat) {N : Nat} {g0 : List en_E} (hI0 : HI g0) (a1 : Int32) : Ev (d + 9) 242 [.ref 231, .int a1] (g0, N) (fun w h' => ∃ g', h' = (g', N) ∧ HI g' ∧ Fr F_X11_home_231 A_X11_home_231 g0 g' ∧ ∃ r : Int32, w = some (.int r) ∧ ((-1) ≤ r.toInt)) := by
  have hF0 : Fr F_X11_home_231 A_X11_home_231 g0 g0 := Fr.rf
  refine Ev.mk rfl rfl ⟨Nat.le_of_ble_eq_true rfl, Or.inr (q_rc hI0.1 kx_231 rfl)⟩ ?_
  show At _ none _ _ (0, [(0, .ref 231), (1, .int a1)], [], (_, _)) _
  refine At.enter rfl ?_
  refine r_aload_n rfl ?_
  refine r_iconst 0 rfl ?_
  refine q_putI (Sh.int hI0.1 kx_231 rfl) rfl ?_
  have hI14029 := HI.wI0 hI0 kx_231 rfl (p := 231) (b := 0) (v := 0) rfl
  have hF14030 := Fr.wI (p := 231) (b := 0) (v := 0) hF0 rfl
  refine r_iload_n rfl ?_
  refine q_i2l (fun v14031 hv14031 => ?_)
  refine r_lconst 0 rfl ?_
  refine r_ldc2 2 rfl ?_
  refine q_inlS 14 rfl [.long v14031, .long 0, .long 2] [] (Nat.le_of_ble_eq_true rfl) rfl ?_
  refine Ev.mk rfl rfl ⟨Nat.le_of_ble_eq_true rfl, Or.inl rfl⟩ ?_
  show At _ none _ _ (0, [(0, .long v14031), (2, .long 0), (4, .long 2)], [], (_, _)) _
  refine At.enter rfl ?_
  refine r_lload_n rfl ?_
  refine r_lload_n rfl ?_
  refine r_lcmp _ rfl ?_
  refine r_ifs 6 rfl (fun c14032 => ?_) (fun c14032 => ?_)
  · have c14032_ : v14031.toInt < 0 := en_j_lt_t c14032
    refine At.enter rfl ?_
    refine r_iconst 0 rfl ?_
    refine Ar.fall 18 rfl ?_
    refine At.enter rfl ?_
    refine q_iretz (by decide) ?_
    refine At.enter rfl ?_
    refine r_iff 17 rfl (by decide) ?_
    refine At.enter rfl ?_
    refine r_iconst (-1) rfl ?_
    refine r_ireti ?_
    exact ⟨_, rfl, hI14029, hF14030, _, rfl, by decide⟩
  · have c14032_ : v14031.toInt ≥ 0 := en_j_lt_f c14032
    refine At.enter rfl ?_
    refine r_lload_n rfl ?_
    refine r_lload rfl ?_
    refine r_lcmp _ rfl ?_
    refine r_ifs 13 rfl (fun c14033 => ?_) (fun c14033 => ?_)
    · have c14033_ : v14031.toInt > 2 := en_j_gt_t c14033
      refine At.enter rfl ?_
      refine r_iconst 0 rfl ?_
      refine Ar.fall 18 rfl ?_
      refine At.enter rfl ?_
      refine q_iretz (by decide) ?_
      refine At.enter rfl ?_
      refine r_iff 17 rfl (by decide) ?_
      refine At.enter rfl ?_
      refine r_iconst (-1) rfl ?_
      refine r_ireti ?_
      exact ⟨_, rfl, hI14029, hF14030, _, rfl, by decide⟩
    · have c14033_ : v14031.toInt ≤ 2 := en_j_gt_f c14033
      refine At.enter rfl ?_
      refine r_iconst 1 rfl ?_
      refine r_goto ?_
      refine At.enter rfl ?_
      refine q_iretz (by decide) ?_
      refine At.enter rfl ?_
      refine r_ift (by decide) ?_
      refine At.enter rfl ?_
      refine r_iconst 0 rfl ?_
      refine r_istore_n ([(2, .int 0), (0, .ref 231), (1, .int a1)]) rfl ?_
      refine Ar.fall 21 rfl ?_
      have z_19876 : (0 : Int32).toInt = 0 := rfl
      refine w_loopI (fun n_ l_ g_ => ∃ x19865 : Int32, n_ = 4 - x19865.toInt ∧ HI g_ ∧ Fr F_X11_home_231 A_X11_home_231 g0 g_ ∧ en_get 0 l_ = some (.ref 231) ∧ en_get 1 l_ = some (.int a1) ∧ en_get 2 l_ = some (.int x19865) ∧ (0 ≤ x19865.toInt ∧ x19865.toInt ≤ 4)) ?_ (4 - 0) ⟨0, by first | rfl | omega, hI14029, hF14030, rfl, rfl, rfl, by decide⟩
      rintro n19870 l19869 g19866 ⟨x19865, hm19877, hI19867, hF19868, e19872, e19873, e19874, r19875⟩ ih19871
      refine At.enter rfl ?_
      refine r_iload_n e19874 ?_
      refine r_iconst 4 rfl ?_
      refine r_ics 26 rfl (fun c19878 => ?_) (fun c19878 => ?_)
      · have c19878_ : x19865.toInt ≥ 4 := en_i_ge_t c19878
        refine At.enter rfl ?_
        refine r_iload_n e19873 ?_
        refine r_iconst 2 rfl ?_
        refine r_ics 142 rfl (fun c19879 => ?_) (fun c19879 => ?_)
        · have c19879_ : a1.toInt ≠ 2 := en_i_ne_t c19879
          refine At.enter rfl ?_
          refine r_iconst (-1) rfl ?_
          refine Ar.fall 147 rfl ?_
          refine At.enter rfl ?_
          refine r_ireti ?_
          exact ⟨_, rfl, hI19867, hF19868, _, rfl, by decide⟩
        · have c19879_ : a1.toInt = 2 := en_i_ne_f c19879
          refine At.enter rfl ?_
          refine r_iconst 0 rfl ?_
          refine r_goto ?_
          refine At.enter rfl ?_
          refine r_ireti ?_
          exact ⟨_, rfl, hI19867, hF19868, _, rfl, by decide⟩
      · have c19878_ : x19865.toInt < 4 := en_i_ge_f c19878
        refine At.enter rfl ?_
        refine r_iconst 0 rfl ?_
        refine r_istore_n _ rfl ?_
        refine r_iconst (-1) rfl ?_
        refine r_istore _ rfl ?_
        refine r_iconst 0 rfl ?_
        refine r_istore _ rfl ?_
        refine Ar.fall 34 rfl ?_
        have z_20993 : (0 : Int32).toInt = 0 := rfl
        have z_20994 : ((-1) : Int32).toInt = (-1) := rfl
        have z_20995 : (0 : Int32).toInt = 0 := rfl
        refine w_loopI (fun n_ l_ g_ => ∃ x20976 : Int32, ∃ x20977 : Int32, ∃ x20978 : Int32, n_ = 2147483647 - x20978.toInt ∧ HI g_ ∧ Fr F_X11_home_231 A_X11_home_231 g0 g_ ∧ en_get 0 l_ = some (.ref 231) ∧ en_get 1 l_ = some (.int a1) ∧ en_get 2 l_ = some (.int x19865) ∧ en_get 3 l_ = some (.int x20976) ∧ en_get 4 l_ = some (.int x20977) ∧ en_get 5 l_ = some (.int x20978) ∧ (-1) ≤ x20977.toInt ∧ 0 ≤ x20978.toInt) ?_ (2147483647 - 0) ⟨0, (-1), 0, by first | rfl | omega, hI19867, hF19868, (w_p1 (by decide) (Or.inr rfl) (w_p1 (by decide) (Or.inr rfl) (w_p1 (by decide) (Or.inr rfl) e19872))), (w_p1 (by decide) (Or.inr rfl) (w_p1 (by decide) (Or.inr rfl) (w_p1 (by decide) (Or.inr rfl) e19873))), (w_p1 (by decide) (Or.inr rfl) (w_p1 (by decide) (Or.inr rfl) (w_p1 (by decide) (Or.inr rfl) e19874))), (w_p1 (by decide) (Or.inr rfl) (w_p1 (by decide) (Or.inr rfl) (w_e1 _ _ _))), (w_p1 (by decide) (Or.inr rfl) (w_e1 _ _ _)), (w_e1 _ _ _), by decide, by decide⟩
        rintro n20983 l20982 g20979 ⟨x20976, x20977, x20978, hm20996, hI20980, hF20981, e20985, e20986, e20987, e20988, e20989, e20990, r20991, r20992⟩ ih20984
        refine At.enter rfl ?_
        refine r_iload e20990 ?_
        refine r_iconst 1 rfl ?_
        refine r_aload_n e20985 ?_
        refine q_getR (Sh.ref hI20980.1 kx_231 rfl) ?_
        refine r_iconst 0 rfl ?_
        obtain ⟨v20997, hv20997⟩ : ∃ v, eA g0 233 0 = v := ⟨_, rfl⟩
        have tv20997 := congrArg Int32.toInt hv20997
        have wv20997 := HI.t0 hI0
        rw [hv20997] at wv20997
        refine q_iald (Sh.arr hI20980.1 ka_233) 0 rfl (by decide) v20997 ((eA_c (hF20981.2.1 233 (by decide))).trans hv20997) ?_
        refine q_ishlO (fun v20998 hv20998 => ?_)
        have bv21000 := q_bnd x20978
        have bv21001 := q_bnd v20998
        refine r_ics 47 rfl (fun c20999 => ?_) (fun c20999 => ?_)
        · have c20999_ : x20978.toInt ≥ v20998.toInt := en_i_ge_t c20999
          refine At.enter rfl ?_
          refine r_iload_n e20988 ?_
          refine r_ifs 111 rfl (fun c21002 => ?_) (fun c21002 => ?_)
          · have c21002_ : x20976.toInt ≤ 0 := en_k_le_t c21002
            refine At.enter rfl ?_
            refine q_iinc e20987 (x19865.toInt + 1) rfl (by omega) (fun v21003 hv21003 => ?_)
            refine r_goto ?_
            exact ih19871 (4 - v21003.toInt) _ _ ⟨v21003, by first | rfl | omega, hI20980, hF20981, (w_p1 (by decide) (Or.inr rfl) e20985), (w_p1 (by decide) (Or.inr rfl) e20986), (w_e1 _ _ _), by omega⟩ ⟨by omega, by omega⟩
          · have c21002_ : x20976.toInt > 0 := en_k_le_f c21002
            refine At.enter rfl ?_
            refine r_iload_n e20986 ?_
            refine r_ifs 115 rfl (fun c21004 => ?_) (fun c21004 => ?_)
            · have c21004_ : a1.toInt ≠ 0 := en_k_ne_t c21004
              refine At.enter rfl ?_
              refine r_iload_n e20986 ?_
              refine r_iconst 1 rfl ?_
              refine r_ics 124 rfl (fun c21005 => ?_) (fun c21005 => ?_)
              · have c21005_ : a1.toInt ≠ 1 := en_i_ne_t c21005
                refine At.enter rfl ?_
                refine r_iload_n e20988 ?_
                refine Ar.fall 130 rfl ?_
                refine At.enter rfl ?_
                refine r_ireti ?_
                exact ⟨_, rfl, hI20980, hF20981, _, rfl, by omega⟩
              · have c21005_ : a1.toInt = 1 := en_i_ne_f c21005
                refine At.enter rfl ?_
                refine r_iload e20989 ?_
                refine r_goto ?_
                refine At.enter rfl ?_
                refine r_ireti ?_
                exact ⟨_, rfl, hI20980, hF20981, _, rfl, by omega⟩
            · have c21004_ : a1.toInt = 0 := en_k_ne_f c21004
              refine At.enter rfl ?_
              refine r_iload_n e20987 ?_
              refine r_goto ?_
              refine At.enter rfl ?_
              refine r_ireti ?_
              exact ⟨_, rfl, hI20980, hF20981, _, rfl, by omega⟩
        · have c20999_ : x20978.toInt < v20998.toInt := en_i_ge_f c20999
          refine At.enter rfl ?_
          refine r_iload e20990 ?_
          refine r_callS 52 rfl [.int x20978] [] (Nat.le_of_ble_eq_true rfl) rfl (T_X11_bits _ hI20980 x20978) ?_
          rintro _ _ ⟨g21006, rfl, hI21007, hF21008, v21009, rfl, hr21010⟩
          refine At.sti ?_
          have hF21011 := Fr.tr hF20981 hF21008 rfl rfl
          refine At.enter rfl ?_
          refine r_iload_n e20987 ?_
          refine r_ics 56 rfl (fun c21012 => ?_) (fun c21012 => ?_)
          · have c21012_ : v21009.toInt ≠ x19865.toInt := en_i_ne_t c21012
            refine At.enter rfl ?_
            refine q_iinc e20990 (x20978.toInt + 1) rfl (by omega) (fun v21013 hv21013 => ?_)
            refine r_goto ?_
            have bv21014 := q_bnd x20976
            have bv21015 := q_bnd x20977
            have bv21016 := q_bnd v21013
            exact ih20984 (2147483647 - v21013.toInt) _ _ ⟨x20976, x20977, v21013, by first | rfl | omega, hI21007, hF21011, (w_p1 (by decide) (Or.inr rfl) e20985), (w_p1 (by decide) (Or.inr rfl) e20986), (w_p1 (by decide) (Or.inr rfl) e20987), (w_p1 (by decide) (Or.inr rfl) e20988), (w_p1 (by decide) (Or.inr rfl) e20989), (w_e1 _ _ _), by omega, by omega⟩ ⟨by omega, by omega⟩
          · have c21012_ : v21009.toInt = x19865.toInt := en_i_ne_f c21012
            refine At.enter rfl ?_
            refine r_aload_n e20985 ?_
            refine r_callV 60 rfl [.ref 231] [] (Nat.le_of_ble_eq_true rfl) rfl (T_X11_asIs_231 _ hI21007) ?_
            rintro _ _ ⟨g21017, rfl, hI21018, hF21019, rfl, hr21021⟩
            refine At.stn ?_
            have hF21022 := Fr.tr hF21011 hF21019 rfl rfl
            refine At.enter rfl ?_
            refine r_aload_n e20985 ?_
            refine r_iload e20990 ?_
            refine q_putI (Sh.int hI21018.1 kx_231 rfl) rfl ?_
            have hI21023 := HI.wI0 hI21018 kx_231 rfl (p := 231) (b := 36) (v := x20978) rfl
            have hF21024 := Fr.wI (p := 231) (b := 36) (v := x20978) hF21022 rfl
            refine r_aload_n e20985 ?_
            refine r_callV 70 rfl [.ref 231] [] (Nat.le_of_ble_eq_true rfl) rfl (T_X11_nobodyOut_231 _ hI21023) ?_
            rintro _ _ ⟨g21025, rfl, hI21026, hF21027, v21028, rfl, hr21029⟩
            refine At.sti ?_
            have hF21030 := Fr.tr hF21024 hF21027 rfl rfl
            refine At.enter rfl ?_
            refine r_ifs 73 rfl (fun c21031 => ?_) (fun c21031 => ?_)
            · have c21031_ : v21028.toInt = 0 := en_k_eq_t c21031
              refine At.enter rfl ?_
              refine q_iinc e20990 (x20978.toInt + 1) rfl (by omega) (fun v21032 hv21032 => ?_)
              refine r_goto ?_
              have bv21033 := q_bnd x20976
              have bv21034 := q_bnd x20977
              have bv21035 := q_bnd v21032
              exact ih20984 (2147483647 - v21032.toInt) _ _ ⟨x20976, x20977, v21032, by first | rfl | omega, hI21026, hF21030, (w_p1 (by decide) (Or.inr rfl) e20985), (w_p1 (by decide) (Or.inr rfl) e20986), (w_p1 (by decide) (Or.inr rfl) e20987), (w_p1 (by decide) (Or.inr rfl) e20988), (w_p1 (by decide) (Or.inr rfl) e20989), (w_e1 _ _ _), by omega, by omega⟩ ⟨by omega, by omega⟩
            · have c21031_ : v21028.toInt ≠ 0 := en_k_eq_f c21031
              refine At.enter rfl ?_
              refine r_aload_n e20985 ?_
              refine r_sipush 255 rfl ?_
              refine r_bipush 99 rfl ?_
              refine r_callV 82 rfl [.ref 231, .int 255, .int 99] [] (Nat.le_of_ble_eq_true rfl) rfl (T_X11_allCome_231 _ hI21026 255 99) ?_
              rintro _ _ ⟨g21036, rfl, hI21037, hF21038, v21039, rfl, hr21040⟩
              refine At.sti ?_
              have hF21041 := Fr.tr hF21030 hF21038 rfl rfl
              refine At.enter rfl ?_
              refine r_ifs 85 rfl (fun c21042 => ?_) (fun c21042 => ?_)
              · have c21042_ : v21039.toInt = 0 := en_k_eq_t c21042
                refine At.enter rfl ?_
                refine q_iinc e20990 (x20978.toInt + 1) rfl (by omega) (fun v21043 hv21043 => ?_)
                refine r_goto ?_
                have bv21044 := q_bnd x20976
                have bv21045 := q_bnd x20977
                have bv21046 := q_bnd v21043
                exact ih20984 (2147483647 - v21043.toInt) _ _ ⟨x20976, x20977, v21043, by first | rfl | omega, hI21037, hF21041, (w_p1 (by decide) (Or.inr rfl) e20985), (w_p1 (by decide) (Or.inr rfl) e20986), (w_p1 (by decide) (Or.inr rfl) e20987), (w_p1 (by decide) (Or.inr rfl) e20988), (w_p1 (by decide) (Or.inr rfl) e20989), (w_e1 _ _ _), by omega, by omega⟩ ⟨by omega, by omega⟩
              · have c21042_ : v21039.toInt ≠ 0 := en_k_eq_f c21042
                refine At.enter rfl ?_
                refine r_iload_n e20988 ?_
                refine r_ifs 89 rfl (fun c21047 => ?_) (fun c21047 => ?_)
                · have c21047_ : x20976.toInt ≠ 0 := en_k_ne_t c21047
                  refine At.enter rfl ?_
                  refine r_iload e20989 ?_
                  refine Ar.fall 96 rfl ?_
                  refine At.enter rfl ?_
                  refine r_istore _ rfl ?_
                  refine q_iincO (w_p1 (by decide) (Or.inr rfl) e20988) (fun v21048 _ => ?_)
                  refine Ar.fall 101 rfl ?_
                  refine At.enter rfl ?_
                  refine q_iinc (w_p1 (by decide) (Or.inr rfl) (w_p1 (by decide) (Or.inr rfl) e20990)) (x20978.toInt + 1) rfl (by omega) (fun v21049 hv21049 => ?_)
                  refine r_goto ?_
                  have bv21050 := q_bnd v21048
                  have bv21051 := q_bnd x20977
                  have bv21052 := q_bnd v21049
                  exact ih20984 (2147483647 - v21049.toInt) _ _ ⟨v21048, x20977, v21049, by first | rfl | omega, hI21037, hF21041, (w_p1 (by decide) (Or.inr rfl) (w_p1 (by decide) (Or.inr rfl) (w_p1 (by decide) (Or.inr rfl) e20985))), (w_p1 (by decide) (Or.inr rfl) (w_p1 (by decide) (Or.inr rfl) (w_p1 (by decide) (Or.inr rfl) e20986))), (w_p1 (by decide) (Or.inr rfl) (w_p1 (by decide) (Or.inr rfl) (w_p1 (by decide) (Or.inr rfl) e20987))), (w_p1 (by decide) (Or.inr rfl) (w_e1 _ _ _)), (w_p1 (by decide) (Or.inr rfl) (w_p1 (by decide) (Or.inr rfl) (w_e1 _ _ _))), (w_e1 _ _ _), by omega, by omega⟩ ⟨by omega, by omega⟩
                · have c21047_ : x20976.toInt = 0 := en_k_ne_f c21047
                  refine At.enter rfl ?_
                  refine r_iload e20990 ?_
                  refine r_goto ?_
                  refine At.enter rfl ?_
                  refine r_istore _ rfl ?_
                  refine q_iinc (w_p1 (by decide) (Or.inr rfl) e20988) (x20976.toInt + 1) rfl (by omega) (fun v21053 hv21053 => ?_)
                  refine Ar.fall 101 rfl ?_
                  refine At.enter rfl ?_
                  refine q_iinc (w_p1 (by decide) (Or.inr rfl) (w_p1 (by decide) (Or.inr rfl) e20990)) (x20978.toInt + 1) rfl (by omega) (fun v21054 hv21054 => ?_)
                  refine r_goto ?_
                  have bv21055 := q_bnd v21053
                  have bv21056 := q_bnd x20978
                  have bv21057 := q_bnd v21054
                  exact ih20984 (2147483647 - v21054.toInt) _ _ ⟨v21053, x20978, v21054, by first | rfl | omega, hI21037, hF21041, (w_p1 (by decide) (Or.inr rfl) (w_p1 (by decide) (Or.inr rfl) (w_p1 (by decide) (Or.inr rfl) e20985))), (w_p1 (by decide) (Or.inr rfl) (w_p1 (by decide) (Or.inr rfl) (w_p1 (by decide) (Or.inr rfl) e20986))), (w_p1 (by decide) (Or.inr rfl) (w_p1 (by decide) (Or.inr rfl) (w_p1 (by decide) (Or.inr rfl) e20987))), (w_p1 (by decide) (Or.inr rfl) (w_e1 _ _ _)), (w_p1 (by decide) (Or.inr rfl) (w_p1 (by decide) (Or.inr rfl) (w_e1 _ _ _))), (w_e1 _ _ _), by omega, by omega⟩ ⟨by omega, by omega⟩
