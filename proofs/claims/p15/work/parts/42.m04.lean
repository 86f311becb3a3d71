def F_X11_feeOf_231 : List (Nat × Nat) := [(231, 27), (231, 30), (231, 31), (231, 32)]
def A_X11_feeOf_231 : List Nat := []
set_option maxRecDepth 100000 in
set_option maxHeartbeats 4000000 in
theorem T_X11_feeOf_231 (d : Nat) {N : Nat} {g0 : List en_E} (hI0 : HI g0) (a1 : Int32) (h_a1 : 0 ≤ a1.toInt ∧ a1.toInt ≤ 7) (a2 : Int32) (h_a2 : 0 ≤ a2.toInt ∧ a2.toInt ≤ 11) : Ev (d + 5) 217 [.ref 231, .int a1, .int a2] (g0, N) (fun w h' => ∃ g', h' = (g', N) ∧ HI g' ∧ Fr F_X11_feeOf_231 A_X11_feeOf_231 g0 g' ∧ ∃ r : Int32, w = some (.int r) ∧ True) := by
  have hF0 : Fr F_X11_feeOf_231 A_X11_feeOf_231 g0 g0 := Fr.rf
  refine Ev.mk rfl rfl ⟨Nat.le_of_ble_eq_true rfl, Or.inr (q_rc hI0.1 kx_231 rfl)⟩ ?_
  show At _ none _ _ (0, [(0, .ref 231), (1, .int a1), (2, .int a2)], [], (_, _)) _
  refine At.enter rfl ?_
  refine r_aload_n rfl ?_
  refine r_iconst 1 rfl ?_
  refine r_iload_n rfl ?_
  refine r_iload_n rfl ?_
  refine r_iconst 0 rfl ?_
  refine r_iconst 0 rfl ?_
  refine r_aload_n rfl ?_
  refine q_getR (Sh.ref hI0.1 kx_231 rfl) ?_
  refine r_iload_n rfl ?_
  obtain ⟨v23, hv23⟩ : ∃ v, eA g0 247 a2.toInt = v := ⟨_, rfl⟩
  refine q_iald (Sh.arr hI0.1 ka_247) a2.toInt rfl (by omega) v23 hv23 ?_
  refine q_i2l (fun v24 hv24 => ?_)
  refine r_callV 16 rfl [.ref 231, .int 1, .int a1, .int a2, .int 0, .int 0, .long v24] [] (Nat.le_of_ble_eq_true rfl) rfl (T_X11_tells_231 _ hI0 1 a1 (by omega) a2 (by omega) 0 0 v24) ?_
  rintro _ _ ⟨g25, rfl, hI26, hF27, v28, rfl, hr29⟩
  refine At.stl ?_
  have hF30 := Fr.tr hF0 hF27 rfl rfl
  refine At.enter rfl ?_
  refine r_lstore_n ([(3, .long v28), (0, .ref 231), (1, .int a1), (2, .int a2)]) rfl ?_
  refine r_lload_n rfl ?_
  refine r_lconst 0 rfl ?_
  refine r_lcmp _ rfl ?_
  refine r_ifs 23 rfl (fun c31 => ?_) (fun c31 => ?_)
  · have c31_ : v28.toInt ≥ 0 := en_j_ge_t c31
    refine At.enter rfl ?_
    refine r_lload_n rfl ?_
    refine r_ldc2 999 rfl ?_
    refine r_lcmp _ rfl ?_
    refine r_ifs 35 rfl (fun c32 => ?_) (fun c32 => ?_)
    · have c32_ : v28.toInt ≤ 999 := en_j_le_t c32
      refine At.enter rfl ?_
      refine r_lload_n rfl ?_
      refine q_l2iO (fun v33 hv33 => ?_)
      refine Ar.fall 43 rfl ?_
      refine At.enter rfl ?_
      refine r_ireti ?_
      exact ⟨_, rfl, hI26, hF30, _, rfl, trivial⟩
    · have c32_ : v28.toInt > 999 := en_j_le_f c32
      refine At.enter rfl ?_
      refine r_sipush 999 rfl ?_
      refine r_goto ?_
      refine At.enter rfl ?_
      refine r_ireti ?_
      exact ⟨_, rfl, hI26, hF30, _, rfl, trivial⟩
  · have c31_ : v28.toInt < 0 := en_j_ge_f c31
    refine At.enter rfl ?_
    refine r_iconst 0 rfl ?_
    refine r_goto ?_
    refine At.enter rfl ?_
    refine r_ireti ?_
    exact ⟨_, rfl, hI26, hF30, _, rfl, trivial⟩

def F_X11_isBarred_231 : List (Nat × Nat) := [(231, 27), (231, 30), (231, 31), (231, 32)]
def A_X11_isBarred_231 : List Nat := []
set_option maxRecDepth 100000 in
set_option maxHeartbeats 4000000 in
theorem T_X11_isBarred_231 (d : Nat) {N : Nat} {g0 : List en_E} (hI0 : HI g0) (a1 : Int32) (h_a1 : 0 ≤ a1.toInt ∧ a1.toInt ≤ 7) (a2 : Int32) (h_a2 : 0 ≤ a2.toInt ∧ a2.toInt ≤ 11) (a3 : Int32) (a4 : Int32) : Ev (d + 5) 218 [.ref 231, .int a1, .int a2, .int a3, .int a4] (g0, N) (fun w h' => ∃ g', h' = (g', N) ∧ HI g' ∧ Fr F_X11_isBarred_231 A_X11_isBarred_231 g0 g' ∧ ∃ r : Int32, w = some (.int r) ∧ (0 ≤ r.toInt ∧ r.toInt ≤ 1)) := by
  have hF0 : Fr F_X11_isBarred_231 A_X11_isBarred_231 g0 g0 := Fr.rf
  refine Ev.mk rfl rfl ⟨Nat.le_of_ble_eq_true rfl, Or.inr (q_rc hI0.1 kx_231 rfl)⟩ ?_
  show At _ none _ _ (0, [(0, .ref 231), (1, .int a1), (2, .int a2), (3, .int a3), (4, .int a4)], [], (_, _)) _
  refine At.enter rfl ?_
  refine r_aload_n rfl ?_
  refine r_iconst 2 rfl ?_
  refine r_iload_n rfl ?_
  refine r_iload_n rfl ?_
  refine r_iload_n rfl ?_
  refine r_iload rfl ?_
  refine r_lconst 0 rfl ?_
  refine r_callV 11 rfl [.ref 231, .int 2, .int a1, .int a2, .int a3, .int a4, .long 0] [] (Nat.le_of_ble_eq_true rfl) rfl (T_X11_tells_231 _ hI0 2 a1 (by omega) a2 (by omega) a3 a4 0) ?_
  rintro _ _ ⟨g15, rfl, hI16, hF17, v18, rfl, hr19⟩
  refine At.stl ?_
  have hF20 := Fr.tr hF0 hF17 rfl rfl
  refine At.enter rfl ?_
  refine r_lconst 1 rfl ?_
  refine r_lcmp _ rfl ?_
  refine r_ifs 16 rfl (fun c21 => ?_) (fun c21 => ?_)
  · have c21_ : v18.toInt ≠ 1 := en_j_ne_t c21
    refine At.enter rfl ?_
    refine r_iconst 0 rfl ?_
    refine Ar.fall 21 rfl ?_
    refine At.enter rfl ?_
    refine r_iretz (by decide) ?_
    exact ⟨_, rfl, hI16, hF20, _, rfl, by decide⟩
  · have c21_ : v18.toInt = 1 := en_j_ne_f c21
    refine At.enter rfl ?_
    refine r_iconst 1 rfl ?_
    refine r_goto ?_
    refine At.enter rfl ?_
    refine r_iretz (by decide) ?_
    exact ⟨_, rfl, hI16, hF20, _, rfl, by decide⟩

def F_X11_findWay_231 : List (Nat × Nat) := []
def A_X11_findWay_231 : List Nat := [249]
theorem ma_X11_nextOf_231_249 : memA A_X11_nextOf_231 249 = false := by decide
set_option maxRecDepth 100000 in
set_option maxHeartbeats 4000000 in
theorem T_X11_findWay_231 (d : Nat) {N : Nat} {g0 : List en_E} (hI0 : HI g0) (a1 : Int32) (h_a1 : 0 ≤ a1.toInt ∧ a1.toInt ≤ 7) (hl : a1.toInt < (eA g0 233 1).toInt) : Ev (d + 4) 219 [.ref 231, .int a1] (g0, N) (fun w h' => ∃ g', h' = (g', N) ∧ HI g' ∧ Fr F_X11_findWay_231 A_X11_findWay_231 g0 g' ∧ ∃ r : Int32, w = some (.int r) ∧ ((-1) ≤ r.toInt ∧ r.toInt ≤ 12) ∧ (∀ j : Int, 0 ≤ j → j ≤ r.toInt → (eA g' 249 j).toInt < (eA g0 233 0).toInt)) := by
  have hF0 : Fr F_X11_findWay_231 A_X11_findWay_231 g0 g0 := Fr.rf
  refine Ev.mk rfl rfl ⟨Nat.le_of_ble_eq_true rfl, Or.inr (q_rc hI0.1 kx_231 rfl)⟩ ?_
  show At _ none _ _ (0, [(0, .ref 231), (1, .int a1)], [], (_, _)) _
  refine At.enter rfl ?_
  refine r_aload_n rfl ?_
  refine r_iload_n rfl ?_
  refine r_iconst 1 rfl ?_
  refine q_inlV 6 rfl [.ref 231, .int a1, .int 1] [] (Nat.le_of_ble_eq_true rfl) rfl ?_
  refine Ev.mk rfl rfl ⟨Nat.le_of_ble_eq_true rfl, Or.inr (q_rc hI0.1 kx_231 rfl)⟩ ?_
  show At _ none _ _ (0, [(0, .ref 231), (1, .int a1), (2, .int 1)], [], (_, _)) _
  refine At.enter rfl ?_
  refine r_aload_n rfl ?_
  refine q_getR (Sh.ref hI0.1 kx_231 rfl) ?_
  refine r_bipush 46 rfl ?_
  refine r_bipush 6 rfl ?_
  refine r_iload_n rfl ?_
  refine q_imul (6 * a1.toInt) rfl (by omega) (fun v519 hv519 => ?_)
  refine q_iadd (46 + v519.toInt) rfl (by omega) (fun v520 hv520 => ?_)
  refine r_iload_n rfl ?_
  refine q_iadd (v520.toInt + 1) rfl (by omega) (fun v521 hv521 => ?_)
  obtain ⟨v522, hv522⟩ : ∃ v, eA g0 233 (6 * a1.toInt + 47) = v := ⟨_, rfl⟩
  have wv522 := HI.l1 hI0 (j := (6 * a1.toInt + 47)) (a1.toInt) (by omega) (by omega)
  rw [hv522] at wv522
  refine q_iald (Sh.arr hI0.1 ka_233) (6 * a1.toInt + 47) (by omega) (by omega) v522 hv522 ?_
  refine q_ireti ?_
  refine At.enter rfl ?_
  refine r_istore_n ([(2, .int v522), (0, .ref 231), (1, .int a1)]) rfl ?_
  refine r_iconst 0 rfl ?_
  refine r_istore_n ([(3, .int 0), (2, .int v522), (0, .ref 231), (1, .int a1)]) rfl ?_
  refine Ar.fall 9 rfl ?_
  have z_759 : (0 : Int32).toInt = 0 := rfl
  refine w_loopI (fun n_ l_ g_ => ∃ x743 : Int32, ∃ x744 : Int32, n_ = 13 - x744.toInt ∧ HI g_ ∧ Fr F_X11_findWay_231 A_X11_findWay_231 g0 g_ ∧ en_get 0 l_ = some (.ref 231) ∧ en_get 1 l_ = some (.int a1) ∧ en_get 2 l_ = some (.int x743) ∧ en_get 3 l_ = some (.int x744) ∧ ((-1) ≤ x743.toInt ∧ x743.toInt ≤ 11) ∧ (0 ≤ x744.toInt ∧ x744.toInt ≤ 13) ∧ (∀ j : Int, 0 ≤ j → j < x744.toInt → (eA g_ 249 j).toInt < (eA g0 233 0).toInt) ∧ (x743.toInt = -1 ∨ x743.toInt < (eA g0 233 0).toInt)) ?_ (13 - 0) ⟨v522, 0, by first | rfl | omega, hI0, hF0, rfl, rfl, rfl, rfl, by omega, by decide, (fun j h0 h1 => absurd h1 (by omega)), by omega⟩
  rintro n749 l748 g745 ⟨x743, x744, hm760, hI746, hF747, e751, e752, e753, e754, r755, r756, q757, q758⟩ ih750
  refine At.enter rfl ?_
  refine r_iload_n e754 ?_
  refine r_bipush 13 rfl ?_
  refine r_ics 15 rfl (fun c761 => ?_) (fun c761 => ?_)
  · have c761_ : x744.toInt ≥ 13 := en_i_ge_t c761
    refine At.enter rfl ?_
    refine r_iconst (-1) rfl ?_
    refine r_ireti ?_
    exact ⟨_, rfl, hI746, hF747, _, rfl, by decide, (fun j h0 h1 => absurd h1 (by have : ((-1) : Int32).toInt = -1 := rfl; omega))⟩
  · have c761_ : x744.toInt < 13 := en_i_ge_f c761
    refine At.enter rfl ?_
    refine r_iload_n e753 ?_
    refine r_iconst (-1) rfl ?_
    refine r_ics 20 rfl (fun c762 => ?_) (fun c762 => ?_)
    · have c762_ : x743.toInt = (-1) := en_i_eq_t c762
      refine At.enter rfl ?_
      refine r_iconst (-1) rfl ?_
      refine r_ireti ?_
      exact ⟨_, rfl, hI746, hF747, _, rfl, by decide, (fun j h0 h1 => absurd h1 (by have : ((-1) : Int32).toInt = -1 := rfl; omega))⟩
    · have c762_ : x743.toInt ≠ (-1) := en_i_eq_f c762
      refine At.enter rfl ?_
      refine r_aload_n e751 ?_
      refine q_getR (Sh.ref hI746.1 kx_231 rfl) ?_
      refine r_iload_n e754 ?_
      refine r_iload_n e753 ?_
      refine q_iast (Sh.arr hI746.1 ka_249) (x744.toInt) rfl (by omega) ?_
      have hI763 := HI.wA1 hI746 ka_249 (p := 249) rfl rfl (x744.toInt) (v := x743) (by dsimp only; omega)
      have hF764 := Fr.wA (p := 249) (j := x744.toInt) (v := x743) hF747 rfl
      refine r_iload_n e753 ?_
      refine r_aload_n e751 ?_
      refine r_iload_n e752 ?_
      refine r_iconst 2 rfl ?_
      refine q_inlV 34 rfl [.ref 231, .int a1, .int 2] [.int x743] (Nat.le_of_ble_eq_true rfl) rfl ?_
      refine Ev.mk rfl rfl ⟨Nat.le_of_ble_eq_true rfl, Or.inr (q_rc hI763.1 kx_231 rfl)⟩ ?_
      show At _ none _ _ (0, [(0, .ref 231), (1, .int a1), (2, .int 2)], [], (_, _)) _
      refine At.enter rfl ?_
      refine r_aload_n rfl ?_
      refine q_getR (Sh.ref hI763.1 kx_231 rfl) ?_
      refine r_bipush 46 rfl ?_
      refine r_bipush 6 rfl ?_
      refine r_iload_n rfl ?_
      refine q_imul (6 * a1.toInt) rfl (by omega) (fun v765 hv765 => ?_)
      refine q_iadd (46 + v765.toInt) rfl (by omega) (fun v766 hv766 => ?_)
      refine r_iload_n rfl ?_
      refine q_iadd (v766.toInt + 2) rfl (by omega) (fun v767 hv767 => ?_)
      obtain ⟨v768, hv768⟩ : ∃ v, eA g0 233 (6 * a1.toInt + 48) = v := ⟨_, rfl⟩
      have wv768 := HI.l2 hI0 (j := (6 * a1.toInt + 48)) (a1.toInt) (by omega) (by omega)
      rw [hv768] at wv768
      refine q_iald (Sh.arr hI763.1 ka_233) (6 * a1.toInt + 48) (by omega) (by omega) v768 ((eA_c ((gA_sA_ne (by decide)).trans (hF747.2.1 233 (by decide)))).trans hv768) ?_
      refine q_ireti ?_
      refine At.enter rfl ?_
      refine r_ics 37 rfl (fun c769 => ?_) (fun c769 => ?_)
      · have c769_ : x743.toInt ≠ v768.toInt := en_i_ne_t c769
        refine At.enter rfl ?_
        refine r_aload_n e751 ?_
        refine r_iload_n e753 ?_
        refine r_iconst 0 rfl ?_
        refine r_callV 45 rfl [.ref 231, .int x743, .int 0] [] (Nat.le_of_ble_eq_true rfl) rfl (T_X11_nextOf_231 _ hI763 x743 (by omega) 0) ?_
        rintro _ _ ⟨g770, rfl, hI771, hF772, v773, rfl, hr774⟩
        refine At.sti ?_
        have hF775 := Fr.tr hF764 hF772 rfl rfl
        have zv776 : (0 : Int32).toInt = 0 := rfl
        rw [eA_c (((gA_sA_ne (by decide)).trans (hF747.2.1 233 (by decide))))] at hr774
        refine At.enter rfl ?_
        refine r_istore_n _ rfl ?_
        refine q_iinc (w_p1 (by decide) (Or.inr rfl) e754) (x744.toInt + 1) rfl (by omega) (fun v777 hv777 => ?_)
        refine r_goto ?_
        exact ih750 (13 - v777.toInt) _ _ ⟨v773, v777, by first | rfl | omega, hI771, hF775, (w_p1 (by decide) (Or.inr rfl) (w_p1 (by decide) (Or.inr rfl) e751)), (w_p1 (by decide) (Or.inr rfl) (w_p1 (by decide) (Or.inr rfl) e752)), (w_p1 (by decide) (Or.inr rfl) (w_e1 _ _ _)), (w_e1 _ _ _), by omega, by omega, (by intro j h0 h1; exact (Decidable.em (j = x744.toInt)).elim (fun e => by rw [e, ((eA_c (hF772.2.1 249 ma_X11_nextOf_231_249)).trans (eA_sA_eq hI746.1 ka_249 rfl (by omega) (by omega)))]; omega) (fun e => by rw [((eA_c (hF772.2.1 249 ma_X11_nextOf_231_249)).trans (eA_sA_ne hI746.1 ka_249 e (by omega) h0))]; exact q757 j h0 (by omega))), by omega⟩ ⟨by omega, by omega⟩
      · have c769_ : x743.toInt = v768.toInt := en_i_ne_f c769
        refine At.enter rfl ?_
        refine r_iload_n e754 ?_
        refine r_ireti ?_
        exact ⟨_, rfl, hI763, hF764, _, rfl, by omega, (by intro j h0 h1; exact (Decidable.em (j = x744.toInt)).elim (fun e => by rw [e, ((eA_c rfl).trans (eA_sA_eq hI746.1 ka_249 rfl (by omega) (by omega)))]; omega) (fun e => by rw [((eA_c rfl).trans (eA_sA_ne hI746.1 ka_249 e (by omega) h0))]; exact q757 j h0 (by omega)))⟩

def F_X11_way_231 : List (Nat × Nat) := [(231, 0)]
def A_X11_way_231 : List Nat := [249]
set_option maxRecDepth 100000 in
set_option maxHeartbeats 4000000 in
theorem T_X11_way_231 (d : Nat) {N : Nat} {g0 : List en_E} (hI0 : HI g0) (a1 : Int32) (a2 : Int32) : Ev (d + 5) 220 [.ref 231, .int a1, .int a2] (g0, N) (fun w h' => ∃ g', h' = (g', N) ∧ HI g' ∧ Fr F_X11_way_231 A_X11_way_231 g0 g' ∧ ∃ r : Int32, w = some (.int r) ∧ ((-1) ≤ r.toInt ∧ r.toInt ≤ 12)) := by
  have hF0 : Fr F_X11_way_231 A_X11_way_231 g0 g0 := Fr.rf
  refine Ev.mk rfl rfl ⟨Nat.le_of_ble_eq_true rfl, Or.inr (q_rc hI0.1 kx_231 rfl)⟩ ?_
  show At _ none _ _ (0, [(0, .ref 231), (1, .int a1), (2, .int a2)], [], (_, _)) _
  refine At.enter rfl ?_
  refine r_aload_n rfl ?_
  refine r_iconst 0 rfl ?_
  refine q_putI (Sh.int hI0.1 kx_231 rfl) rfl ?_
  have hI45 := HI.wI0 hI0 kx_231 rfl (p := 231) (b := 0) (v := 0) rfl
  have hF46 := Fr.wI (p := 231) (b := 0) (v := 0) hF0 rfl
  refine r_aload_n rfl ?_
  refine r_iload_n rfl ?_
  refine q_inlV 10 rfl [.ref 231, .int a1] [] (Nat.le_of_ble_eq_true rfl) rfl ?_
  refine Ev.mk rfl rfl ⟨Nat.le_of_ble_eq_true rfl, Or.inr (q_rc hI45.1 kx_231 rfl)⟩ ?_
  show At _ none _ _ (0, [(0, .ref 231), (1, .int a1)], [], (_, _)) _
  refine At.enter rfl ?_
  refine r_iload_n rfl ?_
  refine q_i2l (fun v47 hv47 => ?_)
  refine r_lconst 0 rfl ?_
  refine r_aload_n rfl ?_
  refine q_getR (Sh.ref hI45.1 kx_231 rfl) ?_
  refine r_iconst 1 rfl ?_
  obtain ⟨v48, hv48⟩ : ∃ v, eA g0 233 1 = v := ⟨_, rfl⟩
  have tv48 := congrArg Int32.toInt hv48
  have wv48 := HI.t1 hI0
  rw [hv48] at wv48
  refine q_iald (Sh.arr hI45.1 ka_233) 1 rfl (by decide) v48 ((eA_c (gA_sI)).trans hv48) ?_
  refine q_i2l (fun v49 hv49 => ?_)
  refine r_lconst 1 rfl ?_
  refine q_lsub (v49.toInt - 1) rfl (by omega) (fun v50 hv50 => ?_)
  refine q_inlS 15 rfl [.long v47, .long 0, .long v50] [] (Nat.le_of_ble_eq_true rfl) rfl ?_
  refine Ev.mk rfl rfl ⟨Nat.le_of_ble_eq_true rfl, Or.inl rfl⟩ ?_
  show At _ none _ _ (0, [(0, .long v47), (2, .long 0), (4, .long v50)], [], (_, _)) _
  refine At.enter rfl ?_
  refine r_lload_n rfl ?_
  refine r_lload_n rfl ?_
  refine r_lcmp _ rfl ?_
  refine r_ifs 6 rfl (fun c51 => ?_) (fun c51 => ?_)
  · have c51_ : v47.toInt < 0 := en_j_lt_t c51
    refine At.enter rfl ?_
    refine r_iconst 0 rfl ?_
    refine Ar.fall 18 rfl ?_
    refine At.enter rfl ?_
    refine q_iretz (by decide) ?_
    refine At.enter rfl ?_
    refine q_iretz (by decide) ?_
    refine At.enter rfl ?_
    refine r_iff 13 rfl (by decide) ?_
    refine At.enter rfl ?_
    refine r_iconst (-1) rfl ?_
    refine r_ireti ?_
    exact ⟨_, rfl, hI45, hF46, _, rfl, by decide⟩
  · have c51_ : v47.toInt ≥ 0 := en_j_lt_f c51
    refine At.enter rfl ?_
    refine r_lload_n rfl ?_
    refine r_lload rfl ?_
    refine r_lcmp _ rfl ?_
    refine r_ifs 13 rfl (fun c52 => ?_) (fun c52 => ?_)
    · have c52_ : v47.toInt > v50.toInt := en_j_gt_t c52
      refine At.enter rfl ?_
      refine r_iconst 0 rfl ?_
      refine Ar.fall 18 rfl ?_
      refine At.enter rfl ?_
      refine q_iretz (by decide) ?_
      refine At.enter rfl ?_
      refine q_iretz (by decide) ?_
      refine At.enter rfl ?_
      refine r_iff 13 rfl (by decide) ?_
      refine At.enter rfl ?_
      refine r_iconst (-1) rfl ?_
      refine r_ireti ?_
      exact ⟨_, rfl, hI45, hF46, _, rfl, by decide⟩
    · have c52_ : v47.toInt ≤ v50.toInt := en_j_gt_f c52
      refine At.enter rfl ?_
      refine r_iconst 1 rfl ?_
      refine r_goto ?_
      refine At.enter rfl ?_
      refine q_iretz (by decide) ?_
      refine At.enter rfl ?_
      refine q_iretz (by decide) ?_
      refine At.enter rfl ?_
      refine r_ift (by decide) ?_
      refine At.enter rfl ?_
      refine r_aload_n rfl ?_
      refine r_iload_n rfl ?_
      refine r_callV 20 rfl [.ref 231, .int a1] [] (Nat.le_of_ble_eq_true rfl) rfl (T_X11_findWay_231 _ hI45 a1 (by omega) (by rw [eA_c ((gA_sI)), hv48]; omega)) ?_
      rintro _ _ ⟨g53, rfl, hI54, hF55, v56, rfl, hr57⟩
      refine At.sti ?_
      have hF58 := Fr.tr hF46 hF55 rfl rfl
      have fw59 : ∀ j : Int, 0 ≤ j → j ≤ v56.toInt → (eA g53 249 j).toInt < (eA g0 233 0).toInt := fun j a b => by have z := hr57.2 j a b; rw [eA_c ((gA_sI))] at z; exact z
      refine At.enter rfl ?_
      refine r_istore_n ([(3, .int v56), (0, .ref 231), (1, .int a1), (2, .int a2)]) rfl ?_
      refine r_iload_n rfl ?_
      refine r_iconst (-1) rfl ?_
      refine r_ics 26 rfl (fun c60 => ?_) (fun c60 => ?_)
      · have c60_ : v56.toInt = (-1) := en_i_eq_t c60
        refine At.enter rfl ?_
        refine r_iload_n rfl ?_
        refine r_goto ?_
        refine At.enter rfl ?_
        refine r_ireti ?_
        exact ⟨_, rfl, hI54, hF58, _, rfl, by omega⟩
      · have c60_ : v56.toInt ≠ (-1) := en_i_eq_f c60
        refine At.enter rfl ?_
        refine r_iload_n rfl ?_
        refine r_iconst (-1) rfl ?_
        refine r_ics 31 rfl (fun c61 => ?_) (fun c61 => ?_)
        · have c61_ : a2.toInt ≠ (-1) := en_i_ne_t c61
          refine At.enter rfl ?_
          refine r_iload_n rfl ?_
          refine q_i2l (fun v62 hv62 => ?_)
          refine r_lconst 0 rfl ?_
          refine r_iload_n rfl ?_
          refine q_i2l (fun v63 hv63 => ?_)
          refine q_inlS 43 rfl [.long v62, .long 0, .long v63] [] (Nat.le_of_ble_eq_true rfl) rfl ?_
          refine Ev.mk rfl rfl ⟨Nat.le_of_ble_eq_true rfl, Or.inl rfl⟩ ?_
          show At _ none _ _ (0, [(0, .long v62), (2, .long 0), (4, .long v63)], [], (_, _)) _
          refine At.enter rfl ?_
          refine r_lload_n rfl ?_
          refine r_lload_n rfl ?_
          refine r_lcmp _ rfl ?_
          refine r_ifs 6 rfl (fun c64 => ?_) (fun c64 => ?_)
          · have c64_ : v62.toInt < 0 := en_j_lt_t c64
            refine At.enter rfl ?_
            refine r_iconst 0 rfl ?_
            refine Ar.fall 18 rfl ?_
            refine At.enter rfl ?_
            refine q_iretz (by decide) ?_
            refine At.enter rfl ?_
            refine r_ift (by decide) ?_
            refine At.enter rfl ?_
            refine r_iconst (-1) rfl ?_
            refine Ar.fall 56 rfl ?_
            refine At.enter rfl ?_
            refine r_ireti ?_
            exact ⟨_, rfl, hI54, hF58, _, rfl, by decide⟩
          · have c64_ : v62.toInt ≥ 0 := en_j_lt_f c64
            refine At.enter rfl ?_
            refine r_lload_n rfl ?_
            refine r_lload rfl ?_
            refine r_lcmp _ rfl ?_
            refine r_ifs 13 rfl (fun c65 => ?_) (fun c65 => ?_)
            · have c65_ : v62.toInt > v63.toInt := en_j_gt_t c65
              refine At.enter rfl ?_
              refine r_iconst 0 rfl ?_
              refine Ar.fall 18 rfl ?_
              refine At.enter rfl ?_
              refine q_iretz (by decide) ?_
              refine At.enter rfl ?_
              refine r_ift (by decide) ?_
              refine At.enter rfl ?_
              refine r_iconst (-1) rfl ?_
              refine Ar.fall 56 rfl ?_
              refine At.enter rfl ?_
              refine r_ireti ?_
              exact ⟨_, rfl, hI54, hF58, _, rfl, by decide⟩
            · have c65_ : v62.toInt ≤ v63.toInt := en_j_gt_f c65
              refine At.enter rfl ?_
              refine r_iconst 1 rfl ?_
              refine r_goto ?_
              refine At.enter rfl ?_
              refine q_iretz (by decide) ?_
              refine At.enter rfl ?_
              refine r_iff 46 rfl (by decide) ?_
              refine At.enter rfl ?_
              refine r_aload_n rfl ?_
              refine q_getR (Sh.ref hI54.1 kx_231 rfl) ?_
              refine r_iload_n rfl ?_
              obtain ⟨v66, hv66⟩ : ∃ v, eA g53 249 a2.toInt = v := ⟨_, rfl⟩
              have rv66 := RgA.at hI54.2.2.1 (Sh.arr hI54.1 ka_249).2 (p := 249) rfl (j := a2.toInt) (by omega)
              rw [hv66] at rv66
              dsimp only at rv66
              refine q_iald (Sh.arr hI54.1 ka_249) a2.toInt rfl (by omega) v66 hv66 ?_
              refine r_goto ?_
              refine At.enter rfl ?_
              refine r_ireti ?_
              exact ⟨_, rfl, hI54, hF58, _, rfl, by omega⟩
        · have c61_ : a2.toInt = (-1) := en_i_ne_f c61
          refine At.enter rfl ?_
          refine r_iload_n rfl ?_
          refine r_goto ?_
          refine At.enter rfl ?_
          refine r_ireti ?_
          exact ⟨_, rfl, hI54, hF58, _, rfl, by omega⟩
