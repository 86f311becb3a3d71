def F_X11_feeOf_231 : List (Nat × Nat) := [(231, 27), (231, 30), (231, 31), (231, 32)]
def A_X11_feeOf_231 : List Nat := []
set_option maxRecDepth 100000 in
set_option maxHeartbeats 4000000 in
theorem T_X11_feeOf_231 (d : Nat) {N : Nat} {g0 : List en_E} (hI0 : HI g0) (a1 : Int32) (h_a1 : 0 ≤ a1.toInt ∧ a1.toInt ≤ 7) (a2 : Int32) (h_a2 : 0 ≤ a2.toInt ∧ a2.toInt ≤ 11) : Ev (d + 5) 217 [.ref 231, .int a1, .int a2] (g0, N) (fun w h' => ∃ g', h' = (g', N) ∧ HI g' ∧ Fr F_X11_feeOf_231 A_X11_feeOf_231 g0 g' ∧ ∃ r : Int32, w = some (.int r) ∧ True ∧ FEM g0 a1.toInt a2.toInt r.toInt) := by
  have hF0 : Fr F_X11_feeOf_231 A_X11_feeOf_231 g0 g0 := Fr.rf
  refine Ev.mk rfl rfl ⟨Nat.le_of_ble_eq_true rfl, Or.inr (q_rc hI0.1 kx_231 rfl)⟩ ?_
  show At _ none _ _ (0, [(0, .ref 231), (1, .int a1), (2, .int a2)], [], (_, _)) _
  refine At.enter rfl ?_
  refine r_aload_n rfl ?_
  refine r_iconst 1 rfl ?_
  refine r_iload_n rfl ?_
  refine r_iload_n rfl ?_
  refine r_iconst 0 rfl ?_
  refine r_iconst 0 rfl ?_
  refine r_aload_n rfl ?_
  refine q_getR (Sh.ref hI0.1 kx_231 rfl) ?_
  refine r_iload_n rfl ?_
  obtain ⟨v29, hv29⟩ : ∃ v, eA g0 247 a2.toInt = v := ⟨_, rfl⟩
  refine q_iald (Sh.arr hI0.1 ka_247) a2.toInt rfl (by omega) v29 hv29 ?_
  refine q_i2l (fun v30 hv30 => ?_)
  refine r_callV 16 rfl [.ref 231, .int 1, .int a1, .int a2, .int 0, .int 0, .long v30] [] (Nat.le_of_ble_eq_true rfl) rfl (T_X11_tells_231 _ hI0 1 a1 (by omega) a2 (by omega) 0 0 v30) ?_
  rintro _ _ ⟨g31, rfl, hI32, hF33, v34, rfl, hr35⟩
  refine At.stl ?_
  have hF36 := Fr.tr hF0 hF33 rfl rfl
  have zv37 : (1 : Int32).toInt = 1 := rfl
  have zv38 : (0 : Int32).toInt = 0 := rfl
  have zv39 : (0 : Int32).toInt = 0 := rfl
  refine At.enter rfl ?_
  refine r_lstore_n ([(3, .long v34), (0, .ref 231), (1, .int a1), (2, .int a2)]) rfl ?_
  refine r_lload_n rfl ?_
  refine r_lconst 0 rfl ?_
  refine r_lcmp _ rfl ?_
  refine r_ifs 23 rfl (fun c40 => ?_) (fun c40 => ?_)
  · have c40_ : v34.toInt ≥ 0 := en_j_ge_t c40
    refine At.enter rfl ?_
    refine r_lload_n rfl ?_
    refine r_ldc2 999 rfl ?_
    refine r_lcmp _ rfl ?_
    refine r_ifs 35 rfl (fun c41 => ?_) (fun c41 => ?_)
    · have c41_ : v34.toInt ≤ 999 := en_j_le_t c41
      refine At.enter rfl ?_
      refine r_lload_n rfl ?_
      refine q_l2iO (fun v42 hv42 => ?_)
      refine Ar.fall 43 rfl ?_
      refine At.enter rfl ?_
      refine r_ireti ?_
      have k43 := l2i_e hv42 (by omega) (by omega)
      exact ⟨_, rfl, hI32, hF36, _, rfl, trivial, (FEM_mk (show TEM _ _ 1 _ _ 0 0 _ _ from hr35.2) (by rw [hv29]; exact hv30) (clp_3 (by omega)))⟩
    · have c41_ : v34.toInt > 999 := en_j_le_f c41
      refine At.enter rfl ?_
      refine r_sipush 999 rfl ?_
      refine r_goto ?_
      refine At.enter rfl ?_
      refine r_ireti ?_
      have zv44 : (999 : Int32).toInt = 999 := rfl
      exact ⟨_, rfl, hI32, hF36, _, rfl, trivial, (FEM_mk (show TEM _ _ 1 _ _ 0 0 _ _ from hr35.2) (by rw [hv29]; exact hv30) (clp_3 (by omega)))⟩
  · have c40_ : v34.toInt < 0 := en_j_ge_f c40
    refine At.enter rfl ?_
    refine r_iconst 0 rfl ?_
    refine r_goto ?_
    refine At.enter rfl ?_
    refine r_ireti ?_
    have zv45 : (0 : Int32).toInt = 0 := rfl
    exact ⟨_, rfl, hI32, hF36, _, rfl, trivial, (FEM_mk (show TEM _ _ 1 _ _ 0 0 _ _ from hr35.2) (by rw [hv29]; exact hv30) (clp_3 (by omega)))⟩

def F_X11_isBarred_231 : List (Nat × Nat) := [(231, 27), (231, 30), (231, 31), (231, 32)]
def A_X11_isBarred_231 : List Nat := []
set_option maxRecDepth 100000 in
set_option maxHeartbeats 4000000 in
theorem T_X11_isBarred_231 (d : Nat) {N : Nat} {g0 : List en_E} (hI0 : HI g0) (a1 : Int32) (h_a1 : 0 ≤ a1.toInt ∧ a1.toInt ≤ 7) (a2 : Int32) (h_a2 : 0 ≤ a2.toInt ∧ a2.toInt ≤ 11) (a3 : Int32) (a4 : Int32) : Ev (d + 5) 218 [.ref 231, .int a1, .int a2, .int a3, .int a4] (g0, N) (fun w h' => ∃ g', h' = (g', N) ∧ HI g' ∧ Fr F_X11_isBarred_231 A_X11_isBarred_231 g0 g' ∧ ∃ r : Int32, w = some (.int r) ∧ (0 ≤ r.toInt ∧ r.toInt ≤ 1)) := by
  have hF0 : Fr F_X11_isBarred_231 A_X11_isBarred_231 g0 g0 := Fr.rf
  refine Ev.mk rfl rfl ⟨Nat.le_of_ble_eq_true rfl, Or.inr (q_rc hI0.1 kx_231 rfl)⟩ ?_
  show At _ none _ _ (0, [(0, .ref 231), (1, .int a1), (2, .int a2), (3, .int a3), (4, .int a4)], [], (_, _)) _
  refine At.enter rfl ?_
  refine r_aload_n rfl ?_
  refine r_iconst 2 rfl ?_
  refine r_iload_n rfl ?_
  refine r_iload_n rfl ?_
  refine r_iload_n rfl ?_
  refine r_iload rfl ?_
  refine r_lconst 0 rfl ?_
  refine r_callV 11 rfl [.ref 231, .int 2, .int a1, .int a2, .int a3, .int a4, .long 0] [] (Nat.le_of_ble_eq_true rfl) rfl (T_X11_tells_231 _ hI0 2 a1 (by omega) a2 (by omega) a3 a4 0) ?_
  rintro _ _ ⟨g19, rfl, hI20, hF21, v22, rfl, hr23⟩
  refine At.stl ?_
  have hF24 := Fr.tr hF0 hF21 rfl rfl
  have zv25 : (2 : Int32).toInt = 2 := rfl
  have zv26 : (0 : Int64).toInt = 0 := rfl
  refine At.enter rfl ?_
  refine r_lconst 1 rfl ?_
  refine r_lcmp _ rfl ?_
  refine r_ifs 16 rfl (fun c27 => ?_) (fun c27 => ?_)
  · have c27_ : v22.toInt ≠ 1 := en_j_ne_t c27
    refine At.enter rfl ?_
    refine r_iconst 0 rfl ?_
    refine Ar.fall 21 rfl ?_
    refine At.enter rfl ?_
    refine r_iretz (by decide) ?_
    exact ⟨_, rfl, hI20, hF24, _, rfl, by decide⟩
  · have c27_ : v22.toInt = 1 := en_j_ne_f c27
    refine At.enter rfl ?_
    refine r_iconst 1 rfl ?_
    refine r_goto ?_
    refine At.enter rfl ?_
    refine r_iretz (by decide) ?_
    exact ⟨_, rfl, hI20, hF24, _, rfl, by decide⟩

def F_X11_findWay_231 : List (Nat × Nat) := []
def A_X11_findWay_231 : List Nat := [249]
theorem ma_X11_nextOf0_231_249 : memA A_X11_nextOf0_231 249 = false := by decide
set_option maxRecDepth 100000 in
set_option maxHeartbeats 4000000 in
theorem T_X11_findWay_231 (d : Nat) {N : Nat} {g0 : List en_E} (hI0 : HI g0) (a1 : Int32) (h_a1 : 0 ≤ a1.toInt ∧ a1.toInt ≤ 7) (hl : a1.toInt < (eA g0 233 1).toInt) : Ev (d + 4) 219 [.ref 231, .int a1] (g0, N) (fun w h' => ∃ g', h' = (g', N) ∧ HI g' ∧ Fr F_X11_findWay_231 A_X11_findWay_231 g0 g' ∧ ∃ r : Int32, w = some (.int r) ∧ ((-1) ≤ r.toInt ∧ r.toInt ≤ 12) ∧ ((∀ j : Int, 0 ≤ j → j ≤ r.toInt → (eA g' 249 j).toInt < (eA g0 233 0).toInt) ∧ ((eA g0 233 (46 + (6 * a1.toInt + 2))).toInt ≠ -1 → WAYF (NMq g0) 12 (eA g0 233 (46 + (6 * a1.toInt + 1))).toInt (eA g0 233 (46 + (6 * a1.toInt + 2))).toInt r.toInt) ∧ ∀ j : Int, 0 ≤ j → j ≤ r.toInt → (eA g' 249 j).toInt = itI (NMq g0) j (eA g0 233 (46 + (6 * a1.toInt + 1))).toInt)) := by
  have hF0 : Fr F_X11_findWay_231 A_X11_findWay_231 g0 g0 := Fr.rf
  refine Ev.mk rfl rfl ⟨Nat.le_of_ble_eq_true rfl, Or.inr (q_rc hI0.1 kx_231 rfl)⟩ ?_
  show At _ none _ _ (0, [(0, .ref 231), (1, .int a1)], [], (_, _)) _
  refine At.enter rfl ?_
  refine r_aload_n rfl ?_
  refine r_iload_n rfl ?_
  refine r_iconst 1 rfl ?_
  refine q_inlV 6 rfl [.ref 231, .int a1, .int 1] [] (Nat.le_of_ble_eq_true rfl) rfl ?_
  refine Ev.mk rfl rfl ⟨Nat.le_of_ble_eq_true rfl, Or.inr (q_rc hI0.1 kx_231 rfl)⟩ ?_
  show At _ none _ _ (0, [(0, .ref 231), (1, .int a1), (2, .int 1)], [], (_, _)) _
  refine At.enter rfl ?_
  refine r_aload_n rfl ?_
  refine q_getR (Sh.ref hI0.1 kx_231 rfl) ?_
  refine r_bipush 46 rfl ?_
  refine r_bipush 6 rfl ?_
  refine r_iload_n rfl ?_
  refine q_imul (6 * a1.toInt) rfl (by omega) (fun v527 hv527 => ?_)
  refine q_iadd (46 + v527.toInt) rfl (by omega) (fun v528 hv528 => ?_)
  refine r_iload_n rfl ?_
  refine q_iadd (v528.toInt + 1) rfl (by omega) (fun v529 hv529 => ?_)
  obtain ⟨v530, hv530⟩ : ∃ v, eA g0 233 (6 * a1.toInt + 47) = v := ⟨_, rfl⟩
  have wv530 := HI.l1 hI0 (j := (6 * a1.toInt + 47)) (a1.toInt) (by omega) (by omega)
  rw [hv530] at wv530
  refine q_iald (Sh.arr hI0.1 ka_233) (6 * a1.toInt + 47) (by omega) (by omega) v530 hv530 ?_
  refine q_ireti ?_
  refine At.enter rfl ?_
  refine r_istore_n ([(2, .int v530), (0, .ref 231), (1, .int a1)]) rfl ?_
  refine r_iconst 0 rfl ?_
  refine r_istore_n ([(3, .int 0), (2, .int v530), (0, .ref 231), (1, .int a1)]) rfl ?_
  refine Ar.fall 9 rfl ?_
  have z_771 : (0 : Int32).toInt = 0 := rfl
  refine w_loopI (fun n_ l_ g_ => ∃ x751 : Int32, ∃ x752 : Int32, n_ = 13 - x752.toInt ∧ HI g_ ∧ Fr F_X11_findWay_231 A_X11_findWay_231 g0 g_ ∧ en_get 0 l_ = some (.ref 231) ∧ en_get 1 l_ = some (.int a1) ∧ en_get 2 l_ = some (.int x751) ∧ en_get 3 l_ = some (.int x752) ∧ ((-1) ≤ x751.toInt ∧ x751.toInt ≤ 11) ∧ (0 ≤ x752.toInt ∧ x752.toInt ≤ 13) ∧ (∀ j : Int, 0 ≤ j → j < x752.toInt → (eA g_ 249 j).toInt < (eA g0 233 0).toInt) ∧ (x751.toInt = -1 ∨ x751.toInt < (eA g0 233 0).toInt) ∧ (x751.toInt = itI (NMq g0) x752.toInt (eA g0 233 (46 + (6 * a1.toInt + 1))).toInt) ∧ (∀ j : Int, 0 ≤ j → j < x752.toInt → itI (NMq g0) j (eA g0 233 (46 + (6 * a1.toInt + 1))).toInt ≠ (eA g0 233 (46 + (6 * a1.toInt + 2))).toInt) ∧ (∀ j : Int, 0 ≤ j → j < x752.toInt → (eA g_ 249 j).toInt = itI (NMq g0) j (eA g0 233 (46 + (6 * a1.toInt + 1))).toInt) ∧ (0 ≤ x752.toInt)) ?_ (13 - 0) ⟨v530, 0, by first | rfl | omega, hI0, hF0, rfl, rfl, rfl, rfl, by omega, by decide, (fun j h0 h1 => absurd h1 (by omega)), by omega, (by have y134_ := (eA_ix (g := g0) (p := 233) (show 46 + (6 * a1.toInt + 1) = (6 * a1.toInt + 47) from by omega)).trans (congrArg Int32.toInt hv530); refine Eq.trans ?_ (itI_n _ (by first | decide | omega) _).symm; omega), (fun j h0 h1 => absurd h1 (by omega)), (fun j h0 h1 => absurd h1 (by omega)), by omega⟩
  rintro n757 l756 g753 ⟨x751, x752, hm772, hI754, hF755, e759, e760, e761, e762, r763, r764, q765, q766, q767, q768, q769, q770⟩ ih758
  refine At.enter rfl ?_
  refine r_iload_n e762 ?_
  refine r_bipush 13 rfl ?_
  refine r_ics 15 rfl (fun c773 => ?_) (fun c773 => ?_)
  · have c773_ : x752.toInt ≥ 13 := en_i_ge_t c773
    refine At.enter rfl ?_
    refine r_iconst (-1) rfl ?_
    refine r_ireti ?_
    have zv774 : ((-1) : Int32).toInt = (-1) := rfl
    have y135_ := (eA_ix (g := g0) (p := 233) (show 46 + (6 * a1.toInt + 1) = (6 * a1.toInt + 47) from by omega)).trans (congrArg Int32.toInt hv530)
    exact ⟨_, rfl, hI754, hF755, _, rfl, by decide, ⟨(fun j h0 h1 => absurd h1 (by have : ((-1) : Int32).toInt = -1 := rfl; omega)), (fun hw => by first | exact WAYF.a x752.toInt (by omega) (by omega) (by rw [← q767]; omega) q768 (by omega) | exact WAYF.n (NMq.e g0) hw q768 (by rw [← q767]; omega) (by omega)), (fun j h0 h1 => absurd h1 (by omega))⟩⟩
  · have c773_ : x752.toInt < 13 := en_i_ge_f c773
    refine At.enter rfl ?_
    refine r_iload_n e761 ?_
    refine r_iconst (-1) rfl ?_
    refine r_ics 20 rfl (fun c775 => ?_) (fun c775 => ?_)
    · have c775_ : x751.toInt = (-1) := en_i_eq_t c775
      refine At.enter rfl ?_
      refine r_iconst (-1) rfl ?_
      refine r_ireti ?_
      have zv776 : ((-1) : Int32).toInt = (-1) := rfl
      have y136_ := (eA_ix (g := g0) (p := 233) (show 46 + (6 * a1.toInt + 1) = (6 * a1.toInt + 47) from by omega)).trans (congrArg Int32.toInt hv530)
      exact ⟨_, rfl, hI754, hF755, _, rfl, by decide, ⟨(fun j h0 h1 => absurd h1 (by have : ((-1) : Int32).toInt = -1 := rfl; omega)), (fun hw => by first | exact WAYF.a x752.toInt (by omega) (by omega) (by rw [← q767]; omega) q768 (by omega) | exact WAYF.n (NMq.e g0) hw q768 (by rw [← q767]; omega) (by omega)), (fun j h0 h1 => absurd h1 (by omega))⟩⟩
    · have c775_ : x751.toInt ≠ (-1) := en_i_eq_f c775
      refine At.enter rfl ?_
      refine r_aload_n e759 ?_
      refine q_getR (Sh.ref hI754.1 kx_231 rfl) ?_
      refine r_iload_n e762 ?_
      refine r_iload_n e761 ?_
      refine q_iast (Sh.arr hI754.1 ka_249) (x752.toInt) rfl (by omega) ?_
      have hI777 := HI.wA1 hI754 ka_249 (p := 249) rfl rfl (x752.toInt) (v := x751) (by dsimp only; omega)
      have hF778 := Fr.wA (p := 249) (j := x752.toInt) (v := x751) hF755 rfl
      refine r_iload_n e761 ?_
      refine r_aload_n e759 ?_
      refine r_iload_n e760 ?_
      refine r_iconst 2 rfl ?_
      refine q_inlV 34 rfl [.ref 231, .int a1, .int 2] [.int x751] (Nat.le_of_ble_eq_true rfl) rfl ?_
      refine Ev.mk rfl rfl ⟨Nat.le_of_ble_eq_true rfl, Or.inr (q_rc hI777.1 kx_231 rfl)⟩ ?_
      show At _ none _ _ (0, [(0, .ref 231), (1, .int a1), (2, .int 2)], [], (_, _)) _
      refine At.enter rfl ?_
      refine r_aload_n rfl ?_
      refine q_getR (Sh.ref hI777.1 kx_231 rfl) ?_
      refine r_bipush 46 rfl ?_
      refine r_bipush 6 rfl ?_
      refine r_iload_n rfl ?_
      refine q_imul (6 * a1.toInt) rfl (by omega) (fun v779 hv779 => ?_)
      refine q_iadd (46 + v779.toInt) rfl (by omega) (fun v780 hv780 => ?_)
      refine r_iload_n rfl ?_
      refine q_iadd (v780.toInt + 2) rfl (by omega) (fun v781 hv781 => ?_)
      obtain ⟨v782, hv782⟩ : ∃ v, eA g0 233 (6 * a1.toInt + 48) = v := ⟨_, rfl⟩
      have wv782 := HI.l2 hI0 (j := (6 * a1.toInt + 48)) (a1.toInt) (by omega) (by omega)
      rw [hv782] at wv782
      refine q_iald (Sh.arr hI777.1 ka_233) (6 * a1.toInt + 48) (by omega) (by omega) v782 ((eA_c ((gA_sA_ne (by decide)).trans (hF755.2.1 233 (by decide)))).trans hv782) ?_
      refine q_ireti ?_
      refine At.enter rfl ?_
      refine r_ics 37 rfl (fun c783 => ?_) (fun c783 => ?_)
      · have c783_ : x751.toInt ≠ v782.toInt := en_i_ne_t c783
        refine At.enter rfl ?_
        refine r_aload_n e759 ?_
        refine r_iload_n e761 ?_
        refine r_iconst 0 rfl ?_
        refine r_callV 45 rfl [.ref 231, .int x751, .int 0] [] (Nat.le_of_ble_eq_true rfl) rfl (T_X11_nextOf0_231 _ hI777 x751 (by omega)) ?_
        rintro _ _ ⟨g784, rfl, hI785, hF786, v787, rfl, hr788⟩
        refine At.sti ?_
        have hF789 := Fr.tr hF778 hF786 rfl rfl
        have zv790 : (0 : Int32).toInt = 0 := rfl
        rw [eA_c (((gA_sA_ne (by decide)).trans (hF755.2.1 233 (by decide))))] at hr788
        rw [NMo.c (((gA_sA_ne (by decide)).trans (hF755.2.1 233 (by decide))))] at hr788
        refine At.enter rfl ?_
        refine r_istore_n _ rfl ?_
        refine q_iinc (w_p1 (by decide) (Or.inr rfl) e762) (x752.toInt + 1) rfl (by omega) (fun v791 hv791 => ?_)
        refine r_goto ?_
        exact ih758 (13 - v791.toInt) _ _ ⟨v787, v791, by first | rfl | omega, hI785, hF789, (w_p1 (by decide) (Or.inr rfl) (w_p1 (by decide) (Or.inr rfl) e759)), (w_p1 (by decide) (Or.inr rfl) (w_p1 (by decide) (Or.inr rfl) e760)), (w_p1 (by decide) (Or.inr rfl) (w_e1 _ _ _)), (w_e1 _ _ _), by omega, by omega, (by intro j h0 h1; exact (Decidable.em (j = x752.toInt)).elim (fun e => by rw [e, ((eA_c (hF786.2.1 249 ma_X11_nextOf0_231_249)).trans (eA_sA_eq hI754.1 ka_249 rfl (by omega) (by omega)))]; omega) (fun e => by rw [((eA_c (hF786.2.1 249 ma_X11_nextOf0_231_249)).trans (eA_sA_ne hI754.1 ka_249 e (by omega) h0))]; exact q765 j h0 (by omega))), by omega, (by rw [show v791.toInt = x752.toInt + 1 from by omega, itI_s (NMq g0) (by omega), ← q767]; have z := NMq.ne (g := g0) (s := x751.toInt) (by omega); omega), (WAYF.step q768 (by rw [← q767]; have y137_ := (eA_ix (g := g0) (p := 233) (show 46 + (6 * a1.toInt + 1) = (6 * a1.toInt + 47) from by omega)).trans (congrArg Int32.toInt hv530); have y138_ := (eA_ix (g := g0) (p := 233) (show 46 + (6 * a1.toInt + 2) = (6 * a1.toInt + 48) from by omega)).trans (congrArg Int32.toInt hv782); omega) (show v791.toInt = x752.toInt + 1 from by omega)), (by intro j h0 h1; refine (eA_ti ((hF786.2.1 249 ma_X11_nextOf0_231_249))).trans ?_; exact (Decidable.em (j = x752.toInt)).elim (fun k139_ => by refine (eA_eqT hI754.1 ka_249 k139_ (by omega) (by omega)).trans ?_; rw [k139_]; omega) (fun k139_ => by refine (eA_neT hI754.1 ka_249 k139_ (by omega) (by omega)).trans ?_; exact q769 j h0 (by omega))), by omega⟩ ⟨by omega, by omega⟩
      · have c783_ : x751.toInt = v782.toInt := en_i_ne_f c783
        refine At.enter rfl ?_
        refine r_iload_n e762 ?_
        refine r_ireti ?_
        have y140_ := (eA_ix (g := g0) (p := 233) (show 46 + (6 * a1.toInt + 1) = (6 * a1.toInt + 47) from by omega)).trans (congrArg Int32.toInt hv530)
        have y141_ := (eA_ix (g := g0) (p := 233) (show 46 + (6 * a1.toInt + 2) = (6 * a1.toInt + 48) from by omega)).trans (congrArg Int32.toInt hv782)
        exact ⟨_, rfl, hI777, hF778, _, rfl, by omega, ⟨(by intro j h0 h1; exact (Decidable.em (j = x752.toInt)).elim (fun e => by rw [e, ((eA_c rfl).trans (eA_sA_eq hI754.1 ka_249 rfl (by omega) (by omega)))]; omega) (fun e => by rw [((eA_c rfl).trans (eA_sA_ne hI754.1 ka_249 e (by omega) h0))]; exact q765 j h0 (by omega))), (fun hw => by first | exact WAYF.a x752.toInt (by omega) (by omega) (by rw [← q767]; omega) q768 (by omega) | exact WAYF.n (NMq.e g0) hw q768 (by rw [← q767]; omega) (by omega)), (by intro j h0 h1; exact (Decidable.em (j = x752.toInt)).elim (fun k142_ => by refine (eA_eqT hI754.1 ka_249 k142_ (by omega) (by omega)).trans ?_; rw [k142_]; omega) (fun k142_ => by refine (eA_neT hI754.1 ka_249 k142_ (by omega) (by omega)).trans ?_; exact q769 j h0 (by omega)))⟩⟩

def F_X11_way_231 : List (Nat × Nat) := [(231, 0)]
def A_X11_way_231 : List Nat := [249]
set_option maxRecDepth 100000 in
set_option maxHeartbeats 4000000 in
theorem T_X11_way_231 (d : Nat) {N : Nat} {g0 : List en_E} (hI0 : HI g0) (a1 : Int32) (a2 : Int32) : Ev (d + 5) 220 [.ref 231, .int a1, .int a2] (g0, N) (fun w h' => ∃ g', h' = (g', N) ∧ HI g' ∧ Fr F_X11_way_231 A_X11_way_231 g0 g' ∧ ∃ r : Int32, w = some (.int r) ∧ ((-1) ≤ r.toInt ∧ r.toInt ≤ 12) ∧ ((¬ (0 ≤ a1.toInt ∧ a1.toInt < (eA g0 233 1).toInt) → r.toInt = -1) ∧ ((0 ≤ a1.toInt ∧ a1.toInt < (eA g0 233 1).toInt) → (eA g0 233 (46 + (6 * a1.toInt + 2))).toInt ≠ -1 → WAYA (NMq g0) 12 (eA g0 233 (46 + (6 * a1.toInt + 1))).toInt (eA g0 233 (46 + (6 * a1.toInt + 2))).toInt a2.toInt r.toInt))) := by
  have hF0 : Fr F_X11_way_231 A_X11_way_231 g0 g0 := Fr.rf
  refine Ev.mk rfl rfl ⟨Nat.le_of_ble_eq_true rfl, Or.inr (q_rc hI0.1 kx_231 rfl)⟩ ?_
  show At _ none _ _ (0, [(0, .ref 231), (1, .int a1), (2, .int a2)], [], (_, _)) _
  refine At.enter rfl ?_
  refine r_aload_n rfl ?_
  refine r_iconst 0 rfl ?_
  refine q_putI (Sh.int hI0.1 kx_231 rfl) rfl ?_
  have hI55 := HI.wI0 hI0 kx_231 rfl (p := 231) (b := 0) (v := 0) rfl
  have hF56 := Fr.wI (p := 231) (b := 0) (v := 0) hF0 rfl
  refine r_aload_n rfl ?_
  refine r_iload_n rfl ?_
  refine q_inlV 10 rfl [.ref 231, .int a1] [] (Nat.le_of_ble_eq_true rfl) rfl ?_
  refine Ev.mk rfl rfl ⟨Nat.le_of_ble_eq_true rfl, Or.inr (q_rc hI55.1 kx_231 rfl)⟩ ?_
  show At _ none _ _ (0, [(0, .ref 231), (1, .int a1)], [], (_, _)) _
  refine At.enter rfl ?_
  refine r_iload_n rfl ?_
  refine q_i2l (fun v57 hv57 => ?_)
  refine r_lconst 0 rfl ?_
  refine r_aload_n rfl ?_
  refine q_getR (Sh.ref hI55.1 kx_231 rfl) ?_
  refine r_iconst 1 rfl ?_
  obtain ⟨v58, hv58⟩ : ∃ v, eA g0 233 1 = v := ⟨_, rfl⟩
  have tv58 := congrArg Int32.toInt hv58
  have wv58 := HI.t1 hI0
  rw [hv58] at wv58
  refine q_iald (Sh.arr hI55.1 ka_233) 1 rfl (by decide) v58 ((eA_c (gA_sI)).trans hv58) ?_
  refine q_i2l (fun v59 hv59 => ?_)
  refine r_lconst 1 rfl ?_
  refine q_lsub (v59.toInt - 1) rfl (by omega) (fun v60 hv60 => ?_)
  refine q_inlS 15 rfl [.long v57, .long 0, .long v60] [] (Nat.le_of_ble_eq_true rfl) rfl ?_
  refine Ev.mk rfl rfl ⟨Nat.le_of_ble_eq_true rfl, Or.inl rfl⟩ ?_
  show At _ none _ _ (0, [(0, .long v57), (2, .long 0), (4, .long v60)], [], (_, _)) _
  refine At.enter rfl ?_
  refine r_lload_n rfl ?_
  refine r_lload_n rfl ?_
  refine r_lcmp _ rfl ?_
  refine r_ifs 6 rfl (fun c61 => ?_) (fun c61 => ?_)
  · have c61_ : v57.toInt < 0 := en_j_lt_t c61
    refine At.enter rfl ?_
    refine r_iconst 0 rfl ?_
    refine Ar.fall 18 rfl ?_
    refine At.enter rfl ?_
    refine q_iretz (by decide) ?_
    refine At.enter rfl ?_
    refine q_iretz (by decide) ?_
    refine At.enter rfl ?_
    refine r_iff 13 rfl (by decide) ?_
    refine At.enter rfl ?_
    refine r_iconst (-1) rfl ?_
    refine r_ireti ?_
    have zv62 : ((-1) : Int32).toInt = (-1) := rfl
    have x63 := HI.eqA hI0 (p := 233) (j := 1) (hv58)
    exact ⟨_, rfl, hI55, hF56, _, rfl, by decide, ⟨fun _ => by omega, fun h => absurd h (by omega)⟩⟩
  · have c61_ : v57.toInt ≥ 0 := en_j_lt_f c61
    refine At.enter rfl ?_
    refine r_lload_n rfl ?_
    refine r_lload rfl ?_
    refine r_lcmp _ rfl ?_
    refine r_ifs 13 rfl (fun c64 => ?_) (fun c64 => ?_)
    · have c64_ : v57.toInt > v60.toInt := en_j_gt_t c64
      refine At.enter rfl ?_
      refine r_iconst 0 rfl ?_
      refine Ar.fall 18 rfl ?_
      refine At.enter rfl ?_
      refine q_iretz (by decide) ?_
      refine At.enter rfl ?_
      refine q_iretz (by decide) ?_
      refine At.enter rfl ?_
      refine r_iff 13 rfl (by decide) ?_
      refine At.enter rfl ?_
      refine r_iconst (-1) rfl ?_
      refine r_ireti ?_
      have zv65 : ((-1) : Int32).toInt = (-1) := rfl
      have x66 := HI.eqA hI0 (p := 233) (j := 1) (hv58)
      exact ⟨_, rfl, hI55, hF56, _, rfl, by decide, ⟨fun _ => by omega, fun h => absurd h (by omega)⟩⟩
    · have c64_ : v57.toInt ≤ v60.toInt := en_j_gt_f c64
      refine At.enter rfl ?_
      refine r_iconst 1 rfl ?_
      refine r_goto ?_
      refine At.enter rfl ?_
      refine q_iretz (by decide) ?_
      refine At.enter rfl ?_
      refine q_iretz (by decide) ?_
      refine At.enter rfl ?_
      refine r_ift (by decide) ?_
      refine At.enter rfl ?_
      refine r_aload_n rfl ?_
      refine r_iload_n rfl ?_
      refine r_callV 20 rfl [.ref 231, .int a1] [] (Nat.le_of_ble_eq_true rfl) rfl (T_X11_findWay_231 _ hI55 a1 (by omega) (by rw [eA_c ((gA_sI)), hv58]; omega)) ?_
      rintro _ _ ⟨g67, rfl, hI68, hF69, v70, rfl, hr71⟩
      refine At.sti ?_
      have hF72 := Fr.tr hF56 hF69 rfl rfl
      obtain ⟨w73, w74, w75, w76⟩ := hr71
      have w77 := And.intro w73 w74
      have fw78 : ∀ j : Int, 0 ≤ j → j ≤ v70.toInt → (eA g67 249 j).toInt < (eA g0 233 0).toInt := fun j a b => by have z := w77.2 j a b; rw [eA_c ((gA_sI))] at z; exact z
      have w79 := WAYF.cg ((gA_sI)) w75
      have w80 := itI.cg ((gA_sI)) w76
      refine At.enter rfl ?_
      refine r_istore_n ([(3, .int v70), (0, .ref 231), (1, .int a1), (2, .int a2)]) rfl ?_
      refine r_iload_n rfl ?_
      refine r_iconst (-1) rfl ?_
      refine r_ics 26 rfl (fun c81 => ?_) (fun c81 => ?_)
      · have c81_ : v70.toInt = (-1) := en_i_eq_t c81
        refine At.enter rfl ?_
        refine r_iload_n rfl ?_
        refine r_goto ?_
        refine At.enter rfl ?_
        refine r_ireti ?_
        have x82 := HI.eqA hI0 (p := 233) (j := 1) (hv58)
        exact ⟨_, rfl, hI68, hF72, _, rfl, by omega, ⟨fun h => absurd h (by omega), fun h hw => WAYA.mk v70.toInt (w79 hw) (fun e => by omega) (fun q => by omega) (fun q => by omega)⟩⟩
      · have c81_ : v70.toInt ≠ (-1) := en_i_eq_f c81
        refine At.enter rfl ?_
        refine r_iload_n rfl ?_
        refine r_iconst (-1) rfl ?_
        refine r_ics 31 rfl (fun c83 => ?_) (fun c83 => ?_)
        · have c83_ : a2.toInt ≠ (-1) := en_i_ne_t c83
          refine At.enter rfl ?_
          refine r_iload_n rfl ?_
          refine q_i2l (fun v84 hv84 => ?_)
          refine r_lconst 0 rfl ?_
          refine r_iload_n rfl ?_
          refine q_i2l (fun v85 hv85 => ?_)
          refine q_inlS 43 rfl [.long v84, .long 0, .long v85] [] (Nat.le_of_ble_eq_true rfl) rfl ?_
          refine Ev.mk rfl rfl ⟨Nat.le_of_ble_eq_true rfl, Or.inl rfl⟩ ?_
          show At _ none _ _ (0, [(0, .long v84), (2, .long 0), (4, .long v85)], [], (_, _)) _
          refine At.enter rfl ?_
          refine r_lload_n rfl ?_
          refine r_lload_n rfl ?_
          refine r_lcmp _ rfl ?_
          refine r_ifs 6 rfl (fun c86 => ?_) (fun c86 => ?_)
          · have c86_ : v84.toInt < 0 := en_j_lt_t c86
            refine At.enter rfl ?_
            refine r_iconst 0 rfl ?_
            refine Ar.fall 18 rfl ?_
            refine At.enter rfl ?_
            refine q_iretz (by decide) ?_
            refine At.enter rfl ?_
            refine r_ift (by decide) ?_
            refine At.enter rfl ?_
            refine r_iconst (-1) rfl ?_
            refine Ar.fall 56 rfl ?_
            refine At.enter rfl ?_
            refine r_ireti ?_
            have zv87 : ((-1) : Int32).toInt = (-1) := rfl
            have x88 := HI.eqA hI0 (p := 233) (j := 1) (hv58)
            exact ⟨_, rfl, hI68, hF72, _, rfl, by decide, ⟨fun h => absurd h (by omega), fun h hw => WAYA.mk v70.toInt (w79 hw) (fun e => by omega) (fun q => by omega) (fun q => by omega)⟩⟩
          · have c86_ : v84.toInt ≥ 0 := en_j_lt_f c86
            refine At.enter rfl ?_
            refine r_lload_n rfl ?_
            refine r_lload rfl ?_
            refine r_lcmp _ rfl ?_
            refine r_ifs 13 rfl (fun c89 => ?_) (fun c89 => ?_)
            · have c89_ : v84.toInt > v85.toInt := en_j_gt_t c89
              refine At.enter rfl ?_
              refine r_iconst 0 rfl ?_
              refine Ar.fall 18 rfl ?_
              refine At.enter rfl ?_
              refine q_iretz (by decide) ?_
              refine At.enter rfl ?_
              refine r_ift (by decide) ?_
              refine At.enter rfl ?_
              refine r_iconst (-1) rfl ?_
              refine Ar.fall 56 rfl ?_
              refine At.enter rfl ?_
              refine r_ireti ?_
              have zv90 : ((-1) : Int32).toInt = (-1) := rfl
              have x91 := HI.eqA hI0 (p := 233) (j := 1) (hv58)
              exact ⟨_, rfl, hI68, hF72, _, rfl, by decide, ⟨fun h => absurd h (by omega), fun h hw => WAYA.mk v70.toInt (w79 hw) (fun e => by omega) (fun q => by omega) (fun q => by omega)⟩⟩
            · have c89_ : v84.toInt ≤ v85.toInt := en_j_gt_f c89
              refine At.enter rfl ?_
              refine r_iconst 1 rfl ?_
              refine r_goto ?_
              refine At.enter rfl ?_
              refine q_iretz (by decide) ?_
              refine At.enter rfl ?_
              refine r_iff 46 rfl (by decide) ?_
              refine At.enter rfl ?_
              refine r_aload_n rfl ?_
              refine q_getR (Sh.ref hI68.1 kx_231 rfl) ?_
              refine r_iload_n rfl ?_
              obtain ⟨v92, hv92⟩ : ∃ v, eA g67 249 a2.toInt = v := ⟨_, rfl⟩
              have rv92 := RgA.at hI68.2.2.1 (Sh.arr hI68.1 ka_249).2 (p := 249) rfl (j := a2.toInt) (by omega)
              rw [hv92] at rv92
              dsimp only at rv92
              refine q_iald (Sh.arr hI68.1 ka_249) a2.toInt rfl (by omega) v92 hv92 ?_
              refine r_goto ?_
              refine At.enter rfl ?_
              refine r_ireti ?_
              have x93 := HI.eqA hI0 (p := 233) (j := 1) (hv58)
              exact ⟨_, rfl, hI68, hF72, _, rfl, by omega, ⟨fun h => absurd h (by omega), fun h hw => WAYA.mk v70.toInt (w79 hw) (fun e => by omega) (fun q => by have z := w80 _ q.2.1 q.2.2; rw [hv92] at z; omega) (fun q => by omega)⟩⟩
        · have c83_ : a2.toInt = (-1) := en_i_ne_f c83
          refine At.enter rfl ?_
          refine r_iload_n rfl ?_
          refine r_goto ?_
          refine At.enter rfl ?_
          refine r_ireti ?_
          have x94 := HI.eqA hI0 (p := 233) (j := 1) (hv58)
          exact ⟨_, rfl, hI68, hF72, _, rfl, by omega, ⟨fun h => absurd h (by omega), fun h hw => WAYA.mk v70.toInt (w79 hw) (fun e => by omega) (fun q => by omega) (fun q => by omega)⟩⟩
