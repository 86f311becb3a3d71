def F_X11_feeOf_231 : List (Nat × Nat) := [(231, 27), (231, 30), (231, 31), (231, 32)]
def A_X11_feeOf_231 : List Nat := []
set_option maxRecDepth 100000 in
set_option maxHeartbeats 4000000 in
theorem T_X11_feeOf_231 (d : Nat) {N : Nat} {g0 : List en_E} (hI0 : HI g0) (a1 : Int32) (h_a1 : 0 ≤ a1.toInt ∧ a1.toInt ≤ 7) (a2 : Int32) (h_a2 : 0 ≤ a2.toInt ∧ a2.toInt ≤ 11) : Ev (d + 5) 217 [.ref 231, .int a1, .int a2] (g0, N) (fun w h' => ∃ g', h' = (g', N) ∧ HI g' ∧ Fr F_X11_feeOf_231 A_X11_feeOf_231 g0 g' ∧ ∃ r : Int32, w = some (.int r) ∧ True) := by
  have hF0 : Fr F_X11_feeOf_231 A_X11_feeOf_231 g0 g0 := Fr.rf
  refine Ev.mk rfl rfl ⟨Nat.le_of_ble_eq_true rfl, Or.inr (q_rc hI0.1 kx_231 rfl)⟩ ?_
  show At _ none _ _ (0, [(0, .ref 231), (1, .int a1), (2, .int a2)], [], (_, _)) _
  refine At.enter rfl ?_
  refine r_aload_n rfl ?_
  refine r_iconst 1 rfl ?_
  refine r_iload_n rfl ?_
  refine r_iload_n rfl ?_
  refine r_iconst 0 rfl ?_
  refine r_iconst 0 rfl ?_
  refine r_aload_n rfl ?_
  refine q_getR (Sh.ref hI0.1 kx_231 rfl) ?_
  refine r_iload_n rfl ?_
  obtain ⟨v23, hv23⟩ : ∃ v, eA g0 247 a2.toInt = v := ⟨_, rfl⟩
  refine q_iald (Sh.arr hI0.1 ka_247) a2.toInt rfl (by omega) v23 hv23 ?_
  refine q_i2l (fun v24 hv24 => ?_)
  refine r_callV 16 rfl [.ref 231, .int 1, .int a1, .int a2, .int 0, .int 0, .long v24] [] (Nat.le_of_ble_eq_true rfl) rfl (T_X11_tells_231 _ hI0 1 a1 (by omega) a2 (by omega) 0 0 v24) ?_
  rintro _ _ ⟨g25, rfl, hI26, hF27, v28, rfl, hr29⟩
  refine At.stl ?_
  have hF30 := Fr.tr hF0 hF27 rfl rfl
  refine At.enter rfl ?_
  refine r_lstore_n ([(3, .long v28), (0, .ref 231), (1, .int a1), (2, .int a2)]) rfl ?_
  refine r_lload_n rfl ?_
  refine r_lconst 0 rfl ?_
  refine r_lcmp _ rfl ?_
  refine r_ifs 23 rfl (fun c31 => ?_) (fun c31 => ?_)
  · have c31_ : v28.toInt ≥ 0 := en_j_ge_t c31
    refine At.enter rfl ?_
    refine r_lload_n rfl ?_
    refine r_ldc2 999 rfl ?_
    refine r_lcmp _ rfl ?_
    refine r_ifs 35 rfl (fun c32 => ?_) (fun c32 => ?_)
    · have c32_ : v28.toInt ≤ 999 := en_j_le_t c32
      refine At.enter rfl ?_
      refine r_lload_n rfl ?_
      refine q_l2iO (fun v33 hv33 => ?_)
      refine Ar.fall 43 rfl ?_
      refine At.enter rfl ?_
      refine r_ireti ?_
      exact ⟨_, rfl, hI26, hF30, _, rfl, trivial⟩
    · have c32_ : v28.toInt > 999 := en_j_le_f c32
      refine At.enter rfl ?_
      refine r_sipush 999 rfl ?_
      refine r_goto ?_
      refine At.enter rfl ?_
      refine r_ireti ?_
      exact ⟨_, rfl, hI26, hF30, _, rfl, trivial⟩
  · have c31_ : v28.toInt < 0 := en_j_ge_f c31
    refine At.enter rfl ?_
    refine r_iconst 0 rfl ?_
    refine r_goto ?_
    refine At.enter rfl ?_
    refine r_ireti ?_
    exact ⟨_, rfl, hI26, hF30, _, rfl, trivial⟩

def F_X11_isBarred_231 : List (Nat × Nat) := [(231, 27), (231, 30), (231, 31), (231, 32)]
def A_X11_isBarred_231 : List Nat := []
set_option maxRecDepth 100000 in
set_option maxHeartbeats 4000000 in
theorem T_X11_isBarred_231 (d : Nat) {N : Nat} {g0 : List en_E} (hI0 : HI g0) (a1 : Int32) (h_a1 : 0 ≤ a1.toInt ∧ a1.toInt ≤ 7) (a2 : Int32) (h_a2 : 0 ≤ a2.toInt ∧ a2.toInt ≤ 11) (a3 : Int32) (a4 : Int32) : Ev (d + 5) 218 [.ref 231, .int a1, .int a2, .int a3, .int a4] (g0, N) (fun w h' => ∃ g', h' = (g', N) ∧ HI g' ∧ Fr F_X11_isBarred_231 A_X11_isBarred_231 g0 g' ∧ ∃ r : Int32, w = some (.int r) ∧ (0 ≤ r.toInt ∧ r.toInt ≤ 1)) := by
  have hF0 : Fr F_X11_isBarred_231 A_X11_isBarred_231 g0 g0 := Fr.rf
  refine Ev.mk rfl rfl ⟨Nat.le_of_ble_eq_true rfl, Or.inr (q_rc hI0.1 kx_231 rfl)⟩ ?_
  show At _ none _ _ (0, [(0, .ref 231), (1, .int a1), (2, .int a2), (3, .int a3), (4, .int a4)], [], (_, _)) _
  refine At.enter rfl ?_
  refine r_aload_n rfl ?_
  refine r_iconst 2 rfl ?_
  refine r_iload_n rfl ?_
  refine r_iload_n rfl ?_
  refine r_iload_n rfl ?_
  refine r_iload rfl ?_
  refine r_lconst 0 rfl ?_
  refine r_callV 11 rfl [.ref 231, .int 2, .int a1, .int a2, .int a3, .int a4, .long 0] [] (Nat.le_of_ble_eq_true rfl) rfl (T_X11_tells_231 _ hI0 2 a1 (by omega) a2 (by omega) a3 a4 0) ?_
  rintro _ _ ⟨g15, rfl, hI16, hF17, v18, rfl, hr19⟩
  refine At.stl ?_
  have hF20 := Fr.tr hF0 hF17 rfl rfl
  refine At.enter rfl ?_
  refine r_lconst 1 rfl ?_
  refine r_lcmp _ rfl ?_
  refine r_ifs 16 rfl (fun c21 => ?_) (fun c21 => ?_)
  · have c21_ : v18.toInt ≠ 1 := en_j_ne_t c21
    refine At.enter rfl ?_
    refine r_iconst 0 rfl ?_
    refine Ar.fall 21 rfl ?_
    refine At.enter rfl ?_
    refine r_iretz (by decide) ?_
    exact ⟨_, rfl, hI16, hF20, _, rfl, by decide⟩
  · have c21_ : v18.toInt = 1 := en_j_ne_f c21
    refine At.enter rfl ?_
    refine r_iconst 1 rfl ?_
    refine r_goto ?_
    refine At.enter rfl ?_
    refine r_iretz (by decide) ?_
    exact ⟨_, rfl, hI16, hF20, _, rfl, by decide⟩

def F_X11_findWay_231 : List (Nat × Nat) := []
def A_X11_findWay_231 : List Nat := [249]
set_option maxRecDepth 100000 in
set_option maxHeartbeats 4000000 in
theorem T_X11_findWay_231 (d : Nat) {N : Nat} {g0 : List en_E} (hI0 : HI g0) (a1 : Int32) (h_a1 : 0 ≤ a1.toInt ∧ a1.toInt ≤ 7) (hl : a1.toInt < (eA g0 233 1).toInt) : Ev (d + 4) 219 [.ref 231, .int a1] (g0, N) (fun w h' => ∃ g', h' = (g', N) ∧ HI g' ∧ Fr F_X11_findWay_231 A_X11_findWay_231 g0 g' ∧ ∃ r : Int32, w = some (.int r) ∧ ((-1) ≤ r.toInt ∧ r.toInt ≤ 12) ∧ ((∀ j : Int, 0 ≤ j → j ≤ r.toInt → (eA g' 249 j).toInt < (eA g0 233 0).toInt) ∧ ((eA g0 233 (46 + (6 * a1.toInt + 2))).toInt ≠ -1 → WAYF (NMq g0) 12 (eA g0 233 (46 + (6 * a1.toInt + 1))).toInt (eA g0 233 (46 + (6 * a1.toInt + 2))).toInt r.toInt) ∧ ∀ j : Int, 0 ≤ j → j ≤ r.toInt → (eA g' 249 j).toInt = itI (NMq g0) j (eA g0 233 (46 + (6 * a1.toInt + 1))).toInt)) := by
  have hF0 : Fr F_X11_findWay_231 A_X11_findWay_231 g0 g0 := Fr.rf
  refine Ev.mk rfl rfl ⟨Nat.le_of_ble_eq_true rfl, Or.inr (q_rc hI0.1 kx_231 rfl)⟩ ?_
  show At _ none _ _ (0, [(0, .ref 231), (1, .int a1)], [], (_, _)) _
  refine At.enter rfl ?_
  refine r_aload_n rfl ?_
  refine r_iload_n rfl ?_
  refine r_iconst 1 rfl ?_
  refine q_inlV 6 rfl [.ref 231, .int a1, .int 1] [] (Nat.le_of_ble_eq_true rfl) rfl ?_
  refine Ev.mk rfl rfl ⟨Nat.le_of_ble_eq_true rfl, Or.inr (q_rc hI0.1 kx_231 rfl)⟩ ?_
  show At _ none _ _ (0, [(0, .ref 231), (1, .int a1), (2, .int 1)], [], (_, _)) _
  refine At.enter rfl ?_
  refine r_aload_n rfl ?_
  refine q_getR (Sh.ref hI0.1 kx_231 rfl) ?_
  refine r_bipush 46 rfl ?_
  refine r_bipush 6 rfl ?_
  refine r_iload_n rfl ?_
  refine q_imul (6 * a1.toInt) rfl (by omega) (fun v527 hv527 => ?_)
  refine q_iadd (46 + v527.toInt) rfl (by omega) (fun v528 hv528 => ?_)
  refine r_iload_n rfl ?_
  refine q_iadd (v528.toInt + 1) rfl (by omega) (fun v529 hv529 => ?_)
  obtain ⟨v530, hv530⟩ : ∃ v, eA g0 233 (6 * a1.toInt + 47) = v := ⟨_, rfl⟩
  have wv530 := HI.l1 hI0 (j := (6 * a1.toInt + 47)) (a1.toInt) (by omega) (by omega)
  rw [hv530] at wv530
  refine q_iald (Sh.arr hI0.1 ka_233) (6 * a1.toInt + 47) (by omega) (by omega) v530 hv530 ?_
  refine q_ireti ?_
  refine At.enter rfl ?_
  refine r_istore_n ([(2, .int v530), (0, .ref 231), (1, .int a1)]) rfl ?_
  refine r_iconst 0 rfl ?_
  refine r_istore_n ([(3, .int 0), (2, .int v530), (0, .ref 231), (1, .int a1)]) rfl ?_
  refine Ar.fall 9 rfl ?_
  have z_771 : (0 : Int32).toInt = 0 := rfl
  refine w_loopI (fun n_ l_ g_ => ∃ x751 : Int32, ∃ x752 : Int32, n_ = 13 - x752.toInt ∧ HI g_ ∧ Fr F_X11_findWay_231 A_X11_findWay_231 g0 g_ ∧ en_get 0 l_ = some (.ref 231) ∧ en_get 1 l_ = some (.int a1) ∧ en_get 2 l_ = some (.int x751) ∧ en_get 3 l_ = some (.int x752) ∧ ((-1) ≤ x751.toInt ∧ x751.toInt ≤ 11) ∧ (0 ≤ x752.toInt ∧ x752.toInt ≤ 13) ∧ (∀ j : Int, 0 ≤ j → j < x752.toInt → (eA g_ 249 j).toInt < (eA g0 233 0).toInt) ∧ (x751.toInt = -1 ∨ x751.toInt < (eA g0 233 0).toInt) ∧ (x751.toInt = itI (NMq g0) x752.toInt (eA g0 233 (46 + (6 * a1.toInt + 1))).toInt) ∧ (∀ j : Int, 0 ≤ j → j < x752.toInt → itI (NMq g0) j (eA g0 233 (46 + (6 * a1.toInt + 1))).toInt ≠ (eA g0 233 (46 + (6 * a1.toInt + 2))).toInt) ∧ (∀ j : Int, 0 ≤ j → j < x752.toInt → (eA g_ 249 j).toInt = itI (NMq g0) j (eA g0 233 (46 + (6 * a1.toInt + 1))).toInt) ∧ (0 ≤ x752.toInt)) ?_ (13 - 0) ⟨v530, 0, by first | rfl | omega, hI0, hF0, rfl, rfl, rfl, rfl, by omega, by decide, (fun j h0 h1 => absurd h1 (by omega)), by omega, (by have y160_ := (eA_ix (g := g0) (p := 233) (show 46 + (6 * a1.toInt + 1) = (6 * a1.toInt + 47) from by omega)).trans (congrArg Int32.toInt hv530); refine Eq.trans ?_ (itI_n _ (by first | decide | omega) _).symm; omega), (fun j h0 h1 => absurd h1 (by omega)), (fun j h0 h1 => absurd h1 (by omega)), by omega⟩
  rintro n757 l756 g753 ⟨x751, x752, hm772, hI754, hF755, e759, e760, e761, e762, r763, r764, q765, q766, q767, q768, q769, q770⟩ ih758
  refine At.enter rfl ?_
  refine r_iload_n e762 ?_
  refine r_bipush 13 rfl ?_
  refine r_ics 15 rfl (fun c773 => ?_) (fun c773 => ?_)
  · have c773_ : x752.toInt ≥ 13 := en_i_ge_t c773
    refine At.enter rfl ?_
    refine r_iconst (-1) rfl ?_
    refine r_ireti ?_
    have zv774 : ((-1) : Int32).toInt = (-1) := rfl
    have y161_ := (eA_ix (g := g0) (p := 233) (show 46 + (6 * a1.toInt + 1) = (6 * a1.toInt + 47) from by omega)).trans (congrArg Int32.toInt hv530)
    exact ⟨_, rfl, hI754, hF755, _, rfl, by decide, ⟨(fun j h0 h1 => absurd h1 (by have : ((-1) : Int32).toInt = -1 := rfl; omega)), (fun hw => by first | exact WAYF.a x752.toInt (by omega) (by omega) (by rw [← q767]; omega) q768 (by omega) | exact WAYF.n (NMq.e g0) hw q768 (by rw [← q767]; omega) (by omega)), (fun j h0 h1 => absurd h1 (by omega))⟩⟩
  · have c773_ : x752.toInt < 13 := en_i_ge_f c773
    refine At.enter rfl ?_
    refine r_iload_n e761 ?_
    refine r_iconst (-1) rfl ?_
    refine r_ics 20 rfl (fun c775 => ?_) (fun c775 => ?_)
    · have c775_ : x751.toInt = (-1) := en_i_eq_t c775
      refine At.enter rfl ?_
      refine r_iconst (-1) rfl ?_
      refine r_ireti ?_
      have zv776 : ((-1) : Int32).toInt = (-1) := rfl
      have y162_ := (eA_ix (g := g0) (p := 233) (show 46 + (6 * a1.toInt + 1) = (6 * a1.toInt + 47) from by omega)).trans (congrArg Int32.toInt hv530)
      exact ⟨_, rfl, hI754, hF755, _, rfl, by decide, ⟨(fun j h0 h1 => absurd h1 (by have : ((-1) : Int32).toInt = -1 := rfl; omega)), (fun hw => by first | exact WAYF.a x752.toInt (by omega) (by omega) (by rw [← q767]; omega) q768 (by omega) | exact WAYF.n (NMq.e g0) hw q768 (by rw [← q767]; omega) (by omega)), (fun j h0 h1 => absurd h1 (by omega))⟩⟩
    · have c775_ : x751.toInt ≠ (-1) := en_i_eq_f c775
      refine At.enter rfl ?_
      refine r_aload_n e759 ?_
      refine q_getR (Sh.ref hI754.1 kx_231 rfl) ?_
      refine r_iload_n e762 ?_
      refine r_iload_n e761 ?_
      refine q_iast (Sh.arr hI754.1 ka_249) (x752.toInt) rfl (by omega) ?_
      have hI777 := HI.wA1 hI754 ka_249 (p := 249) rfl rfl (x752.toInt) (v := x751) (by dsimp only; omega)
      have hF778 := Fr.wA (p := 249) (j := x752.toInt) (v := x751) hF755 rfl
      refine r_iload_n e761 ?_
      refine r_aload_n e759 ?_
      refine r_iload_n e760 ?_
      refine r_iconst 2 rfl ?_
      refine q_inlV 34 rfl [.ref 231, .int a1, .int 2] [.int x751] (Nat.le_of_ble_eq_true rfl) rfl ?_
      refine Ev.mk rfl rfl ⟨Nat.le_of_ble_eq_true rfl, Or.inr (q_rc hI777.1 kx_231 rfl)⟩ ?_
      show At _ none _ _ (0, [(0, .ref 231), (1, .int a1), (2, .int 2)], [], (_, _)) _
      refine At.enter rfl ?_
      refine r_aload_n rfl ?_
      refine q_getR (Sh.ref hI777.1 kx_231 rfl) ?_
      refine r_bipush 46 rfl ?_
      refine r_bipush 6 rfl ?_
      refine r_iload_n rfl ?_
      refine q_imul (6 * a1.toInt) rfl (by omega) (fun v779 hv779 => ?_)
      refine q_iadd (46 + v779.toInt) rfl (by omega) (fun v780 hv780 => ?_)
      refine r_iload_n rfl ?_
      refine q_iadd (v780.toInt + 2) rfl (by omega) (fun v781 hv781 => ?_)
      obtain ⟨v782, hv782⟩ : ∃ v, eA g0 233 (6 * a1.toInt + 48) = v := ⟨_, rfl⟩
      have wv782 := HI.l2 hI0 (j := (6 * a1.toInt + 48)) (a1.toInt) (by omega) (by omega)
      rw [hv782] at wv782
      refine q_iald (Sh.arr hI777.1 ka_233) (6 * a1.toInt + 48) (by omega) (by omega) v782 ((eA_c ((gA_sA_ne (by decide)).trans (hF755.2.1 233 (by decide)))).trans hv782) ?_
      refine q_ireti ?_
      refine At.enter rfl ?_
      refine r_ics 37 rfl (fun c783 => ?_) (fun c783 => ?_)
      · have c783_ : x751.toInt ≠ v782.toInt := en_i_ne_t c783
        refine At.enter rfl ?_
        refine r_aload_n e759 ?_
        refine r_iload_n e761 ?_
        refine r_iconst 0 rfl ?_
        refine r_callV 45 rfl [.ref 231, .int x751, .int 0] [] (Nat.le_of_ble_eq_true rfl) rfl (T_X11_nextOf0_231 _ hI777 x751 (by omega)) ?_
        rintro _ _ ⟨g784, rfl, hI785, hF786, v787, rfl, hr788⟩
        refine At.sti ?_
        have hF789 := Fr.tr hF778 hF786 rfl rfl
        have zv790 : (0 : Int32).toInt = 0 := rfl
        rw [eA_c (((gA_sA_ne (by decide)).trans (hF755.2.1 233 (by decide))))] at hr788
        rw [NMo.c (((gA_sA_ne (by decide)).trans (hF755.2.1 233 (by decide))))] at hr788
        refine At.enter rfl ?_
        refine r_istore_n _ rfl ?_
        refine q_iinc (w_p1 (by decide) (Or.inr rfl) e762) (x752.toInt + 1) rfl (by omega) (fun v791 hv791 => ?_)
        refine r_goto ?_
        exact ih758 (13 - v791.toInt) _ _ ⟨v787, v791, by first | rfl | omega, hI785, hF789, (w_p1 (by decide) (Or.inr rfl) (w_p1 (by decide) (Or.inr rfl) e759)), (w_p1 (by decide) (Or.inr rfl) (w_p1 (by decide) (Or.inr rfl) e760)), (w_p1 (by decide) (Or.inr rfl) (w_e1 _ _ _)), (w_e1 _ _ _), by omega, by omega, (by intro j h0 h1; exact (Decidable.em (j = x752.toInt)).elim (fun e => by rw [e, ((eA_c (hF786.2.1 249 (by decide))).trans (eA_sA_eq hI754.1 ka_249 rfl (by omega) (by omega)))]; omega) (fun e => by rw [((eA_c (hF786.2.1 249 (by decide))).trans (eA_sA_ne hI754.1 ka_249 e (by omega) h0))]; exact q765 j h0 (by omega))), by omega, (by rw [show v791.toInt = x752.toInt + 1 from by omega, itI_s (NMq g0) (by omega), ← q767]; have z := NMq.ne (g := g0) (s := x751.toInt) (by omega); omega), (WAYF.step q768 (by rw [← q767]; have y163_ := (eA_ix (g := g0) (p := 233) (show 46 + (6 * a1.toInt + 1) = (6 * a1.toInt + 47) from by omega)).trans (congrArg Int32.toInt hv530); have y164_ := (eA_ix (g := g0) (p := 233) (show 46 + (6 * a1.toInt + 2) = (6 * a1.toInt + 48) from by omega)).trans (congrArg Int32.toInt hv782); omega) (show v791.toInt = x752.toInt + 1 from by omega)), (by intro j h0 h1; refine (eA_ti ((hF786.2.1 249 (by decide)))).trans ?_; exact (Decidable.em (j = x752.toInt)).elim (fun k165_ => by refine (eA_eqT hI754.1 ka_249 k165_ (by omega) (by omega)).trans ?_; rw [k165_]; omega) (fun k165_ => by refine (eA_neT hI754.1 ka_249 k165_ (by omega) (by omega)).trans ?_; exact q769 j h0 (by omega))), by omega⟩ ⟨by omega, by omega⟩
      · have c783_ : x751.toInt = v782.toInt := en_i_ne_f c783
        refine At.enter rfl ?_
        refine r_iload_n e762 ?_
        refine r_ireti ?_
        have y166_ := (eA_ix (g := g0) (p := 233) (show 46 + (6 * a1.toInt + 1) = (6 * a1.toInt + 47) from by omega)).trans (congrArg Int32.toInt hv530)
        have y167_ := (eA_ix (g := g0) (p := 233) (show 46 + (6 * a1.toInt + 2) = (6 * a1.toInt + 48) from by omega)).trans (congrArg Int32.toInt hv782)
        exact ⟨_, rfl, hI777, hF778, _, rfl, by omega, ⟨(by intro j h0 h1; exact (Decidable.em (j = x752.toInt)).elim (fun e => by rw [e, ((eA_c rfl).trans (eA_sA_eq hI754.1 ka_249 rfl (by omega) (by omega)))]; omega) (fun e => by rw [((eA_c rfl).trans (eA_sA_ne hI754.1 ka_249 e (by omega) h0))]; exact q765 j h0 (by omega))), (fun hw => by first | exact WAYF.a x752.toInt (by omega) (by omega) (by rw [← q767]; omega) q768 (by omega) | exact WAYF.n (NMq.e g0) hw q768 (by rw [← q767]; omega) (by omega)), (by intro j h0 h1; exact (Decidable.em (j = x752.toInt)).elim (fun k168_ => by refine (eA_eqT hI754.1 ka_249 k168_ (by omega) (by omega)).trans ?_; rw [k168_]; omega) (fun k168_ => by refine (eA_neT hI754.1 ka_249 k168_ (by omega) (by omega)).trans ?_; exact q769 j h0 (by omega)))⟩⟩

def F_X11_way_231 : List (Nat × Nat) := [(231, 0)]
def A_X11_way_231 : List Nat := [249]
set_option maxRecDepth 100000 in
set_option maxHeartbeats 4000000 in
theorem T_X11_way_231 (d : Nat) {N : Nat} {g0 : List en_E} (hI0 : HI g0) (a1 : Int32) (a2 : Int32) : Ev (d + 5) 220 [.ref 231, .int a1, .int a2] (g0, N) (fun w h' => ∃ g', h' = (g', N) ∧ HI g' ∧ Fr F_X11_way_231 A_X11_way_231 g0 g' ∧ ∃ r : Int32, w = some (.int r) ∧ ((-1) ≤ r.toInt ∧ r.toInt ≤ 12) ∧ ((¬ (0 ≤ a1.toInt ∧ a1.toInt < (eA g0 233 1).toInt) → r.toInt = -1) ∧ ((0 ≤ a1.toInt ∧ a1.toInt < (eA g0 233 1).toInt) → (eA g0 233 (46 + (6 * a1.toInt + 2))).toInt ≠ -1 → WAYA (NMq g0) 12 (eA g0 233 (46 + (6 * a1.toInt + 1))).toInt (eA g0 233 (46 + (6 * a1.toInt + 2))).toInt a2.toInt r.toInt))) := by
  have hF0 : Fr F_X11_way_231 A_X11_way_231 g0 g0 := Fr.rf
  refine Ev.mk rfl rfl ⟨Nat.le_of_ble_eq_true rfl, Or.inr (q_rc hI0.1 kx_231 rfl)⟩ ?_
  show At _ none _ _ (0, [(0, .ref 231), (1, .int a1), (2, .int a2)], [], (_, _)) _
  refine At.enter rfl ?_
  refine r_aload_n rfl ?_
  refine r_iconst 0 rfl ?_
  refine q_putI (Sh.int hI0.1 kx_231 rfl) rfl ?_
  have hI55 := HI.wI0 hI0 kx_231 rfl (p := 231) (b := 0) (v := 0) rfl
  have hF56 := Fr.wI (p := 231) (b := 0) (v := 0) hF0 rfl
  refine r_aload_n rfl ?_
  refine r_iload_n rfl ?_
  refine q_inlV 10 rfl [.ref 231, .int a1] [] (Nat.le_of_ble_eq_true rfl) rfl ?_
  refine Ev.mk rfl rfl ⟨Nat.le_of_ble_eq_true rfl, Or.inr (q_rc hI55.1 kx_231 rfl)⟩ ?_
  show At _ none _ _ (0, [(0, .ref 231), (1, .int a1)], [], (_, _)) _
  refine At.enter rfl ?_
  refine r_iload_n rfl ?_
  refine q_i2l (fun v57 hv57 => ?_)
  refine r_lconst 0 rfl ?_
  refine r_aload_n rfl ?_
  refine q_getR (Sh.ref hI55.1 kx_231 rfl) ?_
  refine r_iconst 1 rfl ?_
  obtain ⟨v58, hv58⟩ : ∃ v, eA g0 233 1 = v := ⟨_, rfl⟩
  have tv58 := congrArg Int32.toInt hv58
  have wv58 := HI.t1 hI0
  rw [hv58] at wv58
  refine q_iald (Sh.arr hI55.1 ka_233) 1 rfl (by decide) v58 ((eA_c (gA_sI)).trans hv58) ?_
  refine q_i2l (fun v59 hv59 => ?_)
  refine r_lconst 1 rfl ?_
  refine q_lsub (v59.toInt - 1) rfl (by omega) (fun v60 hv60 => ?_)
  refine q_inlS 15 rfl [.long v57, .long 0, .long v60] [] (Nat.le_of_ble_eq_true rfl) rfl ?_
  refine Ev.mk rfl rfl ⟨Nat.le_of_ble_eq_true rfl, Or.inl rfl⟩ ?_
  show At _ none _ _ (0, [(0, .long v57), (2, .long 0), (4, .long v60)], [], (_, _)) _
  refine At.enter rfl ?_
  refine r_lload_n rfl ?_
  refine r_lload_n rfl ?_
  refine r_lcmp _ rfl ?_
  refine r_ifs 6 rfl (fun c61 => ?_) (fun c61 => ?_)
  · have c61_ : v57.toInt < 0 := en_j_lt_t c61
    refine At.enter rfl ?_
    refine r_iconst 0 rfl ?_
    refine Ar.fall 18 rfl ?_
    refine At.enter rfl ?_
    refine q_iretz (by decide) ?_
    refine At.enter rfl ?_
    refine q_iretz (by decide) ?_
    refine At.enter rfl ?_
    refine r_iff 13 rfl (by decide) ?_
    refine At.enter rfl ?_
    refine r_iconst (-1) rfl ?_
    refine r_ireti ?_
    have zv62 : ((-1) : Int32).toInt = (-1) := rfl
    have x63 := HI.eqA hI0 (p := 233) (j := 1) (hv58)
    exact ⟨_, rfl, hI55, hF56, _, rfl, by decide, ⟨fun _ => by omega, fun h => absurd h (by omega)⟩⟩
  · have c61_ : v57.toInt ≥ 0 := en_j_lt_f c61
    refine At.enter rfl ?_
    refine r_lload_n rfl ?_
    refine r_lload rfl ?_
    refine r_lcmp _ rfl ?_
    refine r_ifs 13 rfl (fun c64 => ?_) (fun c64 => ?_)
    · have c64_ : v57.toInt > v60.toInt := en_j_gt_t c64
      refine At.enter rfl ?_
      refine r_iconst 0 rfl ?_
      refine Ar.fall 18 rfl ?_
      refine At.enter rfl ?_
      refine q_iretz (by decide) ?_
      refine At.enter rfl ?_
      refine q_iretz (by decide) ?_
      refine At.enter rfl ?_
      refine r_iff 13 rfl (by decide) ?_
      refine At.enter rfl ?_
      refine r_iconst (-1) rfl ?_
      refine r_ireti ?_
      have zv65 : ((-1) : Int32).toInt = (-1) := rfl
      have x66 := HI.eqA hI0 (p := 233) (j := 1) (hv58)
      exact ⟨_, rfl, hI55, hF56, _, rfl, by decide, ⟨fun _ => by omega, fun h => absurd h (by omega)⟩⟩
    · have c64_ : v57.toInt ≤ v60.toInt := en_j_gt_f c64
      refine At.enter rfl ?_
      refine r_iconst 1 rfl ?_
      refine r_goto ?_
      refine At.enter rfl ?_
      refine q_iretz (by decide) ?_
      refine At.enter rfl ?_
      refine q_iretz (by decide) ?_
      refine At.enter rfl ?_
      refine r_ift (by decide) ?_
      refine At.enter rfl ?_
      refine r_aload_n rfl ?_
      refine r_iload_n rfl ?_
      refine r_callV 20 rfl [.ref 231, .int a1] [] (Nat.le_of_ble_eq_true rfl) rfl (T_X11_findWay_231 _ hI55 a1 (by omega) (by rw [eA_c ((gA_sI)), hv58]; omega)) ?_
      rintro _ _ ⟨g67, rfl, hI68, hF69, v70, rfl, hr71⟩
      refine At.sti ?_
      have hF72 := Fr.tr hF56 hF69 rfl rfl
      obtain ⟨w73, w74, w75, w76⟩ := hr71
      have w77 := And.intro w73 w74
      have fw78 : ∀ j : Int, 0 ≤ j → j ≤ v70.toInt → (eA g67 249 j).toInt < (eA g0 233 0).toInt := fun j a b => by have z := w77.2 j a b; rw [eA_c ((gA_sI))] at z; exact z
      have w79 := WAYF.cg ((gA_sI)) w75
      have w80 := itI.cg ((gA_sI)) w76
      refine At.enter rfl ?_
      refine r_istore_n ([(3, .int v70), (0, .ref 231), (1, .int a1), (2, .int a2)]) rfl ?_
      refine r_iload_n rfl ?_
      refine r_iconst (-1) rfl ?_
      refine r_ics 26 rfl (fun c81 => ?_) (fun c81 => ?_)
      · have c81_ : v70.toInt = (-1) := en_i_eq_t c81
        refine At.enter rfl ?_
        refine r_iload_n rfl ?_
        refine r_goto ?_
        refine At.enter rfl ?_
        refine r_ireti ?_
        have x82 := HI.eqA hI0 (p := 233) (j := 1) (hv58)
        exact ⟨_, rfl, hI68, hF72, _, rfl, by omega, ⟨fun h => absurd h (by omega), fun h hw => WAYA.mk v70.toInt (w79 hw) (fun e => by omega) (fun q => by omega) (fun q => by omega)⟩⟩
      · have c81_ : v70.toInt ≠ (-1) := en_i_eq_f c81
        refine At.enter rfl ?_
        refine r_iload_n rfl ?_
        refine r_iconst (-1) rfl ?_
        refine r_ics 31 rfl (fun c83 => ?_) (fun c83 => ?_)
        · have c83_ : a2.toInt ≠ (-1) := en_i_ne_t c83
          refine At.enter rfl ?_
          refine r_iload_n rfl ?_
          refine q_i2l (fun v84 hv84 => ?_)
          refine r_lconst 0 rfl ?_
          refine r_iload_n rfl ?_
          refine q_i2l (fun v85 hv85 => ?_)
          refine q_inlS 43 rfl [.long v84, .long 0, .long v85] [] (Nat.le_of_ble_eq_true rfl) rfl ?_
          refine Ev.mk rfl rfl ⟨Nat.le_of_ble_eq_true rfl, Or.inl rfl⟩ ?_
          show At _ none _ _ (0, [(0, .long v84), (2, .long 0), (4, .long v85)], [], (_, _)) _
          refine At.enter rfl ?_
          refine r_lload_n rfl ?_
          refine r_lload_n rfl ?_
          refine r_lcmp _ rfl ?_
          refine r_ifs 6 rfl (fun c86 => ?_) (fun c86 => ?_)
          · have c86_ : v84.toInt < 0 := en_j_lt_t c86
            refine At.enter rfl ?_
            refine r_iconst 0 rfl ?_
            refine Ar.fall 18 rfl ?_
            refine At.enter rfl ?_
            refine q_iretz (by decide) ?_
            refine At.enter rfl ?_
            refine r_ift (by decide) ?_
            refine At.enter rfl ?_
            refine r_iconst (-1) rfl ?_
            refine Ar.fall 56 rfl ?_
            refine At.enter rfl ?_
            refine r_ireti ?_
            have zv87 : ((-1) : Int32).toInt = (-1) := rfl
            have x88 := HI.eqA hI0 (p := 233) (j := 1) (hv58)
            exact ⟨_, rfl, hI68, hF72, _, rfl, by decide, ⟨fun h => absurd h (by omega), fun h hw => WAYA.mk v70.toInt (w79 hw) (fun e => by omega) (fun q => by omega) (fun q => by omega)⟩⟩
          · have c86_ : v84.toInt ≥ 0 := en_j_lt_f c86
            refine At.enter rfl ?_
            refine r_lload_n rfl ?_
            refine r_lload rfl ?_
            refine r_lcmp _ rfl ?_
            refine r_ifs 13 rfl (fun c89 => ?_) (fun c89 => ?_)
            · have c89_ : v84.toInt > v85.toInt := en_j_gt_t c89
              refine At.enter rfl ?_
              refine r_iconst 0 rfl ?_
              refine Ar.fall 18 rfl ?_
              refine At.enter rfl ?_
              refine q_iretz (by decide) ?_
              refine At.enter rfl ?_
              refine r_ift (by decide) ?_
              refine At.enter rfl ?_
              refine r_iconst (-1) rfl ?_
              refine Ar.fall 56 rfl ?_
              refine At.enter rfl ?_
              refine r_ireti ?_
              have zv90 : ((-1) : Int32).toInt = (-1) := rfl
              have x91 := HI.eqA hI0 (p := 233) (j := 1) (hv58)
              exact ⟨_, rfl, hI68, hF72, _, rfl, by decide, ⟨fun h => absurd h (by omega), fun h hw => WAYA.mk v70.toInt (w79 hw) (fun e => by omega) (fun q => by omega) (fun q => by omega)⟩⟩
            · have c89_ : v84.toInt ≤ v85.toInt := en_j_gt_f c89
              refine At.enter rfl ?_
              refine r_iconst 1 rfl ?_
              refine r_goto ?_
              refine At.enter rfl ?_
              refine q_iretz (by decide) ?_
              refine At.enter rfl ?_
              refine r_iff 46 rfl (by decide) ?_
              refine At.enter rfl ?_
              refine r_aload_n rfl ?_
              refine q_getR (Sh.ref hI68.1 kx_231 rfl) ?_
              refine r_iload_n rfl ?_
              obtain ⟨v92, hv92⟩ : ∃ v, eA g67 249 a2.toInt = v := ⟨_, rfl⟩
              have rv92 := RgA.at hI68.2.2.1 (Sh.arr hI68.1 ka_249).2 (p := 249) rfl (j := a2.toInt) (by omega)
              rw [hv92] at rv92
              dsimp only at rv92
              refine q_iald (Sh.arr hI68.1 ka_249) a2.toInt rfl (by omega) v92 hv92 ?_
              refine r_goto ?_
              refine At.enter rfl ?_
              refine r_ireti ?_
              have x93 := HI.eqA hI0 (p := 233) (j := 1) (hv58)
              exact ⟨_, rfl, hI68, hF72, _, rfl, by omega, ⟨fun h => absurd h (by omega), fun h hw => WAYA.mk v70.toInt (w79 hw) (fun e => by omega) (fun q => by have z := w80 _ q.2.1 q.2.2; rw [hv92] at z; omega) (fun q => by omega)⟩⟩
        · have c83_ : a2.toInt = (-1) := en_i_ne_f c83
          refine At.enter rfl ?_
          refine r_iload_n rfl ?_
          refine r_goto ?_
          refine At.enter rfl ?_
          refine r_ireti ?_
          have x94 := HI.eqA hI0 (p := 233) (j := 1) (hv58)
          exact ⟨_, rfl, hI68, hF72, _, rfl, by omega, ⟨fun h => absurd h (by omega), fun h hw => WAYA.mk v70.toInt (w79 hw) (fun e => by omega) (fun q => by omega) (fun q => by omega)⟩⟩

def F_X11_enter_231 : List (Nat × Nat) := [(231, 0)]
def A_X11_enter_231 : List Nat := []
set_option maxRecDepth 100000 in
set_option maxHeartbeats 4000000 in
theorem T_X11_enter_231 (d : Nat) {N : Nat} {g0 : List en_E} (hI0 : HI g0) (a1 : Int32) (a2 : Int32) : Ev (d + 4) 222 [.ref 231, .int a1, .int a2] (g0, N) (fun w h' => ∃ g', h' = (g', N) ∧ HI g' ∧ Fr F_X11_enter_231 A_X11_enter_231 g0 g' ∧ ∃ r : Int32, w = some (.int r) ∧ True) := by
  have hF0 : Fr F_X11_enter_231 A_X11_enter_231 g0 g0 := Fr.rf
  refine Ev.mk rfl rfl ⟨Nat.le_of_ble_eq_true rfl, Or.inr (q_rc hI0.1 kx_231 rfl)⟩ ?_
  show At _ none _ _ (0, [(0, .ref 231), (1, .int a1), (2, .int a2)], [], (_, _)) _
  refine At.enter rfl ?_
  refine r_aload_n rfl ?_
  refine r_iconst 0 rfl ?_
  refine q_putI (Sh.int hI0.1 kx_231 rfl) rfl ?_
  have hI8431 := HI.wI0 hI0 kx_231 rfl (p := 231) (b := 0) (v := 0) rfl
  have hF8432 := Fr.wI (p := 231) (b := 0) (v := 0) hF0 rfl
  refine r_aload_n rfl ?_
  refine r_iload_n rfl ?_
  refine q_inlV 10 rfl [.ref 231, .int a1] [] (Nat.le_of_ble_eq_true rfl) rfl ?_
  refine Ev.mk rfl rfl ⟨Nat.le_of_ble_eq_true rfl, Or.inr (q_rc hI8431.1 kx_231 rfl)⟩ ?_
  show At _ none _ _ (0, [(0, .ref 231), (1, .int a1)], [], (_, _)) _
  refine At.enter rfl ?_
  refine r_iload_n rfl ?_
  refine q_i2l (fun v8433 hv8433 => ?_)
  refine r_lconst 0 rfl ?_
  refine r_aload_n rfl ?_
  refine q_getR (Sh.ref hI8431.1 kx_231 rfl) ?_
  refine r_iconst 0 rfl ?_
  obtain ⟨v8434, hv8434⟩ : ∃ v, eA g0 233 0 = v := ⟨_, rfl⟩
  have tv8434 := congrArg Int32.toInt hv8434
  have wv8434 := HI.t0 hI0
  rw [hv8434] at wv8434
  refine q_iald (Sh.arr hI8431.1 ka_233) 0 rfl (by decide) v8434 ((eA_c (gA_sI)).trans hv8434) ?_
  refine q_i2l (fun v8435 hv8435 => ?_)
  refine r_lconst 1 rfl ?_
  refine q_lsub (v8435.toInt - 1) rfl (by omega) (fun v8436 hv8436 => ?_)
  refine q_inlS 15 rfl [.long v8433, .long 0, .long v8436] [] (Nat.le_of_ble_eq_true rfl) rfl ?_
  refine Ev.mk rfl rfl ⟨Nat.le_of_ble_eq_true rfl, Or.inl rfl⟩ ?_
  show At _ none _ _ (0, [(0, .long v8433), (2, .long 0), (4, .long v8436)], [], (_, _)) _
  refine At.enter rfl ?_
  refine r_lload_n rfl ?_
  refine r_lload_n rfl ?_
  refine r_lcmp _ rfl ?_
  refine r_ifs 6 rfl (fun c8437 => ?_) (fun c8437 => ?_)
  · have c8437_ : v8433.toInt < 0 := en_j_lt_t c8437
    refine At.enter rfl ?_
    refine r_iconst 0 rfl ?_
    refine Ar.fall 18 rfl ?_
    refine At.enter rfl ?_
    refine q_iretz (by decide) ?_
    refine At.enter rfl ?_
    refine q_iretz (by decide) ?_
    refine At.enter rfl ?_
    refine r_ift (by decide) ?_
    refine At.enter rfl ?_
    refine r_iconst (-1) rfl ?_
    refine r_ireti ?_
    exact ⟨_, rfl, hI8431, hF8432, _, rfl, trivial⟩
  · have c8437_ : v8433.toInt ≥ 0 := en_j_lt_f c8437
    refine At.enter rfl ?_
    refine r_lload_n rfl ?_
    refine r_lload rfl ?_
    refine r_lcmp _ rfl ?_
    refine r_ifs 13 rfl (fun c8438 => ?_) (fun c8438 => ?_)
    · have c8438_ : v8433.toInt > v8436.toInt := en_j_gt_t c8438
      refine At.enter rfl ?_
      refine r_iconst 0 rfl ?_
      refine Ar.fall 18 rfl ?_
      refine At.enter rfl ?_
      refine q_iretz (by decide) ?_
      refine At.enter rfl ?_
      refine q_iretz (by decide) ?_
      refine At.enter rfl ?_
      refine r_ift (by decide) ?_
      refine At.enter rfl ?_
      refine r_iconst (-1) rfl ?_
      refine r_ireti ?_
      exact ⟨_, rfl, hI8431, hF8432, _, rfl, trivial⟩
    · have c8438_ : v8433.toInt ≤ v8436.toInt := en_j_gt_f c8438
      refine At.enter rfl ?_
      refine r_iconst 1 rfl ?_
      refine r_goto ?_
      refine At.enter rfl ?_
      refine q_iretz (by decide) ?_
      refine At.enter rfl ?_
      refine q_iretz (by decide) ?_
      refine At.enter rfl ?_
      refine r_iff 13 rfl (by decide) ?_
      refine At.enter rfl ?_
      refine r_aload_n rfl ?_
      refine r_iload_n rfl ?_
      refine q_inlV 18 rfl [.ref 231, .int a2] [] (Nat.le_of_ble_eq_true rfl) rfl ?_
      refine Ev.mk rfl rfl ⟨Nat.le_of_ble_eq_true rfl, Or.inr (q_rc hI8431.1 kx_231 rfl)⟩ ?_
      show At _ none _ _ (0, [(0, .ref 231), (1, .int a2)], [], (_, _)) _
      refine At.enter rfl ?_
      refine r_iload_n rfl ?_
      refine q_i2l (fun v8439 hv8439 => ?_)
      refine r_lconst 0 rfl ?_
      refine r_iconst 1 rfl ?_
      refine r_aload_n rfl ?_
      refine q_getR (Sh.ref hI8431.1 kx_231 rfl) ?_
      refine r_iconst 0 rfl ?_
      refine q_iald (Sh.arr hI8431.1 ka_233) 0 rfl (by decide) v8434 ((eA_c (gA_sI)).trans hv8434) ?_
      refine q_ishlO (fun v8440 hv8440 => ?_)
      refine q_i2l (fun v8441 hv8441 => ?_)
      refine r_lconst 1 rfl ?_
      have bv8442 := q_bnd v8440
      refine q_lsub (v8441.toInt - 1) rfl (by omega) (fun v8443 hv8443 => ?_)
      refine q_inlS 17 rfl [.long v8439, .long 0, .long v8443] [] (Nat.le_of_ble_eq_true rfl) rfl ?_
      refine Ev.mk rfl rfl ⟨Nat.le_of_ble_eq_true rfl, Or.inl rfl⟩ ?_
      show At _ none _ _ (0, [(0, .long v8439), (2, .long 0), (4, .long v8443)], [], (_, _)) _
      refine At.enter rfl ?_
      refine r_lload_n rfl ?_
      refine r_lload_n rfl ?_
      refine r_lcmp _ rfl ?_
      refine r_ifs 6 rfl (fun c8444 => ?_) (fun c8444 => ?_)
      · have c8444_ : v8439.toInt < 0 := en_j_lt_t c8444
        refine At.enter rfl ?_
        refine r_iconst 0 rfl ?_
        refine Ar.fall 18 rfl ?_
        refine At.enter rfl ?_
        refine q_iretz (by decide) ?_
        refine At.enter rfl ?_
        refine q_iretz (by decide) ?_
        refine At.enter rfl ?_
        refine r_iff 21 rfl (by decide) ?_
        refine At.enter rfl ?_
        refine r_iconst (-1) rfl ?_
        refine r_ireti ?_
        exact ⟨_, rfl, hI8431, hF8432, _, rfl, trivial⟩
      · have c8444_ : v8439.toInt ≥ 0 := en_j_lt_f c8444
        refine At.enter rfl ?_
        refine r_lload_n rfl ?_
        refine r_lload rfl ?_
        refine r_lcmp _ rfl ?_
        refine r_ifs 13 rfl (fun c8445 => ?_) (fun c8445 => ?_)
        · have c8445_ : v8439.toInt > v8443.toInt := en_j_gt_t c8445
          refine At.enter rfl ?_
          refine r_iconst 0 rfl ?_
          refine Ar.fall 18 rfl ?_
          refine At.enter rfl ?_
          refine q_iretz (by decide) ?_
          refine At.enter rfl ?_
          refine q_iretz (by decide) ?_
          refine At.enter rfl ?_
          refine r_iff 21 rfl (by decide) ?_
          refine At.enter rfl ?_
          refine r_iconst (-1) rfl ?_
          refine r_ireti ?_
          exact ⟨_, rfl, hI8431, hF8432, _, rfl, trivial⟩
        · have c8445_ : v8439.toInt ≤ v8443.toInt := en_j_gt_f c8445
          refine At.enter rfl ?_
          refine r_iconst 1 rfl ?_
          refine r_goto ?_
          refine At.enter rfl ?_
          refine q_iretz (by decide) ?_
          refine At.enter rfl ?_
          refine q_iretz (by decide) ?_
          refine At.enter rfl ?_
          refine r_ift (by decide) ?_
          refine At.enter rfl ?_
          refine r_iconst 0 rfl ?_
          refine r_istore_n ([(3, .int 0), (0, .ref 231), (1, .int a1), (2, .int a2)]) rfl ?_
          refine r_iconst 0 rfl ?_
          refine r_istore ([(4, .int 0), (3, .int 0), (0, .ref 231), (1, .int a1), (2, .int a2)]) rfl ?_
          refine Ar.fall 28 rfl ?_
          have z_12222 : (0 : Int32).toInt = 0 := rfl
          have z_12223 : (0 : Int32).toInt = 0 := rfl
          refine w_loopI (fun n_ l_ g_ => ∃ x12208 : Int32, ∃ x12209 : Int32, n_ = 12 - x12209.toInt ∧ HI g_ ∧ Fr F_X11_enter_231 A_X11_enter_231 g0 g_ ∧ en_get 0 l_ = some (.ref 231) ∧ en_get 1 l_ = some (.int a1) ∧ en_get 2 l_ = some (.int a2) ∧ en_get 3 l_ = some (.int x12208) ∧ en_get 4 l_ = some (.int x12209) ∧ (0 ≤ x12209.toInt ∧ x12209.toInt ≤ 12)) ?_ (12 - 0) ⟨0, 0, by first | rfl | omega, hI8431, hF8432, rfl, rfl, rfl, rfl, rfl, by decide⟩
          rintro n12214 l12213 g12210 ⟨x12208, x12209, hm12224, hI12211, hF12212, e12216, e12217, e12218, e12219, e12220, r12221⟩ ih12215
          refine At.enter rfl ?_
          refine r_iload e12220 ?_
          refine r_aload_n e12216 ?_
          refine q_getR (Sh.ref hI12211.1 kx_231 rfl) ?_
          refine r_iconst 0 rfl ?_
          refine q_iald (Sh.arr hI12211.1 ka_233) 0 rfl (by decide) v8434 ((eA_c (hF12212.2.1 233 (by decide))).trans hv8434) ?_
          have bv12226 := q_bnd x12209
          have bv12227 := q_bnd v8434
          refine r_ics 39 rfl (fun c12225 => ?_) (fun c12225 => ?_)
          · have c12225_ : x12209.toInt ≥ v8434.toInt := en_i_ge_t c12225
            refine At.enter rfl ?_
            refine r_iload_n e12219 ?_
            refine r_ireti ?_
            exact ⟨_, rfl, hI12211, hF12212, _, rfl, trivial⟩
          · have c12225_ : x12209.toInt < v8434.toInt := en_i_ge_f c12225
            refine At.enter rfl ?_
            refine r_iload e12220 ?_
            refine r_istore _ rfl ?_
            refine r_iconst 0 rfl ?_
            refine r_istore _ rfl ?_
            refine Ar.fall 46 rfl ?_
            have z_12606 : (0 : Int32).toInt = 0 := rfl
            refine w_loopI (fun n_ l_ g_ => ∃ x12588 : Int32, ∃ x12589 : Int32, ∃ x12590 : Int32, n_ = 13 - x12590.toInt ∧ HI g_ ∧ Fr F_X11_enter_231 A_X11_enter_231 g0 g_ ∧ en_get 0 l_ = some (.ref 231) ∧ en_get 1 l_ = some (.int a1) ∧ en_get 2 l_ = some (.int a2) ∧ en_get 3 l_ = some (.int x12588) ∧ en_get 4 l_ = some (.int x12209) ∧ en_get 5 l_ = some (.int x12589) ∧ en_get 6 l_ = some (.int x12590) ∧ ((-1) ≤ x12589.toInt ∧ x12589.toInt ≤ 11) ∧ (0 ≤ x12590.toInt ∧ x12590.toInt ≤ 13)) ?_ (13 - 0) ⟨x12208, x12209, 0, by first | rfl | omega, hI12211, hF12212, (w_p1 (by decide) (Or.inr rfl) (w_p1 (by decide) (Or.inr rfl) e12216)), (w_p1 (by decide) (Or.inr rfl) (w_p1 (by decide) (Or.inr rfl) e12217)), (w_p1 (by decide) (Or.inr rfl) (w_p1 (by decide) (Or.inr rfl) e12218)), (w_p1 (by decide) (Or.inr rfl) (w_p1 (by decide) (Or.inr rfl) e12219)), (w_p1 (by decide) (Or.inr rfl) (w_p1 (by decide) (Or.inr rfl) e12220)), (w_p1 (by decide) (Or.inr rfl) (w_e1 _ _ _)), (w_e1 _ _ _), by omega, by decide⟩
            rintro n12595 l12594 g12591 ⟨x12588, x12589, x12590, hm12607, hI12592, hF12593, e12597, e12598, e12599, e12600, e12601, e12602, e12603, r12604, r12605⟩ ih12596
            refine At.enter rfl ?_
            refine r_iload e12603 ?_
            refine r_bipush 13 rfl ?_
            refine r_ics 53 rfl (fun c12608 => ?_) (fun c12608 => ?_)
            · have c12608_ : x12590.toInt ≥ 13 := en_i_ge_t c12608
              refine At.enter rfl ?_
              refine q_iinc e12601 (x12209.toInt + 1) rfl (by omega) (fun v12609 hv12609 => ?_)
              refine r_goto ?_
              have bv12610 := q_bnd x12588
              exact ih12215 (12 - v12609.toInt) _ _ ⟨x12588, v12609, by first | rfl | omega, hI12592, hF12593, (w_p1 (by decide) (Or.inr rfl) e12597), (w_p1 (by decide) (Or.inr rfl) e12598), (w_p1 (by decide) (Or.inr rfl) e12599), (w_p1 (by decide) (Or.inr rfl) e12600), (w_e1 _ _ _), by omega⟩ ⟨by omega, by omega⟩
            · have c12608_ : x12590.toInt < 13 := en_i_ge_f c12608
              refine At.enter rfl ?_
              refine r_iload e12602 ?_
              refine r_iconst (-1) rfl ?_
              refine r_ics 59 rfl (fun c12611 => ?_) (fun c12611 => ?_)
              · have c12611_ : x12589.toInt = (-1) := en_i_eq_t c12611
                refine At.enter rfl ?_
                refine q_iinc e12601 (x12209.toInt + 1) rfl (by omega) (fun v12612 hv12612 => ?_)
                refine r_goto ?_
                have bv12613 := q_bnd x12588
                exact ih12215 (12 - v12612.toInt) _ _ ⟨x12588, v12612, by first | rfl | omega, hI12592, hF12593, (w_p1 (by decide) (Or.inr rfl) e12597), (w_p1 (by decide) (Or.inr rfl) e12598), (w_p1 (by decide) (Or.inr rfl) e12599), (w_p1 (by decide) (Or.inr rfl) e12600), (w_e1 _ _ _), by omega⟩ ⟨by omega, by omega⟩
              · have c12611_ : x12589.toInt ≠ (-1) := en_i_eq_f c12611
                refine At.enter rfl ?_
                refine r_iload_n e12599 ?_
                refine r_iload e12602 ?_
                refine r_iconst (-1) rfl ?_
                refine r_ics 66 rfl (fun c12614 => ?_) (fun c12614 => ?_)
                · have c12614_ : x12589.toInt ≠ (-1) := en_i_ne_t c12614
                  refine At.enter rfl ?_
                  refine r_iload e12602 ?_
                  refine Ar.fall 72 rfl ?_
                  refine At.enter rfl ?_
                  refine q_inlS 75 rfl [.int a2, .int x12589] [] (Nat.le_of_ble_eq_true rfl) rfl ?_
                  refine Ev.mk rfl rfl ⟨Nat.le_of_ble_eq_true rfl, Or.inl rfl⟩ ?_
                  show At _ none _ _ (0, [(0, .int a2), (1, .int x12589)], [], (_, _)) _
                  refine At.enter rfl ?_
                  refine r_iload_n rfl ?_
                  refine r_iload_n rfl ?_
                  refine q_ishrO (fun v12615 hv12615 => ?_)
                  refine r_iconst 1 rfl ?_
                  refine q_iandO (fun v12616 hv12616 => ?_)
                  refine r_iconst 1 rfl ?_
                  refine r_ics 9 rfl (fun c12617 => ?_) (fun c12617 => ?_)
                  · have c12617_ : v12616.toInt ≠ 1 := en_i_ne_t c12617
                    refine At.enter rfl ?_
                    refine r_iconst 0 rfl ?_
                    refine Ar.fall 14 rfl ?_
                    refine At.enter rfl ?_
                    refine q_iretz (by decide) ?_
                    refine At.enter rfl ?_
                    refine r_iff 78 rfl (by decide) ?_
                    refine At.enter rfl ?_
                    refine r_iload_n e12600 ?_
                    refine r_iload e12602 ?_
                    refine r_iload_n e12598 ?_
                    refine r_ics 85 rfl (fun c12618 => ?_) (fun c12618 => ?_)
                    · have c12618_ : x12589.toInt ≠ a1.toInt := en_i_ne_t c12618
                      refine At.enter rfl ?_
                      refine r_iconst 0 rfl ?_
                      refine Ar.fall 93 rfl ?_
                      refine At.enter rfl ?_
                      refine q_iorO (fun v12619 hv12619 => ?_)
                      refine r_istore_n _ rfl ?_
                      refine r_iload (w_p1 (by decide) (Or.inr rfl) e12602) ?_
                      refine r_iload_n (w_p1 (by decide) (Or.inr rfl) e12598) ?_
                      refine r_ics 101 rfl (fun c12620 => ?_) (fun c12620 => ?_)
                      · have c12620_ : x12589.toInt ≠ a1.toInt := en_i_ne_t c12620
                        refine At.enter rfl ?_
                        refine r_aload_n (w_p1 (by decide) (Or.inr rfl) e12597) ?_
                        refine r_iload (w_p1 (by decide) (Or.inr rfl) e12602) ?_
                        refine r_iconst 0 rfl ?_
                        refine r_callV 112 rfl [.ref 231, .int x12589, .int 0] [] (Nat.le_of_ble_eq_true rfl) rfl (T_X11_nextOf0_231 _ hI12592 x12589 (by omega)) ?_
                        rintro _ _ ⟨g12621, rfl, hI12622, hF12623, v12624, rfl, hr12625⟩
                        refine At.sti ?_
                        have hF12626 := Fr.tr hF12593 hF12623 rfl rfl
                        have zv12627 : (0 : Int32).toInt = 0 := rfl
                        rw [eA_c ((hF12593.2.1 233 (by decide)))] at hr12625
                        rw [NMo.c ((hF12593.2.1 233 (by decide)))] at hr12625
                        refine At.enter rfl ?_
                        refine r_istore _ rfl ?_
                        refine q_iinc (w_p1 (by decide) (Or.inr rfl) (w_p1 (by decide) (Or.inr rfl) e12603)) (x12590.toInt + 1) rfl (by omega) (fun v12628 hv12628 => ?_)
                        refine r_goto ?_
                        have bv12629 := q_bnd v12619
                        exact ih12596 (13 - v12628.toInt) _ _ ⟨v12619, v12624, v12628, by first | rfl | omega, hI12622, hF12626, (w_p1 (by decide) (Or.inr rfl) (w_p1 (by decide) (Or.inr rfl) (w_p1 (by decide) (Or.inr rfl) e12597))), (w_p1 (by decide) (Or.inr rfl) (w_p1 (by decide) (Or.inr rfl) (w_p1 (by decide) (Or.inr rfl) e12598))), (w_p1 (by decide) (Or.inr rfl) (w_p1 (by decide) (Or.inr rfl) (w_p1 (by decide) (Or.inr rfl) e12599))), (w_p1 (by decide) (Or.inr rfl) (w_p1 (by decide) (Or.inr rfl) (w_e1 _ _ _))), (w_p1 (by decide) (Or.inr rfl) (w_p1 (by decide) (Or.inr rfl) (w_p1 (by decide) (Or.inr rfl) e12601))), (w_p1 (by decide) (Or.inr rfl) (w_e1 _ _ _)), (w_e1 _ _ _), by omega, by omega⟩ ⟨by omega, by omega⟩
                      · have c12620_ : x12589.toInt = a1.toInt := en_i_ne_f c12620
                        refine At.enter rfl ?_
                        refine r_iconst (-1) rfl ?_
                        refine r_goto ?_
                        refine At.enter rfl ?_
                        refine r_istore _ rfl ?_
                        refine q_iinc (w_p1 (by decide) (Or.inr rfl) (w_p1 (by decide) (Or.inr rfl) e12603)) (x12590.toInt + 1) rfl (by omega) (fun v12630 hv12630 => ?_)
                        refine r_goto ?_
                        have bv12631 := q_bnd v12619
                        exact ih12596 (13 - v12630.toInt) _ _ ⟨v12619, (-1), v12630, by first | rfl | omega, hI12592, hF12593, (w_p1 (by decide) (Or.inr rfl) (w_p1 (by decide) (Or.inr rfl) (w_p1 (by decide) (Or.inr rfl) e12597))), (w_p1 (by decide) (Or.inr rfl) (w_p1 (by decide) (Or.inr rfl) (w_p1 (by decide) (Or.inr rfl) e12598))), (w_p1 (by decide) (Or.inr rfl) (w_p1 (by decide) (Or.inr rfl) (w_p1 (by decide) (Or.inr rfl) e12599))), (w_p1 (by decide) (Or.inr rfl) (w_p1 (by decide) (Or.inr rfl) (w_e1 _ _ _))), (w_p1 (by decide) (Or.inr rfl) (w_p1 (by decide) (Or.inr rfl) (w_p1 (by decide) (Or.inr rfl) e12601))), (w_p1 (by decide) (Or.inr rfl) (w_e1 _ _ _)), (w_e1 _ _ _), by decide, by omega⟩ ⟨by omega, by omega⟩
                    · have c12618_ : x12589.toInt = a1.toInt := en_i_ne_f c12618
                      refine At.enter rfl ?_
                      refine r_iconst 1 rfl ?_
                      refine r_iload e12601 ?_
                      refine q_ishlO (fun v12632 hv12632 => ?_)
                      refine r_goto ?_
                      refine At.enter rfl ?_
                      refine q_iorO (fun v12633 hv12633 => ?_)
                      refine r_istore_n _ rfl ?_
                      refine r_iload (w_p1 (by decide) (Or.inr rfl) e12602) ?_
                      refine r_iload_n (w_p1 (by decide) (Or.inr rfl) e12598) ?_
                      refine r_ics 101 rfl (fun c12634 => ?_) (fun c12634 => ?_)
                      · have c12634_ : x12589.toInt ≠ a1.toInt := en_i_ne_t c12634
                        refine At.enter rfl ?_
                        refine r_aload_n (w_p1 (by decide) (Or.inr rfl) e12597) ?_
                        refine r_iload (w_p1 (by decide) (Or.inr rfl) e12602) ?_
                        refine r_iconst 0 rfl ?_
                        refine r_callV 112 rfl [.ref 231, .int x12589, .int 0] [] (Nat.le_of_ble_eq_true rfl) rfl (T_X11_nextOf0_231 _ hI12592 x12589 (by omega)) ?_
                        rintro _ _ ⟨g12635, rfl, hI12636, hF12637, v12638, rfl, hr12639⟩
                        refine At.sti ?_
                        have hF12640 := Fr.tr hF12593 hF12637 rfl rfl
                        have zv12641 : (0 : Int32).toInt = 0 := rfl
                        rw [eA_c ((hF12593.2.1 233 (by decide)))] at hr12639
                        rw [NMo.c ((hF12593.2.1 233 (by decide)))] at hr12639
                        refine At.enter rfl ?_
                        refine r_istore _ rfl ?_
                        refine q_iinc (w_p1 (by decide) (Or.inr rfl) (w_p1 (by decide) (Or.inr rfl) e12603)) (x12590.toInt + 1) rfl (by omega) (fun v12642 hv12642 => ?_)
                        refine r_goto ?_
                        have bv12643 := q_bnd v12633
                        exact ih12596 (13 - v12642.toInt) _ _ ⟨v12633, v12638, v12642, by first | rfl | omega, hI12636, hF12640, (w_p1 (by decide) (Or.inr rfl) (w_p1 (by decide) (Or.inr rfl) (w_p1 (by decide) (Or.inr rfl) e12597))), (w_p1 (by decide) (Or.inr rfl) (w_p1 (by decide) (Or.inr rfl) (w_p1 (by decide) (Or.inr rfl) e12598))), (w_p1 (by decide) (Or.inr rfl) (w_p1 (by decide) (Or.inr rfl) (w_p1 (by decide) (Or.inr rfl) e12599))), (w_p1 (by decide) (Or.inr rfl) (w_p1 (by decide) (Or.inr rfl) (w_e1 _ _ _))), (w_p1 (by decide) (Or.inr rfl) (w_p1 (by decide) (Or.inr rfl) (w_p1 (by decide) (Or.inr rfl) e12601))), (w_p1 (by decide) (Or.inr rfl) (w_e1 _ _ _)), (w_e1 _ _ _), by omega, by omega⟩ ⟨by omega, by omega⟩
                      · have c12634_ : x12589.toInt = a1.toInt := en_i_ne_f c12634
                        refine At.enter rfl ?_
                        refine r_iconst (-1) rfl ?_
                        refine r_goto ?_
                        refine At.enter rfl ?_
                        refine r_istore _ rfl ?_
                        refine q_iinc (w_p1 (by decide) (Or.inr rfl) (w_p1 (by decide) (Or.inr rfl) e12603)) (x12590.toInt + 1) rfl (by omega) (fun v12644 hv12644 => ?_)
                        refine r_goto ?_
                        have bv12645 := q_bnd v12633
                        exact ih12596 (13 - v12644.toInt) _ _ ⟨v12633, (-1), v12644, by first | rfl | omega, hI12592, hF12593, (w_p1 (by decide) (Or.inr rfl) (w_p1 (by decide) (Or.inr rfl) (w_p1 (by decide) (Or.inr rfl) e12597))), (w_p1 (by decide) (Or.inr rfl) (w_p1 (by decide) (Or.inr rfl) (w_p1 (by decide) (Or.inr rfl) e12598))), (w_p1 (by decide) (Or.inr rfl) (w_p1 (by decide) (Or.inr rfl) (w_p1 (by decide) (Or.inr rfl) e12599))), (w_p1 (by decide) (Or.inr rfl) (w_p1 (by decide) (Or.inr rfl) (w_e1 _ _ _))), (w_p1 (by decide) (Or.inr rfl) (w_p1 (by decide) (Or.inr rfl) (w_p1 (by decide) (Or.inr rfl) e12601))), (w_p1 (by decide) (Or.inr rfl) (w_e1 _ _ _)), (w_e1 _ _ _), by decide, by omega⟩ ⟨by omega, by omega⟩
                  · have c12617_ : v12616.toInt = 1 := en_i_ne_f c12617
                    refine At.enter rfl ?_
                    refine r_iconst 1 rfl ?_
                    refine r_goto ?_
                    refine At.enter rfl ?_
                    refine q_iretz (by decide) ?_
                    refine At.enter rfl ?_
                    refine r_ift (by decide) ?_
                    refine At.enter rfl ?_
                    refine q_iinc e12601 (x12209.toInt + 1) rfl (by omega) (fun v12646 hv12646 => ?_)
                    refine r_goto ?_
                    have bv12647 := q_bnd x12588
                    exact ih12215 (12 - v12646.toInt) _ _ ⟨x12588, v12646, by first | rfl | omega, hI12592, hF12593, (w_p1 (by decide) (Or.inr rfl) e12597), (w_p1 (by decide) (Or.inr rfl) e12598), (w_p1 (by decide) (Or.inr rfl) e12599), (w_p1 (by decide) (Or.inr rfl) e12600), (w_e1 _ _ _), by omega⟩ ⟨by omega, by omega⟩
                · have c12614_ : x12589.toInt = (-1) := en_i_ne_f c12614
                  exfalso; omega

def F_X11_canHold_231 : List (Nat × Nat) := []
def A_X11_canHold_231 : List Nat := []
set_option maxRecDepth 100000 in
set_option maxHeartbeats 4000000 in
theorem T_X11_canHold_231 (d : Nat) {N : Nat} {g0 : List en_E} (hI0 : HI g0) (a1 : Int32) (h_a1 : 0 ≤ a1.toInt ∧ a1.toInt ≤ 11) (a2 : Int32) (h_a2 : 0 ≤ a2.toInt ∧ a2.toInt ≤ 7) : Ev (d + 2) 224 [.ref 231, .int a1, .int a2] (g0, N) (fun w h' => ∃ g', h' = (g', N) ∧ HI g' ∧ Fr F_X11_canHold_231 A_X11_canHold_231 g0 g' ∧ ∃ r : Int32, w = some (.int r) ∧ (0 ≤ r.toInt ∧ r.toInt ≤ 1)) := by
  have hF0 : Fr F_X11_canHold_231 A_X11_canHold_231 g0 g0 := Fr.rf
  refine Ev.mk rfl rfl ⟨Nat.le_of_ble_eq_true rfl, Or.inr (q_rc hI0.1 kx_231 rfl)⟩ ?_
  show At _ none _ _ (0, [(0, .ref 231), (1, .int a1), (2, .int a2)], [], (_, _)) _
  refine At.enter rfl ?_
  refine r_iconst 0 rfl ?_
  refine r_istore_n ([(3, .int 0), (0, .ref 231), (1, .int a1), (2, .int a2)]) rfl ?_
  refine r_aload_n rfl ?_
  refine r_iload_n rfl ?_
  refine r_iconst 0 rfl ?_
  refine q_inlV 8 rfl [.ref 231, .int a2, .int 0] [] (Nat.le_of_ble_eq_true rfl) rfl ?_
  refine Ev.mk rfl rfl ⟨Nat.le_of_ble_eq_true rfl, Or.inr (q_rc hI0.1 kx_231 rfl)⟩ ?_
  show At _ none _ _ (0, [(0, .ref 231), (1, .int a2), (2, .int 0)], [], (_, _)) _
  refine At.enter rfl ?_
  refine r_aload_n rfl ?_
  refine q_getR (Sh.ref hI0.1 kx_231 rfl) ?_
  refine r_bipush 46 rfl ?_
  refine r_bipush 6 rfl ?_
  refine r_iload_n rfl ?_
  refine q_imul (6 * a2.toInt) rfl (by omega) (fun v1235 hv1235 => ?_)
  refine q_iadd (46 + v1235.toInt) rfl (by omega) (fun v1236 hv1236 => ?_)
  refine r_iload_n rfl ?_
  refine q_iadd (v1236.toInt + 0) rfl (by omega) (fun v1237 hv1237 => ?_)
  obtain ⟨v1238, hv1238⟩ : ∃ v, eA g0 233 (6 * a2.toInt + 46) = v := ⟨_, rfl⟩
  have wv1238 := HI.l0 hI0 (j := (6 * a2.toInt + 46)) (a2.toInt) (by omega) (by omega)
  rw [hv1238] at wv1238
  refine q_iald (Sh.arr hI0.1 ka_233) (6 * a2.toInt + 46) (by omega) (by omega) v1238 hv1238 ?_
  refine q_ireti ?_
  refine At.enter rfl ?_
  refine r_istore ([(4, .int v1238), (3, .int 0), (0, .ref 231), (1, .int a1), (2, .int a2)]) rfl ?_
  refine r_iconst 0 rfl ?_
  refine r_istore ([(5, .int 0), (4, .int v1238), (3, .int 0), (0, .ref 231), (1, .int a1), (2, .int a2)]) rfl ?_
  refine Ar.fall 13 rfl ?_
  have z_1827 : (0 : Int32).toInt = 0 := rfl
  have z_1828 : (0 : Int32).toInt = 0 := rfl
  refine w_loopI (fun n_ l_ g_ => ∃ x1811 : Int32, ∃ x1812 : Int32, ∃ x1813 : Int32, n_ = 8 - x1813.toInt ∧ HI g_ ∧ Fr F_X11_canHold_231 A_X11_canHold_231 g0 g_ ∧ en_get 0 l_ = some (.ref 231) ∧ en_get 1 l_ = some (.int a1) ∧ en_get 2 l_ = some (.int a2) ∧ en_get 3 l_ = some (.int x1811) ∧ en_get 4 l_ = some (.int x1812) ∧ en_get 5 l_ = some (.int x1813) ∧ (0 ≤ x1813.toInt ∧ x1813.toInt ≤ 8)) ?_ (8 - 0) ⟨0, v1238, 0, by first | rfl | omega, hI0, hF0, rfl, rfl, rfl, rfl, rfl, rfl, by decide⟩
  rintro n1818 l1817 g1814 ⟨x1811, x1812, x1813, hm1829, hI1815, hF1816, e1820, e1821, e1822, e1823, e1824, e1825, r1826⟩ ih1819
  refine At.enter rfl ?_
  refine r_iload e1825 ?_
  refine r_aload_n e1820 ?_
  refine q_getR (Sh.ref hI1815.1 kx_231 rfl) ?_
  refine r_iconst 1 rfl ?_
  obtain ⟨v1830, hv1830⟩ : ∃ v, eA g0 233 1 = v := ⟨_, rfl⟩
  have tv1830 := congrArg Int32.toInt hv1830
  have wv1830 := HI.t1 hI0
  rw [hv1830] at wv1830
  refine q_iald (Sh.arr hI1815.1 ka_233) 1 rfl (by decide) v1830 ((eA_c (hF1816.2.1 233 (by decide))).trans hv1830) ?_
  have bv1832 := q_bnd x1813
  have bv1833 := q_bnd v1830
  refine r_ics 24 rfl (fun c1831 => ?_) (fun c1831 => ?_)
  · have c1831_ : x1813.toInt ≥ v1830.toInt := en_i_ge_t c1831
    refine At.enter rfl ?_
    refine r_iload_n e1823 ?_
    refine r_aload_n e1820 ?_
    refine q_getR (Sh.ref hI1815.1 kx_231 rfl) ?_
    refine r_bipush 6 rfl ?_
    obtain ⟨v1834, hv1834⟩ : ∃ v, eA g0 233 6 = v := ⟨_, rfl⟩
    have wv1834 := HI.t6 hI0
    rw [hv1834] at wv1834
    refine q_iald (Sh.arr hI1815.1 ka_233) 6 rfl (by decide) v1834 ((eA_c (hF1816.2.1 233 (by decide))).trans hv1834) ?_
    have bv1836 := q_bnd x1811
    have bv1837 := q_bnd v1834
    refine r_ics 67 rfl (fun c1835 => ?_) (fun c1835 => ?_)
    · have c1835_ : x1811.toInt ≥ v1834.toInt := en_i_ge_t c1835
      refine At.enter rfl ?_
      refine r_iconst 0 rfl ?_
      refine Ar.fall 83 rfl ?_
      refine At.enter rfl ?_
      refine r_iretz (by decide) ?_
      exact ⟨_, rfl, hI1815, hF1816, _, rfl, by decide⟩
    · have c1835_ : x1811.toInt < v1834.toInt := en_i_ge_f c1835
      refine At.enter rfl ?_
      refine r_iload e1824 ?_
      refine r_aload_n e1820 ?_
      refine q_getR (Sh.ref hI1815.1 kx_231 rfl) ?_
      refine r_iload_n e1821 ?_
      obtain ⟨v1838, hv1838⟩ : ∃ v, eA g0 246 a1.toInt = v := ⟨_, rfl⟩
      refine q_iald (Sh.arr hI1815.1 ka_246) a1.toInt rfl (by omega) v1838 ((eA_c (hF1816.2.1 246 (by decide))).trans hv1838) ?_
      have bv1840 := q_bnd x1812
      have bv1841 := q_bnd v1838
      refine r_ics 78 rfl (fun c1839 => ?_) (fun c1839 => ?_)
      · have c1839_ : x1812.toInt > v1838.toInt := en_i_gt_t c1839
        refine At.enter rfl ?_
        refine r_iconst 0 rfl ?_
        refine Ar.fall 83 rfl ?_
        refine At.enter rfl ?_
        refine r_iretz (by decide) ?_
        exact ⟨_, rfl, hI1815, hF1816, _, rfl, by decide⟩
      · have c1839_ : x1812.toInt ≤ v1838.toInt := en_i_gt_f c1839
        refine At.enter rfl ?_
        refine r_iconst 1 rfl ?_
        refine r_goto ?_
        refine At.enter rfl ?_
        refine r_iretz (by decide) ?_
        exact ⟨_, rfl, hI1815, hF1816, _, rfl, by decide⟩
  · have c1831_ : x1813.toInt < v1830.toInt := en_i_ge_f c1831
    refine At.enter rfl ?_
    refine r_aload_n e1820 ?_
    refine q_getR (Sh.ref hI1815.1 kx_231 rfl) ?_
    refine r_iload e1825 ?_
    obtain ⟨v1842, hv1842⟩ : ∃ v, eA g0 250 x1813.toInt = v := ⟨_, rfl⟩
    have rv1842 := RgA.at hI0.2.2.1 (Sh.arr hI0.1 ka_250).2 (p := 250) rfl (j := x1813.toInt) (by omega)
    rw [hv1842] at rv1842
    dsimp only at rv1842
    refine q_iald (Sh.arr hI1815.1 ka_250) x1813.toInt rfl (by omega) v1842 ((eA_c (hF1816.2.1 250 (by decide))).trans hv1842) ?_
    refine r_iload_n e1821 ?_
    refine r_ics 35 rfl (fun c1843 => ?_) (fun c1843 => ?_)
    · have c1843_ : v1842.toInt ≠ a1.toInt := en_i_ne_t c1843
      refine At.enter rfl ?_
      refine q_iinc e1825 (x1813.toInt + 1) rfl (by omega) (fun v1844 hv1844 => ?_)
      refine r_goto ?_
      have bv1845 := q_bnd x1811
      have bv1846 := q_bnd x1812
      exact ih1819 (8 - v1844.toInt) _ _ ⟨x1811, x1812, v1844, by first | rfl | omega, hI1815, hF1816, (w_p1 (by decide) (Or.inr rfl) e1820), (w_p1 (by decide) (Or.inr rfl) e1821), (w_p1 (by decide) (Or.inr rfl) e1822), (w_p1 (by decide) (Or.inr rfl) e1823), (w_p1 (by decide) (Or.inr rfl) e1824), (w_e1 _ _ _), by omega⟩ ⟨by omega, by omega⟩
    · have c1843_ : v1842.toInt = a1.toInt := en_i_ne_f c1843
      refine At.enter rfl ?_
      refine q_iincO e1823 (fun v1847 _ => ?_)
      refine r_iload (w_p1 (by decide) (Or.inr rfl) e1824) ?_
      refine r_aload_n (w_p1 (by decide) (Or.inr rfl) e1820) ?_
      refine r_iload (w_p1 (by decide) (Or.inr rfl) e1825) ?_
      refine r_iconst 0 rfl ?_
      refine q_inlV 47 rfl [.ref 231, .int x1813, .int 0] [.int x1812] (Nat.le_of_ble_eq_true rfl) rfl ?_
      refine Ev.mk rfl rfl ⟨Nat.le_of_ble_eq_true rfl, Or.inr (q_rc hI1815.1 kx_231 rfl)⟩ ?_
      show At _ none _ _ (0, [(0, .ref 231), (1, .int x1813), (2, .int 0)], [], (_, _)) _
      refine At.enter rfl ?_
      refine r_aload_n rfl ?_
      refine q_getR (Sh.ref hI1815.1 kx_231 rfl) ?_
      refine r_bipush 46 rfl ?_
      refine r_bipush 6 rfl ?_
      refine r_iload_n rfl ?_
      refine q_imul (6 * x1813.toInt) rfl (by omega) (fun v1848 hv1848 => ?_)
      refine q_iadd (46 + v1848.toInt) rfl (by omega) (fun v1849 hv1849 => ?_)
      refine r_iload_n rfl ?_
      refine q_iadd (v1849.toInt + 0) rfl (by omega) (fun v1850 hv1850 => ?_)
      obtain ⟨v1851, hv1851⟩ : ∃ v, eA g0 233 (6 * x1813.toInt + 46) = v := ⟨_, rfl⟩
      have wv1851 := HI.l0 hI0 (j := (6 * x1813.toInt + 46)) (x1813.toInt) (by omega) (by omega)
      rw [hv1851] at wv1851
      refine q_iald (Sh.arr hI1815.1 ka_233) (6 * x1813.toInt + 46) (by omega) (by omega) v1851 ((eA_c (hF1816.2.1 233 (by decide))).trans hv1851) ?_
      refine q_ireti ?_
      refine At.enter rfl ?_
      refine q_iaddO (fun v1852 _ => ?_)
      refine r_istore _ rfl ?_
      refine Ar.fall 50 rfl ?_
      refine At.enter rfl ?_
      refine q_iinc (w_p1 (by decide) (Or.inr rfl) (w_p1 (by decide) (Or.inr rfl) e1825)) (x1813.toInt + 1) rfl (by omega) (fun v1853 hv1853 => ?_)
      refine r_goto ?_
      have bv1854 := q_bnd v1847
      have bv1855 := q_bnd v1852
      exact ih1819 (8 - v1853.toInt) _ _ ⟨v1847, v1852, v1853, by first | rfl | omega, hI1815, hF1816, (w_p1 (by decide) (Or.inr rfl) (w_p1 (by decide) (Or.inr rfl) (w_p1 (by decide) (Or.inr rfl) e1820))), (w_p1 (by decide) (Or.inr rfl) (w_p1 (by decide) (Or.inr rfl) (w_p1 (by decide) (Or.inr rfl) e1821))), (w_p1 (by decide) (Or.inr rfl) (w_p1 (by decide) (Or.inr rfl) (w_p1 (by decide) (Or.inr rfl) e1822))), (w_p1 (by decide) (Or.inr rfl) (w_p1 (by decide) (Or.inr rfl) (w_e1 _ _ _))), (w_p1 (by decide) (Or.inr rfl) (w_e1 _ _ _)), (w_e1 _ _ _), by omega⟩ ⟨by omega, by omega⟩

def F_X11_bring_231 : List (Nat × Nat) := []
def A_X11_bring_231 : List Nat := [250, 253]
set_option maxRecDepth 100000 in
set_option maxHeartbeats 4000000 in
theorem T_X11_bring_231 (d : Nat) {N : Nat} {g0 : List en_E} (hI0 : HI g0) (a1 : Int32) (h_a1 : 0 ≤ a1.toInt ∧ a1.toInt ≤ 99) : Ev (d + 3) 227 [.ref 231, .int a1] (g0, N) (fun w h' => ∃ g', h' = (g', N) ∧ HI g' ∧ Fr F_X11_bring_231 A_X11_bring_231 g0 g' ∧ w = none) := by
  have hF0 : Fr F_X11_bring_231 A_X11_bring_231 g0 g0 := Fr.rf
  refine Ev.mk rfl rfl ⟨Nat.le_of_ble_eq_true rfl, Or.inr (q_rc hI0.1 kx_231 rfl)⟩ ?_
  show At _ none _ _ (0, [(0, .ref 231), (1, .int a1)], [], (_, _)) _
  refine At.enter rfl ?_
  refine r_iconst 0 rfl ?_
  refine r_istore_n ([(2, .int 0), (0, .ref 231), (1, .int a1)]) rfl ?_
  refine Ar.fall 2 rfl ?_
  have z_19438 : (0 : Int32).toInt = 0 := rfl
  refine w_loopI (fun n_ l_ g_ => ∃ x19427 : Int32, n_ = 100 - x19427.toInt ∧ HI g_ ∧ Fr F_X11_bring_231 A_X11_bring_231 g0 g_ ∧ en_get 0 l_ = some (.ref 231) ∧ en_get 1 l_ = some (.int a1) ∧ en_get 2 l_ = some (.int x19427) ∧ (0 ≤ x19427.toInt ∧ x19427.toInt ≤ 100)) ?_ (100 - 0) ⟨0, by first | rfl | omega, hI0, hF0, rfl, rfl, rfl, by decide⟩
  rintro n19432 l19431 g19428 ⟨x19427, hm19439, hI19429, hF19430, e19434, e19435, e19436, r19437⟩ ih19433
  refine At.enter rfl ?_
  refine r_iload_n e19436 ?_
  refine r_iload_n e19435 ?_
  have bv19441 := q_bnd x19427
  have bv19442 := q_bnd a1
  refine r_ics 7 rfl (fun c19440 => ?_) (fun c19440 => ?_)
  · have c19440_ : x19427.toInt > a1.toInt := en_i_gt_t c19440
    refine At.enter rfl ?_
    refine r_vret ?_
    exact ⟨_, rfl, hI19429, hF19430, rfl⟩
  · have c19440_ : x19427.toInt ≤ a1.toInt := en_i_gt_f c19440
    refine At.enter rfl ?_
    refine r_iconst 0 rfl ?_
    refine r_istore_n _ rfl ?_
    refine Ar.fall 9 rfl ?_
    have z_19826 : (0 : Int32).toInt = 0 := rfl
    refine w_loopI (fun n_ l_ g_ => ∃ x19814 : Int32, n_ = 8 - x19814.toInt ∧ HI g_ ∧ Fr F_X11_bring_231 A_X11_bring_231 g0 g_ ∧ en_get 0 l_ = some (.ref 231) ∧ en_get 1 l_ = some (.int a1) ∧ en_get 2 l_ = some (.int x19427) ∧ en_get 3 l_ = some (.int x19814) ∧ (0 ≤ x19814.toInt ∧ x19814.toInt ≤ 8)) ?_ (8 - 0) ⟨0, by first | rfl | omega, hI19429, hF19430, (w_p1 (by decide) (Or.inr rfl) e19434), (w_p1 (by decide) (Or.inr rfl) e19435), (w_p1 (by decide) (Or.inr rfl) e19436), (w_e1 _ _ _), by decide⟩
    rintro n19819 l19818 g19815 ⟨x19814, hm19827, hI19816, hF19817, e19821, e19822, e19823, e19824, r19825⟩ ih19820
    refine At.enter rfl ?_
    refine r_iload_n e19824 ?_
    refine r_aload_n e19821 ?_
    refine q_getR (Sh.ref hI19816.1 kx_231 rfl) ?_
    refine r_iconst 1 rfl ?_
    obtain ⟨v19828, hv19828⟩ : ∃ v, eA g0 233 1 = v := ⟨_, rfl⟩
    have tv19828 := congrArg Int32.toInt hv19828
    have wv19828 := HI.t1 hI0
    rw [hv19828] at wv19828
    refine q_iald (Sh.arr hI19816.1 ka_233) 1 rfl (by decide) v19828 ((eA_c (hF19817.2.1 233 (by decide))).trans hv19828) ?_
    have bv19830 := q_bnd x19814
    have bv19831 := q_bnd v19828
    refine r_ics 19 rfl (fun c19829 => ?_) (fun c19829 => ?_)
    · have c19829_ : x19814.toInt ≥ v19828.toInt := en_i_ge_t c19829
      refine At.enter rfl ?_
      refine q_iinc e19823 (x19427.toInt + 1) rfl (by omega) (fun v19832 hv19832 => ?_)
      refine r_goto ?_
      exact ih19433 (100 - v19832.toInt) _ _ ⟨v19832, by first | rfl | omega, hI19816, hF19817, (w_p1 (by decide) (Or.inr rfl) e19821), (w_p1 (by decide) (Or.inr rfl) e19822), (w_e1 _ _ _), by omega⟩ ⟨by omega, by omega⟩
    · have c19829_ : x19814.toInt < v19828.toInt := en_i_ge_f c19829
      refine At.enter rfl ?_
      refine r_aload_n e19821 ?_
      refine q_getR (Sh.ref hI19816.1 kx_231 rfl) ?_
      refine r_iload_n e19824 ?_
      obtain ⟨v19833, hv19833⟩ : ∃ v, eA g0 248 x19814.toInt = v := ⟨_, rfl⟩
      refine q_iald (Sh.arr hI19816.1 ka_248) x19814.toInt rfl (by omega) v19833 ((eA_c (hF19817.2.1 248 (by decide))).trans hv19833) ?_
      refine r_iload_n e19823 ?_
      refine r_ics 29 rfl (fun c19834 => ?_) (fun c19834 => ?_)
      · have c19834_ : v19833.toInt ≠ x19427.toInt := en_i_ne_t c19834
        refine At.enter rfl ?_
        refine q_iinc e19824 (x19814.toInt + 1) rfl (by omega) (fun v19835 hv19835 => ?_)
        refine r_goto ?_
        exact ih19820 (8 - v19835.toInt) _ _ ⟨v19835, by first | rfl | omega, hI19816, hF19817, (w_p1 (by decide) (Or.inr rfl) e19821), (w_p1 (by decide) (Or.inr rfl) e19822), (w_p1 (by decide) (Or.inr rfl) e19823), (w_e1 _ _ _), by omega⟩ ⟨by omega, by omega⟩
      · have c19834_ : v19833.toInt = x19427.toInt := en_i_ne_f c19834
        refine At.enter rfl ?_
        refine r_aload_n e19821 ?_
        refine q_getR (Sh.ref hI19816.1 kx_231 rfl) ?_
        refine r_iload_n e19824 ?_
        obtain ⟨v19836, hv19836⟩ : ∃ v, eA g19815 250 x19814.toInt = v := ⟨_, rfl⟩
        have rv19836 := RgA.at hI19816.2.2.1 (Sh.arr hI19816.1 ka_250).2 (p := 250) rfl (j := x19814.toInt) (by omega)
        rw [hv19836] at rv19836
        dsimp only at rv19836
        refine q_iald (Sh.arr hI19816.1 ka_250) x19814.toInt rfl (by omega) v19836 hv19836 ?_
        refine r_iconst (-1) rfl ?_
        refine r_ics 39 rfl (fun c19837 => ?_) (fun c19837 => ?_)
        · have c19837_ : v19836.toInt ≠ (-1) := en_i_ne_t c19837
          refine At.enter rfl ?_
          refine q_iinc e19824 (x19814.toInt + 1) rfl (by omega) (fun v19838 hv19838 => ?_)
          refine r_goto ?_
          exact ih19820 (8 - v19838.toInt) _ _ ⟨v19838, by first | rfl | omega, hI19816, hF19817, (w_p1 (by decide) (Or.inr rfl) e19821), (w_p1 (by decide) (Or.inr rfl) e19822), (w_p1 (by decide) (Or.inr rfl) e19823), (w_e1 _ _ _), by omega⟩ ⟨by omega, by omega⟩
        · have c19837_ : v19836.toInt = (-1) := en_i_ne_f c19837
          refine At.enter rfl ?_
          refine r_aload_n e19821 ?_
          refine r_iload_n e19824 ?_
          refine q_inlV 44 rfl [.ref 231, .int x19814] [] (Nat.le_of_ble_eq_true rfl) rfl ?_
          refine Ev.mk rfl rfl ⟨Nat.le_of_ble_eq_true rfl, Or.inr (q_rc hI19816.1 kx_231 rfl)⟩ ?_
          show At _ none _ _ (0, [(0, .ref 231), (1, .int x19814)], [], (_, _)) _
          refine At.enter rfl ?_
          refine r_aload_n rfl ?_
          obtain ⟨v19839, hv19839⟩ : ∃ v, gI g0 231 36 = v := ⟨_, rfl⟩
          refine q_getI (Sh.int hI19816.1 kx_231 rfl) v19839 ((hF19817.1 231 36 (by decide)).trans hv19839) ?_
          refine r_aload_n rfl ?_
          refine r_iload_n rfl ?_
          refine r_iconst 1 rfl ?_
          refine q_inlV 10 rfl [.ref 231, .int x19814, .int 1] [.int v19839] (Nat.le_of_ble_eq_true rfl) rfl ?_
          refine Ev.mk rfl rfl ⟨Nat.le_of_ble_eq_true rfl, Or.inr (q_rc hI19816.1 kx_231 rfl)⟩ ?_
          show At _ none _ _ (0, [(0, .ref 231), (1, .int x19814), (2, .int 1)], [], (_, _)) _
          refine At.enter rfl ?_
          refine r_aload_n rfl ?_
          refine q_getR (Sh.ref hI19816.1 kx_231 rfl) ?_
          refine r_bipush 46 rfl ?_
          refine r_bipush 6 rfl ?_
          refine r_iload_n rfl ?_
          refine q_imul (6 * x19814.toInt) rfl (by omega) (fun v19840 hv19840 => ?_)
          refine q_iadd (46 + v19840.toInt) rfl (by omega) (fun v19841 hv19841 => ?_)
          refine r_iload_n rfl ?_
          refine q_iadd (v19841.toInt + 1) rfl (by omega) (fun v19842 hv19842 => ?_)
          obtain ⟨v19843, hv19843⟩ : ∃ v, eA g0 233 (6 * x19814.toInt + 47) = v := ⟨_, rfl⟩
          have wv19843 := HI.l1 hI0 (j := (6 * x19814.toInt + 47)) (x19814.toInt) (by omega) (by omega)
          rw [hv19843] at wv19843
          refine q_iald (Sh.arr hI19816.1 ka_233) (6 * x19814.toInt + 47) (by omega) (by omega) v19843 ((eA_c (hF19817.2.1 233 (by decide))).trans hv19843) ?_
          refine q_ireti ?_
          refine At.enter rfl ?_
          refine q_inlS 13 rfl [.int v19839, .int v19843] [] (Nat.le_of_ble_eq_true rfl) rfl ?_
          refine Ev.mk rfl rfl ⟨Nat.le_of_ble_eq_true rfl, Or.inl rfl⟩ ?_
          show At _ none _ _ (0, [(0, .int v19839), (1, .int v19843)], [], (_, _)) _
          refine At.enter rfl ?_
          refine r_iload_n rfl ?_
          refine r_iload_n rfl ?_
          refine q_ishrO (fun v19844 hv19844 => ?_)
          refine r_iconst 1 rfl ?_
          refine q_iandO (fun v19845 hv19845 => ?_)
          refine r_iconst 1 rfl ?_
          refine r_ics 9 rfl (fun c19846 => ?_) (fun c19846 => ?_)
          · have c19846_ : v19845.toInt ≠ 1 := en_i_ne_t c19846
            refine At.enter rfl ?_
            refine r_iconst 0 rfl ?_
            refine Ar.fall 14 rfl ?_
            refine At.enter rfl ?_
            refine q_iretz (by decide) ?_
            refine At.enter rfl ?_
            refine r_iff 16 rfl (by decide) ?_
            refine At.enter rfl ?_
            refine r_aload_n rfl ?_
            refine q_getI (Sh.int hI19816.1 kx_231 rfl) v19839 ((hF19817.1 231 36 (by decide)).trans hv19839) ?_
            refine r_aload_n rfl ?_
            refine r_iload_n rfl ?_
            refine r_iconst 2 rfl ?_
            refine q_inlV 26 rfl [.ref 231, .int x19814, .int 2] [.int v19839] (Nat.le_of_ble_eq_true rfl) rfl ?_
            refine Ev.mk rfl rfl ⟨Nat.le_of_ble_eq_true rfl, Or.inr (q_rc hI19816.1 kx_231 rfl)⟩ ?_
            show At _ none _ _ (0, [(0, .ref 231), (1, .int x19814), (2, .int 2)], [], (_, _)) _
            refine At.enter rfl ?_
            refine r_aload_n rfl ?_
            refine q_getR (Sh.ref hI19816.1 kx_231 rfl) ?_
            refine r_bipush 46 rfl ?_
            refine r_bipush 6 rfl ?_
            refine r_iload_n rfl ?_
            refine q_imul (6 * x19814.toInt) rfl (by omega) (fun v19847 hv19847 => ?_)
            refine q_iadd (46 + v19847.toInt) rfl (by omega) (fun v19848 hv19848 => ?_)
            refine r_iload_n rfl ?_
            refine q_iadd (v19848.toInt + 2) rfl (by omega) (fun v19849 hv19849 => ?_)
            obtain ⟨v19850, hv19850⟩ : ∃ v, eA g0 233 (6 * x19814.toInt + 48) = v := ⟨_, rfl⟩
            have wv19850 := HI.l2 hI0 (j := (6 * x19814.toInt + 48)) (x19814.toInt) (by omega) (by omega)
            rw [hv19850] at wv19850
            refine q_iald (Sh.arr hI19816.1 ka_233) (6 * x19814.toInt + 48) (by omega) (by omega) v19850 ((eA_c (hF19817.2.1 233 (by decide))).trans hv19850) ?_
            refine q_ireti ?_
            refine At.enter rfl ?_
            refine q_inlS 29 rfl [.int v19839, .int v19850] [] (Nat.le_of_ble_eq_true rfl) rfl ?_
            refine Ev.mk rfl rfl ⟨Nat.le_of_ble_eq_true rfl, Or.inl rfl⟩ ?_
            show At _ none _ _ (0, [(0, .int v19839), (1, .int v19850)], [], (_, _)) _
            refine At.enter rfl ?_
            refine r_iload_n rfl ?_
            refine r_iload_n rfl ?_
            refine q_ishrO (fun v19851 hv19851 => ?_)
            refine r_iconst 1 rfl ?_
            refine q_iandO (fun v19852 hv19852 => ?_)
            refine r_iconst 1 rfl ?_
            refine r_ics 9 rfl (fun c19853 => ?_) (fun c19853 => ?_)
            · have c19853_ : v19852.toInt ≠ 1 := en_i_ne_t c19853
              refine At.enter rfl ?_
              refine r_iconst 0 rfl ?_
              refine Ar.fall 14 rfl ?_
              refine At.enter rfl ?_
              refine q_iretz (by decide) ?_
              refine At.enter rfl ?_
              refine r_iff 32 rfl (by decide) ?_
              refine At.enter rfl ?_
              refine r_iconst 1 rfl ?_
              refine r_goto ?_
              refine At.enter rfl ?_
              refine q_iretz (by decide) ?_
              refine At.enter rfl ?_
              refine r_iff 47 rfl (by decide) ?_
              refine At.enter rfl ?_
              refine r_aload_n e19821 ?_
              refine r_iload_n e19824 ?_
              refine r_iconst 1 rfl ?_
              refine q_inlV 53 rfl [.ref 231, .int x19814, .int 1] [] (Nat.le_of_ble_eq_true rfl) rfl ?_
              refine Ev.mk rfl rfl ⟨Nat.le_of_ble_eq_true rfl, Or.inr (q_rc hI19816.1 kx_231 rfl)⟩ ?_
              show At _ none _ _ (0, [(0, .ref 231), (1, .int x19814), (2, .int 1)], [], (_, _)) _
              refine At.enter rfl ?_
              refine r_aload_n rfl ?_
              refine q_getR (Sh.ref hI19816.1 kx_231 rfl) ?_
              refine r_bipush 46 rfl ?_
              refine r_bipush 6 rfl ?_
              refine r_iload_n rfl ?_
              refine q_imul (6 * x19814.toInt) rfl (by omega) (fun v19854 hv19854 => ?_)
              refine q_iadd (46 + v19854.toInt) rfl (by omega) (fun v19855 hv19855 => ?_)
              refine r_iload_n rfl ?_
              refine q_iadd (v19855.toInt + 1) rfl (by omega) (fun v19856 hv19856 => ?_)
              refine q_iald (Sh.arr hI19816.1 ka_233) (6 * x19814.toInt + 47) (by omega) (by omega) v19843 ((eA_c (hF19817.2.1 233 (by decide))).trans hv19843) ?_
              refine q_ireti ?_
              refine At.enter rfl ?_
              refine r_istore _ rfl ?_
              refine r_iload (w_e1 _ _ _) ?_
              refine r_aload_n (w_p1 (by decide) (Or.inr rfl) e19821) ?_
              refine r_iload_n (w_p1 (by decide) (Or.inr rfl) e19824) ?_
              refine r_iconst 2 rfl ?_
              refine q_inlV 63 rfl [.ref 231, .int x19814, .int 2] [.int v19843] (Nat.le_of_ble_eq_true rfl) rfl ?_
              refine Ev.mk rfl rfl ⟨Nat.le_of_ble_eq_true rfl, Or.inr (q_rc hI19816.1 kx_231 rfl)⟩ ?_
              show At _ none _ _ (0, [(0, .ref 231), (1, .int x19814), (2, .int 2)], [], (_, _)) _
              refine At.enter rfl ?_
              refine r_aload_n rfl ?_
              refine q_getR (Sh.ref hI19816.1 kx_231 rfl) ?_
              refine r_bipush 46 rfl ?_
              refine r_bipush 6 rfl ?_
              refine r_iload_n rfl ?_
              refine q_imul (6 * x19814.toInt) rfl (by omega) (fun v19857 hv19857 => ?_)
              refine q_iadd (46 + v19857.toInt) rfl (by omega) (fun v19858 hv19858 => ?_)
              refine r_iload_n rfl ?_
              refine q_iadd (v19858.toInt + 2) rfl (by omega) (fun v19859 hv19859 => ?_)
              refine q_iald (Sh.arr hI19816.1 ka_233) (6 * x19814.toInt + 48) (by omega) (by omega) v19850 ((eA_c (hF19817.2.1 233 (by decide))).trans hv19850) ?_
              refine q_ireti ?_
              refine At.enter rfl ?_
              refine r_ics 66 rfl (fun c19860 => ?_) (fun c19860 => ?_)
              · have c19860_ : v19843.toInt ≠ v19850.toInt := en_i_ne_t c19860
                refine At.enter rfl ?_
                refine r_aload_n (w_p1 (by decide) (Or.inr rfl) e19821) ?_
                refine r_iload (w_e1 _ _ _) ?_
                refine r_iload_n (w_p1 (by decide) (Or.inr rfl) e19824) ?_
                refine r_callV 91 rfl [.ref 231, .int v19843, .int x19814] [] (Nat.le_of_ble_eq_true rfl) rfl (T_X11_canHold_231 _ hI19816 v19843 (by omega) x19814 (by omega)) ?_
                rintro _ _ ⟨g19861, rfl, hI19862, hF19863, v19864, rfl, hr19865⟩
                refine At.sti ?_
                have hF19866 := Fr.tr hF19817 hF19863 rfl rfl
                refine At.enter rfl ?_
                refine r_ifs 94 rfl (fun c19867 => ?_) (fun c19867 => ?_)
                · have c19867_ : v19864.toInt = 0 := en_k_eq_t c19867
                  refine At.enter rfl ?_
                  refine q_iinc (w_p1 (by decide) (Or.inr rfl) e19824) (x19814.toInt + 1) rfl (by omega) (fun v19868 hv19868 => ?_)
                  refine r_goto ?_
                  exact ih19820 (8 - v19868.toInt) _ _ ⟨v19868, by first | rfl | omega, hI19862, hF19866, (w_p1 (by decide) (Or.inr rfl) (w_p1 (by decide) (Or.inr rfl) e19821)), (w_p1 (by decide) (Or.inr rfl) (w_p1 (by decide) (Or.inr rfl) e19822)), (w_p1 (by decide) (Or.inr rfl) (w_p1 (by decide) (Or.inr rfl) e19823)), (w_e1 _ _ _), by omega⟩ ⟨by omega, by omega⟩
                · have c19867_ : v19864.toInt ≠ 0 := en_k_eq_f c19867
                  refine At.enter rfl ?_
                  refine r_aload_n (w_p1 (by decide) (Or.inr rfl) e19821) ?_
                  refine q_getR (Sh.ref hI19862.1 kx_231 rfl) ?_
                  refine r_iload_n (w_p1 (by decide) (Or.inr rfl) e19824) ?_
                  refine r_iload (w_e1 _ _ _) ?_
                  refine q_iast (Sh.arr hI19862.1 ka_250) (x19814.toInt) rfl (by omega) ?_
                  have hI19869 := HI.wA1 hI19862 ka_250 (p := 250) rfl rfl (x19814.toInt) (v := v19843) (by dsimp only; omega)
                  have hF19870 := Fr.wA (p := 250) (j := x19814.toInt) (v := v19843) hF19866 rfl
                  refine Ar.fall 102 rfl ?_
                  refine At.enter rfl ?_
                  refine q_iinc (w_p1 (by decide) (Or.inr rfl) e19824) (x19814.toInt + 1) rfl (by omega) (fun v19871 hv19871 => ?_)
                  refine r_goto ?_
                  exact ih19820 (8 - v19871.toInt) _ _ ⟨v19871, by first | rfl | omega, hI19869, hF19870, (w_p1 (by decide) (Or.inr rfl) (w_p1 (by decide) (Or.inr rfl) e19821)), (w_p1 (by decide) (Or.inr rfl) (w_p1 (by decide) (Or.inr rfl) e19822)), (w_p1 (by decide) (Or.inr rfl) (w_p1 (by decide) (Or.inr rfl) e19823)), (w_e1 _ _ _), by omega⟩ ⟨by omega, by omega⟩
              · have c19860_ : v19843.toInt = v19850.toInt := en_i_ne_f c19860
                refine At.enter rfl ?_
                refine r_aload_n (w_p1 (by decide) (Or.inr rfl) e19821) ?_
                refine q_getR (Sh.ref hI19816.1 kx_231 rfl) ?_
                refine r_iload_n (w_p1 (by decide) (Or.inr rfl) e19824) ?_
                refine r_bipush (-2) rfl ?_
                refine q_iast (Sh.arr hI19816.1 ka_250) (x19814.toInt) rfl (by omega) ?_
                have hI19872 := HI.wA1 hI19816 ka_250 (p := 250) rfl rfl (x19814.toInt) (v := (-2)) (by decide)
                have hF19873 := Fr.wA (p := 250) (j := x19814.toInt) (v := (-2)) hF19817 rfl
                refine r_aload_n (w_p1 (by decide) (Or.inr rfl) e19821) ?_
                refine q_getR (Sh.ref hI19872.1 kx_231 rfl) ?_
                refine r_iload_n (w_p1 (by decide) (Or.inr rfl) e19824) ?_
                refine r_iload_n (w_p1 (by decide) (Or.inr rfl) e19822) ?_
                refine q_iast (Sh.arr hI19872.1 ka_253) (x19814.toInt) rfl (by omega) ?_
                have hI19874 := HI.wA0 hI19872 ka_253 (p := 253) rfl rfl (x19814.toInt) (a1)
                have hF19875 := Fr.wA (p := 253) (j := x19814.toInt) (v := a1) hF19873 rfl
                refine r_goto ?_
                refine At.enter rfl ?_
                refine q_iinc (w_p1 (by decide) (Or.inr rfl) e19824) (x19814.toInt + 1) rfl (by omega) (fun v19876 hv19876 => ?_)
                refine r_goto ?_
                exact ih19820 (8 - v19876.toInt) _ _ ⟨v19876, by first | rfl | omega, hI19874, hF19875, (w_p1 (by decide) (Or.inr rfl) (w_p1 (by decide) (Or.inr rfl) e19821)), (w_p1 (by decide) (Or.inr rfl) (w_p1 (by decide) (Or.inr rfl) e19822)), (w_p1 (by decide) (Or.inr rfl) (w_p1 (by decide) (Or.inr rfl) e19823)), (w_e1 _ _ _), by omega⟩ ⟨by omega, by omega⟩
            · have c19853_ : v19852.toInt = 1 := en_i_ne_f c19853
              refine At.enter rfl ?_
              refine r_iconst 1 rfl ?_
              refine r_goto ?_
              refine At.enter rfl ?_
              refine q_iretz (by decide) ?_
              refine At.enter rfl ?_
              refine r_ift (by decide) ?_
              refine At.enter rfl ?_
              refine r_iconst 0 rfl ?_
              refine Ar.fall 37 rfl ?_
              refine At.enter rfl ?_
              refine q_iretz (by decide) ?_
              refine At.enter rfl ?_
              refine r_ift (by decide) ?_
              refine At.enter rfl ?_
              refine q_iinc e19824 (x19814.toInt + 1) rfl (by omega) (fun v19877 hv19877 => ?_)
              refine r_goto ?_
              exact ih19820 (8 - v19877.toInt) _ _ ⟨v19877, by first | rfl | omega, hI19816, hF19817, (w_p1 (by decide) (Or.inr rfl) e19821), (w_p1 (by decide) (Or.inr rfl) e19822), (w_p1 (by decide) (Or.inr rfl) e19823), (w_e1 _ _ _), by omega⟩ ⟨by omega, by omega⟩
          · have c19846_ : v19845.toInt = 1 := en_i_ne_f c19846
            refine At.enter rfl ?_
            refine r_iconst 1 rfl ?_
            refine r_goto ?_
            refine At.enter rfl ?_
            refine q_iretz (by decide) ?_
            refine At.enter rfl ?_
            refine r_ift (by decide) ?_
            refine At.enter rfl ?_
            refine r_iconst 0 rfl ?_
            refine Ar.fall 37 rfl ?_
            refine At.enter rfl ?_
            refine q_iretz (by decide) ?_
            refine At.enter rfl ?_
            refine r_ift (by decide) ?_
            refine At.enter rfl ?_
            refine q_iinc e19824 (x19814.toInt + 1) rfl (by omega) (fun v19878 hv19878 => ?_)
            refine r_goto ?_
            exact ih19820 (8 - v19878.toInt) _ _ ⟨v19878, by first | rfl | omega, hI19816, hF19817, (w_p1 (by decide) (Or.inr rfl) e19821), (w_p1 (by decide) (Or.inr rfl) e19822), (w_p1 (by decide) (Or.inr rfl) e19823), (w_e1 _ _ _), by omega⟩ ⟨by omega, by omega⟩

def F_X11_first_231 : List (Nat × Nat) := []
def A_X11_first_231 : List Nat := []
set_option maxRecDepth 100000 in
set_option maxHeartbeats 4000000 in
theorem T_X11_first_231 (d : Nat) {N : Nat} {g0 : List en_E} (hI0 : HI g0) : Ev (d + 1) 226 [.ref 231] (g0, N) (fun w h' => ∃ g', h' = (g', N) ∧ HI g' ∧ Fr F_X11_first_231 A_X11_first_231 g0 g' ∧ ∃ r : Int32, w = some (.int r) ∧ ((-1) ≤ r.toInt ∧ r.toInt ≤ 7) ∧ (r.toInt = -1 ∨ (0 ≤ r.toInt ∧ r.toInt < (eA g' 233 1).toInt ∧ (eA g' 255 r.toInt).toInt = 0))) := by
  have hF0 : Fr F_X11_first_231 A_X11_first_231 g0 g0 := Fr.rf
  refine Ev.mk rfl rfl ⟨Nat.le_of_ble_eq_true rfl, Or.inr (q_rc hI0.1 kx_231 rfl)⟩ ?_
  show At _ none _ _ (0, [(0, .ref 231)], [], (_, _)) _
  refine At.enter rfl ?_
  refine r_iconst (-1) rfl ?_
  refine r_istore_n ([(1, .int (-1)), (0, .ref 231)]) rfl ?_
  refine r_iconst 0 rfl ?_
  refine r_istore_n ([(2, .int 0), (1, .int (-1)), (0, .ref 231)]) rfl ?_
  refine Ar.fall 4 rfl ?_
  have z_459 : ((-1) : Int32).toInt = (-1) := rfl
  have z_460 : (0 : Int32).toInt = 0 := rfl
  refine w_loopI (fun n_ l_ g_ => ∃ x445 : Int32, ∃ x446 : Int32, n_ = 8 - x446.toInt ∧ HI g_ ∧ Fr F_X11_first_231 A_X11_first_231 g0 g_ ∧ en_get 0 l_ = some (.ref 231) ∧ en_get 1 l_ = some (.int x445) ∧ en_get 2 l_ = some (.int x446) ∧ ((-1) ≤ x445.toInt ∧ x445.toInt ≤ 7) ∧ (0 ≤ x446.toInt ∧ x446.toInt ≤ 8) ∧ (x445.toInt = -1 ∨ (0 ≤ x445.toInt ∧ x445.toInt < (eA g0 233 1).toInt ∧ (eA g0 255 x445.toInt).toInt = 0))) ?_ (8 - 0) ⟨(-1), 0, by first | rfl | omega, hI0, hF0, rfl, rfl, rfl, by decide, by decide, (Or.inl rfl)⟩
  rintro n451 l450 g447 ⟨x445, x446, hm461, hI448, hF449, e453, e454, e455, r456, r457, q458⟩ ih452
  refine At.enter rfl ?_
  refine r_iload_n e455 ?_
  refine r_aload_n e453 ?_
  refine q_getR (Sh.ref hI448.1 kx_231 rfl) ?_
  refine r_iconst 1 rfl ?_
  obtain ⟨v462, hv462⟩ : ∃ v, eA g0 233 1 = v := ⟨_, rfl⟩
  have tv462 := congrArg Int32.toInt hv462
  have wv462 := HI.t1 hI0
  rw [hv462] at wv462
  refine q_iald (Sh.arr hI448.1 ka_233) 1 rfl (by decide) v462 ((eA_c (hF449.2.1 233 (by decide))).trans hv462) ?_
  have bv464 := q_bnd x446
  have bv465 := q_bnd v462
  refine r_ics 14 rfl (fun c463 => ?_) (fun c463 => ?_)
  · have c463_ : x446.toInt ≥ v462.toInt := en_i_ge_t c463
    refine At.enter rfl ?_
    refine r_iload_n e454 ?_
    refine r_ireti ?_
    exact ⟨_, rfl, hI448, hF449, _, rfl, by omega, (by first | exact Or.inl rfl | (rw [eA_c (hF449.2.1 233 rfl), eA_c (hF449.2.1 255 rfl)]; omega))⟩
  · have c463_ : x446.toInt < v462.toInt := en_i_ge_f c463
    refine At.enter rfl ?_
    refine r_aload_n e453 ?_
    refine q_getR (Sh.ref hI448.1 kx_231 rfl) ?_
    refine r_iload_n e455 ?_
    obtain ⟨v466, hv466⟩ : ∃ v, eA g0 255 x446.toInt = v := ⟨_, rfl⟩
    refine q_bald (Sh.arr hI448.1 ka_255) x446.toInt rfl (by omega) v466 ((eA_c (hF449.2.1 255 (by decide))).trans hv466) ?_
    refine r_ifs 23 rfl (fun c467 => ?_) (fun c467 => ?_)
    · have c467_ : v466.toInt ≠ 0 := en_k_ne_t c467
      refine At.enter rfl ?_
      refine r_iload_n e454 ?_
      refine Ar.fall 48 rfl ?_
      refine At.enter rfl ?_
      refine r_istore_n _ rfl ?_
      refine q_iinc (w_p1 (by decide) (Or.inr rfl) e455) (x446.toInt + 1) rfl (by omega) (fun v468 hv468 => ?_)
      refine r_goto ?_
      exact ih452 (8 - v468.toInt) _ _ ⟨x445, v468, by first | rfl | omega, hI448, hF449, (w_p1 (by decide) (Or.inr rfl) (w_p1 (by decide) (Or.inr rfl) e453)), (w_p1 (by decide) (Or.inr rfl) (w_e1 _ _ _)), (w_e1 _ _ _), by omega, by omega, (by first | omega | grind)⟩ ⟨by omega, by omega⟩
    · have c467_ : v466.toInt = 0 := en_k_ne_f c467
      refine At.enter rfl ?_
      refine r_iload_n e454 ?_
      refine r_iconst (-1) rfl ?_
      refine r_ics 28 rfl (fun c469 => ?_) (fun c469 => ?_)
      · have c469_ : x445.toInt = (-1) := en_i_eq_t c469
        refine At.enter rfl ?_
        refine r_iload_n e455 ?_
        refine r_goto ?_
        refine At.enter rfl ?_
        refine r_istore_n _ rfl ?_
        refine q_iinc (w_p1 (by decide) (Or.inr rfl) e455) (x446.toInt + 1) rfl (by omega) (fun v470 hv470 => ?_)
        refine r_goto ?_
        exact ih452 (8 - v470.toInt) _ _ ⟨x446, v470, by first | rfl | omega, hI448, hF449, (w_p1 (by decide) (Or.inr rfl) (w_p1 (by decide) (Or.inr rfl) e453)), (w_p1 (by decide) (Or.inr rfl) (w_e1 _ _ _)), (w_e1 _ _ _), by omega, by omega, (by first | omega | grind)⟩ ⟨by omega, by omega⟩
      · have c469_ : x445.toInt ≠ (-1) := en_i_eq_f c469
        refine At.enter rfl ?_
        refine r_aload_n e453 ?_
        refine q_getR (Sh.ref hI448.1 kx_231 rfl) ?_
        refine r_iload_n e455 ?_
        obtain ⟨v471, hv471⟩ : ∃ v, eA g0 254 x446.toInt = v := ⟨_, rfl⟩
        refine q_iald (Sh.arr hI448.1 ka_254) x446.toInt rfl (by omega) v471 ((eA_c (hF449.2.1 254 (by decide))).trans hv471) ?_
        refine r_aload_n e453 ?_
        refine q_getR (Sh.ref hI448.1 kx_231 rfl) ?_
        refine r_iload_n e454 ?_
        obtain ⟨v472, hv472⟩ : ∃ v, eA g0 254 x445.toInt = v := ⟨_, rfl⟩
        refine q_iald (Sh.arr hI448.1 ka_254) x445.toInt rfl (by omega) v472 ((eA_c (hF449.2.1 254 (by decide))).trans hv472) ?_
        have bv474 := q_bnd v471
        have bv475 := q_bnd v472
        refine r_ics 43 rfl (fun c473 => ?_) (fun c473 => ?_)
        · have c473_ : v471.toInt ≤ v472.toInt := en_i_le_t c473
          refine At.enter rfl ?_
          refine r_iload_n e454 ?_
          refine Ar.fall 48 rfl ?_
          refine At.enter rfl ?_
          refine r_istore_n _ rfl ?_
          refine q_iinc (w_p1 (by decide) (Or.inr rfl) e455) (x446.toInt + 1) rfl (by omega) (fun v476 hv476 => ?_)
          refine r_goto ?_
          exact ih452 (8 - v476.toInt) _ _ ⟨x445, v476, by first | rfl | omega, hI448, hF449, (w_p1 (by decide) (Or.inr rfl) (w_p1 (by decide) (Or.inr rfl) e453)), (w_p1 (by decide) (Or.inr rfl) (w_e1 _ _ _)), (w_e1 _ _ _), by omega, by omega, (by first | omega | grind)⟩ ⟨by omega, by omega⟩
        · have c473_ : v471.toInt > v472.toInt := en_i_le_f c473
          refine At.enter rfl ?_
          refine r_iload_n e455 ?_
          refine r_goto ?_
          refine At.enter rfl ?_
          refine r_istore_n _ rfl ?_
          refine q_iinc (w_p1 (by decide) (Or.inr rfl) e455) (x446.toInt + 1) rfl (by omega) (fun v477 hv477 => ?_)
          refine r_goto ?_
          exact ih452 (8 - v477.toInt) _ _ ⟨x446, v477, by first | rfl | omega, hI448, hF449, (w_p1 (by decide) (Or.inr rfl) (w_p1 (by decide) (Or.inr rfl) e453)), (w_p1 (by decide) (Or.inr rfl) (w_e1 _ _ _)), (w_e1 _ _ _), by omega, by omega, (by first | omega | grind)⟩ ⟨by omega, by omega⟩

def F_X11_goOn_231 : List (Nat × Nat) := [(231, 27), (231, 30), (231, 31), (231, 32)]
def A_X11_goOn_231 : List Nat := [250, 251, 252, 253]
set_option maxRecDepth 100000 in
set_option maxHeartbeats 4000000 in
theorem T_X11_goOn_231 (d : Nat) {N : Nat} {g0 : List en_E} (hI0 : HI g0) (a1 : Int32) (h_a1 : 0 ≤ a1.toInt ∧ a1.toInt ≤ 7) (a2 : Int32) (h_a2 : 0 ≤ a2.toInt ∧ a2.toInt ≤ 99) (hp : 0 ≤ (eA g0 250 a1.toInt).toInt) : Ev (d + 6) 228 [.ref 231, .int a1, .int a2] (g0, N) (fun w h' => ∃ g', h' = (g', N) ∧ HI g' ∧ Fr F_X11_goOn_231 A_X11_goOn_231 g0 g' ∧ w = none ∧ (∀ j : Int, 0 ≤ j → j ≠ a1.toInt → eA g' 250 j = eA g0 250 j)) := by
  have hF0 : Fr F_X11_goOn_231 A_X11_goOn_231 g0 g0 := Fr.rf
  refine Ev.mk rfl rfl ⟨Nat.le_of_ble_eq_true rfl, Or.inr (q_rc hI0.1 kx_231 rfl)⟩ ?_
  show At _ none _ _ (0, [(0, .ref 231), (1, .int a1), (2, .int a2)], [], (_, _)) _
  refine At.enter rfl ?_
  refine r_aload_n rfl ?_
  refine r_iload_n rfl ?_
  refine r_aload_n rfl ?_
  refine q_getR (Sh.ref hI0.1 kx_231 rfl) ?_
  refine r_iload_n rfl ?_
  obtain ⟨v121, hv121⟩ : ∃ v, eA g0 250 a1.toInt = v := ⟨_, rfl⟩
  have rv121 := RgA.at hI0.2.2.1 (Sh.arr hI0.1 ka_250).2 (p := 250) rfl (j := a1.toInt) (by omega)
  rw [hv121] at rv121
  dsimp only at rv121
  have wv121 := hp; rw [hv121] at wv121
  refine q_iald (Sh.arr hI0.1 ka_250) a1.toInt rfl (by omega) v121 hv121 ?_
  refine r_iload_n rfl ?_
  refine r_aload_n rfl ?_
  refine q_getR (Sh.ref hI0.1 kx_231 rfl) ?_
  refine r_iload_n rfl ?_
  obtain ⟨v122, hv122⟩ : ∃ v, eA g0 251 a1.toInt = v := ⟨_, rfl⟩
  refine q_iald (Sh.arr hI0.1 ka_251) a1.toInt rfl (by omega) v122 hv122 ?_
  refine r_callV 18 rfl [.ref 231, .int a1, .int v121, .int a2, .int v122] [] (Nat.le_of_ble_eq_true rfl) rfl (T_X11_isBarred_231 _ hI0 a1 (by omega) v121 (by omega) a2 v122) ?_
  rintro _ _ ⟨g123, rfl, hI124, hF125, v126, rfl, hr127⟩
  refine At.sti ?_
  have hF128 := Fr.tr hF0 hF125 rfl rfl
  refine At.enter rfl ?_
  refine r_ifs 21 rfl (fun c129 => ?_) (fun c129 => ?_)
  · have c129_ : v126.toInt = 0 := en_k_eq_t c129
    refine At.enter rfl ?_
    refine r_aload_n rfl ?_
    refine r_aload_n rfl ?_
    refine q_getR (Sh.ref hI124.1 kx_231 rfl) ?_
    refine r_iload_n rfl ?_
    refine q_iald (Sh.arr hI124.1 ka_250) a1.toInt rfl (by omega) v121 ((eA_c (hF125.2.1 250 (by decide))).trans hv121) ?_
    refine r_aload_n rfl ?_
    obtain ⟨v130, hv130⟩ : ∃ v, gI g0 231 36 = v := ⟨_, rfl⟩
    refine q_getI (Sh.int hI124.1 kx_231 rfl) v130 ((hF125.1 231 36 (by decide)).trans hv130) ?_
    refine r_callV 39 rfl [.ref 231, .int v121, .int v130] [] (Nat.le_of_ble_eq_true rfl) rfl (T_X11_nextOf_231 _ hI124 v121 (by omega) v130) ?_
    rintro _ _ ⟨g131, rfl, hI132, hF133, v134, rfl, hr135⟩
    refine At.sti ?_
    have hF136 := Fr.tr hF128 hF133 rfl rfl
    rw [eA_c ((hF125.2.1 233 (by decide)))] at hr135
    refine At.enter rfl ?_
    refine r_istore_n ([(3, .int v134), (0, .ref 231), (1, .int a1), (2, .int a2)]) rfl ?_
    refine r_iload_n rfl ?_
    refine r_iconst (-1) rfl ?_
    refine r_ics 45 rfl (fun c137 => ?_) (fun c137 => ?_)
    · have c137_ : v134.toInt = (-1) := en_i_eq_t c137
      refine At.enter rfl ?_
      refine r_iload_n rfl ?_
      refine r_iconst (-1) rfl ?_
      refine r_ics 78 rfl (fun c138 => ?_) (fun c138 => ?_)
      · have c138_ : v134.toInt = (-1) := en_i_eq_t c138
        refine At.enter rfl ?_
        refine r_aload_n rfl ?_
        refine q_getR (Sh.ref hI132.1 kx_231 rfl) ?_
        refine r_iload_n rfl ?_
        refine r_dup2 ⟨rfl, rfl⟩ ?_
        refine q_iald (Sh.arr hI132.1 ka_251) a1.toInt rfl (by omega) v122 ((eA_c ((hF133.2.1 251 (by decide)).trans (hF125.2.1 251 (by decide)))).trans hv122) ?_
        refine r_iconst 1 rfl ?_
        refine q_iaddO (fun v139 _ => ?_)
        refine q_iast (Sh.arr hI132.1 ka_251) (a1.toInt) rfl (by omega) ?_
        have hI140 := HI.wA0 hI132 ka_251 (p := 251) rfl rfl (a1.toInt) (v139)
        have hF141 := Fr.wA (p := 251) (j := a1.toInt) (v := v139) hF136 rfl
        refine r_aload_n rfl ?_
        refine q_getR (Sh.ref hI140.1 kx_231 rfl) ?_
        refine r_iload_n rfl ?_
        refine r_dup2 ⟨rfl, rfl⟩ ?_
        obtain ⟨v142, hv142⟩ : ∃ v, eA g0 252 a1.toInt = v := ⟨_, rfl⟩
        refine q_iald (Sh.arr hI140.1 ka_252) a1.toInt rfl (by omega) v142 ((eA_c ((gA_sA_ne (by decide)).trans ((hF133.2.1 252 (by decide)).trans (hF125.2.1 252 (by decide))))).trans hv142) ?_
        refine r_iconst 1 rfl ?_
        refine q_iaddO (fun v143 _ => ?_)
        refine q_iast (Sh.arr hI140.1 ka_252) (a1.toInt) rfl (by omega) ?_
        have hI144 := HI.wA0 hI140 ka_252 (p := 252) rfl rfl (a1.toInt) (v143)
        have hF145 := Fr.wA (p := 252) (j := a1.toInt) (v := v143) hF141 rfl
        refine Ar.fall 124 rfl ?_
        refine At.enter rfl ?_
        refine r_vret ?_
        exact ⟨_, rfl, hI144, hF145, rfl, (fun j h0 hne => ((eA_c (gA_sA_ne (by decide))).trans ((eA_c (gA_sA_ne (by decide))).trans ((eA_c (hF133.2.1 250 (by decide))).trans (eA_c (hF125.2.1 250 (by decide)))))))⟩
      · have c138_ : v134.toInt ≠ (-1) := en_i_eq_f c138
        exfalso; omega
    · have c137_ : v134.toInt ≠ (-1) := en_i_eq_f c137
      refine At.enter rfl ?_
      refine r_iload_n rfl ?_
      refine r_aload_n rfl ?_
      refine r_iload_n rfl ?_
      refine r_iconst 2 rfl ?_
      refine q_inlV 52 rfl [.ref 231, .int a1, .int 2] [.int v134] (Nat.le_of_ble_eq_true rfl) rfl ?_
      refine Ev.mk rfl rfl ⟨Nat.le_of_ble_eq_true rfl, Or.inr (q_rc hI132.1 kx_231 rfl)⟩ ?_
      show At _ none _ _ (0, [(0, .ref 231), (1, .int a1), (2, .int 2)], [], (_, _)) _
      refine At.enter rfl ?_
      refine r_aload_n rfl ?_
      refine q_getR (Sh.ref hI132.1 kx_231 rfl) ?_
      refine r_bipush 46 rfl ?_
      refine r_bipush 6 rfl ?_
      refine r_iload_n rfl ?_
      refine q_imul (6 * a1.toInt) rfl (by omega) (fun v146 hv146 => ?_)
      refine q_iadd (46 + v146.toInt) rfl (by omega) (fun v147 hv147 => ?_)
      refine r_iload_n rfl ?_
      refine q_iadd (v147.toInt + 2) rfl (by omega) (fun v148 hv148 => ?_)
      obtain ⟨v149, hv149⟩ : ∃ v, eA g0 233 (6 * a1.toInt + 48) = v := ⟨_, rfl⟩
      have wv149 := HI.l2 hI0 (j := (6 * a1.toInt + 48)) (a1.toInt) (by omega) (by omega)
      rw [hv149] at wv149
      refine q_iald (Sh.arr hI132.1 ka_233) (6 * a1.toInt + 48) (by omega) (by omega) v149 ((eA_c ((hF133.2.1 233 (by decide)).trans (hF125.2.1 233 (by decide)))).trans hv149) ?_
      refine q_ireti ?_
      refine At.enter rfl ?_
      refine r_ics 55 rfl (fun c150 => ?_) (fun c150 => ?_)
      · have c150_ : v134.toInt ≠ v149.toInt := en_i_ne_t c150
        refine At.enter rfl ?_
        refine r_iload_n rfl ?_
        refine r_iconst (-1) rfl ?_
        refine r_ics 78 rfl (fun c151 => ?_) (fun c151 => ?_)
        · have c151_ : v134.toInt = (-1) := en_i_eq_t c151
          exfalso; omega
        · have c151_ : v134.toInt ≠ (-1) := en_i_eq_f c151
          refine At.enter rfl ?_
          refine r_aload_n rfl ?_
          refine r_iload_n rfl ?_
          refine r_iload_n rfl ?_
          refine r_callV 84 rfl [.ref 231, .int v134, .int a1] [] (Nat.le_of_ble_eq_true rfl) rfl (T_X11_canHold_231 _ hI132 v134 (by omega) a1 (by omega)) ?_
          rintro _ _ ⟨g152, rfl, hI153, hF154, v155, rfl, hr156⟩
          refine At.sti ?_
          have hF157 := Fr.tr hF136 hF154 rfl rfl
          refine At.enter rfl ?_
          refine r_ifs 87 rfl (fun c158 => ?_) (fun c158 => ?_)
          · have c158_ : v155.toInt = 0 := en_k_eq_t c158
            refine At.enter rfl ?_
            refine r_aload_n rfl ?_
            refine q_getR (Sh.ref hI153.1 kx_231 rfl) ?_
            refine r_iload_n rfl ?_
            refine r_dup2 ⟨rfl, rfl⟩ ?_
            refine q_iald (Sh.arr hI153.1 ka_251) a1.toInt rfl (by omega) v122 ((eA_c ((hF154.2.1 251 (by decide)).trans ((hF133.2.1 251 (by decide)).trans (hF125.2.1 251 (by decide))))).trans hv122) ?_
            refine r_iconst 1 rfl ?_
            refine q_iaddO (fun v159 _ => ?_)
            refine q_iast (Sh.arr hI153.1 ka_251) (a1.toInt) rfl (by omega) ?_
            have hI160 := HI.wA0 hI153 ka_251 (p := 251) rfl rfl (a1.toInt) (v159)
            have hF161 := Fr.wA (p := 251) (j := a1.toInt) (v := v159) hF157 rfl
            refine r_aload_n rfl ?_
            refine q_getR (Sh.ref hI160.1 kx_231 rfl) ?_
            refine r_iload_n rfl ?_
            refine r_dup2 ⟨rfl, rfl⟩ ?_
            obtain ⟨v162, hv162⟩ : ∃ v, eA g0 252 a1.toInt = v := ⟨_, rfl⟩
            refine q_iald (Sh.arr hI160.1 ka_252) a1.toInt rfl (by omega) v162 ((eA_c ((gA_sA_ne (by decide)).trans ((hF154.2.1 252 (by decide)).trans ((hF133.2.1 252 (by decide)).trans (hF125.2.1 252 (by decide)))))).trans hv162) ?_
            refine r_iconst 1 rfl ?_
            refine q_iaddO (fun v163 _ => ?_)
            refine q_iast (Sh.arr hI160.1 ka_252) (a1.toInt) rfl (by omega) ?_
            have hI164 := HI.wA0 hI160 ka_252 (p := 252) rfl rfl (a1.toInt) (v163)
            have hF165 := Fr.wA (p := 252) (j := a1.toInt) (v := v163) hF161 rfl
            refine Ar.fall 124 rfl ?_
            refine At.enter rfl ?_
            refine r_vret ?_
            exact ⟨_, rfl, hI164, hF165, rfl, (fun j h0 hne => ((eA_c (gA_sA_ne (by decide))).trans ((eA_c (gA_sA_ne (by decide))).trans ((eA_c (hF154.2.1 250 (by decide))).trans ((eA_c (hF133.2.1 250 (by decide))).trans (eA_c (hF125.2.1 250 (by decide))))))))⟩
          · have c158_ : v155.toInt ≠ 0 := en_k_eq_f c158
            refine At.enter rfl ?_
            refine r_aload_n rfl ?_
            refine q_getR (Sh.ref hI153.1 kx_231 rfl) ?_
            refine r_iload_n rfl ?_
            refine r_iload_n rfl ?_
            refine q_iast (Sh.arr hI153.1 ka_250) (a1.toInt) rfl (by omega) ?_
            have hI166 := HI.wA1 hI153 ka_250 (p := 250) rfl rfl (a1.toInt) (v := v134) (by dsimp only; omega)
            have hF167 := Fr.wA (p := 250) (j := a1.toInt) (v := v134) hF157 rfl
            refine r_aload_n rfl ?_
            refine q_getR (Sh.ref hI166.1 kx_231 rfl) ?_
            refine r_iload_n rfl ?_
            refine r_iconst 0 rfl ?_
            refine q_iast (Sh.arr hI166.1 ka_251) (a1.toInt) rfl (by omega) ?_
            have hI168 := HI.wA0 hI166 ka_251 (p := 251) rfl rfl (a1.toInt) (0)
            have hF169 := Fr.wA (p := 251) (j := a1.toInt) (v := 0) hF167 rfl
            refine r_goto ?_
            refine At.enter rfl ?_
            refine r_vret ?_
            exact ⟨_, rfl, hI168, hF169, rfl, (fun j h0 hne => ((eA_c (gA_sA_ne (by decide))).trans ((eA_sA_ne hI153.1 ka_250 (by omega) (by omega) (by omega)).trans ((eA_c (hF154.2.1 250 (by decide))).trans ((eA_c (hF133.2.1 250 (by decide))).trans (eA_c (hF125.2.1 250 (by decide))))))))⟩
      · have c150_ : v134.toInt = v149.toInt := en_i_ne_f c150
        refine At.enter rfl ?_
        refine r_aload_n rfl ?_
        refine q_getR (Sh.ref hI132.1 kx_231 rfl) ?_
        refine r_iload_n rfl ?_
        refine r_bipush (-2) rfl ?_
        refine q_iast (Sh.arr hI132.1 ka_250) (a1.toInt) rfl (by omega) ?_
        have hI170 := HI.wA1 hI132 ka_250 (p := 250) rfl rfl (a1.toInt) (v := (-2)) (by decide)
        have hF171 := Fr.wA (p := 250) (j := a1.toInt) (v := (-2)) hF136 rfl
        refine r_aload_n rfl ?_
        refine q_getR (Sh.ref hI170.1 kx_231 rfl) ?_
        refine r_iload_n rfl ?_
        refine r_iload_n rfl ?_
        refine q_iast (Sh.arr hI170.1 ka_253) (a1.toInt) rfl (by omega) ?_
        have hI172 := HI.wA0 hI170 ka_253 (p := 253) rfl rfl (a1.toInt) (a2)
        have hF173 := Fr.wA (p := 253) (j := a1.toInt) (v := a2) hF171 rfl
        refine r_goto ?_
        refine At.enter rfl ?_
        refine r_vret ?_
        exact ⟨_, rfl, hI172, hF173, rfl, (fun j h0 hne => ((eA_c (gA_sA_ne (by decide))).trans ((eA_sA_ne hI132.1 ka_250 (by omega) (by omega) (by omega)).trans ((eA_c (hF133.2.1 250 (by decide))).trans (eA_c (hF125.2.1 250 (by decide)))))))⟩
  · have c129_ : v126.toInt ≠ 0 := en_k_eq_f c129
    refine At.enter rfl ?_
    refine r_iconst (-1) rfl ?_
    refine r_goto ?_
    refine At.enter rfl ?_
    refine r_istore_n ([(3, .int (-1)), (0, .ref 231), (1, .int a1), (2, .int a2)]) rfl ?_
    refine r_iload_n rfl ?_
    refine r_iconst (-1) rfl ?_
    refine r_ict (by decide) ?_
    refine At.enter rfl ?_
    refine r_iload_n rfl ?_
    refine r_iconst (-1) rfl ?_
    refine r_ict (by decide) ?_
    refine At.enter rfl ?_
    refine r_aload_n rfl ?_
    refine q_getR (Sh.ref hI124.1 kx_231 rfl) ?_
    refine r_iload_n rfl ?_
    refine r_dup2 ⟨rfl, rfl⟩ ?_
    refine q_iald (Sh.arr hI124.1 ka_251) a1.toInt rfl (by omega) v122 ((eA_c (hF125.2.1 251 (by decide))).trans hv122) ?_
    refine r_iconst 1 rfl ?_
    refine q_iaddO (fun v174 _ => ?_)
    refine q_iast (Sh.arr hI124.1 ka_251) (a1.toInt) rfl (by omega) ?_
    have hI175 := HI.wA0 hI124 ka_251 (p := 251) rfl rfl (a1.toInt) (v174)
    have hF176 := Fr.wA (p := 251) (j := a1.toInt) (v := v174) hF128 rfl
    refine r_aload_n rfl ?_
    refine q_getR (Sh.ref hI175.1 kx_231 rfl) ?_
    refine r_iload_n rfl ?_
    refine r_dup2 ⟨rfl, rfl⟩ ?_
    obtain ⟨v177, hv177⟩ : ∃ v, eA g0 252 a1.toInt = v := ⟨_, rfl⟩
    refine q_iald (Sh.arr hI175.1 ka_252) a1.toInt rfl (by omega) v177 ((eA_c ((gA_sA_ne (by decide)).trans (hF125.2.1 252 (by decide)))).trans hv177) ?_
    refine r_iconst 1 rfl ?_
    refine q_iaddO (fun v178 _ => ?_)
    refine q_iast (Sh.arr hI175.1 ka_252) (a1.toInt) rfl (by omega) ?_
    have hI179 := HI.wA0 hI175 ka_252 (p := 252) rfl rfl (a1.toInt) (v178)
    have hF180 := Fr.wA (p := 252) (j := a1.toInt) (v := v178) hF176 rfl
    refine Ar.fall 124 rfl ?_
    refine At.enter rfl ?_
    refine r_vret ?_
    exact ⟨_, rfl, hI179, hF180, rfl, (fun j h0 hne => ((eA_c (gA_sA_ne (by decide))).trans ((eA_c (gA_sA_ne (by decide))).trans (eA_c (hF125.2.1 250 (by decide))))))⟩

def F_X11_run_231 : List (Nat × Nat) := [(231, 27), (231, 30), (231, 31), (231, 32)]
def A_X11_run_231 : List Nat := [250, 251, 252, 253, 254, 255, 256]
set_option maxRecDepth 100000 in
set_option maxHeartbeats 4000000 in
theorem T_X11_run_231 (d : Nat) {N : Nat} {g0 : List en_E} (hI0 : HI g0) : Ev (d + 7) 225 [.ref 231] (g0, N) (fun w h' => ∃ g', h' = (g', N) ∧ HI g' ∧ Fr F_X11_run_231 A_X11_run_231 g0 g' ∧ w = none) := by
  have hF0 : Fr F_X11_run_231 A_X11_run_231 g0 g0 := Fr.rf
  refine Ev.mk rfl rfl ⟨Nat.le_of_ble_eq_true rfl, Or.inr (q_rc hI0.1 kx_231 rfl)⟩ ?_
  show At _ none _ _ (0, [(0, .ref 231)], [], (_, _)) _
  refine At.enter rfl ?_
  refine r_iconst 0 rfl ?_
  refine r_istore_n ([(1, .int 0), (0, .ref 231)]) rfl ?_
  refine Ar.fall 2 rfl ?_
  have z_887196 : (0 : Int32).toInt = 0 := rfl
  refine w_loopI (fun n_ l_ g_ => ∃ x887186 : Int32, n_ = 8 - x887186.toInt ∧ HI g_ ∧ Fr F_X11_run_231 A_X11_run_231 g0 g_ ∧ en_get 0 l_ = some (.ref 231) ∧ en_get 1 l_ = some (.int x887186) ∧ (0 ≤ x887186.toInt ∧ x887186.toInt ≤ 8)) ?_ (8 - 0) ⟨0, by first | rfl | omega, hI0, hF0, rfl, rfl, by decide⟩
  rintro n887191 l887190 g887187 ⟨x887186, hm887197, hI887188, hF887189, e887193, e887194, r887195⟩ ih887192
  refine At.enter rfl ?_
  refine r_iload_n e887194 ?_
  refine r_aload_n e887193 ?_
  refine q_getR (Sh.ref hI887188.1 kx_231 rfl) ?_
  refine r_iconst 1 rfl ?_
  obtain ⟨v887198, hv887198⟩ : ∃ v, eA g0 233 1 = v := ⟨_, rfl⟩
  have tv887198 := congrArg Int32.toInt hv887198
  have wv887198 := HI.t1 hI0
  rw [hv887198] at wv887198
  refine q_iald (Sh.arr hI887188.1 ka_233) 1 rfl (by decide) v887198 ((eA_c (hF887189.2.1 233 (by decide))).trans hv887198) ?_
  have bv887200 := q_bnd x887186
  have bv887201 := q_bnd v887198
  refine r_ics 12 rfl (fun c887199 => ?_) (fun c887199 => ?_)
  · have c887199_ : x887186.toInt ≥ v887198.toInt := en_i_ge_t c887199
    refine At.enter rfl ?_
    refine r_iconst 0 rfl ?_
    refine r_istore_n _ rfl ?_
    refine Ar.fall 48 rfl ?_
    have z_928204 : (0 : Int32).toInt = 0 := rfl
    refine w_loopI (fun n_ l_ g_ => ∃ x928194 : Int32, n_ = 100 - x928194.toInt ∧ HI g_ ∧ Fr F_X11_run_231 A_X11_run_231 g0 g_ ∧ en_get 0 l_ = some (.ref 231) ∧ en_get 1 l_ = some (.int x928194) ∧ (0 ≤ x928194.toInt ∧ x928194.toInt ≤ 100)) ?_ (100 - 0) ⟨0, by first | rfl | omega, hI887188, hF887189, (w_p1 (by decide) (Or.inr rfl) e887193), (w_e1 _ _ _), by decide⟩
    rintro n928199 l928198 g928195 ⟨x928194, hm928205, hI928196, hF928197, e928201, e928202, r928203⟩ ih928200
    refine At.enter rfl ?_
    refine r_iload_n e928202 ?_
    refine r_bipush 100 rfl ?_
    refine r_ics 54 rfl (fun c928206 => ?_) (fun c928206 => ?_)
    · have c928206_ : x928194.toInt ≥ 100 := en_i_ge_t c928206
      refine At.enter rfl ?_
      refine r_vret ?_
      exact ⟨_, rfl, hI928196, hF928197, rfl⟩
    · have c928206_ : x928194.toInt < 100 := en_i_ge_f c928206
      refine At.enter rfl ?_
      refine r_aload_n e928201 ?_
      refine r_iload_n e928202 ?_
      refine r_callV 59 rfl [.ref 231, .int x928194] [] (Nat.le_of_ble_eq_true rfl) rfl (T_X11_bring_231 _ hI928196 x928194 (by omega)) ?_
      rintro _ _ ⟨g928207, rfl, hI928208, hF928209, rfl⟩
      refine At.stn ?_
      have hF928212 := Fr.tr hF928197 hF928209 rfl rfl
      refine At.enter rfl ?_
      refine r_iconst 0 rfl ?_
      refine r_istore_n _ rfl ?_
      refine Ar.fall 61 rfl ?_
      have z_930643 : (0 : Int32).toInt = 0 := rfl
      refine w_loopI (fun n_ l_ g_ => ∃ x930631 : Int32, n_ = 8 - x930631.toInt ∧ HI g_ ∧ Fr F_X11_run_231 A_X11_run_231 g0 g_ ∧ en_get 0 l_ = some (.ref 231) ∧ en_get 1 l_ = some (.int x928194) ∧ en_get 2 l_ = some (.int x930631) ∧ (0 ≤ x930631.toInt ∧ x930631.toInt ≤ 8) ∧ (∀ j : Int, 0 ≤ j → j < x930631.toInt → (eA g_ 255 j).toInt = 0 → 0 ≤ (eA g_ 250 j).toInt)) ?_ (8 - 0) ⟨0, by first | rfl | omega, hI928208, hF928212, (w_p1 (by decide) (Or.inr rfl) e928201), (w_p1 (by decide) (Or.inr rfl) e928202), (w_e1 _ _ _), by decide, (fun j h0 h1 _ => absurd h1 (by omega))⟩
      rintro n930636 l930635 g930632 ⟨x930631, hm930644, hI930633, hF930634, e930638, e930639, e930640, r930641, q930642⟩ ih930637
      refine At.enter rfl ?_
      refine r_iload_n e930640 ?_
      refine r_aload_n e930638 ?_
      refine q_getR (Sh.ref hI930633.1 kx_231 rfl) ?_
      refine r_iconst 1 rfl ?_
      refine q_iald (Sh.arr hI930633.1 ka_233) 1 rfl (by decide) v887198 ((eA_c (hF930634.2.1 233 (by decide))).trans hv887198) ?_
      have bv930646 := q_bnd x930631
      refine r_ics 71 rfl (fun c930645 => ?_) (fun c930645 => ?_)
      · have c930645_ : x930631.toInt ≥ v887198.toInt := en_i_ge_t c930645
        refine At.enter rfl ?_
        refine r_aload_n e930638 ?_
        refine r_callV 141 rfl [.ref 231] [] (Nat.le_of_ble_eq_true rfl) rfl (T_X11_first_231 _ hI930633) ?_
        rintro _ _ ⟨g930647, rfl, hI930648, hF930649, v930650, rfl, hr930651⟩
        refine At.sti ?_
        have hF930652 := Fr.tr hF930634 hF930649 rfl rfl
        refine At.enter rfl ?_
        refine r_istore_n _ rfl ?_
        refine Ar.fall 142 rfl ?_
        refine w_loopI (fun n_ l_ g_ => ∃ x930951 : Int32, n_ = cz g_ ∧ HI g_ ∧ Fr F_X11_run_231 A_X11_run_231 g0 g_ ∧ en_get 0 l_ = some (.ref 231) ∧ en_get 1 l_ = some (.int x928194) ∧ en_get 2 l_ = some (.int x930951) ∧ ((-1) ≤ x930951.toInt ∧ x930951.toInt ≤ 7) ∧ (∀ j : Int, 0 ≤ j → j < (eA g0 233 1).toInt → (eA g_ 255 j).toInt = 0 → 0 ≤ (eA g_ 250 j).toInt) ∧ (x930951.toInt = -1 ∨ (0 ≤ x930951.toInt ∧ x930951.toInt < (eA g0 233 1).toInt ∧ (eA g_ 255 x930951.toInt).toInt = 0))) ?_ (_) ⟨v930650, rfl, hI930648, hF930652, (w_p1 (by decide) (Or.inr rfl) e930638), (w_p1 (by decide) (Or.inr rfl) e930639), (w_e1 _ _ _), by omega, (by intro j h0 h1 hz; rw [eA_c (hF930649.2.1 250 (by decide))]; exact q930642 j h0 (by rw [hv887198] at h1; omega) ((congrArg Int32.toInt (eA_c (hF930649.2.1 255 (by decide)))).symm.trans hz)), (by rw [← eA_c ((hF930649.2.1 233 (by decide)).trans (hF930634.2.1 233 (by decide)))]; exact hr930651.2)⟩
        rintro n930956 l930955 g930952 ⟨x930951, hm930964, hI930953, hF930954, e930958, e930959, e930960, r930961, q930962, q930963⟩ ih930957
        refine At.enter rfl ?_
        refine r_iload_n e930960 ?_
        refine r_iconst (-1) rfl ?_
        refine r_ics 147 rfl (fun c930965 => ?_) (fun c930965 => ?_)
        · have c930965_ : x930951.toInt = (-1) := en_i_eq_t c930965
          refine At.enter rfl ?_
          refine r_iconst 0 rfl ?_
          refine r_istore_n _ rfl ?_
          refine Ar.fall 170 rfl ?_
          have z_931083 : (0 : Int32).toInt = 0 := rfl
          refine w_loopI (fun n_ l_ g_ => ∃ x931071 : Int32, n_ = 8 - x931071.toInt ∧ HI g_ ∧ Fr F_X11_run_231 A_X11_run_231 g0 g_ ∧ en_get 0 l_ = some (.ref 231) ∧ en_get 1 l_ = some (.int x928194) ∧ en_get 2 l_ = some (.int x930951) ∧ en_get 3 l_ = some (.int x931071) ∧ (0 ≤ x931071.toInt ∧ x931071.toInt ≤ 8)) ?_ (8 - 0) ⟨0, by first | rfl | omega, hI930953, hF930954, (w_p1 (by decide) (Or.inr rfl) e930958), (w_p1 (by decide) (Or.inr rfl) e930959), (w_p1 (by decide) (Or.inr rfl) e930960), (w_e1 _ _ _), by decide⟩
          rintro n931076 l931075 g931072 ⟨x931071, hm931084, hI931073, hF931074, e931078, e931079, e931080, e931081, r931082⟩ ih931077
          refine At.enter rfl ?_
          refine r_iload_n e931081 ?_
          refine r_aload_n e931078 ?_
          refine q_getR (Sh.ref hI931073.1 kx_231 rfl) ?_
          refine r_iconst 1 rfl ?_
          refine q_iald (Sh.arr hI931073.1 ka_233) 1 rfl (by decide) v887198 ((eA_c (hF931074.2.1 233 (by decide))).trans hv887198) ?_
          have bv931086 := q_bnd x931071
          refine r_ics 180 rfl (fun c931085 => ?_) (fun c931085 => ?_)
          · have c931085_ : x931071.toInt ≥ v887198.toInt := en_i_ge_t c931085
            refine At.enter rfl ?_
            refine q_iinc e931079 (x928194.toInt + 1) rfl (by omega) (fun v931087 hv931087 => ?_)
            refine r_goto ?_
            exact ih928200 (100 - v931087.toInt) _ _ ⟨v931087, by first | rfl | omega, hI931073, hF931074, (w_p1 (by decide) (Or.inr rfl) e931078), (w_e1 _ _ _), by omega⟩ ⟨by omega, by omega⟩
          · have c931085_ : x931071.toInt < v887198.toInt := en_i_ge_f c931085
            refine At.enter rfl ?_
            refine r_aload_n e931078 ?_
            refine q_getR (Sh.ref hI931073.1 kx_231 rfl) ?_
            refine r_bipush 100 rfl ?_
            refine r_iload_n e931081 ?_
            refine q_imul (100 * x931071.toInt) rfl (by omega) (fun v931088 hv931088 => ?_)
            refine r_iload_n e931079 ?_
            refine q_iadd (v931088.toInt + x928194.toInt) rfl (by omega) (fun v931089 hv931089 => ?_)
            refine r_aload_n e931078 ?_
            refine q_getR (Sh.ref hI931073.1 kx_231 rfl) ?_
            refine r_iload_n e931081 ?_
            obtain ⟨v931090, hv931090⟩ : ∃ v, eA g931072 250 x931071.toInt = v := ⟨_, rfl⟩
            have rv931090 := RgA.at hI931073.2.2.1 (Sh.arr hI931073.1 ka_250).2 (p := 250) rfl (j := x931071.toInt) (by omega)
            rw [hv931090] at rv931090
            dsimp only at rv931090
            refine q_iald (Sh.arr hI931073.1 ka_250) x931071.toInt rfl (by omega) v931090 hv931090 ?_
            refine r_ifs 199 rfl (fun c931091 => ?_) (fun c931091 => ?_)
            · have c931091_ : v931090.toInt ≥ 0 := en_k_ge_t c931091
              refine At.enter rfl ?_
              refine r_aload_n e931078 ?_
              refine q_getR (Sh.ref hI931073.1 kx_231 rfl) ?_
              refine r_iload_n e931081 ?_
              refine q_iald (Sh.arr hI931073.1 ka_250) x931071.toInt rfl (by omega) v931090 hv931090 ?_
              refine Ar.fall 209 rfl ?_
              refine At.enter rfl ?_
              refine q_iast (Sh.arr hI931073.1 ka_256) ((100 * x931071.toInt + x928194.toInt)) (by omega) (by omega) ?_
              have hI931092 := HI.wA0 hI931073 ka_256 (p := 256) rfl rfl ((100 * x931071.toInt + x928194.toInt)) (v931090)
              have hF931093 := Fr.wA (p := 256) (j := (100 * x931071.toInt + x928194.toInt)) (v := v931090) hF931074 rfl
              refine q_iinc e931081 (x931071.toInt + 1) rfl (by omega) (fun v931094 hv931094 => ?_)
              refine r_goto ?_
              exact ih931077 (8 - v931094.toInt) _ _ ⟨v931094, by first | rfl | omega, hI931092, hF931093, (w_p1 (by decide) (Or.inr rfl) e931078), (w_p1 (by decide) (Or.inr rfl) e931079), (w_p1 (by decide) (Or.inr rfl) e931080), (w_e1 _ _ _), by omega⟩ ⟨by omega, by omega⟩
            · have c931091_ : v931090.toInt < 0 := en_k_ge_f c931091
              refine At.enter rfl ?_
              refine r_iconst (-1) rfl ?_
              refine r_goto ?_
              refine At.enter rfl ?_
              refine q_iast (Sh.arr hI931073.1 ka_256) ((100 * x931071.toInt + x928194.toInt)) (by omega) (by omega) ?_
              have hI931095 := HI.wA0 hI931073 ka_256 (p := 256) rfl rfl ((100 * x931071.toInt + x928194.toInt)) ((-1))
              have hF931096 := Fr.wA (p := 256) (j := (100 * x931071.toInt + x928194.toInt)) (v := (-1)) hF931074 rfl
              refine q_iinc e931081 (x931071.toInt + 1) rfl (by omega) (fun v931097 hv931097 => ?_)
              refine r_goto ?_
              exact ih931077 (8 - v931097.toInt) _ _ ⟨v931097, by first | rfl | omega, hI931095, hF931096, (w_p1 (by decide) (Or.inr rfl) e931078), (w_p1 (by decide) (Or.inr rfl) e931079), (w_p1 (by decide) (Or.inr rfl) e931080), (w_e1 _ _ _), by omega⟩ ⟨by omega, by omega⟩
        · have c930965_ : x930951.toInt ≠ (-1) := en_i_eq_f c930965
          refine At.enter rfl ?_
          refine r_aload_n e930958 ?_
          refine q_getR (Sh.ref hI930953.1 kx_231 rfl) ?_
          refine r_iload_n e930960 ?_
          refine r_iconst 1 rfl ?_
          refine q_bast (Sh.arr hI930953.1 ka_255) (x930951.toInt) rfl (by omega) rfl ?_
          have hI931098 := HI.wA0 hI930953 ka_255 (p := 255) rfl rfl (x930951.toInt) (1)
          have hF931099 := Fr.wA (p := 255) (j := x930951.toInt) (v := 1) hF930954 rfl
          refine r_aload_n e930958 ?_
          refine r_iload_n e930960 ?_
          refine r_iload_n e930959 ?_
          refine r_callV 160 rfl [.ref 231, .int x930951, .int x928194] [] (Nat.le_of_ble_eq_true rfl) rfl (T_X11_goOn_231 _ hI931098 x930951 (by omega) x928194 (by omega) (by rw [eA_c (gA_sA_ne (by decide))]; exact q930963.elim (fun h => absurd h (by omega)) (fun h => q930962 _ h.1 h.2.1 h.2.2))) ?_
          rintro _ _ ⟨g931100, rfl, hI931101, hF931102, rfl, hr931104⟩
          refine At.stn ?_
          have hF931105 := Fr.tr hF931099 hF931102 rfl rfl
          refine At.enter rfl ?_
          refine r_aload_n e930958 ?_
          refine r_callV 164 rfl [.ref 231] [] (Nat.le_of_ble_eq_true rfl) rfl (T_X11_first_231 _ hI931101) ?_
          rintro _ _ ⟨g931106, rfl, hI931107, hF931108, v931109, rfl, hr931110⟩
          refine At.sti ?_
          have hF931111 := Fr.tr hF931105 hF931108 rfl rfl
          refine At.enter rfl ?_
          refine r_istore_n _ rfl ?_
          refine r_goto ?_
          exact ih930957 (_) _ _ ⟨v931109, rfl, hI931107, hF931111, (w_p1 (by decide) (Or.inr rfl) e930958), (w_p1 (by decide) (Or.inr rfl) e930959), (w_e1 _ _ _), by omega, (by intro j h0 h1 hz; exact (Decidable.em (j = x930951.toInt)).elim (fun e => absurd hz (by rw [e, ((eA_c ((hF931108.2.1 255 (by decide)).trans (hF931102.2.1 255 (by decide)))).trans (eA_sA_eq hI930953.1 ka_255 rfl (by omega) (by omega)))]; decide)) (fun e => by rw [eA_c (hF931108.2.1 250 (by decide)), hr931104 j h0 e, eA_c (gA_sA_ne (by decide))]; exact q930962 j h0 h1 ((congrArg Int32.toInt ((eA_c ((hF931108.2.1 255 (by decide)).trans (hF931102.2.1 255 (by decide)))).trans (eA_sA_ne hI930953.1 ka_255 e (by omega) h0))).symm.trans hz))), (by rw [← eA_c ((hF931108.2.1 233 (by decide)).trans ((hF931102.2.1 233 (by decide)).trans ((gA_sA_ne (by decide)).trans (hF930954.2.1 233 (by decide)))))]; exact hr931110.2)⟩ ⟨cz_nn _, by rw [hm930964, cz_c ((hF931108.2.1 255 (by decide)).trans (hF931102.2.1 255 (by decide)))]; exact cz_lt hI930953.1 ⟨by omega, by omega⟩ (by decide) (q930963.elim (fun h => absurd h (by omega)) (fun h => h.2.2))⟩
      · have c930645_ : x930631.toInt < v887198.toInt := en_i_ge_f c930645
        refine At.enter rfl ?_
        refine r_aload_n e930638 ?_
        refine q_getR (Sh.ref hI930633.1 kx_231 rfl) ?_
        refine r_iload_n e930640 ?_
        refine r_aload_n e930638 ?_
        refine q_getR (Sh.ref hI930633.1 kx_231 rfl) ?_
        refine r_iload_n e930640 ?_
        obtain ⟨v931112, hv931112⟩ : ∃ v, eA g930632 250 x930631.toInt = v := ⟨_, rfl⟩
        have rv931112 := RgA.at hI930633.2.2.1 (Sh.arr hI930633.1 ka_250).2 (p := 250) rfl (j := x930631.toInt) (by omega)
        rw [hv931112] at rv931112
        dsimp only at rv931112
        refine q_iald (Sh.arr hI930633.1 ka_250) x930631.toInt rfl (by omega) v931112 hv931112 ?_
        refine r_ifs 85 rfl (fun c931113 => ?_) (fun c931113 => ?_)
        · have c931113_ : v931112.toInt ≥ 0 := en_k_ge_t c931113
          refine At.enter rfl ?_
          refine r_iconst 0 rfl ?_
          refine Ar.fall 90 rfl ?_
          refine At.enter rfl ?_
          refine q_bast (Sh.arr hI930633.1 ka_255) (x930631.toInt) rfl (by omega) rfl ?_
          have hI931114 := HI.wA0 hI930633 ka_255 (p := 255) rfl rfl (x930631.toInt) (0)
          have hF931115 := Fr.wA (p := 255) (j := x930631.toInt) (v := 0) hF930634 rfl
          refine r_aload_n e930638 ?_
          refine q_getR (Sh.ref hI931114.1 kx_231 rfl) ?_
          refine r_iload_n e930640 ?_
          refine r_aload_n e930638 ?_
          refine q_getR (Sh.ref hI931114.1 kx_231 rfl) ?_
          refine r_iload_n e930640 ?_
          refine q_bald (Sh.arr hI931114.1 ka_255) x930631.toInt rfl (by omega) 0 (eA_sA_eq hI930633.1 ka_255 (by first | rfl | omega) (by first | decide | omega) (by first | decide | omega)) ?_
          refine r_ift (by decide) ?_
          refine At.enter rfl ?_
          refine r_aload_n e930638 ?_
          refine r_iconst 0 rfl ?_
          refine r_iload_n e930640 ?_
          refine r_aload_n e930638 ?_
          refine q_getR (Sh.ref hI931114.1 kx_231 rfl) ?_
          refine r_iload_n e930640 ?_
          refine q_iald (Sh.arr hI931114.1 ka_250) x930631.toInt rfl (by omega) v931112 ((eA_c (gA_sA_ne (by decide))).trans hv931112) ?_
          refine r_iload_n e930639 ?_
          refine r_aload_n e930638 ?_
          refine q_getR (Sh.ref hI931114.1 kx_231 rfl) ?_
          refine r_iload_n e930640 ?_
          obtain ⟨v931116, hv931116⟩ : ∃ v, eA g930632 251 x930631.toInt = v := ⟨_, rfl⟩
          refine q_iald (Sh.arr hI931114.1 ka_251) x930631.toInt rfl (by omega) v931116 ((eA_c (gA_sA_ne (by decide))).trans hv931116) ?_
          refine r_lconst 0 rfl ?_
          refine r_callV 129 rfl [.ref 231, .int 0, .int x930631, .int v931112, .int x928194, .int v931116, .long 0] [.int x930631, .ref 254] (Nat.le_of_ble_eq_true rfl) rfl (T_X11_tells_231 _ hI931114 0 x930631 (by omega) v931112 (by omega) x928194 v931116 0) ?_
          rintro _ _ ⟨g931117, rfl, hI931118, hF931119, v931120, rfl, hr931121⟩
          refine At.stl ?_
          have hF931122 := Fr.tr hF931115 hF931119 rfl rfl
          refine At.enter rfl ?_
          refine q_l2iO (fun v931123 hv931123 => ?_)
          refine Ar.fall 130 rfl ?_
          refine At.enter rfl ?_
          refine q_iast (Sh.arr hI931118.1 ka_254) (x930631.toInt) rfl (by omega) ?_
          have hI931124 := HI.wA0 hI931118 ka_254 (p := 254) rfl rfl (x930631.toInt) (v931123)
          have hF931125 := Fr.wA (p := 254) (j := x930631.toInt) (v := v931123) hF931122 rfl
          refine q_iinc e930640 (x930631.toInt + 1) rfl (by omega) (fun v931126 hv931126 => ?_)
          refine r_goto ?_
          exact ih930637 (8 - v931126.toInt) _ _ ⟨v931126, by first | rfl | omega, hI931124, hF931125, (w_p1 (by decide) (Or.inr rfl) e930638), (w_p1 (by decide) (Or.inr rfl) e930639), (w_e1 _ _ _), by omega, (by intro j h0 h1 hz; rw [eA_c ((gA_sA_ne (by decide)).trans ((hF931119.2.1 250 (by decide)).trans (gA_sA_ne (by decide))))]; exact (Decidable.em (j = x930631.toInt)).elim (fun e => by rw [e, hv931112]; omega) (fun e => q930642 j h0 (by omega) ((congrArg Int32.toInt ((eA_c ((gA_sA_ne (by decide)).trans (hF931119.2.1 255 (by decide)))).trans (eA_sA_ne hI930633.1 ka_255 e (by omega) h0))).symm.trans hz)))⟩ ⟨by omega, by omega⟩
        · have c931113_ : v931112.toInt < 0 := en_k_ge_f c931113
          refine At.enter rfl ?_
          refine r_iconst 1 rfl ?_
          refine r_goto ?_
          refine At.enter rfl ?_
          refine q_bast (Sh.arr hI930633.1 ka_255) (x930631.toInt) rfl (by omega) rfl ?_
          have hI931127 := HI.wA0 hI930633 ka_255 (p := 255) rfl rfl (x930631.toInt) (1)
          have hF931128 := Fr.wA (p := 255) (j := x930631.toInt) (v := 1) hF930634 rfl
          refine r_aload_n e930638 ?_
          refine q_getR (Sh.ref hI931127.1 kx_231 rfl) ?_
          refine r_iload_n e930640 ?_
          refine r_aload_n e930638 ?_
          refine q_getR (Sh.ref hI931127.1 kx_231 rfl) ?_
          refine r_iload_n e930640 ?_
          refine q_bald (Sh.arr hI931127.1 ka_255) x930631.toInt rfl (by omega) 1 (eA_sA_eq hI930633.1 ka_255 (by first | rfl | omega) (by first | decide | omega) (by first | decide | omega)) ?_
          refine r_iff 105 rfl (by decide) ?_
          refine At.enter rfl ?_
          refine r_iconst 0 rfl ?_
          refine r_goto ?_
          refine At.enter rfl ?_
          refine q_iast (Sh.arr hI931127.1 ka_254) (x930631.toInt) rfl (by omega) ?_
          have hI931129 := HI.wA0 hI931127 ka_254 (p := 254) rfl rfl (x930631.toInt) (0)
          have hF931130 := Fr.wA (p := 254) (j := x930631.toInt) (v := 0) hF931128 rfl
          refine q_iinc e930640 (x930631.toInt + 1) rfl (by omega) (fun v931131 hv931131 => ?_)
          refine r_goto ?_
          exact ih930637 (8 - v931131.toInt) _ _ ⟨v931131, by first | rfl | omega, hI931129, hF931130, (w_p1 (by decide) (Or.inr rfl) e930638), (w_p1 (by decide) (Or.inr rfl) e930639), (w_e1 _ _ _), by omega, (by intro j h0 h1 hz; rw [eA_c ((gA_sA_ne (by decide)).trans (gA_sA_ne (by decide)))]; exact (Decidable.em (j = x930631.toInt)).elim (fun e => absurd hz (by rw [e, ((eA_c (gA_sA_ne (by decide))).trans (eA_sA_eq hI930633.1 ka_255 rfl (by omega) (by omega)))]; decide)) (fun e => q930642 j h0 (by omega) ((congrArg Int32.toInt ((eA_c (gA_sA_ne (by decide))).trans (eA_sA_ne hI930633.1 ka_255 e (by omega) h0))).symm.trans hz)))⟩ ⟨by omega, by omega⟩
  · have c887199_ : x887186.toInt < v887198.toInt := en_i_ge_f c887199
    refine At.enter rfl ?_
    refine r_aload_n e887193 ?_
    refine q_getR (Sh.ref hI887188.1 kx_231 rfl) ?_
    refine r_iload_n e887194 ?_
    refine r_iconst (-1) rfl ?_
    refine q_iast (Sh.arr hI887188.1 ka_250) (x887186.toInt) rfl (by omega) ?_
    have hI931132 := HI.wA1 hI887188 ka_250 (p := 250) rfl rfl (x887186.toInt) (v := (-1)) (by decide)
    have hF931133 := Fr.wA (p := 250) (j := x887186.toInt) (v := (-1)) hF887189 rfl
    refine r_aload_n e887193 ?_
    refine q_getR (Sh.ref hI931132.1 kx_231 rfl) ?_
    refine r_iload_n e887194 ?_
    refine r_iconst 0 rfl ?_
    refine q_iast (Sh.arr hI931132.1 ka_251) (x887186.toInt) rfl (by omega) ?_
    have hI931134 := HI.wA0 hI931132 ka_251 (p := 251) rfl rfl (x887186.toInt) (0)
    have hF931135 := Fr.wA (p := 251) (j := x887186.toInt) (v := 0) hF931133 rfl
    refine r_aload_n e887193 ?_
    refine q_getR (Sh.ref hI931134.1 kx_231 rfl) ?_
    refine r_iload_n e887194 ?_
    refine r_iconst 0 rfl ?_
    refine q_iast (Sh.arr hI931134.1 ka_252) (x887186.toInt) rfl (by omega) ?_
    have hI931136 := HI.wA0 hI931134 ka_252 (p := 252) rfl rfl (x887186.toInt) (0)
    have hF931137 := Fr.wA (p := 252) (j := x887186.toInt) (v := 0) hF931135 rfl
    refine r_aload_n e887193 ?_
    refine q_getR (Sh.ref hI931136.1 kx_231 rfl) ?_
    refine r_iload_n e887194 ?_
    refine r_iconst (-1) rfl ?_
    refine q_iast (Sh.arr hI931136.1 ka_253) (x887186.toInt) rfl (by omega) ?_
    have hI931138 := HI.wA0 hI931136 ka_253 (p := 253) rfl rfl (x887186.toInt) ((-1))
    have hF931139 := Fr.wA (p := 253) (j := x887186.toInt) (v := (-1)) hF931137 rfl
    refine q_iinc e887194 (x887186.toInt + 1) rfl (by omega) (fun v931140 hv931140 => ?_)
    refine r_goto ?_
    exact ih887192 (8 - v931140.toInt) _ _ ⟨v931140, by first | rfl | omega, hI931138, hF931139, (w_p1 (by decide) (Or.inr rfl) e887193), (w_e1 _ _ _), by omega⟩ ⟨by omega, by omega⟩

def F_X11_runDay_231 : List (Nat × Nat) := [(231, 27), (231, 30), (231, 31), (231, 32), (231, 36)]
def A_X11_runDay_231 : List Nat := [246, 247, 248, 250, 251, 252, 253, 254, 255, 256]
set_option maxRecDepth 100000 in
set_option maxHeartbeats 4000000 in
theorem T_X11_runDay_231 (d : Nat) {N : Nat} {g0 : List en_E} (hI0 : HI g0) : Ev (d + 8) 229 [.ref 231] (g0, N) (fun w h' => ∃ g', h' = (g', N) ∧ HI g' ∧ Fr F_X11_runDay_231 A_X11_runDay_231 g0 g' ∧ w = none) := by
  have hF0 : Fr F_X11_runDay_231 A_X11_runDay_231 g0 g0 := Fr.rf
  refine Ev.mk rfl rfl ⟨Nat.le_of_ble_eq_true rfl, Or.inr (q_rc hI0.1 kx_231 rfl)⟩ ?_
  show At _ none _ _ (0, [(0, .ref 231)], [], (_, _)) _
  refine At.enter rfl ?_
  refine r_aload_n rfl ?_
  refine r_callV 4 rfl [.ref 231] [] (Nat.le_of_ble_eq_true rfl) rfl (T_X11_asIs_231 _ hI0) ?_
  rintro _ _ ⟨g25, rfl, hI26, hF27, rfl⟩
  refine At.stn ?_
  have hF30 := Fr.tr hF0 hF27 rfl rfl
  refine At.enter rfl ?_
  refine r_aload_n rfl ?_
  refine r_callV 8 rfl [.ref 231] [] (Nat.le_of_ble_eq_true rfl) rfl (T_X11_run_231 _ hI26) ?_
  rintro _ _ ⟨g31, rfl, hI32, hF33, rfl⟩
  refine At.stn ?_
  have hF36 := Fr.tr hF30 hF33 rfl rfl
  refine At.enter rfl ?_
  refine r_vret ?_
  exact ⟨_, rfl, hI32, hF36, rfl⟩

def F_X11_day_231 : List (Nat × Nat) := [(231, 0), (231, 27), (231, 30), (231, 31), (231, 32), (231, 36)]
def A_X11_day_231 : List Nat := [246, 247, 248, 250, 251, 252, 253, 254, 255, 256]
set_option maxRecDepth 100000 in
set_option maxHeartbeats 4000000 in
theorem T_X11_day_231 (d : Nat) {N : Nat} {g0 : List en_E} (hI0 : HI g0) (a1 : Int32) (a2 : Int32) : Ev (d + 9) 230 [.ref 231, .int a1, .int a2] (g0, N) (fun w h' => ∃ g', h' = (g', N) ∧ HI g' ∧ Fr F_X11_day_231 A_X11_day_231 g0 g' ∧ ∃ r : Int32, w = some (.int r) ∧ True) := by
  have hF0 : Fr F_X11_day_231 A_X11_day_231 g0 g0 := Fr.rf
  refine Ev.mk rfl rfl ⟨Nat.le_of_ble_eq_true rfl, Or.inr (q_rc hI0.1 kx_231 rfl)⟩ ?_
  show At _ none _ _ (0, [(0, .ref 231), (1, .int a1), (2, .int a2)], [], (_, _)) _
  refine At.enter rfl ?_
  refine r_aload_n rfl ?_
  refine r_iconst 0 rfl ?_
  refine q_putI (Sh.int hI0.1 kx_231 rfl) rfl ?_
  have hI59 := HI.wI0 hI0 kx_231 rfl (p := 231) (b := 0) (v := 0) rfl
  have hF60 := Fr.wI (p := 231) (b := 0) (v := 0) hF0 rfl
  refine r_aload_n rfl ?_
  refine r_iload_n rfl ?_
  refine q_inlV 10 rfl [.ref 231, .int a1] [] (Nat.le_of_ble_eq_true rfl) rfl ?_
  refine Ev.mk rfl rfl ⟨Nat.le_of_ble_eq_true rfl, Or.inr (q_rc hI59.1 kx_231 rfl)⟩ ?_
  show At _ none _ _ (0, [(0, .ref 231), (1, .int a1)], [], (_, _)) _
  refine At.enter rfl ?_
  refine r_iload_n rfl ?_
  refine q_i2l (fun v61 hv61 => ?_)
  refine r_lconst 0 rfl ?_
  refine r_aload_n rfl ?_
  refine q_getR (Sh.ref hI59.1 kx_231 rfl) ?_
  refine r_iconst 1 rfl ?_
  obtain ⟨v62, hv62⟩ : ∃ v, eA g0 233 1 = v := ⟨_, rfl⟩
  have tv62 := congrArg Int32.toInt hv62
  have wv62 := HI.t1 hI0
  rw [hv62] at wv62
  refine q_iald (Sh.arr hI59.1 ka_233) 1 rfl (by decide) v62 ((eA_c (gA_sI)).trans hv62) ?_
  refine q_i2l (fun v63 hv63 => ?_)
  refine r_lconst 1 rfl ?_
  refine q_lsub (v63.toInt - 1) rfl (by omega) (fun v64 hv64 => ?_)
  refine q_inlS 15 rfl [.long v61, .long 0, .long v64] [] (Nat.le_of_ble_eq_true rfl) rfl ?_
  refine Ev.mk rfl rfl ⟨Nat.le_of_ble_eq_true rfl, Or.inl rfl⟩ ?_
  show At _ none _ _ (0, [(0, .long v61), (2, .long 0), (4, .long v64)], [], (_, _)) _
  refine At.enter rfl ?_
  refine r_lload_n rfl ?_
  refine r_lload_n rfl ?_
  refine r_lcmp _ rfl ?_
  refine r_ifs 6 rfl (fun c65 => ?_) (fun c65 => ?_)
  · have c65_ : v61.toInt < 0 := en_j_lt_t c65
    refine At.enter rfl ?_
    refine r_iconst 0 rfl ?_
    refine Ar.fall 18 rfl ?_
    refine At.enter rfl ?_
    refine q_iretz (by decide) ?_
    refine At.enter rfl ?_
    refine q_iretz (by decide) ?_
    refine At.enter rfl ?_
    refine r_ift (by decide) ?_
    refine At.enter rfl ?_
    refine r_iconst (-1) rfl ?_
    refine r_ireti ?_
    exact ⟨_, rfl, hI59, hF60, _, rfl, trivial⟩
  · have c65_ : v61.toInt ≥ 0 := en_j_lt_f c65
    refine At.enter rfl ?_
    refine r_lload_n rfl ?_
    refine r_lload rfl ?_
    refine r_lcmp _ rfl ?_
    refine r_ifs 13 rfl (fun c66 => ?_) (fun c66 => ?_)
    · have c66_ : v61.toInt > v64.toInt := en_j_gt_t c66
      refine At.enter rfl ?_
      refine r_iconst 0 rfl ?_
      refine Ar.fall 18 rfl ?_
      refine At.enter rfl ?_
      refine q_iretz (by decide) ?_
      refine At.enter rfl ?_
      refine q_iretz (by decide) ?_
      refine At.enter rfl ?_
      refine r_ift (by decide) ?_
      refine At.enter rfl ?_
      refine r_iconst (-1) rfl ?_
      refine r_ireti ?_
      exact ⟨_, rfl, hI59, hF60, _, rfl, trivial⟩
    · have c66_ : v61.toInt ≤ v64.toInt := en_j_gt_f c66
      refine At.enter rfl ?_
      refine r_iconst 1 rfl ?_
      refine r_goto ?_
      refine At.enter rfl ?_
      refine q_iretz (by decide) ?_
      refine At.enter rfl ?_
      refine q_iretz (by decide) ?_
      refine At.enter rfl ?_
      refine r_iff 13 rfl (by decide) ?_
      refine At.enter rfl ?_
      refine r_iload_n rfl ?_
      refine q_i2l (fun v67 hv67 => ?_)
      refine r_lconst 0 rfl ?_
      refine r_ldc2 3 rfl ?_
      refine q_inlS 22 rfl [.long v67, .long 0, .long 3] [] (Nat.le_of_ble_eq_true rfl) rfl ?_
      refine Ev.mk rfl rfl ⟨Nat.le_of_ble_eq_true rfl, Or.inl rfl⟩ ?_
      show At _ none _ _ (0, [(0, .long v67), (2, .long 0), (4, .long 3)], [], (_, _)) _
      refine At.enter rfl ?_
      refine r_lload_n rfl ?_
      refine r_lload_n rfl ?_
      refine r_lcmp _ rfl ?_
      refine r_ifs 6 rfl (fun c68 => ?_) (fun c68 => ?_)
      · have c68_ : v67.toInt < 0 := en_j_lt_t c68
        refine At.enter rfl ?_
        refine r_iconst 0 rfl ?_
        refine Ar.fall 18 rfl ?_
        refine At.enter rfl ?_
        refine q_iretz (by decide) ?_
        refine At.enter rfl ?_
        refine r_iff 25 rfl (by decide) ?_
        refine At.enter rfl ?_
        refine r_iconst (-1) rfl ?_
        refine r_ireti ?_
        exact ⟨_, rfl, hI59, hF60, _, rfl, trivial⟩
      · have c68_ : v67.toInt ≥ 0 := en_j_lt_f c68
        refine At.enter rfl ?_
        refine r_lload_n rfl ?_
        refine r_lload rfl ?_
        refine r_lcmp _ rfl ?_
        refine r_ifs 13 rfl (fun c69 => ?_) (fun c69 => ?_)
        · have c69_ : v67.toInt > 3 := en_j_gt_t c69
          refine At.enter rfl ?_
          refine r_iconst 0 rfl ?_
          refine Ar.fall 18 rfl ?_
          refine At.enter rfl ?_
          refine q_iretz (by decide) ?_
          refine At.enter rfl ?_
          refine r_iff 25 rfl (by decide) ?_
          refine At.enter rfl ?_
          refine r_iconst (-1) rfl ?_
          refine r_ireti ?_
          exact ⟨_, rfl, hI59, hF60, _, rfl, trivial⟩
        · have c69_ : v67.toInt ≤ 3 := en_j_gt_f c69
          refine At.enter rfl ?_
          refine r_iconst 1 rfl ?_
          refine r_goto ?_
          refine At.enter rfl ?_
          refine q_iretz (by decide) ?_
          refine At.enter rfl ?_
          refine r_ift (by decide) ?_
          refine At.enter rfl ?_
          refine r_aload_n rfl ?_
          refine r_callV 31 rfl [.ref 231] [] (Nat.le_of_ble_eq_true rfl) rfl (T_X11_runDay_231 _ hI59) ?_
          rintro _ _ ⟨g70, rfl, hI71, hF72, rfl⟩
          refine At.stn ?_
          have hF75 := Fr.tr hF60 hF72 rfl rfl
          refine At.enter rfl ?_
          refine r_aload_n rfl ?_
          refine q_getR (Sh.ref hI71.1 kx_231 rfl) ?_
          refine r_iload_n rfl ?_
          obtain ⟨v76, hv76⟩ : ∃ v, eA g70 253 a1.toInt = v := ⟨_, rfl⟩
          refine q_iald (Sh.arr hI71.1 ka_253) a1.toInt rfl (by omega) v76 hv76 ?_
          refine r_istore_n ([(3, .int v76), (0, .ref 231), (1, .int a1), (2, .int a2)]) rfl ?_
          refine r_iload_n rfl ?_
          refine r_aload_n rfl ?_
          refine q_getR (Sh.ref hI71.1 kx_231 rfl) ?_
          refine r_iconst 5 rfl ?_
          obtain ⟨v77, hv77⟩ : ∃ v, eA g0 233 5 = v := ⟨_, rfl⟩
          have wv77 := HI.t5 hI0
          rw [hv77] at wv77
          refine q_iald (Sh.arr hI71.1 ka_233) 5 rfl (by decide) v77 ((eA_c ((hF72.2.1 233 (by decide)).trans (gA_sI))).trans hv77) ?_
          refine q_isubO (fun v78 _ => ?_)
          refine r_istore ([(4, .int v78), (3, .int v76), (0, .ref 231), (1, .int a1), (2, .int a2)]) rfl ?_
          refine r_iload_n rfl ?_
          refine r_ifs 52 rfl (fun c79 => ?_) (fun c79 => ?_)
          · have c79_ : a2.toInt ≠ 0 := en_k_ne_t c79
            refine At.enter rfl ?_
            refine r_iload_n rfl ?_
            refine r_iconst 1 rfl ?_
            refine r_ics 61 rfl (fun c80 => ?_) (fun c80 => ?_)
            · have c80_ : a2.toInt ≠ 1 := en_i_ne_t c80
              refine At.enter rfl ?_
              refine r_iload_n rfl ?_
              refine r_iconst 2 rfl ?_
              refine r_ics 89 rfl (fun c81 => ?_) (fun c81 => ?_)
              · have c81_ : a2.toInt ≠ 2 := en_i_ne_t c81
                refine At.enter rfl ?_
                refine r_aload_n rfl ?_
                refine q_getR (Sh.ref hI71.1 kx_231 rfl) ?_
                refine r_iload_n rfl ?_
                obtain ⟨v82, hv82⟩ : ∃ v, eA g70 252 a1.toInt = v := ⟨_, rfl⟩
                refine q_iald (Sh.arr hI71.1 ka_252) a1.toInt rfl (by omega) v82 hv82 ?_
                refine Ar.fall 110 rfl ?_
                refine At.enter rfl ?_
                refine r_ireti ?_
                exact ⟨_, rfl, hI71, hF75, _, rfl, trivial⟩
              · have c81_ : a2.toInt = 2 := en_i_ne_f c81
                refine At.enter rfl ?_
                refine r_aload_n rfl ?_
                refine q_getR (Sh.ref hI71.1 kx_231 rfl) ?_
                refine r_bipush 100 rfl ?_
                refine r_iload_n rfl ?_
                refine q_imul (100 * a1.toInt) rfl (by omega) (fun v83 hv83 => ?_)
                refine r_bipush 99 rfl ?_
                refine q_iadd (v83.toInt + 99) rfl (by omega) (fun v84 hv84 => ?_)
                obtain ⟨v85, hv85⟩ : ∃ v, eA g70 256 (100 * a1.toInt + 99) = v := ⟨_, rfl⟩
                refine q_iald (Sh.arr hI71.1 ka_256) (100 * a1.toInt + 99) (by omega) (by omega) v85 hv85 ?_
                refine r_goto ?_
                refine At.enter rfl ?_
                refine r_ireti ?_
                exact ⟨_, rfl, hI71, hF75, _, rfl, trivial⟩
            · have c80_ : a2.toInt = 1 := en_i_ne_f c80
              refine At.enter rfl ?_
              refine r_iload_n rfl ?_
              refine r_iconst (-1) rfl ?_
              refine r_ics 66 rfl (fun c86 => ?_) (fun c86 => ?_)
              · have c86_ : v76.toInt ≠ (-1) := en_i_ne_t c86
                refine At.enter rfl ?_
                refine r_iload rfl ?_
                refine r_ifs 75 rfl (fun c87 => ?_) (fun c87 => ?_)
                · have c87_ : v78.toInt ≥ 0 := en_k_ge_t c87
                  refine At.enter rfl ?_
                  refine r_iload rfl ?_
                  refine r_goto ?_
                  refine At.enter rfl ?_
                  refine r_ireti ?_
                  exact ⟨_, rfl, hI71, hF75, _, rfl, trivial⟩
                · have c87_ : v78.toInt < 0 := en_k_ge_f c87
                  refine At.enter rfl ?_
                  refine r_iconst 0 rfl ?_
                  refine r_goto ?_
                  refine At.enter rfl ?_
                  refine r_ireti ?_
                  exact ⟨_, rfl, hI71, hF75, _, rfl, trivial⟩
              · have c86_ : v76.toInt = (-1) := en_i_ne_f c86
                refine At.enter rfl ?_
                refine r_iconst (-1) rfl ?_
                refine r_goto ?_
                refine At.enter rfl ?_
                refine r_ireti ?_
                exact ⟨_, rfl, hI71, hF75, _, rfl, trivial⟩
          · have c79_ : a2.toInt = 0 := en_k_ne_f c79
            refine At.enter rfl ?_
            refine r_iload_n rfl ?_
            refine r_goto ?_
            refine At.enter rfl ?_
            refine r_ireti ?_
            exact ⟨_, rfl, hI71, hF75, _, rfl, trivial⟩

def F_X11_where_231 : List (Nat × Nat) := [(231, 0), (231, 27), (231, 30), (231, 31), (231, 32), (231, 36)]
def A_X11_where_231 : List Nat := [246, 247, 248, 250, 251, 252, 253, 254, 255, 256]
set_option maxRecDepth 100000 in
set_option maxHeartbeats 4000000 in
theorem T_X11_where_231 (d : Nat) {N : Nat} {g0 : List en_E} (hI0 : HI g0) (a1 : Int32) (a2 : Int32) : Ev (d + 9) 232 [.ref 231, .int a1, .int a2] (g0, N) (fun w h' => ∃ g', h' = (g', N) ∧ HI g' ∧ Fr F_X11_where_231 A_X11_where_231 g0 g' ∧ ∃ r : Int32, w = some (.int r) ∧ True) := by
  have hF0 : Fr F_X11_where_231 A_X11_where_231 g0 g0 := Fr.rf
  refine Ev.mk rfl rfl ⟨Nat.le_of_ble_eq_true rfl, Or.inr (q_rc hI0.1 kx_231 rfl)⟩ ?_
  show At _ none _ _ (0, [(0, .ref 231), (1, .int a1), (2, .int a2)], [], (_, _)) _
  refine At.enter rfl ?_
  refine r_aload_n rfl ?_
  refine r_iconst 0 rfl ?_
  refine q_putI (Sh.int hI0.1 kx_231 rfl) rfl ?_
  have hI41 := HI.wI0 hI0 kx_231 rfl (p := 231) (b := 0) (v := 0) rfl
  have hF42 := Fr.wI (p := 231) (b := 0) (v := 0) hF0 rfl
  refine r_aload_n rfl ?_
  refine r_iload_n rfl ?_
  refine q_inlV 10 rfl [.ref 231, .int a1] [] (Nat.le_of_ble_eq_true rfl) rfl ?_
  refine Ev.mk rfl rfl ⟨Nat.le_of_ble_eq_true rfl, Or.inr (q_rc hI41.1 kx_231 rfl)⟩ ?_
  show At _ none _ _ (0, [(0, .ref 231), (1, .int a1)], [], (_, _)) _
  refine At.enter rfl ?_
  refine r_iload_n rfl ?_
  refine q_i2l (fun v43 hv43 => ?_)
  refine r_lconst 0 rfl ?_
  refine r_aload_n rfl ?_
  refine q_getR (Sh.ref hI41.1 kx_231 rfl) ?_
  refine r_iconst 1 rfl ?_
  obtain ⟨v44, hv44⟩ : ∃ v, eA g0 233 1 = v := ⟨_, rfl⟩
  have tv44 := congrArg Int32.toInt hv44
  have wv44 := HI.t1 hI0
  rw [hv44] at wv44
  refine q_iald (Sh.arr hI41.1 ka_233) 1 rfl (by decide) v44 ((eA_c (gA_sI)).trans hv44) ?_
  refine q_i2l (fun v45 hv45 => ?_)
  refine r_lconst 1 rfl ?_
  refine q_lsub (v45.toInt - 1) rfl (by omega) (fun v46 hv46 => ?_)
  refine q_inlS 15 rfl [.long v43, .long 0, .long v46] [] (Nat.le_of_ble_eq_true rfl) rfl ?_
  refine Ev.mk rfl rfl ⟨Nat.le_of_ble_eq_true rfl, Or.inl rfl⟩ ?_
  show At _ none _ _ (0, [(0, .long v43), (2, .long 0), (4, .long v46)], [], (_, _)) _
  refine At.enter rfl ?_
  refine r_lload_n rfl ?_
  refine r_lload_n rfl ?_
  refine r_lcmp _ rfl ?_
  refine r_ifs 6 rfl (fun c47 => ?_) (fun c47 => ?_)
  · have c47_ : v43.toInt < 0 := en_j_lt_t c47
    refine At.enter rfl ?_
    refine r_iconst 0 rfl ?_
    refine Ar.fall 18 rfl ?_
    refine At.enter rfl ?_
    refine q_iretz (by decide) ?_
    refine At.enter rfl ?_
    refine q_iretz (by decide) ?_
    refine At.enter rfl ?_
    refine r_ift (by decide) ?_
    refine At.enter rfl ?_
    refine r_iconst (-1) rfl ?_
    refine r_ireti ?_
    exact ⟨_, rfl, hI41, hF42, _, rfl, trivial⟩
  · have c47_ : v43.toInt ≥ 0 := en_j_lt_f c47
    refine At.enter rfl ?_
    refine r_lload_n rfl ?_
    refine r_lload rfl ?_
    refine r_lcmp _ rfl ?_
    refine r_ifs 13 rfl (fun c48 => ?_) (fun c48 => ?_)
    · have c48_ : v43.toInt > v46.toInt := en_j_gt_t c48
      refine At.enter rfl ?_
      refine r_iconst 0 rfl ?_
      refine Ar.fall 18 rfl ?_
      refine At.enter rfl ?_
      refine q_iretz (by decide) ?_
      refine At.enter rfl ?_
      refine q_iretz (by decide) ?_
      refine At.enter rfl ?_
      refine r_ift (by decide) ?_
      refine At.enter rfl ?_
      refine r_iconst (-1) rfl ?_
      refine r_ireti ?_
      exact ⟨_, rfl, hI41, hF42, _, rfl, trivial⟩
    · have c48_ : v43.toInt ≤ v46.toInt := en_j_gt_f c48
      refine At.enter rfl ?_
      refine r_iconst 1 rfl ?_
      refine r_goto ?_
      refine At.enter rfl ?_
      refine q_iretz (by decide) ?_
      refine At.enter rfl ?_
      refine q_iretz (by decide) ?_
      refine At.enter rfl ?_
      refine r_iff 13 rfl (by decide) ?_
      refine At.enter rfl ?_
      refine r_iload_n rfl ?_
      refine q_inlS 17 rfl [.int a2] [] (Nat.le_of_ble_eq_true rfl) rfl ?_
      refine Ev.mk rfl rfl ⟨Nat.le_of_ble_eq_true rfl, Or.inl rfl⟩ ?_
      show At _ none _ _ (0, [(0, .int a2)], [], (_, _)) _
      refine At.enter rfl ?_
      refine r_iload_n rfl ?_
      refine q_i2l (fun v49 hv49 => ?_)
      refine r_lconst 0 rfl ?_
      refine r_ldc2 99 rfl ?_
      refine q_inlS 9 rfl [.long v49, .long 0, .long 99] [] (Nat.le_of_ble_eq_true rfl) rfl ?_
      refine Ev.mk rfl rfl ⟨Nat.le_of_ble_eq_true rfl, Or.inl rfl⟩ ?_
      show At _ none _ _ (0, [(0, .long v49), (2, .long 0), (4, .long 99)], [], (_, _)) _
      refine At.enter rfl ?_
      refine r_lload_n rfl ?_
      refine r_lload_n rfl ?_
      refine r_lcmp _ rfl ?_
      refine r_ifs 6 rfl (fun c50 => ?_) (fun c50 => ?_)
      · have c50_ : v49.toInt < 0 := en_j_lt_t c50
        refine At.enter rfl ?_
        refine r_iconst 0 rfl ?_
        refine Ar.fall 18 rfl ?_
        refine At.enter rfl ?_
        refine q_iretz (by decide) ?_
        refine At.enter rfl ?_
        refine q_iretz (by decide) ?_
        refine At.enter rfl ?_
        refine r_iff 20 rfl (by decide) ?_
        refine At.enter rfl ?_
        refine r_iconst (-1) rfl ?_
        refine r_ireti ?_
        exact ⟨_, rfl, hI41, hF42, _, rfl, trivial⟩
      · have c50_ : v49.toInt ≥ 0 := en_j_lt_f c50
        refine At.enter rfl ?_
        refine r_lload_n rfl ?_
        refine r_lload rfl ?_
        refine r_lcmp _ rfl ?_
        refine r_ifs 13 rfl (fun c51 => ?_) (fun c51 => ?_)
        · have c51_ : v49.toInt > 99 := en_j_gt_t c51
          refine At.enter rfl ?_
          refine r_iconst 0 rfl ?_
          refine Ar.fall 18 rfl ?_
          refine At.enter rfl ?_
          refine q_iretz (by decide) ?_
          refine At.enter rfl ?_
          refine q_iretz (by decide) ?_
          refine At.enter rfl ?_
          refine r_iff 20 rfl (by decide) ?_
          refine At.enter rfl ?_
          refine r_iconst (-1) rfl ?_
          refine r_ireti ?_
          exact ⟨_, rfl, hI41, hF42, _, rfl, trivial⟩
        · have c51_ : v49.toInt ≤ 99 := en_j_gt_f c51
          refine At.enter rfl ?_
          refine r_iconst 1 rfl ?_
          refine r_goto ?_
          refine At.enter rfl ?_
          refine q_iretz (by decide) ?_
          refine At.enter rfl ?_
          refine q_iretz (by decide) ?_
          refine At.enter rfl ?_
          refine r_ift (by decide) ?_
          refine At.enter rfl ?_
          refine r_aload_n rfl ?_
          refine r_callV 26 rfl [.ref 231] [] (Nat.le_of_ble_eq_true rfl) rfl (T_X11_runDay_231 _ hI41) ?_
          rintro _ _ ⟨g52, rfl, hI53, hF54, rfl⟩
          refine At.stn ?_
          have hF57 := Fr.tr hF42 hF54 rfl rfl
          refine At.enter rfl ?_
          refine r_aload_n rfl ?_
          refine q_getR (Sh.ref hI53.1 kx_231 rfl) ?_
          refine r_bipush 100 rfl ?_
          refine r_iload_n rfl ?_
          refine q_imul (100 * a1.toInt) rfl (by omega) (fun v58 hv58 => ?_)
          refine r_iload_n rfl ?_
          refine q_iadd (v58.toInt + a2.toInt) rfl (by omega) (fun v59 hv59 => ?_)
          obtain ⟨v60, hv60⟩ : ∃ v, eA g52 256 (100 * a1.toInt + a2.toInt) = v := ⟨_, rfl⟩
          refine q_iald (Sh.arr hI53.1 ka_256) (100 * a1.toInt + a2.toInt) (by omega) (by omega) v60 hv60 ?_
          refine r_ireti ?_
          exact ⟨_, rfl, hI53, hF57, _, rfl, trivial⟩

def F_X11_held_231 : List (Nat × Nat) := [(231, 0), (231, 27), (231, 30), (231, 31), (231, 32), (231, 36)]
def A_X11_held_231 : List Nat := [246, 247, 248, 250, 251, 252, 253, 254, 255, 256]
set_option maxRecDepth 100000 in
set_option maxHeartbeats 4000000 in
theorem T_X11_held_231 (d : Nat) {N : Nat} {g0 : List en_E} (hI0 : HI g0) (a1 : Int32) (a2 : Int32) (a3 : Int32) : Ev (d + 9) 233 [.ref 231, .int a1, .int a2, .int a3] (g0, N) (fun w h' => ∃ g', h' = (g', N) ∧ HI g' ∧ Fr F_X11_held_231 A_X11_held_231 g0 g' ∧ ∃ r : Int32, w = some (.int r) ∧ True) := by
  have hF0 : Fr F_X11_held_231 A_X11_held_231 g0 g0 := Fr.rf
  refine Ev.mk rfl rfl ⟨Nat.le_of_ble_eq_true rfl, Or.inr (q_rc hI0.1 kx_231 rfl)⟩ ?_
  show At _ none _ _ (0, [(0, .ref 231), (1, .int a1), (2, .int a2), (3, .int a3)], [], (_, _)) _
  refine At.enter rfl ?_
  refine r_aload_n rfl ?_
  refine r_iconst 0 rfl ?_
  refine q_putI (Sh.int hI0.1 kx_231 rfl) rfl ?_
  have hI605 := HI.wI0 hI0 kx_231 rfl (p := 231) (b := 0) (v := 0) rfl
  have hF606 := Fr.wI (p := 231) (b := 0) (v := 0) hF0 rfl
  refine r_aload_n rfl ?_
  refine r_iload_n rfl ?_
  refine q_inlV 10 rfl [.ref 231, .int a1] [] (Nat.le_of_ble_eq_true rfl) rfl ?_
  refine Ev.mk rfl rfl ⟨Nat.le_of_ble_eq_true rfl, Or.inr (q_rc hI605.1 kx_231 rfl)⟩ ?_
  show At _ none _ _ (0, [(0, .ref 231), (1, .int a1)], [], (_, _)) _
  refine At.enter rfl ?_
  refine r_iload_n rfl ?_
  refine q_i2l (fun v607 hv607 => ?_)
  refine r_lconst 0 rfl ?_
  refine r_aload_n rfl ?_
  refine q_getR (Sh.ref hI605.1 kx_231 rfl) ?_
  refine r_iconst 0 rfl ?_
  obtain ⟨v608, hv608⟩ : ∃ v, eA g0 233 0 = v := ⟨_, rfl⟩
  have tv608 := congrArg Int32.toInt hv608
  have wv608 := HI.t0 hI0
  rw [hv608] at wv608
  refine q_iald (Sh.arr hI605.1 ka_233) 0 rfl (by decide) v608 ((eA_c (gA_sI)).trans hv608) ?_
  refine q_i2l (fun v609 hv609 => ?_)
  refine r_lconst 1 rfl ?_
  refine q_lsub (v609.toInt - 1) rfl (by omega) (fun v610 hv610 => ?_)
  refine q_inlS 15 rfl [.long v607, .long 0, .long v610] [] (Nat.le_of_ble_eq_true rfl) rfl ?_
  refine Ev.mk rfl rfl ⟨Nat.le_of_ble_eq_true rfl, Or.inl rfl⟩ ?_
  show At _ none _ _ (0, [(0, .long v607), (2, .long 0), (4, .long v610)], [], (_, _)) _
  refine At.enter rfl ?_
  refine r_lload_n rfl ?_
  refine r_lload_n rfl ?_
  refine r_lcmp _ rfl ?_
  refine r_ifs 6 rfl (fun c611 => ?_) (fun c611 => ?_)
  · have c611_ : v607.toInt < 0 := en_j_lt_t c611
    refine At.enter rfl ?_
    refine r_iconst 0 rfl ?_
    refine Ar.fall 18 rfl ?_
    refine At.enter rfl ?_
    refine q_iretz (by decide) ?_
    refine At.enter rfl ?_
    refine q_iretz (by decide) ?_
    refine At.enter rfl ?_
    refine r_ift (by decide) ?_
    refine At.enter rfl ?_
    refine r_iconst (-1) rfl ?_
    refine r_ireti ?_
    exact ⟨_, rfl, hI605, hF606, _, rfl, trivial⟩
  · have c611_ : v607.toInt ≥ 0 := en_j_lt_f c611
    refine At.enter rfl ?_
    refine r_lload_n rfl ?_
    refine r_lload rfl ?_
    refine r_lcmp _ rfl ?_
    refine r_ifs 13 rfl (fun c612 => ?_) (fun c612 => ?_)
    · have c612_ : v607.toInt > v610.toInt := en_j_gt_t c612
      refine At.enter rfl ?_
      refine r_iconst 0 rfl ?_
      refine Ar.fall 18 rfl ?_
      refine At.enter rfl ?_
      refine q_iretz (by decide) ?_
      refine At.enter rfl ?_
      refine q_iretz (by decide) ?_
      refine At.enter rfl ?_
      refine r_ift (by decide) ?_
      refine At.enter rfl ?_
      refine r_iconst (-1) rfl ?_
      refine r_ireti ?_
      exact ⟨_, rfl, hI605, hF606, _, rfl, trivial⟩
    · have c612_ : v607.toInt ≤ v610.toInt := en_j_gt_f c612
      refine At.enter rfl ?_
      refine r_iconst 1 rfl ?_
      refine r_goto ?_
      refine At.enter rfl ?_
      refine q_iretz (by decide) ?_
      refine At.enter rfl ?_
      refine q_iretz (by decide) ?_
      refine At.enter rfl ?_
      refine r_iff 13 rfl (by decide) ?_
      refine At.enter rfl ?_
      refine r_iload_n rfl ?_
      refine q_inlS 17 rfl [.int a2] [] (Nat.le_of_ble_eq_true rfl) rfl ?_
      refine Ev.mk rfl rfl ⟨Nat.le_of_ble_eq_true rfl, Or.inl rfl⟩ ?_
      show At _ none _ _ (0, [(0, .int a2)], [], (_, _)) _
      refine At.enter rfl ?_
      refine r_iload_n rfl ?_
      refine q_i2l (fun v613 hv613 => ?_)
      refine r_lconst 0 rfl ?_
      refine r_ldc2 99 rfl ?_
      refine q_inlS 9 rfl [.long v613, .long 0, .long 99] [] (Nat.le_of_ble_eq_true rfl) rfl ?_
      refine Ev.mk rfl rfl ⟨Nat.le_of_ble_eq_true rfl, Or.inl rfl⟩ ?_
      show At _ none _ _ (0, [(0, .long v613), (2, .long 0), (4, .long 99)], [], (_, _)) _
      refine At.enter rfl ?_
      refine r_lload_n rfl ?_
      refine r_lload_n rfl ?_
      refine r_lcmp _ rfl ?_
      refine r_ifs 6 rfl (fun c614 => ?_) (fun c614 => ?_)
      · have c614_ : v613.toInt < 0 := en_j_lt_t c614
        refine At.enter rfl ?_
        refine r_iconst 0 rfl ?_
        refine Ar.fall 18 rfl ?_
        refine At.enter rfl ?_
        refine q_iretz (by decide) ?_
        refine At.enter rfl ?_
        refine q_iretz (by decide) ?_
        refine At.enter rfl ?_
        refine r_ift (by decide) ?_
        refine At.enter rfl ?_
        refine r_iconst (-1) rfl ?_
        refine r_ireti ?_
        exact ⟨_, rfl, hI605, hF606, _, rfl, trivial⟩
      · have c614_ : v613.toInt ≥ 0 := en_j_lt_f c614
        refine At.enter rfl ?_
        refine r_lload_n rfl ?_
        refine r_lload rfl ?_
        refine r_lcmp _ rfl ?_
        refine r_ifs 13 rfl (fun c615 => ?_) (fun c615 => ?_)
        · have c615_ : v613.toInt > 99 := en_j_gt_t c615
          refine At.enter rfl ?_
          refine r_iconst 0 rfl ?_
          refine Ar.fall 18 rfl ?_
          refine At.enter rfl ?_
          refine q_iretz (by decide) ?_
          refine At.enter rfl ?_
          refine q_iretz (by decide) ?_
          refine At.enter rfl ?_
          refine r_ift (by decide) ?_
          refine At.enter rfl ?_
          refine r_iconst (-1) rfl ?_
          refine r_ireti ?_
          exact ⟨_, rfl, hI605, hF606, _, rfl, trivial⟩
        · have c615_ : v613.toInt ≤ 99 := en_j_gt_f c615
          refine At.enter rfl ?_
          refine r_iconst 1 rfl ?_
          refine r_goto ?_
          refine At.enter rfl ?_
          refine q_iretz (by decide) ?_
          refine At.enter rfl ?_
          refine q_iretz (by decide) ?_
          refine At.enter rfl ?_
          refine r_iff 20 rfl (by decide) ?_
          refine At.enter rfl ?_
          refine r_iload_n rfl ?_
          refine q_i2l (fun v616 hv616 => ?_)
          refine r_lconst 0 rfl ?_
          refine r_lconst 1 rfl ?_
          refine q_inlS 27 rfl [.long v616, .long 0, .long 1] [] (Nat.le_of_ble_eq_true rfl) rfl ?_
          refine Ev.mk rfl rfl ⟨Nat.le_of_ble_eq_true rfl, Or.inl rfl⟩ ?_
          show At _ none _ _ (0, [(0, .long v616), (2, .long 0), (4, .long 1)], [], (_, _)) _
          refine At.enter rfl ?_
          refine r_lload_n rfl ?_
          refine r_lload_n rfl ?_
          refine r_lcmp _ rfl ?_
          refine r_ifs 6 rfl (fun c617 => ?_) (fun c617 => ?_)
          · have c617_ : v616.toInt < 0 := en_j_lt_t c617
            refine At.enter rfl ?_
            refine r_iconst 0 rfl ?_
            refine Ar.fall 18 rfl ?_
            refine At.enter rfl ?_
            refine q_iretz (by decide) ?_
            refine At.enter rfl ?_
            refine r_iff 30 rfl (by decide) ?_
            refine At.enter rfl ?_
            refine r_iconst (-1) rfl ?_
            refine r_ireti ?_
            exact ⟨_, rfl, hI605, hF606, _, rfl, trivial⟩
          · have c617_ : v616.toInt ≥ 0 := en_j_lt_f c617
            refine At.enter rfl ?_
            refine r_lload_n rfl ?_
            refine r_lload rfl ?_
            refine r_lcmp _ rfl ?_
            refine r_ifs 13 rfl (fun c618 => ?_) (fun c618 => ?_)
            · have c618_ : v616.toInt > 1 := en_j_gt_t c618
              refine At.enter rfl ?_
              refine r_iconst 0 rfl ?_
              refine Ar.fall 18 rfl ?_
              refine At.enter rfl ?_
              refine q_iretz (by decide) ?_
              refine At.enter rfl ?_
              refine r_iff 30 rfl (by decide) ?_
              refine At.enter rfl ?_
              refine r_iconst (-1) rfl ?_
              refine r_ireti ?_
              exact ⟨_, rfl, hI605, hF606, _, rfl, trivial⟩
            · have c618_ : v616.toInt ≤ 1 := en_j_gt_f c618
              refine At.enter rfl ?_
              refine r_iconst 1 rfl ?_
              refine r_goto ?_
              refine At.enter rfl ?_
              refine q_iretz (by decide) ?_
              refine At.enter rfl ?_
              refine r_ift (by decide) ?_
              refine At.enter rfl ?_
              refine r_aload_n rfl ?_
              refine r_callV 36 rfl [.ref 231] [] (Nat.le_of_ble_eq_true rfl) rfl (T_X11_runDay_231 _ hI605) ?_
              rintro _ _ ⟨g619, rfl, hI620, hF621, rfl⟩
              refine At.stn ?_
              have hF624 := Fr.tr hF606 hF621 rfl rfl
              refine At.enter rfl ?_
              refine r_iconst 0 rfl ?_
              refine r_istore ([(4, .int 0), (0, .ref 231), (1, .int a1), (2, .int a2), (3, .int a3)]) rfl ?_
              refine r_iconst 0 rfl ?_
              refine r_istore ([(5, .int 0), (4, .int 0), (0, .ref 231), (1, .int a1), (2, .int a2), (3, .int a3)]) rfl ?_
              refine Ar.fall 42 rfl ?_
              have z_884 : (0 : Int32).toInt = 0 := rfl
              have z_885 : (0 : Int32).toInt = 0 := rfl
              refine w_loopI (fun n_ l_ g_ => ∃ x869 : Int32, ∃ x870 : Int32, n_ = 8 - x870.toInt ∧ HI g_ ∧ Fr F_X11_held_231 A_X11_held_231 g0 g_ ∧ en_get 0 l_ = some (.ref 231) ∧ en_get 1 l_ = some (.int a1) ∧ en_get 2 l_ = some (.int a2) ∧ en_get 3 l_ = some (.int a3) ∧ en_get 4 l_ = some (.int x869) ∧ en_get 5 l_ = some (.int x870) ∧ (0 ≤ x870.toInt ∧ x870.toInt ≤ 8)) ?_ (8 - 0) ⟨0, 0, by first | rfl | omega, hI620, hF624, rfl, rfl, rfl, rfl, rfl, rfl, by decide⟩
              rintro n875 l874 g871 ⟨x869, x870, hm886, hI872, hF873, e877, e878, e879, e880, e881, e882, r883⟩ ih876
              refine At.enter rfl ?_
              refine r_iload e882 ?_
              refine r_aload_n e877 ?_
              refine q_getR (Sh.ref hI872.1 kx_231 rfl) ?_
              refine r_iconst 1 rfl ?_
              obtain ⟨v887, hv887⟩ : ∃ v, eA g0 233 1 = v := ⟨_, rfl⟩
              have tv887 := congrArg Int32.toInt hv887
              have wv887 := HI.t1 hI0
              rw [hv887] at wv887
              refine q_iald (Sh.arr hI872.1 ka_233) 1 rfl (by decide) v887 ((eA_c (hF873.2.1 233 (by decide))).trans hv887) ?_
              have bv889 := q_bnd x870
              have bv890 := q_bnd v887
              refine r_ics 53 rfl (fun c888 => ?_) (fun c888 => ?_)
              · have c888_ : x870.toInt ≥ v887.toInt := en_i_ge_t c888
                refine At.enter rfl ?_
                refine r_iload e881 ?_
                refine r_ireti ?_
                exact ⟨_, rfl, hI872, hF873, _, rfl, trivial⟩
              · have c888_ : x870.toInt < v887.toInt := en_i_ge_f c888
                refine At.enter rfl ?_
                refine r_iload e881 ?_
                refine r_aload_n e877 ?_
                refine q_getR (Sh.ref hI872.1 kx_231 rfl) ?_
                refine r_bipush 100 rfl ?_
                refine r_iload e882 ?_
                refine q_imul (100 * x870.toInt) rfl (by omega) (fun v891 hv891 => ?_)
                refine r_iload_n e879 ?_
                refine q_iadd (v891.toInt + a2.toInt) rfl (by omega) (fun v892 hv892 => ?_)
                obtain ⟨v893, hv893⟩ : ∃ v, eA g871 256 (100 * x870.toInt + a2.toInt) = v := ⟨_, rfl⟩
                refine q_iald (Sh.arr hI872.1 ka_256) (100 * x870.toInt + a2.toInt) (by omega) (by omega) v893 hv893 ?_
                refine r_iload_n e878 ?_
                refine r_ics 71 rfl (fun c894 => ?_) (fun c894 => ?_)
                · have c894_ : v893.toInt = a1.toInt := en_i_eq_t c894
                  refine At.enter rfl ?_
                  refine r_iload_n e880 ?_
                  refine r_ifs 79 rfl (fun c895 => ?_) (fun c895 => ?_)
                  · have c895_ : a3.toInt ≠ 0 := en_k_ne_t c895
                    refine At.enter rfl ?_
                    refine r_aload_n e877 ?_
                    refine r_iload e882 ?_
                    refine r_iconst 0 rfl ?_
                    refine q_inlV 90 rfl [.ref 231, .int x870, .int 0] [.int x869] (Nat.le_of_ble_eq_true rfl) rfl ?_
                    refine Ev.mk rfl rfl ⟨Nat.le_of_ble_eq_true rfl, Or.inr (q_rc hI872.1 kx_231 rfl)⟩ ?_
                    show At _ none _ _ (0, [(0, .ref 231), (1, .int x870), (2, .int 0)], [], (_, _)) _
                    refine At.enter rfl ?_
                    refine r_aload_n rfl ?_
                    refine q_getR (Sh.ref hI872.1 kx_231 rfl) ?_
                    refine r_bipush 46 rfl ?_
                    refine r_bipush 6 rfl ?_
                    refine r_iload_n rfl ?_
                    refine q_imul (6 * x870.toInt) rfl (by omega) (fun v896 hv896 => ?_)
                    refine q_iadd (46 + v896.toInt) rfl (by omega) (fun v897 hv897 => ?_)
                    refine r_iload_n rfl ?_
                    refine q_iadd (v897.toInt + 0) rfl (by omega) (fun v898 hv898 => ?_)
                    obtain ⟨v899, hv899⟩ : ∃ v, eA g0 233 (6 * x870.toInt + 46) = v := ⟨_, rfl⟩
                    have wv899 := HI.l0 hI0 (j := (6 * x870.toInt + 46)) (x870.toInt) (by omega) (by omega)
                    rw [hv899] at wv899
                    refine q_iald (Sh.arr hI872.1 ka_233) (6 * x870.toInt + 46) (by omega) (by omega) v899 ((eA_c (hF873.2.1 233 (by decide))).trans hv899) ?_
                    refine q_ireti ?_
                    refine At.enter rfl ?_
                    refine q_iaddO (fun v900 _ => ?_)
                    refine r_istore _ rfl ?_
                    refine q_iinc (w_p1 (by decide) (Or.inr rfl) e882) (x870.toInt + 1) rfl (by omega) (fun v901 hv901 => ?_)
                    refine r_goto ?_
                    have bv902 := q_bnd v900
                    exact ih876 (8 - v901.toInt) _ _ ⟨v900, v901, by first | rfl | omega, hI872, hF873, (w_p1 (by decide) (Or.inr rfl) (w_p1 (by decide) (Or.inr rfl) e877)), (w_p1 (by decide) (Or.inr rfl) (w_p1 (by decide) (Or.inr rfl) e878)), (w_p1 (by decide) (Or.inr rfl) (w_p1 (by decide) (Or.inr rfl) e879)), (w_p1 (by decide) (Or.inr rfl) (w_p1 (by decide) (Or.inr rfl) e880)), (w_p1 (by decide) (Or.inr rfl) (w_e1 _ _ _)), (w_e1 _ _ _), by omega⟩ ⟨by omega, by omega⟩
                  · have c895_ : a3.toInt = 0 := en_k_ne_f c895
                    refine At.enter rfl ?_
                    refine r_iconst 1 rfl ?_
                    refine r_goto ?_
                    refine At.enter rfl ?_
                    refine q_iaddO (fun v903 _ => ?_)
                    refine r_istore _ rfl ?_
                    refine q_iinc (w_p1 (by decide) (Or.inr rfl) e882) (x870.toInt + 1) rfl (by omega) (fun v904 hv904 => ?_)
                    refine r_goto ?_
                    have bv905 := q_bnd v903
                    exact ih876 (8 - v904.toInt) _ _ ⟨v903, v904, by first | rfl | omega, hI872, hF873, (w_p1 (by decide) (Or.inr rfl) (w_p1 (by decide) (Or.inr rfl) e877)), (w_p1 (by decide) (Or.inr rfl) (w_p1 (by decide) (Or.inr rfl) e878)), (w_p1 (by decide) (Or.inr rfl) (w_p1 (by decide) (Or.inr rfl) e879)), (w_p1 (by decide) (Or.inr rfl) (w_p1 (by decide) (Or.inr rfl) e880)), (w_p1 (by decide) (Or.inr rfl) (w_e1 _ _ _)), (w_e1 _ _ _), by omega⟩ ⟨by omega, by omega⟩
                · have c894_ : v893.toInt ≠ a1.toInt := en_i_eq_f c894
                  refine At.enter rfl ?_
                  refine r_iconst 0 rfl ?_
                  refine r_goto ?_
                  refine At.enter rfl ?_
                  have bv906 := q_bnd x869
                  refine q_iadd (x869.toInt + 0) rfl (by omega) (fun v907 hv907 => ?_)
                  refine r_istore _ rfl ?_
                  refine q_iinc (w_p1 (by decide) (Or.inr rfl) e882) (x870.toInt + 1) rfl (by omega) (fun v908 hv908 => ?_)
                  refine r_goto ?_
                  have bv909 := q_bnd v907
                  exact ih876 (8 - v908.toInt) _ _ ⟨v907, v908, by first | rfl | omega, hI872, hF873, (w_p1 (by decide) (Or.inr rfl) (w_p1 (by decide) (Or.inr rfl) e877)), (w_p1 (by decide) (Or.inr rfl) (w_p1 (by decide) (Or.inr rfl) e878)), (w_p1 (by decide) (Or.inr rfl) (w_p1 (by decide) (Or.inr rfl) e879)), (w_p1 (by decide) (Or.inr rfl) (w_p1 (by decide) (Or.inr rfl) e880)), (w_p1 (by decide) (Or.inr rfl) (w_e1 _ _ _)), (w_e1 _ _ _), by omega⟩ ⟨by omega, by omega⟩
