def F_X11_four_231 : List (Nat × Nat) := [(231, 8)]
def A_X11_four_231 : List Nat := [236]
set_option maxRecDepth 100000 in
set_option maxHeartbeats 4000000 in
theorem T_X11_four_231 (d : Nat) {N : Nat} {g0 : List en_E} (hI0 : HI g0) (a1 : Int32) (h4 : (gI g0 231 8).toInt ≤ 396) : Ev (d + 1) 184 [.ref 231, .int a1] (g0, N) (fun w h' => ∃ g', h' = (g', N) ∧ HI g' ∧ Fr F_X11_four_231 A_X11_four_231 g0 g' ∧ w = none ∧ ((gI g' 231 8).toInt = (gI g0 231 8).toInt + 4)) := by
  have hF0 : Fr F_X11_four_231 A_X11_four_231 g0 g0 := Fr.rf
  refine Ev.mk rfl rfl ⟨Nat.le_of_ble_eq_true rfl, Or.inr (q_rc hI0.1 kx_231 rfl)⟩ ?_
  show At _ none _ _ (0, [(0, .ref 231), (1, .int a1)], [], (_, _)) _
  refine At.enter rfl ?_
  refine r_bipush 24 rfl ?_
  refine r_istore_n ([(2, .int 24), (0, .ref 231), (1, .int a1)]) rfl ?_
  refine Ar.fall 3 rfl ?_
  obtain ⟨v271, hv271⟩ : ∃ v, gI g0 231 8 = v := ⟨_, rfl⟩
  have rv271 := RgF.at hI0.2.1 (p := 231) (b := 8) rfl
  rw [hv271] at rv271
  dsimp only at rv271
  have tv271 := congrArg Int32.toInt hv271
  have z_395 : (24 : Int32).toInt = 24 := rfl
  refine w_loopI (fun n_ l_ g_ => ∃ x380 : Int32, ∃ x381 : Int32, n_ = x380.toInt + 8 ∧ HI g_ ∧ Fr F_X11_four_231 A_X11_four_231 g0 g_ ∧ gI g_ 231 8 = x381 ∧ en_get 0 l_ = some (.ref 231) ∧ en_get 1 l_ = some (.int a1) ∧ en_get 2 l_ = some (.int x380) ∧ ((-8) ≤ x380.toInt ∧ x380.toInt ≤ 24) ∧ (0 ≤ x381.toInt ∧ x381.toInt ≤ 400) ∧ (8 * x381.toInt + x380.toInt = 8 * (gI g0 231 8).toInt + 24)) ?_ (24 + 8) ⟨24, v271, by first | rfl | omega, hI0, hF0, hv271, rfl, rfl, rfl, by decide, by omega, by omega⟩
  rintro n386 l385 g382 ⟨x380, x381, hm396, hI383, hF384, e388, e389, e390, e391, r392, r393, q394⟩ ih387
  refine At.enter rfl ?_
  refine r_iload_n e391 ?_
  refine r_ifs 7 rfl (fun c397 => ?_) (fun c397 => ?_)
  · have c397_ : x380.toInt < 0 := en_k_lt_t c397
    refine At.enter rfl ?_
    refine r_vret ?_
    exact ⟨_, rfl, hI383, hF384, rfl, (by rw [e388]; omega)⟩
  · have c397_ : x380.toInt ≥ 0 := en_k_lt_f c397
    refine At.enter rfl ?_
    refine r_aload_n e389 ?_
    refine q_getR (Sh.ref hI383.1 kx_231 rfl) ?_
    refine r_aload_n e389 ?_
    refine q_getI (Sh.int hI383.1 kx_231 rfl) x381 e388 ?_
    refine r_iload_n e390 ?_
    refine r_iload_n e391 ?_
    refine q_ishrO (fun v398 hv398 => ?_)
    refine r_sipush 255 rfl ?_
    refine q_iandO (fun v399 hv399 => ?_)
    refine q_iast (Sh.arr hI383.1 ka_236) (x381.toInt) rfl (by omega) ?_
    have hI400 := HI.wA0 hI383 ka_236 (p := 236) rfl rfl (x381.toInt) (v399)
    have hF401 := Fr.wA (p := 236) (j := x381.toInt) (v := v399) hF384 rfl
    refine r_aload_n e389 ?_
    refine r_dup rfl ?_
    refine q_getI (Sh.int hI400.1 kx_231 rfl) x381 ((gI_sW).trans e388) ?_
    refine r_iconst 1 rfl ?_
    refine q_iadd (x381.toInt + 1) rfl (by omega) (fun v402 hv402 => ?_)
    refine q_putI (Sh.int hI400.1 kx_231 rfl) rfl ?_
    have hI403 := HI.wI1 hI400 kx_231 rfl (p := 231) (b := 8) (v := v402) rfl (by dsimp only; omega)
    have hF404 := Fr.wI (p := 231) (b := 8) (v := v402) hF401 rfl
    refine q_iinc e391 (x380.toInt + (-8)) rfl (by omega) (fun v405 hv405 => ?_)
    refine r_goto ?_
    exact ih387 (v405.toInt + 8) _ _ ⟨v405, v402, by first | rfl | omega, hI403, hF404, (gI_sI_eq hI400.1 kx_231 rfl _), (w_p1 (by decide) (Or.inr rfl) e389), (w_p1 (by decide) (Or.inr rfl) e390), (w_e1 _ _ _), by omega, by omega, by omega⟩ ⟨by omega, by omega⟩

def F_X11_feed_231 : List (Nat × Nat) := [(231, 0), (231, 8)]
def A_X11_feed_231 : List Nat := [236]
set_option maxRecDepth 100000 in
set_option maxHeartbeats 4000000 in
theorem T_X11_feed_231 (d : Nat) {N : Nat} {g0 : List en_E} (hI0 : HI g0) (a1 : Int32) (a2 : Int32) (a3 : Int32) (a4 : Int32) (a5 : Int32) : Ev (d + 2) 185 [.ref 231, .int a1, .int a2, .int a3, .int a4, .int a5] (g0, N) (fun w h' => ∃ g', h' = (g', N) ∧ HI g' ∧ Fr F_X11_feed_231 A_X11_feed_231 g0 g' ∧ ∃ r : Int32, w = some (.int r) ∧ ((-1) ≤ r.toInt ∧ r.toInt ≤ 400) ∧ ((380 < (gI g0 231 8).toInt → r.toInt = -1 ∧ (gI g' 231 8).toInt = (gI g0 231 8).toInt) ∧ ((gI g0 231 8).toInt ≤ 380 → r.toInt = (gI g0 231 8).toInt + 20 ∧ (gI g' 231 8).toInt = (gI g0 231 8).toInt + 20))) := by
  have hF0 : Fr F_X11_feed_231 A_X11_feed_231 g0 g0 := Fr.rf
  refine Ev.mk rfl rfl ⟨Nat.le_of_ble_eq_true rfl, Or.inr (q_rc hI0.1 kx_231 rfl)⟩ ?_
  show At _ none _ _ (0, [(0, .ref 231), (1, .int a1), (2, .int a2), (3, .int a3), (4, .int a4), (5, .int a5)], [], (_, _)) _
  refine At.enter rfl ?_
  refine r_aload_n rfl ?_
  refine r_iconst 0 rfl ?_
  refine q_putI (Sh.int hI0.1 kx_231 rfl) rfl ?_
  have hI81 := HI.wI0 hI0 kx_231 rfl (p := 231) (b := 0) (v := 0) rfl
  have hF82 := Fr.wI (p := 231) (b := 0) (v := 0) hF0 rfl
  refine r_aload_n rfl ?_
  obtain ⟨v83, hv83⟩ : ∃ v, gI g0 231 8 = v := ⟨_, rfl⟩
  have rv83 := RgF.at hI0.2.1 (p := 231) (b := 8) rfl
  rw [hv83] at rv83
  dsimp only at rv83
  refine q_getI (Sh.int hI81.1 kx_231 rfl) v83 ((gI_sI_ne (by decide)).trans hv83) ?_
  refine r_bipush 20 rfl ?_
  refine q_iadd (v83.toInt + 20) rfl (by omega) (fun v84 hv84 => ?_)
  refine r_sipush 400 rfl ?_
  refine r_ics 18 rfl (fun c85 => ?_) (fun c85 => ?_)
  · have c85_ : v84.toInt ≤ 400 := en_i_le_t c85
    refine At.enter rfl ?_
    refine r_aload_n rfl ?_
    refine r_iload_n rfl ?_
    refine r_callV 25 rfl [.ref 231, .int a1] [] (Nat.le_of_ble_eq_true rfl) rfl (T_X11_four_231 _ hI81 a1 (by rw [((gI_sI_ne (by decide)).trans hv83)]; omega)) ?_
    rintro _ _ ⟨g86, rfl, hI87, hF88, rfl, hr90⟩
    refine At.stn ?_
    have hF91 := Fr.tr hF82 hF88 rfl rfl
    rw [((gI_sI_ne (by decide)).trans hv83)] at hr90
    obtain ⟨v92, hv92⟩ : ∃ v, gI g86 231 8 = v := ⟨_, rfl⟩
    rw [hv92] at hr90
    refine At.enter rfl ?_
    refine r_aload_n rfl ?_
    refine r_iload_n rfl ?_
    refine r_callV 30 rfl [.ref 231, .int a2] [] (Nat.le_of_ble_eq_true rfl) rfl (T_X11_four_231 _ hI87 a2 (by rw [hv92]; omega)) ?_
    rintro _ _ ⟨g93, rfl, hI94, hF95, rfl, hr97⟩
    refine At.stn ?_
    have hF98 := Fr.tr hF91 hF95 rfl rfl
    rw [hv92] at hr97
    obtain ⟨v99, hv99⟩ : ∃ v, gI g93 231 8 = v := ⟨_, rfl⟩
    rw [hv99] at hr97
    refine At.enter rfl ?_
    refine r_aload_n rfl ?_
    refine r_iload_n rfl ?_
    refine r_callV 35 rfl [.ref 231, .int a3] [] (Nat.le_of_ble_eq_true rfl) rfl (T_X11_four_231 _ hI94 a3 (by rw [hv99]; omega)) ?_
    rintro _ _ ⟨g100, rfl, hI101, hF102, rfl, hr104⟩
    refine At.stn ?_
    have hF105 := Fr.tr hF98 hF102 rfl rfl
    rw [hv99] at hr104
    obtain ⟨v106, hv106⟩ : ∃ v, gI g100 231 8 = v := ⟨_, rfl⟩
    rw [hv106] at hr104
    refine At.enter rfl ?_
    refine r_aload_n rfl ?_
    refine r_iload rfl ?_
    refine r_callV 41 rfl [.ref 231, .int a4] [] (Nat.le_of_ble_eq_true rfl) rfl (T_X11_four_231 _ hI101 a4 (by rw [hv106]; omega)) ?_
    rintro _ _ ⟨g107, rfl, hI108, hF109, rfl, hr111⟩
    refine At.stn ?_
    have hF112 := Fr.tr hF105 hF109 rfl rfl
    rw [hv106] at hr111
    obtain ⟨v113, hv113⟩ : ∃ v, gI g107 231 8 = v := ⟨_, rfl⟩
    rw [hv113] at hr111
    refine At.enter rfl ?_
    refine r_aload_n rfl ?_
    refine r_iload rfl ?_
    refine r_callV 47 rfl [.ref 231, .int a5] [] (Nat.le_of_ble_eq_true rfl) rfl (T_X11_four_231 _ hI108 a5 (by rw [hv113]; omega)) ?_
    rintro _ _ ⟨g114, rfl, hI115, hF116, rfl, hr118⟩
    refine At.stn ?_
    have hF119 := Fr.tr hF112 hF116 rfl rfl
    rw [hv113] at hr118
    obtain ⟨v120, hv120⟩ : ∃ v, gI g114 231 8 = v := ⟨_, rfl⟩
    rw [hv120] at hr118
    refine At.enter rfl ?_
    refine r_aload_n rfl ?_
    refine q_getI (Sh.int hI115.1 kx_231 rfl) v120 hv120 ?_
    refine r_ireti ?_
    have x121 := HI.eqI hI115 (p := 231) (b := 8) (hv120)
    have x122 := HI.eqI hI0 (p := 231) (b := 8) (hv83)
    exact ⟨_, rfl, hI115, hF119, _, rfl, by omega, (by omega)⟩
  · have c85_ : v84.toInt > 400 := en_i_le_f c85
    refine At.enter rfl ?_
    refine r_iconst (-1) rfl ?_
    refine r_ireti ?_
    have zv123 : ((-1) : Int32).toInt = (-1) := rfl
    have x124 := HI.eqI hI81 (p := 231) (b := 8) (((gI_sI_ne (by decide)).trans hv83))
    have x125 := HI.eqI hI0 (p := 231) (b := 8) (hv83)
    exact ⟨_, rfl, hI81, hF82, _, rfl, by decide, (by omega)⟩

def F_X11_force_231 : List (Nat × Nat) := [(231, 0), (231, 1)]
def A_X11_force_231 : List Nat := [232, 233]
set_option maxRecDepth 100000 in
set_option maxHeartbeats 4000000 in
theorem T_X11_force_231 (d : Nat) {N : Nat} {g0 : List en_E} (hI0 : HI g0) (a1 : Int32) : Ev (d + 3) 211 [.ref 231, .int a1] (g0, N) (fun w h' => ∃ g', h' = (g', N) ∧ HI g' ∧ Fr F_X11_force_231 A_X11_force_231 g0 g' ∧ ∃ r : Int32, w = some (.int r) ∧ ((-2) ≤ r.toInt ∧ r.toInt ≤ 5) ∧ (((eA g' 233 0).toInt = (eA g0 233 0).toInt ∧ (eA g' 233 4).toInt = (eA g0 233 4).toInt ∧ (eA g' 233 5).toInt = (eA g0 233 5).toInt ∧ (eA g' 233 6).toInt = (eA g0 233 6).toInt) ∧ (∀ i : Int, 10 ≤ i → i < 110 → (eA g' 233 (i)).toInt = (eA g0 233 (i)).toInt))) := by
  have hF0 : Fr F_X11_force_231 A_X11_force_231 g0 g0 := Fr.rf
  refine Ev.mk rfl rfl ⟨Nat.le_of_ble_eq_true rfl, Or.inr (q_rc hI0.1 kx_231 rfl)⟩ ?_
  show At _ none _ _ (0, [(0, .ref 231), (1, .int a1)], [], (_, _)) _
  refine At.enter rfl ?_
  refine r_aload_n rfl ?_
  refine r_iconst 0 rfl ?_
  refine q_putI (Sh.int hI0.1 kx_231 rfl) rfl ?_
  have hI73 := HI.wI0 hI0 kx_231 rfl (p := 231) (b := 0) (v := 0) rfl
  have hF74 := Fr.wI (p := 231) (b := 0) (v := 0) hF0 rfl
  refine r_iload_n rfl ?_
  refine r_iconst (-1) rfl ?_
  refine r_ics 10 rfl (fun c75 => ?_) (fun c75 => ?_)
  · have c75_ : a1.toInt = (-1) := en_i_eq_t c75
    refine At.enter rfl ?_
    refine r_aload_n rfl ?_
    refine r_iconst 3 rfl ?_
    refine r_iload_n rfl ?_
    refine q_inlV 34 rfl [.ref 231, .int 3, .int a1] [] (Nat.le_of_ble_eq_true rfl) rfl ?_
    refine Ev.mk rfl rfl ⟨Nat.le_of_ble_eq_true rfl, Or.inr (q_rc hI73.1 kx_231 rfl)⟩ ?_
    show At _ none _ _ (0, [(0, .ref 231), (1, .int 3), (2, .int a1)], [], (_, _)) _
    refine At.enter rfl ?_
    refine r_aload_n rfl ?_
    refine q_getR (Sh.ref hI73.1 kx_231 rfl) ?_
    refine r_iload_n rfl ?_
    obtain ⟨v76, hv76⟩ : ∃ v, eA g0 233 3 = v := ⟨_, rfl⟩
    have wv76 := HI.t3 hI0
    rw [hv76] at wv76
    refine q_iald (Sh.arr hI73.1 ka_233) 3 rfl (by decide) v76 ((eA_c (gA_sI)).trans hv76) ?_
    refine r_istore_n ([(3, .int v76), (0, .ref 231), (1, .int 3), (2, .int a1)]) rfl ?_
    refine r_aload_n rfl ?_
    refine q_getR (Sh.ref hI73.1 kx_231 rfl) ?_
    refine r_iload_n rfl ?_
    refine r_iload_n rfl ?_
    refine q_iast (Sh.arr hI73.1 ka_233) (3) rfl (by decide) ?_
    obtain ⟨v79, hv79⟩ : ∃ v, eA g0 233 2 = v := ⟨_, rfl⟩
    have tv79 := congrArg Int32.toInt hv79
    have wv79 := HI.t2 hI0
    rw [hv79] at wv79
    have tv79 := congrArg Int32.toInt hv79
    have x80 := HI.eqA hI73 (p := 233) (j := 2) (((eA_c gA_sI).trans hv79))
    have hI77 := HI.wt hI73 (j := 3) (v := a1) (by omega) (by omega)
    have hF78 := Fr.wA (p := 233) (j := 3) (v := a1) hF74 rfl
    refine r_aload_n rfl ?_
    refine r_iload_n rfl ?_
    refine q_inlV 19 rfl [.ref 231, .int v76] [] (Nat.le_of_ble_eq_true rfl) rfl ?_
    refine Ev.mk rfl rfl ⟨Nat.le_of_ble_eq_true rfl, Or.inr (q_rc hI77.1 kx_231 rfl)⟩ ?_
    show At _ none _ _ (0, [(0, .ref 231), (1, .int v76)], [], (_, _)) _
    refine At.enter rfl ?_
    refine r_aload_n rfl ?_
    refine r_iconst 0 rfl ?_
    refine q_putI (Sh.int hI77.1 kx_231 rfl) rfl ?_
    have hI81 := HI.wI0 hI77 kx_231 rfl (p := 231) (b := 1) (v := 0) rfl
    have hF82 := Fr.wI (p := 231) (b := 1) (v := 0) hF78 rfl
    refine r_iload_n rfl ?_
    refine q_ireti ?_
    refine At.enter rfl ?_
    refine q_ireti ?_
    refine At.enter rfl ?_
    refine r_goto ?_
    refine At.enter rfl ?_
    refine r_ireti ?_
    obtain ⟨v83, hv83⟩ : ∃ v, eA g0 233 0 = v := ⟨_, rfl⟩
    have tv83 := congrArg Int32.toInt hv83
    have wv83 := HI.t0 hI0
    rw [hv83] at wv83
    have tv83 := congrArg Int32.toInt hv83
    have x84 := HI.eqA hI81 (p := 233) (j := 0) ((((eA_c gA_sI).trans ((eA_sA_ne hI73.1 ka_233 (by first | decide | omega) (by first | decide | omega) (by first | decide | omega)).trans (eA_c gA_sI))).trans hv83))
    obtain ⟨v85, hv85⟩ : ∃ v, eA g0 233 4 = v := ⟨_, rfl⟩
    have wv85 := HI.t4 hI0
    rw [hv85] at wv85
    have tv85 := congrArg Int32.toInt hv85
    have x86 := HI.eqA hI81 (p := 233) (j := 4) ((((eA_c gA_sI).trans ((eA_sA_ne hI73.1 ka_233 (by first | decide | omega) (by first | decide | omega) (by first | decide | omega)).trans (eA_c gA_sI))).trans hv85))
    obtain ⟨v87, hv87⟩ : ∃ v, eA g0 233 5 = v := ⟨_, rfl⟩
    have wv87 := HI.t5 hI0
    rw [hv87] at wv87
    have tv87 := congrArg Int32.toInt hv87
    have x88 := HI.eqA hI81 (p := 233) (j := 5) ((((eA_c gA_sI).trans ((eA_sA_ne hI73.1 ka_233 (by first | decide | omega) (by first | decide | omega) (by first | decide | omega)).trans (eA_c gA_sI))).trans hv87))
    obtain ⟨v89, hv89⟩ : ∃ v, eA g0 233 6 = v := ⟨_, rfl⟩
    have wv89 := HI.t6 hI0
    rw [hv89] at wv89
    have tv89 := congrArg Int32.toInt hv89
    have x90 := HI.eqA hI81 (p := 233) (j := 6) ((((eA_c gA_sI).trans ((eA_sA_ne hI73.1 ka_233 (by first | decide | omega) (by first | decide | omega) (by first | decide | omega)).trans (eA_c gA_sI))).trans hv89))
    have x91 := HI.eqA hI0 (p := 233) (j := 0) (hv83)
    have x92 := HI.eqA hI0 (p := 233) (j := 4) (hv85)
    have x93 := HI.eqA hI0 (p := 233) (j := 5) (hv87)
    have x94 := HI.eqA hI0 (p := 233) (j := 6) (hv89)
    exact ⟨_, rfl, hI81, hF82, _, rfl, by omega, ⟨⟨by omega, by omega, by omega, by omega⟩, (by intro i i0 i1; refine (eA_ti ((gA_sI))).trans ?_; exact (Decidable.em (i = 3)).elim (fun k129_ => by refine (eA_eqT hI73.1 ka_233 k129_ (by first | decide | omega) (by first | decide | omega)).trans ?_; (first | (rfl) | (omega))) (fun k129_ => by refine (eA_neT hI73.1 ka_233 k129_ (by first | decide | omega) (by omega)).trans ?_; refine (eA_ti ((gA_sI))).trans ?_; (first | rfl | exact eA_ix (by omega) | omega)))⟩⟩
  · have c75_ : a1.toInt ≠ (-1) := en_i_eq_f c75
    refine At.enter rfl ?_
    refine r_iload_n rfl ?_
    refine q_i2l (fun v95 hv95 => ?_)
    refine r_lconst 0 rfl ?_
    refine r_aload_n rfl ?_
    refine q_getR (Sh.ref hI73.1 kx_231 rfl) ?_
    refine r_iconst 2 rfl ?_
    obtain ⟨v96, hv96⟩ : ∃ v, eA g0 233 2 = v := ⟨_, rfl⟩
    have tv96 := congrArg Int32.toInt hv96
    have wv96 := HI.t2 hI0
    rw [hv96] at wv96
    refine q_iald (Sh.arr hI73.1 ka_233) 2 rfl (by decide) v96 ((eA_c (gA_sI)).trans hv96) ?_
    refine q_i2l (fun v97 hv97 => ?_)
    refine r_lconst 1 rfl ?_
    refine q_lsub (v97.toInt - 1) rfl (by omega) (fun v98 hv98 => ?_)
    refine q_inlS 25 rfl [.long v95, .long 0, .long v98] [] (Nat.le_of_ble_eq_true rfl) rfl ?_
    refine Ev.mk rfl rfl ⟨Nat.le_of_ble_eq_true rfl, Or.inl rfl⟩ ?_
    show At _ none _ _ (0, [(0, .long v95), (2, .long 0), (4, .long v98)], [], (_, _)) _
    refine At.enter rfl ?_
    refine r_lload_n rfl ?_
    refine r_lload_n rfl ?_
    refine r_lcmp _ rfl ?_
    refine r_ifs 6 rfl (fun c99 => ?_) (fun c99 => ?_)
    · have c99_ : v95.toInt < 0 := en_j_lt_t c99
      refine At.enter rfl ?_
      refine r_iconst 0 rfl ?_
      refine Ar.fall 18 rfl ?_
      refine At.enter rfl ?_
      refine q_iretz (by decide) ?_
      refine At.enter rfl ?_
      refine r_ift (by decide) ?_
      refine At.enter rfl ?_
      refine r_aload_n rfl ?_
      refine r_bipush (-2) rfl ?_
      refine r_callV 43 rfl [.ref 231, .int (-2)] [] (Nat.le_of_ble_eq_true rfl) rfl (T_X11_tell_231 _ hI73 (-2) (by decide)) ?_
      rintro _ _ ⟨g100, rfl, hI101, hF102, v103, rfl, hr104⟩
      refine At.sti ?_
      have hF105 := Fr.tr hF74 hF102 rfl rfl
      have zv106 : ((-2) : Int32).toInt = (-2) := rfl
      refine At.enter rfl ?_
      refine r_ireti ?_
      obtain ⟨v107, hv107⟩ : ∃ v, eA g0 233 0 = v := ⟨_, rfl⟩
      have tv107 := congrArg Int32.toInt hv107
      have wv107 := HI.t0 hI0
      rw [hv107] at wv107
      have tv107 := congrArg Int32.toInt hv107
      have x108 := HI.eqA hI101 (p := 233) (j := 0) ((((eA_c (hF102.2.1 233 (by decide))).trans (eA_c gA_sI)).trans hv107))
      obtain ⟨v109, hv109⟩ : ∃ v, eA g0 233 4 = v := ⟨_, rfl⟩
      have wv109 := HI.t4 hI0
      rw [hv109] at wv109
      have tv109 := congrArg Int32.toInt hv109
      have x110 := HI.eqA hI101 (p := 233) (j := 4) ((((eA_c (hF102.2.1 233 (by decide))).trans (eA_c gA_sI)).trans hv109))
      obtain ⟨v111, hv111⟩ : ∃ v, eA g0 233 5 = v := ⟨_, rfl⟩
      have wv111 := HI.t5 hI0
      rw [hv111] at wv111
      have tv111 := congrArg Int32.toInt hv111
      have x112 := HI.eqA hI101 (p := 233) (j := 5) ((((eA_c (hF102.2.1 233 (by decide))).trans (eA_c gA_sI)).trans hv111))
      obtain ⟨v113, hv113⟩ : ∃ v, eA g0 233 6 = v := ⟨_, rfl⟩
      have wv113 := HI.t6 hI0
      rw [hv113] at wv113
      have tv113 := congrArg Int32.toInt hv113
      have x114 := HI.eqA hI101 (p := 233) (j := 6) ((((eA_c (hF102.2.1 233 (by decide))).trans (eA_c gA_sI)).trans hv113))
      have x115 := HI.eqA hI0 (p := 233) (j := 0) (hv107)
      have x116 := HI.eqA hI0 (p := 233) (j := 4) (hv109)
      have x117 := HI.eqA hI0 (p := 233) (j := 5) (hv111)
      have x118 := HI.eqA hI0 (p := 233) (j := 6) (hv113)
      exact ⟨_, rfl, hI101, hF105, _, rfl, by omega, ⟨⟨by omega, by omega, by omega, by omega⟩, (by intro i i0 i1; refine (eA_ti (((hF102.2.1 233 (by decide)).trans (gA_sI)))).trans ?_; (first | rfl | exact eA_ix (by omega) | omega))⟩⟩
    · have c99_ : v95.toInt ≥ 0 := en_j_lt_f c99
      refine At.enter rfl ?_
      refine r_lload_n rfl ?_
      refine r_lload rfl ?_
      refine r_lcmp _ rfl ?_
      refine r_ifs 13 rfl (fun c119 => ?_) (fun c119 => ?_)
      · have c119_ : v95.toInt > v98.toInt := en_j_gt_t c119
        refine At.enter rfl ?_
        refine r_iconst 0 rfl ?_
        refine Ar.fall 18 rfl ?_
        refine At.enter rfl ?_
        refine q_iretz (by decide) ?_
        refine At.enter rfl ?_
        refine r_ift (by decide) ?_
        refine At.enter rfl ?_
        refine r_aload_n rfl ?_
        refine r_bipush (-2) rfl ?_
        refine r_callV 43 rfl [.ref 231, .int (-2)] [] (Nat.le_of_ble_eq_true rfl) rfl (T_X11_tell_231 _ hI73 (-2) (by decide)) ?_
        rintro _ _ ⟨g120, rfl, hI121, hF122, v123, rfl, hr124⟩
        refine At.sti ?_
        have hF125 := Fr.tr hF74 hF122 rfl rfl
        have zv126 : ((-2) : Int32).toInt = (-2) := rfl
        refine At.enter rfl ?_
        refine r_ireti ?_
        obtain ⟨v127, hv127⟩ : ∃ v, eA g0 233 0 = v := ⟨_, rfl⟩
        have tv127 := congrArg Int32.toInt hv127
        have wv127 := HI.t0 hI0
        rw [hv127] at wv127
        have tv127 := congrArg Int32.toInt hv127
        have x128 := HI.eqA hI121 (p := 233) (j := 0) ((((eA_c (hF122.2.1 233 (by decide))).trans (eA_c gA_sI)).trans hv127))
        obtain ⟨v129, hv129⟩ : ∃ v, eA g0 233 4 = v := ⟨_, rfl⟩
        have wv129 := HI.t4 hI0
        rw [hv129] at wv129
        have tv129 := congrArg Int32.toInt hv129
        have x130 := HI.eqA hI121 (p := 233) (j := 4) ((((eA_c (hF122.2.1 233 (by decide))).trans (eA_c gA_sI)).trans hv129))
        obtain ⟨v131, hv131⟩ : ∃ v, eA g0 233 5 = v := ⟨_, rfl⟩
        have wv131 := HI.t5 hI0
        rw [hv131] at wv131
        have tv131 := congrArg Int32.toInt hv131
        have x132 := HI.eqA hI121 (p := 233) (j := 5) ((((eA_c (hF122.2.1 233 (by decide))).trans (eA_c gA_sI)).trans hv131))
        obtain ⟨v133, hv133⟩ : ∃ v, eA g0 233 6 = v := ⟨_, rfl⟩
        have wv133 := HI.t6 hI0
        rw [hv133] at wv133
        have tv133 := congrArg Int32.toInt hv133
        have x134 := HI.eqA hI121 (p := 233) (j := 6) ((((eA_c (hF122.2.1 233 (by decide))).trans (eA_c gA_sI)).trans hv133))
        have x135 := HI.eqA hI0 (p := 233) (j := 0) (hv127)
        have x136 := HI.eqA hI0 (p := 233) (j := 4) (hv129)
        have x137 := HI.eqA hI0 (p := 233) (j := 5) (hv131)
        have x138 := HI.eqA hI0 (p := 233) (j := 6) (hv133)
        exact ⟨_, rfl, hI121, hF125, _, rfl, by omega, ⟨⟨by omega, by omega, by omega, by omega⟩, (by intro i i0 i1; refine (eA_ti (((hF122.2.1 233 (by decide)).trans (gA_sI)))).trans ?_; (first | rfl | exact eA_ix (by omega) | omega))⟩⟩
      · have c119_ : v95.toInt ≤ v98.toInt := en_j_gt_f c119
        refine At.enter rfl ?_
        refine r_iconst 1 rfl ?_
        refine r_goto ?_
        refine At.enter rfl ?_
        refine q_iretz (by decide) ?_
        refine At.enter rfl ?_
        refine r_iff 28 rfl (by decide) ?_
        refine At.enter rfl ?_
        refine r_aload_n rfl ?_
        refine r_iconst 3 rfl ?_
        refine r_iload_n rfl ?_
        refine q_inlV 34 rfl [.ref 231, .int 3, .int a1] [] (Nat.le_of_ble_eq_true rfl) rfl ?_
        refine Ev.mk rfl rfl ⟨Nat.le_of_ble_eq_true rfl, Or.inr (q_rc hI73.1 kx_231 rfl)⟩ ?_
        show At _ none _ _ (0, [(0, .ref 231), (1, .int 3), (2, .int a1)], [], (_, _)) _
        refine At.enter rfl ?_
        refine r_aload_n rfl ?_
        refine q_getR (Sh.ref hI73.1 kx_231 rfl) ?_
        refine r_iload_n rfl ?_
        obtain ⟨v139, hv139⟩ : ∃ v, eA g0 233 3 = v := ⟨_, rfl⟩
        have wv139 := HI.t3 hI0
        rw [hv139] at wv139
        refine q_iald (Sh.arr hI73.1 ka_233) 3 rfl (by decide) v139 ((eA_c (gA_sI)).trans hv139) ?_
        refine r_istore_n ([(3, .int v139), (0, .ref 231), (1, .int 3), (2, .int a1)]) rfl ?_
        refine r_aload_n rfl ?_
        refine q_getR (Sh.ref hI73.1 kx_231 rfl) ?_
        refine r_iload_n rfl ?_
        refine r_iload_n rfl ?_
        refine q_iast (Sh.arr hI73.1 ka_233) (3) rfl (by decide) ?_
        have x142 := HI.eqA hI73 (p := 233) (j := 2) (((eA_c gA_sI).trans hv96))
        have hI140 := HI.wt hI73 (j := 3) (v := a1) (by omega) (by omega)
        have hF141 := Fr.wA (p := 233) (j := 3) (v := a1) hF74 rfl
        refine r_aload_n rfl ?_
        refine r_iload_n rfl ?_
        refine q_inlV 19 rfl [.ref 231, .int v139] [] (Nat.le_of_ble_eq_true rfl) rfl ?_
        refine Ev.mk rfl rfl ⟨Nat.le_of_ble_eq_true rfl, Or.inr (q_rc hI140.1 kx_231 rfl)⟩ ?_
        show At _ none _ _ (0, [(0, .ref 231), (1, .int v139)], [], (_, _)) _
        refine At.enter rfl ?_
        refine r_aload_n rfl ?_
        refine r_iconst 0 rfl ?_
        refine q_putI (Sh.int hI140.1 kx_231 rfl) rfl ?_
        have hI143 := HI.wI0 hI140 kx_231 rfl (p := 231) (b := 1) (v := 0) rfl
        have hF144 := Fr.wI (p := 231) (b := 1) (v := 0) hF141 rfl
        refine r_iload_n rfl ?_
        refine q_ireti ?_
        refine At.enter rfl ?_
        refine q_ireti ?_
        refine At.enter rfl ?_
        refine r_goto ?_
        refine At.enter rfl ?_
        refine r_ireti ?_
        obtain ⟨v145, hv145⟩ : ∃ v, eA g0 233 0 = v := ⟨_, rfl⟩
        have tv145 := congrArg Int32.toInt hv145
        have wv145 := HI.t0 hI0
        rw [hv145] at wv145
        have tv145 := congrArg Int32.toInt hv145
        have x146 := HI.eqA hI143 (p := 233) (j := 0) ((((eA_c gA_sI).trans ((eA_sA_ne hI73.1 ka_233 (by first | decide | omega) (by first | decide | omega) (by first | decide | omega)).trans (eA_c gA_sI))).trans hv145))
        obtain ⟨v147, hv147⟩ : ∃ v, eA g0 233 4 = v := ⟨_, rfl⟩
        have wv147 := HI.t4 hI0
        rw [hv147] at wv147
        have tv147 := congrArg Int32.toInt hv147
        have x148 := HI.eqA hI143 (p := 233) (j := 4) ((((eA_c gA_sI).trans ((eA_sA_ne hI73.1 ka_233 (by first | decide | omega) (by first | decide | omega) (by first | decide | omega)).trans (eA_c gA_sI))).trans hv147))
        obtain ⟨v149, hv149⟩ : ∃ v, eA g0 233 5 = v := ⟨_, rfl⟩
        have wv149 := HI.t5 hI0
        rw [hv149] at wv149
        have tv149 := congrArg Int32.toInt hv149
        have x150 := HI.eqA hI143 (p := 233) (j := 5) ((((eA_c gA_sI).trans ((eA_sA_ne hI73.1 ka_233 (by first | decide | omega) (by first | decide | omega) (by first | decide | omega)).trans (eA_c gA_sI))).trans hv149))
        obtain ⟨v151, hv151⟩ : ∃ v, eA g0 233 6 = v := ⟨_, rfl⟩
        have wv151 := HI.t6 hI0
        rw [hv151] at wv151
        have tv151 := congrArg Int32.toInt hv151
        have x152 := HI.eqA hI143 (p := 233) (j := 6) ((((eA_c gA_sI).trans ((eA_sA_ne hI73.1 ka_233 (by first | decide | omega) (by first | decide | omega) (by first | decide | omega)).trans (eA_c gA_sI))).trans hv151))
        have x153 := HI.eqA hI0 (p := 233) (j := 0) (hv145)
        have x154 := HI.eqA hI0 (p := 233) (j := 4) (hv147)
        have x155 := HI.eqA hI0 (p := 233) (j := 5) (hv149)
        have x156 := HI.eqA hI0 (p := 233) (j := 6) (hv151)
        exact ⟨_, rfl, hI143, hF144, _, rfl, by omega, ⟨⟨by omega, by omega, by omega, by omega⟩, (by intro i i0 i1; refine (eA_ti ((gA_sI))).trans ?_; exact (Decidable.em (i = 3)).elim (fun k130_ => by refine (eA_eqT hI73.1 ka_233 k130_ (by first | decide | omega) (by first | decide | omega)).trans ?_; (first | (rfl) | (omega))) (fun k130_ => by refine (eA_neT hI73.1 ka_233 k130_ (by first | decide | omega) (by omega)).trans ?_; refine (eA_ti ((gA_sI))).trans ?_; (first | rfl | exact eA_ix (by omega) | omega)))⟩⟩
