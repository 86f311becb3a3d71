def F_X11_first_231 : List (Nat × Nat) := []
def A_X11_first_231 : List Nat := []
set_option maxRecDepth 100000 in
set_option maxHeartbeats 4000000 in
theorem T_X11_first_231 (d : Nat) {N : Nat} {g0 : List en_E} (hI0 : HI g0) : Ev (d + 1) 226 [.ref 231] (g0, N) (fun w h' => ∃ g', h' = (g', N) ∧ HI g' ∧ Fr F_X11_first_231 A_X11_first_231 g0 g' ∧ ∃ r : Int32, w = some (.int r) ∧ ((-1) ≤ r.toInt ∧ r.toInt ≤ 7) ∧ (r.toInt = -1 ∨ (0 ≤ r.toInt ∧ r.toInt < (eA g' 233 1).toInt ∧ (eA g' 255 r.toInt).toInt = 0))) := by
  have hF0 : Fr F_X11_first_231 A_X11_first_231 g0 g0 := Fr.rf
  refine Ev.mk rfl rfl ⟨Nat.le_of_ble_eq_true rfl, Or.inr (q_rc hI0.1 kx_231 rfl)⟩ ?_
  show At _ none _ _ (0, [(0, .ref 231)], [], (_, _)) _
  refine At.enter rfl ?_
  refine r_iconst (-1) rfl ?_
  refine r_istore_n ([(1, .int (-1)), (0, .ref 231)]) rfl ?_
  refine r_iconst 0 rfl ?_
  refine r_istore_n ([(2, .int 0), (1, .int (-1)), (0, .ref 231)]) rfl ?_
  refine Ar.fall 4 rfl ?_
  have z_459 : ((-1) : Int32).toInt = (-1) := rfl
  have z_460 : (0 : Int32).toInt = 0 := rfl
  refine w_loopI (fun n_ l_ g_ => ∃ x445 : Int32, ∃ x446 : Int32, n_ = 8 - x446.toInt ∧ HI g_ ∧ Fr F_X11_first_231 A_X11_first_231 g0 g_ ∧ en_get 0 l_ = some (.ref 231) ∧ en_get 1 l_ = some (.int x445) ∧ en_get 2 l_ = some (.int x446) ∧ ((-1) ≤ x445.toInt ∧ x445.toInt ≤ 7) ∧ (0 ≤ x446.toInt ∧ x446.toInt ≤ 8) ∧ (x445.toInt = -1 ∨ (0 ≤ x445.toInt ∧ x445.toInt < (eA g0 233 1).toInt ∧ (eA g0 255 x445.toInt).toInt = 0))) ?_ (8 - 0) ⟨(-1), 0, by first | rfl | omega, hI0, hF0, rfl, rfl, rfl, by decide, by decide, (Or.inl rfl)⟩
  rintro n451 l450 g447 ⟨x445, x446, hm461, hI448, hF449, e453, e454, e455, r456, r457, q458⟩ ih452
  refine At.enter rfl ?_
  refine r_iload_n e455 ?_
  refine r_aload_n e453 ?_
  refine q_getR (Sh.ref hI448.1 kx_231 rfl) ?_
  refine r_iconst 1 rfl ?_
  obtain ⟨v462, hv462⟩ : ∃ v, eA g0 233 1 = v := ⟨_, rfl⟩
  have tv462 := congrArg Int32.toInt hv462
  have wv462 := HI.t1 hI0
  rw [hv462] at wv462
  refine q_iald (Sh.arr hI448.1 ka_233) 1 rfl (by decide) v462 ((eA_c (hF449.2.1 233 (by decide))).trans hv462) ?_
  have bv464 := q_bnd x446
  have bv465 := q_bnd v462
  refine r_ics 14 rfl (fun c463 => ?_) (fun c463 => ?_)
  · have c463_ : x446.toInt ≥ v462.toInt := en_i_ge_t c463
    refine At.enter rfl ?_
    refine r_iload_n e454 ?_
    refine r_ireti ?_
    exact ⟨_, rfl, hI448, hF449, _, rfl, by omega, (by first | exact Or.inl rfl | (rw [eA_c (hF449.2.1 233 rfl), eA_c (hF449.2.1 255 rfl)]; omega))⟩
  · have c463_ : x446.toInt < v462.toInt := en_i_ge_f c463
    refine At.enter rfl ?_
    refine r_aload_n e453 ?_
    refine q_getR (Sh.ref hI448.1 kx_231 rfl) ?_
    refine r_iload_n e455 ?_
    obtain ⟨v466, hv466⟩ : ∃ v, eA g0 255 x446.toInt = v := ⟨_, rfl⟩
    refine q_bald (Sh.arr hI448.1 ka_255) x446.toInt rfl (by omega) v466 ((eA_c (hF449.2.1 255 (by decide))).trans hv466) ?_
    refine r_ifs 23 rfl (fun c467 => ?_) (fun c467 => ?_)
    · have c467_ : v466.toInt ≠ 0 := en_k_ne_t c467
      refine At.enter rfl ?_
      refine r_iload_n e454 ?_
      refine Ar.fall 48 rfl ?_
      refine At.enter rfl ?_
      refine r_istore_n _ rfl ?_
      refine q_iinc (w_p1 (by decide) (Or.inr rfl) e455) (x446.toInt + 1) rfl (by omega) (fun v468 hv468 => ?_)
      refine r_goto ?_
      exact ih452 (8 - v468.toInt) _ _ ⟨x445, v468, by first | rfl | omega, hI448, hF449, (w_p1 (by decide) (Or.inr rfl) (w_p1 (by decide) (Or.inr rfl) e453)), (w_p1 (by decide) (Or.inr rfl) (w_e1 _ _ _)), (w_e1 _ _ _), by omega, by omega, (by first | omega | grind)⟩ ⟨by omega, by omega⟩
    · have c467_ : v466.toInt = 0 := en_k_ne_f c467
      refine At.enter rfl ?_
      refine r_iload_n e454 ?_
      refine r_iconst (-1) rfl ?_
      refine r_ics 28 rfl (fun c469 => ?_) (fun c469 => ?_)
      · have c469_ : x445.toInt = (-1) := en_i_eq_t c469
        refine At.enter rfl ?_
        refine r_iload_n e455 ?_
        refine r_goto ?_
        refine At.enter rfl ?_
        refine r_istore_n _ rfl ?_
        refine q_iinc (w_p1 (by decide) (Or.inr rfl) e455) (x446.toInt + 1) rfl (by omega) (fun v470 hv470 => ?_)
        refine r_goto ?_
        exact ih452 (8 - v470.toInt) _ _ ⟨x446, v470, by first | rfl | omega, hI448, hF449, (w_p1 (by decide) (Or.inr rfl) (w_p1 (by decide) (Or.inr rfl) e453)), (w_p1 (by decide) (Or.inr rfl) (w_e1 _ _ _)), (w_e1 _ _ _), by omega, by omega, (by first | omega | grind)⟩ ⟨by omega, by omega⟩
      · have c469_ : x445.toInt ≠ (-1) := en_i_eq_f c469
        refine At.enter rfl ?_
        refine r_aload_n e453 ?_
        refine q_getR (Sh.ref hI448.1 kx_231 rfl) ?_
        refine r_iload_n e455 ?_
        obtain ⟨v471, hv471⟩ : ∃ v, eA g0 254 x446.toInt = v := ⟨_, rfl⟩
        refine q_iald (Sh.arr hI448.1 ka_254) x446.toInt rfl (by omega) v471 ((eA_c (hF449.2.1 254 (by decide))).trans hv471) ?_
        refine r_aload_n e453 ?_
        refine q_getR (Sh.ref hI448.1 kx_231 rfl) ?_
        refine r_iload_n e454 ?_
        obtain ⟨v472, hv472⟩ : ∃ v, eA g0 254 x445.toInt = v := ⟨_, rfl⟩
        refine q_iald (Sh.arr hI448.1 ka_254) x445.toInt rfl (by omega) v472 ((eA_c (hF449.2.1 254 (by decide))).trans hv472) ?_
        have bv474 := q_bnd v471
        have bv475 := q_bnd v472
        refine r_ics 43 rfl (fun c473 => ?_) (fun c473 => ?_)
        · have c473_ : v471.toInt ≤ v472.toInt := en_i_le_t c473
          refine At.enter rfl ?_
          refine r_iload_n e454 ?_
          refine Ar.fall 48 rfl ?_
          refine At.enter rfl ?_
          refine r_istore_n _ rfl ?_
          refine q_iinc (w_p1 (by decide) (Or.inr rfl) e455) (x446.toInt + 1) rfl (by omega) (fun v476 hv476 => ?_)
          refine r_goto ?_
          exact ih452 (8 - v476.toInt) _ _ ⟨x445, v476, by first | rfl | omega, hI448, hF449, (w_p1 (by decide) (Or.inr rfl) (w_p1 (by decide) (Or.inr rfl) e453)), (w_p1 (by decide) (Or.inr rfl) (w_e1 _ _ _)), (w_e1 _ _ _), by omega, by omega, (by first | omega | grind)⟩ ⟨by omega, by omega⟩
        · have c473_ : v471.toInt > v472.toInt := en_i_le_f c473
          refine At.enter rfl ?_
          refine r_iload_n e455 ?_
          refine r_goto ?_
          refine At.enter rfl ?_
          refine r_istore_n _ rfl ?_
          refine q_iinc (w_p1 (by decide) (Or.inr rfl) e455) (x446.toInt + 1) rfl (by omega) (fun v477 hv477 => ?_)
          refine r_goto ?_
          exact ih452 (8 - v477.toInt) _ _ ⟨x446, v477, by first | rfl | omega, hI448, hF449, (w_p1 (by decide) (Or.inr rfl) (w_p1 (by decide) (Or.inr rfl) e453)), (w_p1 (by decide) (Or.inr rfl) (w_e1 _ _ _)), (w_e1 _ _ _), by omega, by omega, (by first | omega | grind)⟩ ⟨by omega, by omega⟩

def F_X11_goOn_231 : List (Nat × Nat) := [(231, 27), (231, 30), (231, 31), (231, 32)]
def A_X11_goOn_231 : List Nat := [250, 251, 252, 253]
theorem ma_X11_isBarred_231_250 : memA A_X11_isBarred_231 250 = false := by decide
theorem mf_X11_isBarred_231_231_36 : memF F_X11_isBarred_231 231 36 = false := by decide
theorem ma_X11_isBarred_231_233 : memA A_X11_isBarred_231 233 = false := by decide
theorem ma_X11_nextOf_231_251 : memA A_X11_nextOf_231 251 = false := by decide
theorem ma_X11_isBarred_231_251 : memA A_X11_isBarred_231 251 = false := by decide
theorem ma_X11_nextOf_231_252 : memA A_X11_nextOf_231 252 = false := by decide
theorem ma_X11_isBarred_231_252 : memA A_X11_isBarred_231 252 = false := by decide
theorem ma_X11_nextOf_231_250 : memA A_X11_nextOf_231 250 = false := by decide
theorem ma_X11_nextOf_231_233 : memA A_X11_nextOf_231 233 = false := by decide
theorem ma_X11_canHold_231_251 : memA A_X11_canHold_231 251 = false := by decide
theorem ma_X11_canHold_231_252 : memA A_X11_canHold_231 252 = false := by decide
theorem ma_X11_canHold_231_250 : memA A_X11_canHold_231 250 = false := by decide
set_option maxRecDepth 100000 in
set_option maxHeartbeats 4000000 in
theorem T_X11_goOn_231 (d : Nat) {N : Nat} {g0 : List en_E} (hI0 : HI g0) (a1 : Int32) (h_a1 : 0 ≤ a1.toInt ∧ a1.toInt ≤ 7) (a2 : Int32) (h_a2 : 0 ≤ a2.toInt ∧ a2.toInt ≤ 99) (hp : 0 ≤ (eA g0 250 a1.toInt).toInt) : Ev (d + 6) 228 [.ref 231, .int a1, .int a2] (g0, N) (fun w h' => ∃ g', h' = (g', N) ∧ HI g' ∧ Fr F_X11_goOn_231 A_X11_goOn_231 g0 g' ∧ w = none ∧ (∀ j : Int, 0 ≤ j → j ≠ a1.toInt → eA g' 250 j = eA g0 250 j)) := by
  have hF0 : Fr F_X11_goOn_231 A_X11_goOn_231 g0 g0 := Fr.rf
  refine Ev.mk rfl rfl ⟨Nat.le_of_ble_eq_true rfl, Or.inr (q_rc hI0.1 kx_231 rfl)⟩ ?_
  show At _ none _ _ (0, [(0, .ref 231), (1, .int a1), (2, .int a2)], [], (_, _)) _
  refine At.enter rfl ?_
  refine r_aload_n rfl ?_
  refine r_iload_n rfl ?_
  refine r_aload_n rfl ?_
  refine q_getR (Sh.ref hI0.1 kx_231 rfl) ?_
  refine r_iload_n rfl ?_
  obtain ⟨v121, hv121⟩ : ∃ v, eA g0 250 a1.toInt = v := ⟨_, rfl⟩
  have rv121 := RgA.at hI0.2.2.1 (Sh.arr hI0.1 ka_250).2 (p := 250) rfl (j := a1.toInt) (by omega)
  rw [hv121] at rv121
  dsimp only at rv121
  have wv121 := hp; rw [hv121] at wv121
  refine q_iald (Sh.arr hI0.1 ka_250) a1.toInt rfl (by omega) v121 hv121 ?_
  refine r_iload_n rfl ?_
  refine r_aload_n rfl ?_
  refine q_getR (Sh.ref hI0.1 kx_231 rfl) ?_
  refine r_iload_n rfl ?_
  obtain ⟨v122, hv122⟩ : ∃ v, eA g0 251 a1.toInt = v := ⟨_, rfl⟩
  refine q_iald (Sh.arr hI0.1 ka_251) a1.toInt rfl (by omega) v122 hv122 ?_
  refine r_callV 18 rfl [.ref 231, .int a1, .int v121, .int a2, .int v122] [] (Nat.le_of_ble_eq_true rfl) rfl (T_X11_isBarred_231 _ hI0 a1 (by omega) v121 (by omega) a2 v122) ?_
  rintro _ _ ⟨g123, rfl, hI124, hF125, v126, rfl, hr127⟩
  refine At.sti ?_
  have hF128 := Fr.tr hF0 hF125 rfl rfl
  refine At.enter rfl ?_
  refine r_ifs 21 rfl (fun c129 => ?_) (fun c129 => ?_)
  · have c129_ : v126.toInt = 0 := en_k_eq_t c129
    refine At.enter rfl ?_
    refine r_aload_n rfl ?_
    refine r_aload_n rfl ?_
    refine q_getR (Sh.ref hI124.1 kx_231 rfl) ?_
    refine r_iload_n rfl ?_
    refine q_iald (Sh.arr hI124.1 ka_250) a1.toInt rfl (by omega) v121 ((eA_c (hF125.2.1 250 ma_X11_isBarred_231_250)).trans hv121) ?_
    refine r_aload_n rfl ?_
    obtain ⟨v130, hv130⟩ : ∃ v, gI g0 231 36 = v := ⟨_, rfl⟩
    refine q_getI (Sh.int hI124.1 kx_231 rfl) v130 ((hF125.1 231 36 mf_X11_isBarred_231_231_36).trans hv130) ?_
    refine r_callV 39 rfl [.ref 231, .int v121, .int v130] [] (Nat.le_of_ble_eq_true rfl) rfl (T_X11_nextOf_231 _ hI124 v121 (by omega) v130) ?_
    rintro _ _ ⟨g131, rfl, hI132, hF133, v134, rfl, hr135⟩
    refine At.sti ?_
    have hF136 := Fr.tr hF128 hF133 rfl rfl
    rw [eA_c ((hF125.2.1 233 ma_X11_isBarred_231_233))] at hr135
    refine At.enter rfl ?_
    refine r_istore_n ([(3, .int v134), (0, .ref 231), (1, .int a1), (2, .int a2)]) rfl ?_
    refine r_iload_n rfl ?_
    refine r_iconst (-1) rfl ?_
    refine r_ics 45 rfl (fun c137 => ?_) (fun c137 => ?_)
    · have c137_ : v134.toInt = (-1) := en_i_eq_t c137
      refine At.enter rfl ?_
      refine r_iload_n rfl ?_
      refine r_iconst (-1) rfl ?_
      refine r_ics 78 rfl (fun c138 => ?_) (fun c138 => ?_)
      · have c138_ : v134.toInt = (-1) := en_i_eq_t c138
        refine At.enter rfl ?_
        refine r_aload_n rfl ?_
        refine q_getR (Sh.ref hI132.1 kx_231 rfl) ?_
        refine r_iload_n rfl ?_
        refine r_dup2 ⟨rfl, rfl⟩ ?_
        refine q_iald (Sh.arr hI132.1 ka_251) a1.toInt rfl (by omega) v122 ((eA_c ((hF133.2.1 251 ma_X11_nextOf_231_251).trans (hF125.2.1 251 ma_X11_isBarred_231_251))).trans hv122) ?_
        refine r_iconst 1 rfl ?_
        refine q_iaddO (fun v139 _ => ?_)
        refine q_iast (Sh.arr hI132.1 ka_251) (a1.toInt) rfl (by omega) ?_
        have hI140 := HI.wA0 hI132 ka_251 (p := 251) rfl rfl (a1.toInt) (v139)
        have hF141 := Fr.wA (p := 251) (j := a1.toInt) (v := v139) hF136 rfl
        refine r_aload_n rfl ?_
        refine q_getR (Sh.ref hI140.1 kx_231 rfl) ?_
        refine r_iload_n rfl ?_
        refine r_dup2 ⟨rfl, rfl⟩ ?_
        obtain ⟨v142, hv142⟩ : ∃ v, eA g0 252 a1.toInt = v := ⟨_, rfl⟩
        refine q_iald (Sh.arr hI140.1 ka_252) a1.toInt rfl (by omega) v142 ((eA_c ((gA_sA_ne (by decide)).trans ((hF133.2.1 252 ma_X11_nextOf_231_252).trans (hF125.2.1 252 ma_X11_isBarred_231_252)))).trans hv142) ?_
        refine r_iconst 1 rfl ?_
        refine q_iaddO (fun v143 _ => ?_)
        refine q_iast (Sh.arr hI140.1 ka_252) (a1.toInt) rfl (by omega) ?_
        have hI144 := HI.wA0 hI140 ka_252 (p := 252) rfl rfl (a1.toInt) (v143)
        have hF145 := Fr.wA (p := 252) (j := a1.toInt) (v := v143) hF141 rfl
        refine Ar.fall 124 rfl ?_
        refine At.enter rfl ?_
        refine r_vret ?_
        exact ⟨_, rfl, hI144, hF145, rfl, (fun j h0 hne => ((eA_c (gA_sA_ne (by decide))).trans ((eA_c (gA_sA_ne (by decide))).trans ((eA_c (hF133.2.1 250 ma_X11_nextOf_231_250)).trans (eA_c (hF125.2.1 250 ma_X11_isBarred_231_250))))))⟩
      · have c138_ : v134.toInt ≠ (-1) := en_i_eq_f c138
        exfalso; omega
    · have c137_ : v134.toInt ≠ (-1) := en_i_eq_f c137
      refine At.enter rfl ?_
      refine r_iload_n rfl ?_
      refine r_aload_n rfl ?_
      refine r_iload_n rfl ?_
      refine r_iconst 2 rfl ?_
      refine q_inlV 52 rfl [.ref 231, .int a1, .int 2] [.int v134] (Nat.le_of_ble_eq_true rfl) rfl ?_
      refine Ev.mk rfl rfl ⟨Nat.le_of_ble_eq_true rfl, Or.inr (q_rc hI132.1 kx_231 rfl)⟩ ?_
      show At _ none _ _ (0, [(0, .ref 231), (1, .int a1), (2, .int 2)], [], (_, _)) _
      refine At.enter rfl ?_
      refine r_aload_n rfl ?_
      refine q_getR (Sh.ref hI132.1 kx_231 rfl) ?_
      refine r_bipush 46 rfl ?_
      refine r_bipush 6 rfl ?_
      refine r_iload_n rfl ?_
      refine q_imul (6 * a1.toInt) rfl (by omega) (fun v146 hv146 => ?_)
      refine q_iadd (46 + v146.toInt) rfl (by omega) (fun v147 hv147 => ?_)
      refine r_iload_n rfl ?_
      refine q_iadd (v147.toInt + 2) rfl (by omega) (fun v148 hv148 => ?_)
      obtain ⟨v149, hv149⟩ : ∃ v, eA g0 233 (6 * a1.toInt + 48) = v := ⟨_, rfl⟩
      have wv149 := HI.l2 hI0 (j := (6 * a1.toInt + 48)) (a1.toInt) (by omega) (by omega)
      rw [hv149] at wv149
      refine q_iald (Sh.arr hI132.1 ka_233) (6 * a1.toInt + 48) (by omega) (by omega) v149 ((eA_c ((hF133.2.1 233 ma_X11_nextOf_231_233).trans (hF125.2.1 233 ma_X11_isBarred_231_233))).trans hv149) ?_
      refine q_ireti ?_
      refine At.enter rfl ?_
      refine r_ics 55 rfl (fun c150 => ?_) (fun c150 => ?_)
      · have c150_ : v134.toInt ≠ v149.toInt := en_i_ne_t c150
        refine At.enter rfl ?_
        refine r_iload_n rfl ?_
        refine r_iconst (-1) rfl ?_
        refine r_ics 78 rfl (fun c151 => ?_) (fun c151 => ?_)
        · have c151_ : v134.toInt = (-1) := en_i_eq_t c151
          exfalso; omega
        · have c151_ : v134.toInt ≠ (-1) := en_i_eq_f c151
          refine At.enter rfl ?_
          refine r_aload_n rfl ?_
          refine r_iload_n rfl ?_
          refine r_iload_n rfl ?_
          refine r_callV 84 rfl [.ref 231, .int v134, .int a1] [] (Nat.le_of_ble_eq_true rfl) rfl (T_X11_canHold_231 _ hI132 v134 (by omega) a1 (by omega)) ?_
          rintro _ _ ⟨g152, rfl, hI153, hF154, v155, rfl, hr156⟩
          refine At.sti ?_
          have hF157 := Fr.tr hF136 hF154 rfl rfl
          refine At.enter rfl ?_
          refine r_ifs 87 rfl (fun c158 => ?_) (fun c158 => ?_)
          · have c158_ : v155.toInt = 0 := en_k_eq_t c158
            refine At.enter rfl ?_
            refine r_aload_n rfl ?_
            refine q_getR (Sh.ref hI153.1 kx_231 rfl) ?_
            refine r_iload_n rfl ?_
            refine r_dup2 ⟨rfl, rfl⟩ ?_
            refine q_iald (Sh.arr hI153.1 ka_251) a1.toInt rfl (by omega) v122 ((eA_c ((hF154.2.1 251 ma_X11_canHold_231_251).trans ((hF133.2.1 251 ma_X11_nextOf_231_251).trans (hF125.2.1 251 ma_X11_isBarred_231_251)))).trans hv122) ?_
            refine r_iconst 1 rfl ?_
            refine q_iaddO (fun v159 _ => ?_)
            refine q_iast (Sh.arr hI153.1 ka_251) (a1.toInt) rfl (by omega) ?_
            have hI160 := HI.wA0 hI153 ka_251 (p := 251) rfl rfl (a1.toInt) (v159)
            have hF161 := Fr.wA (p := 251) (j := a1.toInt) (v := v159) hF157 rfl
            refine r_aload_n rfl ?_
            refine q_getR (Sh.ref hI160.1 kx_231 rfl) ?_
            refine r_iload_n rfl ?_
            refine r_dup2 ⟨rfl, rfl⟩ ?_
            obtain ⟨v162, hv162⟩ : ∃ v, eA g0 252 a1.toInt = v := ⟨_, rfl⟩
            refine q_iald (Sh.arr hI160.1 ka_252) a1.toInt rfl (by omega) v162 ((eA_c ((gA_sA_ne (by decide)).trans ((hF154.2.1 252 ma_X11_canHold_231_252).trans ((hF133.2.1 252 ma_X11_nextOf_231_252).trans (hF125.2.1 252 ma_X11_isBarred_231_252))))).trans hv162) ?_
            refine r_iconst 1 rfl ?_
            refine q_iaddO (fun v163 _ => ?_)
            refine q_iast (Sh.arr hI160.1 ka_252) (a1.toInt) rfl (by omega) ?_
            have hI164 := HI.wA0 hI160 ka_252 (p := 252) rfl rfl (a1.toInt) (v163)
            have hF165 := Fr.wA (p := 252) (j := a1.toInt) (v := v163) hF161 rfl
            refine Ar.fall 124 rfl ?_
            refine At.enter rfl ?_
            refine r_vret ?_
            exact ⟨_, rfl, hI164, hF165, rfl, (fun j h0 hne => ((eA_c (gA_sA_ne (by decide))).trans ((eA_c (gA_sA_ne (by decide))).trans ((eA_c (hF154.2.1 250 ma_X11_canHold_231_250)).trans ((eA_c (hF133.2.1 250 ma_X11_nextOf_231_250)).trans (eA_c (hF125.2.1 250 ma_X11_isBarred_231_250)))))))⟩
          · have c158_ : v155.toInt ≠ 0 := en_k_eq_f c158
            refine At.enter rfl ?_
            refine r_aload_n rfl ?_
            refine q_getR (Sh.ref hI153.1 kx_231 rfl) ?_
            refine r_iload_n rfl ?_
            refine r_iload_n rfl ?_
            refine q_iast (Sh.arr hI153.1 ka_250) (a1.toInt) rfl (by omega) ?_
            have hI166 := HI.wA1 hI153 ka_250 (p := 250) rfl rfl (a1.toInt) (v := v134) (by dsimp only; omega)
            have hF167 := Fr.wA (p := 250) (j := a1.toInt) (v := v134) hF157 rfl
            refine r_aload_n rfl ?_
            refine q_getR (Sh.ref hI166.1 kx_231 rfl) ?_
            refine r_iload_n rfl ?_
            refine r_iconst 0 rfl ?_
            refine q_iast (Sh.arr hI166.1 ka_251) (a1.toInt) rfl (by omega) ?_
            have hI168 := HI.wA0 hI166 ka_251 (p := 251) rfl rfl (a1.toInt) (0)
            have hF169 := Fr.wA (p := 251) (j := a1.toInt) (v := 0) hF167 rfl
            refine r_goto ?_
            refine At.enter rfl ?_
            refine r_vret ?_
            exact ⟨_, rfl, hI168, hF169, rfl, (fun j h0 hne => ((eA_c (gA_sA_ne (by decide))).trans ((eA_sA_ne hI153.1 ka_250 (by omega) (by omega) (by omega)).trans ((eA_c (hF154.2.1 250 ma_X11_canHold_231_250)).trans ((eA_c (hF133.2.1 250 ma_X11_nextOf_231_250)).trans (eA_c (hF125.2.1 250 ma_X11_isBarred_231_250)))))))⟩
      · have c150_ : v134.toInt = v149.toInt := en_i_ne_f c150
        refine At.enter rfl ?_
        refine r_aload_n rfl ?_
        refine q_getR (Sh.ref hI132.1 kx_231 rfl) ?_
        refine r_iload_n rfl ?_
        refine r_bipush (-2) rfl ?_
        refine q_iast (Sh.arr hI132.1 ka_250) (a1.toInt) rfl (by omega) ?_
        have hI170 := HI.wA1 hI132 ka_250 (p := 250) rfl rfl (a1.toInt) (v := (-2)) (by decide)
        have hF171 := Fr.wA (p := 250) (j := a1.toInt) (v := (-2)) hF136 rfl
        refine r_aload_n rfl ?_
        refine q_getR (Sh.ref hI170.1 kx_231 rfl) ?_
        refine r_iload_n rfl ?_
        refine r_iload_n rfl ?_
        refine q_iast (Sh.arr hI170.1 ka_253) (a1.toInt) rfl (by omega) ?_
        have hI172 := HI.wA0 hI170 ka_253 (p := 253) rfl rfl (a1.toInt) (a2)
        have hF173 := Fr.wA (p := 253) (j := a1.toInt) (v := a2) hF171 rfl
        refine r_goto ?_
        refine At.enter rfl ?_
        refine r_vret ?_
        exact ⟨_, rfl, hI172, hF173, rfl, (fun j h0 hne => ((eA_c (gA_sA_ne (by decide))).trans ((eA_sA_ne hI132.1 ka_250 (by omega) (by omega) (by omega)).trans ((eA_c (hF133.2.1 250 ma_X11_nextOf_231_250)).trans (eA_c (hF125.2.1 250 ma_X11_isBarred_231_250))))))⟩
  · have c129_ : v126.toInt ≠ 0 := en_k_eq_f c129
    refine At.enter rfl ?_
    refine r_iconst (-1) rfl ?_
    refine r_goto ?_
    refine At.enter rfl ?_
    refine r_istore_n ([(3, .int (-1)), (0, .ref 231), (1, .int a1), (2, .int a2)]) rfl ?_
    refine r_iload_n rfl ?_
    refine r_iconst (-1) rfl ?_
    refine r_ict (by decide) ?_
    refine At.enter rfl ?_
    refine r_iload_n rfl ?_
    refine r_iconst (-1) rfl ?_
    refine r_ict (by decide) ?_
    refine At.enter rfl ?_
    refine r_aload_n rfl ?_
    refine q_getR (Sh.ref hI124.1 kx_231 rfl) ?_
    refine r_iload_n rfl ?_
    refine r_dup2 ⟨rfl, rfl⟩ ?_
    refine q_iald (Sh.arr hI124.1 ka_251) a1.toInt rfl (by omega) v122 ((eA_c (hF125.2.1 251 ma_X11_isBarred_231_251)).trans hv122) ?_
    refine r_iconst 1 rfl ?_
    refine q_iaddO (fun v174 _ => ?_)
    refine q_iast (Sh.arr hI124.1 ka_251) (a1.toInt) rfl (by omega) ?_
    have hI175 := HI.wA0 hI124 ka_251 (p := 251) rfl rfl (a1.toInt) (v174)
    have hF176 := Fr.wA (p := 251) (j := a1.toInt) (v := v174) hF128 rfl
    refine r_aload_n rfl ?_
    refine q_getR (Sh.ref hI175.1 kx_231 rfl) ?_
    refine r_iload_n rfl ?_
    refine r_dup2 ⟨rfl, rfl⟩ ?_
    obtain ⟨v177, hv177⟩ : ∃ v, eA g0 252 a1.toInt = v := ⟨_, rfl⟩
    refine q_iald (Sh.arr hI175.1 ka_252) a1.toInt rfl (by omega) v177 ((eA_c ((gA_sA_ne (by decide)).trans (hF125.2.1 252 ma_X11_isBarred_231_252))).trans hv177) ?_
    refine r_iconst 1 rfl ?_
    refine q_iaddO (fun v178 _ => ?_)
    refine q_iast (Sh.arr hI175.1 ka_252) (a1.toInt) rfl (by omega) ?_
    have hI179 := HI.wA0 hI175 ka_252 (p := 252) rfl rfl (a1.toInt) (v178)
    have hF180 := Fr.wA (p := 252) (j := a1.toInt) (v := v178) hF176 rfl
    refine Ar.fall 124 rfl ?_
    refine At.enter rfl ?_
    refine r_vret ?_
    exact ⟨_, rfl, hI179, hF180, rfl, (fun j h0 hne => ((eA_c (gA_sA_ne (by decide))).trans ((eA_c (gA_sA_ne (by decide))).trans (eA_c (hF125.2.1 250 ma_X11_isBarred_231_250)))))⟩
