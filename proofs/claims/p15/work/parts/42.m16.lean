def F_X11_incomeOf_231 : List (Nat × Nat) := [(231, 27), (231, 30), (231, 31), (231, 32)]
def A_X11_incomeOf_231 : List Nat := [249]
theorem ma_X11_isSent_231_233 : memA A_X11_isSent_231 233 = false := by decide
set_option maxRecDepth 100000 in
set_option maxHeartbeats 4000000 in
theorem T_X11_incomeOf_231 (d : Nat) {N : Nat} {g0 : List en_E} (hI0 : HI g0) (a1 : Int32) (h_a1 : 0 ≤ a1.toInt ∧ a1.toInt ≤ 11) : Ev (d + 8) 247 [.ref 231, .int a1] (g0, N) (fun w h' => ∃ g', h' = (g', N) ∧ HI g' ∧ Fr F_X11_incomeOf_231 A_X11_incomeOf_231 g0 g' ∧ ∃ r : Int32, w = some (.int r) ∧ True) := by
  have hF0 : Fr F_X11_incomeOf_231 A_X11_incomeOf_231 g0 g0 := Fr.rf
  refine Ev.mk rfl rfl ⟨Nat.le_of_ble_eq_true rfl, Or.inr (q_rc hI0.1 kx_231 rfl)⟩ ?_
  show At _ none _ _ (0, [(0, .ref 231), (1, .int a1)], [], (_, _)) _
  refine At.enter rfl ?_
  refine r_iconst 0 rfl ?_
  refine r_istore_n ([(2, .int 0), (0, .ref 231), (1, .int a1)]) rfl ?_
  refine r_iconst 0 rfl ?_
  refine r_istore_n ([(3, .int 0), (2, .int 0), (0, .ref 231), (1, .int a1)]) rfl ?_
  refine Ar.fall 4 rfl ?_
  have z_5468 : (0 : Int32).toInt = 0 := rfl
  have z_5469 : (0 : Int32).toInt = 0 := rfl
  refine w_loopI (fun n_ l_ g_ => ∃ x5455 : Int32, ∃ x5456 : Int32, n_ = 8 - x5456.toInt ∧ HI g_ ∧ Fr F_X11_incomeOf_231 A_X11_incomeOf_231 g0 g_ ∧ en_get 0 l_ = some (.ref 231) ∧ en_get 1 l_ = some (.int a1) ∧ en_get 2 l_ = some (.int x5455) ∧ en_get 3 l_ = some (.int x5456) ∧ (0 ≤ x5456.toInt ∧ x5456.toInt ≤ 8)) ?_ (8 - 0) ⟨0, 0, by first | rfl | omega, hI0, hF0, rfl, rfl, rfl, rfl, by decide⟩
  rintro n5461 l5460 g5457 ⟨x5455, x5456, hm5470, hI5458, hF5459, e5463, e5464, e5465, e5466, r5467⟩ ih5462
  refine At.enter rfl ?_
  refine r_iload_n e5466 ?_
  refine r_aload_n e5463 ?_
  refine q_getR (Sh.ref hI5458.1 kx_231 rfl) ?_
  refine r_iconst 1 rfl ?_
  obtain ⟨v5471, hv5471⟩ : ∃ v, eA g0 233 1 = v := ⟨_, rfl⟩
  have tv5471 := congrArg Int32.toInt hv5471
  have wv5471 := HI.t1 hI0
  rw [hv5471] at wv5471
  refine q_iald (Sh.arr hI5458.1 ka_233) 1 rfl (by decide) v5471 ((eA_c (hF5459.2.1 233 (by decide))).trans hv5471) ?_
  have bv5473 := q_bnd x5456
  have bv5474 := q_bnd v5471
  refine r_ics 14 rfl (fun c5472 => ?_) (fun c5472 => ?_)
  · have c5472_ : x5456.toInt ≥ v5471.toInt := en_i_ge_t c5472
    refine At.enter rfl ?_
    refine r_iload_n e5465 ?_
    refine r_ireti ?_
    exact ⟨_, rfl, hI5458, hF5459, _, rfl, trivial⟩
  · have c5472_ : x5456.toInt < v5471.toInt := en_i_ge_f c5472
    refine At.enter rfl ?_
    refine r_aload_n e5463 ?_
    refine r_iload_n e5466 ?_
    refine r_callV 19 rfl [.ref 231, .int x5456] [] (Nat.le_of_ble_eq_true rfl) rfl (T_X11_isSent_231 _ hI5458 x5456 (by omega) (by rw [eA_c ((hF5459.2.1 233 (by decide))), hv5471]; omega)) ?_
    rintro _ _ ⟨g5475, rfl, hI5476, hF5477, v5478, rfl, hr5479⟩
    refine At.sti ?_
    have hF5480 := Fr.tr hF5459 hF5477 rfl rfl
    refine At.enter rfl ?_
    refine r_ifs 22 rfl (fun c5481 => ?_) (fun c5481 => ?_)
    · have c5481_ : v5478.toInt = 0 := en_k_eq_t c5481
      refine At.enter rfl ?_
      refine q_iinc e5466 (x5456.toInt + 1) rfl (by omega) (fun v5482 hv5482 => ?_)
      refine r_goto ?_
      have bv5483 := q_bnd x5455
      exact ih5462 (8 - v5482.toInt) _ _ ⟨x5455, v5482, by first | rfl | omega, hI5476, hF5480, (w_p1 (by decide) (Or.inr rfl) e5463), (w_p1 (by decide) (Or.inr rfl) e5464), (w_p1 (by decide) (Or.inr rfl) e5465), (w_e1 _ _ _), by omega⟩ ⟨by omega, by omega⟩
    · have c5481_ : v5478.toInt ≠ 0 := en_k_eq_f c5481
      refine At.enter rfl ?_
      refine r_aload_n e5463 ?_
      refine r_iload_n e5466 ?_
      refine r_callV 27 rfl [.ref 231, .int x5456] [] (Nat.le_of_ble_eq_true rfl) rfl (T_X11_findWay_231 _ hI5476 x5456 (by omega) (by rw [eA_c (((hF5477.2.1 233 ma_X11_isSent_231_233).trans (hF5459.2.1 233 (by decide)))), hv5471]; omega)) ?_
      rintro _ _ ⟨g5484, rfl, hI5485, hF5486, v5487, rfl, hr5488⟩
      refine At.sti ?_
      have hF5489 := Fr.tr hF5480 hF5486 rfl rfl
      have fw5490 : ∀ j : Int, 0 ≤ j → j ≤ v5487.toInt → (eA g5484 249 j).toInt < (eA g0 233 0).toInt := fun j a b => by have z := hr5488.2 j a b; rw [eA_c (((hF5477.2.1 233 ma_X11_isSent_231_233).trans (hF5459.2.1 233 (by decide))))] at z; exact z
      refine At.enter rfl ?_
      refine r_istore _ rfl ?_
      refine r_iconst 0 rfl ?_
      refine r_istore _ rfl ?_
      refine Ar.fall 32 rfl ?_
      have z_5686 : (0 : Int32).toInt = 0 := rfl
      refine w_loopI (fun n_ l_ g_ => ∃ x5671 : Int32, ∃ x5672 : Int32, n_ = 12 - x5672.toInt ∧ HI g_ ∧ Fr F_X11_incomeOf_231 A_X11_incomeOf_231 g0 g_ ∧ en_get 0 l_ = some (.ref 231) ∧ en_get 1 l_ = some (.int a1) ∧ en_get 2 l_ = some (.int x5671) ∧ en_get 3 l_ = some (.int x5456) ∧ en_get 4 l_ = some (.int v5487) ∧ en_get 5 l_ = some (.int x5672) ∧ (0 ≤ x5672.toInt ∧ x5672.toInt ≤ 12)) ?_ (12 - 0) ⟨x5455, 0, by first | rfl | omega, hI5485, hF5489, (w_p1 (by decide) (Or.inr rfl) (w_p1 (by decide) (Or.inr rfl) e5463)), (w_p1 (by decide) (Or.inr rfl) (w_p1 (by decide) (Or.inr rfl) e5464)), (w_p1 (by decide) (Or.inr rfl) (w_p1 (by decide) (Or.inr rfl) e5465)), (w_p1 (by decide) (Or.inr rfl) (w_p1 (by decide) (Or.inr rfl) e5466)), (w_p1 (by decide) (Or.inr rfl) (w_e1 _ _ _)), (w_e1 _ _ _), by decide⟩
      rintro n5677 l5676 g5673 ⟨x5671, x5672, hm5687, hI5674, hF5675, e5679, e5680, e5681, e5682, e5683, e5684, r5685⟩ ih5678
      refine At.enter rfl ?_
      refine r_iload e5684 ?_
      refine r_iload e5683 ?_
      have bv5689 := q_bnd x5672
      have bv5690 := q_bnd v5487
      refine r_ics 39 rfl (fun c5688 => ?_) (fun c5688 => ?_)
      · have c5688_ : x5672.toInt ≥ v5487.toInt := en_i_ge_t c5688
        refine At.enter rfl ?_
        refine q_iinc e5682 (x5456.toInt + 1) rfl (by omega) (fun v5691 hv5691 => ?_)
        refine r_goto ?_
        have bv5692 := q_bnd x5671
        exact ih5462 (8 - v5691.toInt) _ _ ⟨x5671, v5691, by first | rfl | omega, hI5674, hF5675, (w_p1 (by decide) (Or.inr rfl) e5679), (w_p1 (by decide) (Or.inr rfl) e5680), (w_p1 (by decide) (Or.inr rfl) e5681), (w_e1 _ _ _), by omega⟩ ⟨by omega, by omega⟩
      · have c5688_ : x5672.toInt < v5487.toInt := en_i_ge_f c5688
        refine At.enter rfl ?_
        refine r_iload_n e5681 ?_
        refine r_aload_n e5679 ?_
        refine q_getR (Sh.ref hI5674.1 kx_231 rfl) ?_
        refine r_iload e5684 ?_
        obtain ⟨v5693, hv5693⟩ : ∃ v, eA g5673 249 x5672.toInt = v := ⟨_, rfl⟩
        have rv5693 := RgA.at hI5674.2.2.1 (Sh.arr hI5674.1 ka_249).2 (p := 249) rfl (j := x5672.toInt) (by omega)
        rw [hv5693] at rv5693
        dsimp only at rv5693
        refine q_iald (Sh.arr hI5674.1 ka_249) x5672.toInt rfl (by omega) v5693 hv5693 ?_
        refine r_iload_n e5680 ?_
        refine r_ics 51 rfl (fun c5694 => ?_) (fun c5694 => ?_)
        · have c5694_ : v5693.toInt ≠ a1.toInt := en_i_ne_t c5694
          refine At.enter rfl ?_
          refine r_iconst 0 rfl ?_
          refine Ar.fall 61 rfl ?_
          refine At.enter rfl ?_
          have bv5695 := q_bnd x5671
          refine q_iadd (x5671.toInt + 0) rfl (by omega) (fun v5696 hv5696 => ?_)
          refine r_istore_n _ rfl ?_
          refine q_iinc (w_p1 (by decide) (Or.inr rfl) e5684) (x5672.toInt + 1) rfl (by omega) (fun v5697 hv5697 => ?_)
          refine r_goto ?_
          have bv5698 := q_bnd v5696
          exact ih5678 (12 - v5697.toInt) _ _ ⟨v5696, v5697, by first | rfl | omega, hI5674, hF5675, (w_p1 (by decide) (Or.inr rfl) (w_p1 (by decide) (Or.inr rfl) e5679)), (w_p1 (by decide) (Or.inr rfl) (w_p1 (by decide) (Or.inr rfl) e5680)), (w_p1 (by decide) (Or.inr rfl) (w_e1 _ _ _)), (w_p1 (by decide) (Or.inr rfl) (w_p1 (by decide) (Or.inr rfl) e5682)), (w_p1 (by decide) (Or.inr rfl) (w_p1 (by decide) (Or.inr rfl) e5683)), (w_e1 _ _ _), by omega⟩ ⟨by omega, by omega⟩
        · have c5694_ : v5693.toInt = a1.toInt := en_i_ne_f c5694
          refine At.enter rfl ?_
          refine r_aload_n e5679 ?_
          refine r_iload_n e5682 ?_
          refine r_iload_n e5680 ?_
          refine r_callV 57 rfl [.ref 231, .int x5456, .int a1] [.int x5671] (Nat.le_of_ble_eq_true rfl) rfl (T_X11_feeOf_231 _ hI5674 x5456 (by omega) a1 (by omega)) ?_
          rintro _ _ ⟨g5699, rfl, hI5700, hF5701, v5702, rfl, hr5703⟩
          refine At.sti ?_
          have hF5704 := Fr.tr hF5675 hF5701 rfl rfl
          refine At.enter rfl ?_
          refine r_goto ?_
          refine At.enter rfl ?_
          refine q_iaddO (fun v5705 _ => ?_)
          refine r_istore_n _ rfl ?_
          refine q_iinc (w_p1 (by decide) (Or.inr rfl) e5684) (x5672.toInt + 1) rfl (by omega) (fun v5706 hv5706 => ?_)
          refine r_goto ?_
          have bv5707 := q_bnd v5705
          exact ih5678 (12 - v5706.toInt) _ _ ⟨v5705, v5706, by first | rfl | omega, hI5700, hF5704, (w_p1 (by decide) (Or.inr rfl) (w_p1 (by decide) (Or.inr rfl) e5679)), (w_p1 (by decide) (Or.inr rfl) (w_p1 (by decide) (Or.inr rfl) e5680)), (w_p1 (by decide) (Or.inr rfl) (w_e1 _ _ _)), (w_p1 (by decide) (Or.inr rfl) (w_p1 (by decide) (Or.inr rfl) e5682)), (w_p1 (by decide) (Or.inr rfl) (w_p1 (by decide) (Or.inr rfl) e5683)), (w_e1 _ _ _), by omega⟩ ⟨by omega, by omega⟩

def F_X11_income_231 : List (Nat × Nat) := [(231, 0), (231, 27), (231, 30), (231, 31), (231, 32), (231, 36)]
def A_X11_income_231 : List Nat := [246, 247, 248, 249]
set_option maxRecDepth 100000 in
set_option maxHeartbeats 4000000 in
theorem T_X11_income_231 (d : Nat) {N : Nat} {g0 : List en_E} (hI0 : HI g0) (a1 : Int32) : Ev (d + 9) 248 [.ref 231, .int a1] (g0, N) (fun w h' => ∃ g', h' = (g', N) ∧ HI g' ∧ Fr F_X11_income_231 A_X11_income_231 g0 g' ∧ ∃ r : Int32, w = some (.int r) ∧ True) := by
  have hF0 : Fr F_X11_income_231 A_X11_income_231 g0 g0 := Fr.rf
  refine Ev.mk rfl rfl ⟨Nat.le_of_ble_eq_true rfl, Or.inr (q_rc hI0.1 kx_231 rfl)⟩ ?_
  show At _ none _ _ (0, [(0, .ref 231), (1, .int a1)], [], (_, _)) _
  refine At.enter rfl ?_
  refine r_aload_n rfl ?_
  refine r_iconst 0 rfl ?_
  refine q_putI (Sh.int hI0.1 kx_231 rfl) rfl ?_
  have hI41 := HI.wI0 hI0 kx_231 rfl (p := 231) (b := 0) (v := 0) rfl
  have hF42 := Fr.wI (p := 231) (b := 0) (v := 0) hF0 rfl
  refine r_aload_n rfl ?_
  refine r_iload_n rfl ?_
  refine q_inlV 10 rfl [.ref 231, .int a1] [] (Nat.le_of_ble_eq_true rfl) rfl ?_
  refine Ev.mk rfl rfl ⟨Nat.le_of_ble_eq_true rfl, Or.inr (q_rc hI41.1 kx_231 rfl)⟩ ?_
  show At _ none _ _ (0, [(0, .ref 231), (1, .int a1)], [], (_, _)) _
  refine At.enter rfl ?_
  refine r_iload_n rfl ?_
  refine q_i2l (fun v43 hv43 => ?_)
  refine r_lconst 0 rfl ?_
  refine r_aload_n rfl ?_
  refine q_getR (Sh.ref hI41.1 kx_231 rfl) ?_
  refine r_iconst 0 rfl ?_
  obtain ⟨v44, hv44⟩ : ∃ v, eA g0 233 0 = v := ⟨_, rfl⟩
  have tv44 := congrArg Int32.toInt hv44
  have wv44 := HI.t0 hI0
  rw [hv44] at wv44
  refine q_iald (Sh.arr hI41.1 ka_233) 0 rfl (by decide) v44 ((eA_c (gA_sI)).trans hv44) ?_
  refine q_i2l (fun v45 hv45 => ?_)
  refine r_lconst 1 rfl ?_
  refine q_lsub (v45.toInt - 1) rfl (by omega) (fun v46 hv46 => ?_)
  refine q_inlS 15 rfl [.long v43, .long 0, .long v46] [] (Nat.le_of_ble_eq_true rfl) rfl ?_
  refine Ev.mk rfl rfl ⟨Nat.le_of_ble_eq_true rfl, Or.inl rfl⟩ ?_
  show At _ none _ _ (0, [(0, .long v43), (2, .long 0), (4, .long v46)], [], (_, _)) _
  refine At.enter rfl ?_
  refine r_lload_n rfl ?_
  refine r_lload_n rfl ?_
  refine r_lcmp _ rfl ?_
  refine r_ifs 6 rfl (fun c47 => ?_) (fun c47 => ?_)
  · have c47_ : v43.toInt < 0 := en_j_lt_t c47
    refine At.enter rfl ?_
    refine r_iconst 0 rfl ?_
    refine Ar.fall 18 rfl ?_
    refine At.enter rfl ?_
    refine q_iretz (by decide) ?_
    refine At.enter rfl ?_
    refine q_iretz (by decide) ?_
    refine At.enter rfl ?_
    refine r_iff 13 rfl (by decide) ?_
    refine At.enter rfl ?_
    refine r_iconst (-1) rfl ?_
    refine r_ireti ?_
    exact ⟨_, rfl, hI41, hF42, _, rfl, trivial⟩
  · have c47_ : v43.toInt ≥ 0 := en_j_lt_f c47
    refine At.enter rfl ?_
    refine r_lload_n rfl ?_
    refine r_lload rfl ?_
    refine r_lcmp _ rfl ?_
    refine r_ifs 13 rfl (fun c48 => ?_) (fun c48 => ?_)
    · have c48_ : v43.toInt > v46.toInt := en_j_gt_t c48
      refine At.enter rfl ?_
      refine r_iconst 0 rfl ?_
      refine Ar.fall 18 rfl ?_
      refine At.enter rfl ?_
      refine q_iretz (by decide) ?_
      refine At.enter rfl ?_
      refine q_iretz (by decide) ?_
      refine At.enter rfl ?_
      refine r_iff 13 rfl (by decide) ?_
      refine At.enter rfl ?_
      refine r_iconst (-1) rfl ?_
      refine r_ireti ?_
      exact ⟨_, rfl, hI41, hF42, _, rfl, trivial⟩
    · have c48_ : v43.toInt ≤ v46.toInt := en_j_gt_f c48
      refine At.enter rfl ?_
      refine r_iconst 1 rfl ?_
      refine r_goto ?_
      refine At.enter rfl ?_
      refine q_iretz (by decide) ?_
      refine At.enter rfl ?_
      refine q_iretz (by decide) ?_
      refine At.enter rfl ?_
      refine r_ift (by decide) ?_
      refine At.enter rfl ?_
      refine r_aload_n rfl ?_
      refine r_callV 19 rfl [.ref 231] [] (Nat.le_of_ble_eq_true rfl) rfl (T_X11_asIs_231 _ hI41) ?_
      rintro _ _ ⟨g49, rfl, hI50, hF51, rfl⟩
      refine At.stn ?_
      have hF54 := Fr.tr hF42 hF51 rfl rfl
      refine At.enter rfl ?_
      refine r_aload_n rfl ?_
      refine r_iload_n rfl ?_
      refine r_callV 24 rfl [.ref 231, .int a1] [] (Nat.le_of_ble_eq_true rfl) rfl (T_X11_incomeOf_231 _ hI50 a1 (by omega)) ?_
      rintro _ _ ⟨g55, rfl, hI56, hF57, v58, rfl, hr59⟩
      refine At.sti ?_
      have hF60 := Fr.tr hF54 hF57 rfl rfl
      refine At.enter rfl ?_
      refine r_ireti ?_
      exact ⟨_, rfl, hI56, hF60, _, rfl, trivial⟩

def F_X11_answerOf_231 : List (Nat × Nat) := [(231, 27), (231, 30), (231, 31), (231, 32), (231, 47)]
def A_X11_answerOf_231 : List Nat := [247, 249]
theorem mf_X11_incomeOf_231_231_47 : memF F_X11_incomeOf_231 231 47 = false := by decide
set_option maxRecDepth 100000 in
set_option maxHeartbeats 4000000 in
theorem T_X11_answerOf_231 (d : Nat) {N : Nat} {g0 : List en_E} (hI0 : HI g0) (a1 : Int32) (h_a1 : 0 ≤ a1.toInt ∧ a1.toInt ≤ 11) : Ev (d + 9) 249 [.ref 231, .int a1] (g0, N) (fun w h' => ∃ g', h' = (g', N) ∧ HI g' ∧ Fr F_X11_answerOf_231 A_X11_answerOf_231 g0 g' ∧ ∃ r : Int32, w = some (.int r) ∧ (0 ≤ r.toInt ∧ r.toInt ≤ 99)) := by
  have hF0 : Fr F_X11_answerOf_231 A_X11_answerOf_231 g0 g0 := Fr.rf
  refine Ev.mk rfl rfl ⟨Nat.le_of_ble_eq_true rfl, Or.inr (q_rc hI0.1 kx_231 rfl)⟩ ?_
  show At _ none _ _ (0, [(0, .ref 231), (1, .int a1)], [], (_, _)) _
  refine At.enter rfl ?_
  refine r_aload_n rfl ?_
  refine q_getR (Sh.ref hI0.1 kx_231 rfl) ?_
  refine r_iload_n rfl ?_
  obtain ⟨v945, hv945⟩ : ∃ v, eA g0 247 a1.toInt = v := ⟨_, rfl⟩
  refine q_iald (Sh.arr hI0.1 ka_247) a1.toInt rfl (by omega) v945 hv945 ?_
  refine r_istore_n ([(2, .int v945), (0, .ref 231), (1, .int a1)]) rfl ?_
  refine r_iconst 0 rfl ?_
  refine r_istore_n ([(3, .int 0), (2, .int v945), (0, .ref 231), (1, .int a1)]) rfl ?_
  refine r_aload_n rfl ?_
  refine r_iconst (-1) rfl ?_
  refine q_putI (Sh.int hI0.1 kx_231 rfl) rfl ?_
  have hI946 := HI.wI0 hI0 kx_231 rfl (p := 231) (b := 47) (v := (-1)) rfl
  have hF947 := Fr.wI (p := 231) (b := 47) (v := (-1)) hF0 rfl
  refine r_iconst 0 rfl ?_
  refine r_istore ([(4, .int 0), (3, .int 0), (2, .int v945), (0, .ref 231), (1, .int a1)]) rfl ?_
  refine Ar.fall 17 rfl ?_
  have z_1385 : (0 : Int32).toInt = 0 := rfl
  have z_1386 : (0 : Int32).toInt = 0 := rfl
  refine w_loopI (fun n_ l_ g_ => ∃ x1370 : Int32, ∃ x1371 : Int32, n_ = 100 - x1371.toInt ∧ HI g_ ∧ Fr F_X11_answerOf_231 A_X11_answerOf_231 g0 g_ ∧ en_get 0 l_ = some (.ref 231) ∧ en_get 1 l_ = some (.int a1) ∧ en_get 2 l_ = some (.int v945) ∧ en_get 3 l_ = some (.int x1370) ∧ en_get 4 l_ = some (.int x1371) ∧ (0 ≤ x1370.toInt ∧ x1370.toInt ≤ 99) ∧ (0 ≤ x1371.toInt ∧ x1371.toInt ≤ 100)) ?_ (100 - 0) ⟨0, 0, by first | rfl | omega, hI946, hF947, rfl, rfl, rfl, rfl, rfl, by decide, by decide⟩
  rintro n1376 l1375 g1372 ⟨x1370, x1371, hm1387, hI1373, hF1374, e1378, e1379, e1380, e1381, e1382, r1383, r1384⟩ ih1377
  refine At.enter rfl ?_
  refine r_iload e1382 ?_
  refine r_bipush 100 rfl ?_
  refine r_ics 24 rfl (fun c1388 => ?_) (fun c1388 => ?_)
  · have c1388_ : x1371.toInt ≥ 100 := en_i_ge_t c1388
    refine At.enter rfl ?_
    refine r_aload_n e1378 ?_
    refine q_getR (Sh.ref hI1373.1 kx_231 rfl) ?_
    refine r_iload_n e1379 ?_
    refine r_iload_n e1380 ?_
    refine q_iast (Sh.arr hI1373.1 ka_247) (a1.toInt) rfl (by omega) ?_
    have hI1389 := HI.wA0 hI1373 ka_247 (p := 247) rfl rfl (a1.toInt) (v945)
    have hF1390 := Fr.wA (p := 247) (j := a1.toInt) (v := v945) hF1374 rfl
    refine r_iload_n e1381 ?_
    refine r_ireti ?_
    exact ⟨_, rfl, hI1389, hF1390, _, rfl, by omega⟩
  · have c1388_ : x1371.toInt < 100 := en_i_ge_f c1388
    refine At.enter rfl ?_
    refine r_aload_n e1378 ?_
    refine q_getR (Sh.ref hI1373.1 kx_231 rfl) ?_
    refine r_iload_n e1379 ?_
    refine r_iload e1382 ?_
    refine q_iast (Sh.arr hI1373.1 ka_247) (a1.toInt) rfl (by omega) ?_
    have hI1391 := HI.wA0 hI1373 ka_247 (p := 247) rfl rfl (a1.toInt) (x1371)
    have hF1392 := Fr.wA (p := 247) (j := a1.toInt) (v := x1371) hF1374 rfl
    refine r_aload_n e1378 ?_
    refine r_iload_n e1379 ?_
    refine r_callV 37 rfl [.ref 231, .int a1] [] (Nat.le_of_ble_eq_true rfl) rfl (T_X11_incomeOf_231 _ hI1391 a1 (by omega)) ?_
    rintro _ _ ⟨g1393, rfl, hI1394, hF1395, v1396, rfl, hr1397⟩
    refine At.sti ?_
    have hF1398 := Fr.tr hF1392 hF1395 rfl rfl
    refine At.enter rfl ?_
    refine r_istore _ rfl ?_
    refine r_iload (w_e1 _ _ _) ?_
    refine r_aload_n (w_p1 (by decide) (Or.inr rfl) e1378) ?_
    obtain ⟨v1399, hv1399⟩ : ∃ v, gI g1372 231 47 = v := ⟨_, rfl⟩
    refine q_getI (Sh.int hI1394.1 kx_231 rfl) v1399 (((hF1395.1 231 47 mf_X11_incomeOf_231_231_47).trans (gI_sW)).trans hv1399) ?_
    have bv1401 := q_bnd v1396
    have bv1402 := q_bnd v1399
    refine r_ics 48 rfl (fun c1400 => ?_) (fun c1400 => ?_)
    · have c1400_ : v1396.toInt ≤ v1399.toInt := en_i_le_t c1400
      refine At.enter rfl ?_
      refine r_iload_n (w_p1 (by decide) (Or.inr rfl) e1381) ?_
      refine Ar.fall 54 rfl ?_
      refine At.enter rfl ?_
      refine r_istore_n _ rfl ?_
      refine r_aload_n (w_p1 (by decide) (Or.inr rfl) (w_p1 (by decide) (Or.inr rfl) e1378)) ?_
      refine r_iload (w_p1 (by decide) (Or.inr rfl) (w_e1 _ _ _)) ?_
      refine r_aload_n (w_p1 (by decide) (Or.inr rfl) (w_p1 (by decide) (Or.inr rfl) e1378)) ?_
      refine q_getI (Sh.int hI1394.1 kx_231 rfl) v1399 (((hF1395.1 231 47 mf_X11_incomeOf_231_231_47).trans (gI_sW)).trans hv1399) ?_
      refine r_ics 65 rfl (fun c1403 => ?_) (fun c1403 => ?_)
      · have c1403_ : v1396.toInt ≤ v1399.toInt := en_i_le_t c1403
        refine At.enter rfl ?_
        refine r_aload_n (w_p1 (by decide) (Or.inr rfl) (w_p1 (by decide) (Or.inr rfl) e1378)) ?_
        refine q_getI (Sh.int hI1394.1 kx_231 rfl) v1399 (((hF1395.1 231 47 mf_X11_incomeOf_231_231_47).trans (gI_sW)).trans hv1399) ?_
        refine Ar.fall 74 rfl ?_
        refine At.enter rfl ?_
        refine q_putI (Sh.int hI1394.1 kx_231 rfl) rfl ?_
        have hI1404 := HI.wI0 hI1394 kx_231 rfl (p := 231) (b := 47) (v := v1399) rfl
        have hF1405 := Fr.wI (p := 231) (b := 47) (v := v1399) hF1398 rfl
        refine q_iinc (w_p1 (by decide) (Or.inr rfl) (w_p1 (by decide) (Or.inr rfl) e1382)) (x1371.toInt + 1) rfl (by omega) (fun v1406 hv1406 => ?_)
        refine r_goto ?_
        exact ih1377 (100 - v1406.toInt) _ _ ⟨x1370, v1406, by first | rfl | omega, hI1404, hF1405, (w_p1 (by decide) (Or.inr rfl) (w_p1 (by decide) (Or.inr rfl) (w_p1 (by decide) (Or.inr rfl) e1378))), (w_p1 (by decide) (Or.inr rfl) (w_p1 (by decide) (Or.inr rfl) (w_p1 (by decide) (Or.inr rfl) e1379))), (w_p1 (by decide) (Or.inr rfl) (w_p1 (by decide) (Or.inr rfl) (w_p1 (by decide) (Or.inr rfl) e1380))), (w_p1 (by decide) (Or.inr rfl) (w_e1 _ _ _)), (w_e1 _ _ _), by omega, by omega⟩ ⟨by omega, by omega⟩
      · have c1403_ : v1396.toInt > v1399.toInt := en_i_le_f c1403
        refine At.enter rfl ?_
        refine r_iload (w_p1 (by decide) (Or.inr rfl) (w_e1 _ _ _)) ?_
        refine r_goto ?_
        refine At.enter rfl ?_
        refine q_putI (Sh.int hI1394.1 kx_231 rfl) rfl ?_
        have hI1407 := HI.wI0 hI1394 kx_231 rfl (p := 231) (b := 47) (v := v1396) rfl
        have hF1408 := Fr.wI (p := 231) (b := 47) (v := v1396) hF1398 rfl
        refine q_iinc (w_p1 (by decide) (Or.inr rfl) (w_p1 (by decide) (Or.inr rfl) e1382)) (x1371.toInt + 1) rfl (by omega) (fun v1409 hv1409 => ?_)
        refine r_goto ?_
        exact ih1377 (100 - v1409.toInt) _ _ ⟨x1370, v1409, by first | rfl | omega, hI1407, hF1408, (w_p1 (by decide) (Or.inr rfl) (w_p1 (by decide) (Or.inr rfl) (w_p1 (by decide) (Or.inr rfl) e1378))), (w_p1 (by decide) (Or.inr rfl) (w_p1 (by decide) (Or.inr rfl) (w_p1 (by decide) (Or.inr rfl) e1379))), (w_p1 (by decide) (Or.inr rfl) (w_p1 (by decide) (Or.inr rfl) (w_p1 (by decide) (Or.inr rfl) e1380))), (w_p1 (by decide) (Or.inr rfl) (w_e1 _ _ _)), (w_e1 _ _ _), by omega, by omega⟩ ⟨by omega, by omega⟩
    · have c1400_ : v1396.toInt > v1399.toInt := en_i_le_f c1400
      refine At.enter rfl ?_
      refine r_iload (w_p1 (by decide) (Or.inr rfl) e1382) ?_
      refine r_goto ?_
      refine At.enter rfl ?_
      refine r_istore_n _ rfl ?_
      refine r_aload_n (w_p1 (by decide) (Or.inr rfl) (w_p1 (by decide) (Or.inr rfl) e1378)) ?_
      refine r_iload (w_p1 (by decide) (Or.inr rfl) (w_e1 _ _ _)) ?_
      refine r_aload_n (w_p1 (by decide) (Or.inr rfl) (w_p1 (by decide) (Or.inr rfl) e1378)) ?_
      refine q_getI (Sh.int hI1394.1 kx_231 rfl) v1399 (((hF1395.1 231 47 mf_X11_incomeOf_231_231_47).trans (gI_sW)).trans hv1399) ?_
      refine r_ics 65 rfl (fun c1410 => ?_) (fun c1410 => ?_)
      · have c1410_ : v1396.toInt ≤ v1399.toInt := en_i_le_t c1410
        refine At.enter rfl ?_
        refine r_aload_n (w_p1 (by decide) (Or.inr rfl) (w_p1 (by decide) (Or.inr rfl) e1378)) ?_
        refine q_getI (Sh.int hI1394.1 kx_231 rfl) v1399 (((hF1395.1 231 47 mf_X11_incomeOf_231_231_47).trans (gI_sW)).trans hv1399) ?_
        refine Ar.fall 74 rfl ?_
        refine At.enter rfl ?_
        refine q_putI (Sh.int hI1394.1 kx_231 rfl) rfl ?_
        have hI1411 := HI.wI0 hI1394 kx_231 rfl (p := 231) (b := 47) (v := v1399) rfl
        have hF1412 := Fr.wI (p := 231) (b := 47) (v := v1399) hF1398 rfl
        refine q_iinc (w_p1 (by decide) (Or.inr rfl) (w_p1 (by decide) (Or.inr rfl) e1382)) (x1371.toInt + 1) rfl (by omega) (fun v1413 hv1413 => ?_)
        refine r_goto ?_
        exact ih1377 (100 - v1413.toInt) _ _ ⟨x1371, v1413, by first | rfl | omega, hI1411, hF1412, (w_p1 (by decide) (Or.inr rfl) (w_p1 (by decide) (Or.inr rfl) (w_p1 (by decide) (Or.inr rfl) e1378))), (w_p1 (by decide) (Or.inr rfl) (w_p1 (by decide) (Or.inr rfl) (w_p1 (by decide) (Or.inr rfl) e1379))), (w_p1 (by decide) (Or.inr rfl) (w_p1 (by decide) (Or.inr rfl) (w_p1 (by decide) (Or.inr rfl) e1380))), (w_p1 (by decide) (Or.inr rfl) (w_e1 _ _ _)), (w_e1 _ _ _), by omega, by omega⟩ ⟨by omega, by omega⟩
      · have c1410_ : v1396.toInt > v1399.toInt := en_i_le_f c1410
        refine At.enter rfl ?_
        refine r_iload (w_p1 (by decide) (Or.inr rfl) (w_e1 _ _ _)) ?_
        refine r_goto ?_
        refine At.enter rfl ?_
        refine q_putI (Sh.int hI1394.1 kx_231 rfl) rfl ?_
        have hI1414 := HI.wI0 hI1394 kx_231 rfl (p := 231) (b := 47) (v := v1396) rfl
        have hF1415 := Fr.wI (p := 231) (b := 47) (v := v1396) hF1398 rfl
        refine q_iinc (w_p1 (by decide) (Or.inr rfl) (w_p1 (by decide) (Or.inr rfl) e1382)) (x1371.toInt + 1) rfl (by omega) (fun v1416 hv1416 => ?_)
        refine r_goto ?_
        exact ih1377 (100 - v1416.toInt) _ _ ⟨x1371, v1416, by first | rfl | omega, hI1414, hF1415, (w_p1 (by decide) (Or.inr rfl) (w_p1 (by decide) (Or.inr rfl) (w_p1 (by decide) (Or.inr rfl) e1378))), (w_p1 (by decide) (Or.inr rfl) (w_p1 (by decide) (Or.inr rfl) (w_p1 (by decide) (Or.inr rfl) e1379))), (w_p1 (by decide) (Or.inr rfl) (w_p1 (by decide) (Or.inr rfl) (w_p1 (by decide) (Or.inr rfl) e1380))), (w_p1 (by decide) (Or.inr rfl) (w_e1 _ _ _)), (w_e1 _ _ _), by omega, by omega⟩ ⟨by omega, by omega⟩
