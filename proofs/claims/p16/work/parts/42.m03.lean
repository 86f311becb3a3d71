def F_X11_incomeOf_231 : List (Nat × Nat) := [(231, 27), (231, 30), (231, 31), (231, 32)]
def A_X11_incomeOf_231 : List Nat := [249]
set_option maxRecDepth 100000 in
set_option maxHeartbeats 4000000 in
theorem T_X11_incomeOf_231 (d : Nat) {N : Nat} {g0 : List en_E} (hI0 : HI g0) (a1 : Int32) (h_a1 : 0 ≤ a1.toInt ∧ a1.toInt ≤ 11) : Ev (d + 8) 247 [.ref 231, .int a1] (g0, N) (fun w h' => ∃ g', h' = (g', N) ∧ HI g' ∧ Fr F_X11_incomeOf_231 A_X11_incomeOf_231 g0 g' ∧ ∃ r : Int32, w = some (.int r) ∧ True) := by
  have hF0 : Fr F_X11_incomeOf_231 A_X11_incomeOf_231 g0 g0 := Fr.rf
  refine Ev.mk rfl rfl ⟨Nat.le_of_ble_eq_true rfl, Or.inr (q_rc hI0.1 kx_231 rfl)⟩ ?_
  show At _ none _ _ (0, [(0, .ref 231), (1, .int a1)], [], (_, _)) _
  refine At.enter rfl ?_
  refine r_iconst 0 rfl ?_
  refine r_istore_n ([(2, .int 0), (0, .ref 231), (1, .int a1)]) rfl ?_
  refine r_iconst 0 rfl ?_
  refine r_istore_n ([(3, .int 0), (2, .int 0), (0, .ref 231), (1, .int a1)]) rfl ?_
  refine Ar.fall 4 rfl ?_
  have z_5583 : (0 : Int32).toInt = 0 := rfl
  have z_5584 : (0 : Int32).toInt = 0 := rfl
  refine w_loopI (fun n_ l_ g_ => ∃ x5570 : Int32, ∃ x5571 : Int32, n_ = 8 - x5571.toInt ∧ HI g_ ∧ Fr F_X11_incomeOf_231 A_X11_incomeOf_231 g0 g_ ∧ en_get 0 l_ = some (.ref 231) ∧ en_get 1 l_ = some (.int a1) ∧ en_get 2 l_ = some (.int x5570) ∧ en_get 3 l_ = some (.int x5571) ∧ (0 ≤ x5571.toInt ∧ x5571.toInt ≤ 8)) ?_ (8 - 0) ⟨0, 0, by first | rfl | omega, hI0, hF0, rfl, rfl, rfl, rfl, by decide⟩
  rintro n5576 l5575 g5572 ⟨x5570, x5571, hm5585, hI5573, hF5574, e5578, e5579, e5580, e5581, r5582⟩ ih5577
  refine At.enter rfl ?_
  refine r_iload_n e5581 ?_
  refine r_aload_n e5578 ?_
  refine q_getR (Sh.ref hI5573.1 kx_231 rfl) ?_
  refine r_iconst 1 rfl ?_
  obtain ⟨v5586, hv5586⟩ : ∃ v, eA g0 233 1 = v := ⟨_, rfl⟩
  have tv5586 := congrArg Int32.toInt hv5586
  have wv5586 := HI.t1 hI0
  rw [hv5586] at wv5586
  refine q_iald (Sh.arr hI5573.1 ka_233) 1 rfl (by decide) v5586 ((eA_c (hF5574.2.1 233 (by decide))).trans hv5586) ?_
  have bv5588 := q_bnd x5571
  have bv5589 := q_bnd v5586
  refine r_ics 14 rfl (fun c5587 => ?_) (fun c5587 => ?_)
  · have c5587_ : x5571.toInt ≥ v5586.toInt := en_i_ge_t c5587
    refine At.enter rfl ?_
    refine r_iload_n e5580 ?_
    refine r_ireti ?_
    exact ⟨_, rfl, hI5573, hF5574, _, rfl, trivial⟩
  · have c5587_ : x5571.toInt < v5586.toInt := en_i_ge_f c5587
    refine At.enter rfl ?_
    refine r_aload_n e5578 ?_
    refine r_iload_n e5581 ?_
    refine r_callV 19 rfl [.ref 231, .int x5571] [] (Nat.le_of_ble_eq_true rfl) rfl (T_X11_isSent_231 _ hI5573 x5571 (by omega) (by rw [eA_c ((hF5574.2.1 233 (by decide))), hv5586]; omega)) ?_
    rintro _ _ ⟨g5590, rfl, hI5591, hF5592, v5593, rfl, hr5594⟩
    refine At.sti ?_
    have hF5595 := Fr.tr hF5574 hF5592 rfl rfl
    refine At.enter rfl ?_
    refine r_ifs 22 rfl (fun c5596 => ?_) (fun c5596 => ?_)
    · have c5596_ : v5593.toInt = 0 := en_k_eq_t c5596
      refine At.enter rfl ?_
      refine q_iinc e5581 (x5571.toInt + 1) rfl (by omega) (fun v5597 hv5597 => ?_)
      refine r_goto ?_
      have bv5598 := q_bnd x5570
      exact ih5577 (8 - v5597.toInt) _ _ ⟨x5570, v5597, by first | rfl | omega, hI5591, hF5595, (w_p1 (by decide) (Or.inr rfl) e5578), (w_p1 (by decide) (Or.inr rfl) e5579), (w_p1 (by decide) (Or.inr rfl) e5580), (w_e1 _ _ _), by omega⟩ ⟨by omega, by omega⟩
    · have c5596_ : v5593.toInt ≠ 0 := en_k_eq_f c5596
      refine At.enter rfl ?_
      refine r_aload_n e5578 ?_
      refine r_iload_n e5581 ?_
      refine r_callV 27 rfl [.ref 231, .int x5571] [] (Nat.le_of_ble_eq_true rfl) rfl (T_X11_findWay_231 _ hI5591 x5571 (by omega) (by rw [eA_c (((hF5592.2.1 233 (by decide)).trans (hF5574.2.1 233 (by decide)))), hv5586]; omega)) ?_
      rintro _ _ ⟨g5599, rfl, hI5600, hF5601, v5602, rfl, hr5603⟩
      refine At.sti ?_
      have hF5604 := Fr.tr hF5595 hF5601 rfl rfl
      obtain ⟨w5605, w5606, w5607, w5608⟩ := hr5603
      have w5609 := And.intro w5605 w5606
      have fw5610 : ∀ j : Int, 0 ≤ j → j ≤ v5602.toInt → (eA g5599 249 j).toInt < (eA g0 233 0).toInt := fun j a b => by have z := w5609.2 j a b; rw [eA_c (((hF5592.2.1 233 (by decide)).trans (hF5574.2.1 233 (by decide))))] at z; exact z
      refine At.enter rfl ?_
      refine r_istore _ rfl ?_
      refine r_iconst 0 rfl ?_
      refine r_istore _ rfl ?_
      refine Ar.fall 32 rfl ?_
      have z_5806 : (0 : Int32).toInt = 0 := rfl
      refine w_loopI (fun n_ l_ g_ => ∃ x5791 : Int32, ∃ x5792 : Int32, n_ = 12 - x5792.toInt ∧ HI g_ ∧ Fr F_X11_incomeOf_231 A_X11_incomeOf_231 g0 g_ ∧ en_get 0 l_ = some (.ref 231) ∧ en_get 1 l_ = some (.int a1) ∧ en_get 2 l_ = some (.int x5791) ∧ en_get 3 l_ = some (.int x5571) ∧ en_get 4 l_ = some (.int v5602) ∧ en_get 5 l_ = some (.int x5792) ∧ (0 ≤ x5792.toInt ∧ x5792.toInt ≤ 12)) ?_ (12 - 0) ⟨x5570, 0, by first | rfl | omega, hI5600, hF5604, (w_p1 (by decide) (Or.inr rfl) (w_p1 (by decide) (Or.inr rfl) e5578)), (w_p1 (by decide) (Or.inr rfl) (w_p1 (by decide) (Or.inr rfl) e5579)), (w_p1 (by decide) (Or.inr rfl) (w_p1 (by decide) (Or.inr rfl) e5580)), (w_p1 (by decide) (Or.inr rfl) (w_p1 (by decide) (Or.inr rfl) e5581)), (w_p1 (by decide) (Or.inr rfl) (w_e1 _ _ _)), (w_e1 _ _ _), by decide⟩
      rintro n5797 l5796 g5793 ⟨x5791, x5792, hm5807, hI5794, hF5795, e5799, e5800, e5801, e5802, e5803, e5804, r5805⟩ ih5798
      refine At.enter rfl ?_
      refine r_iload e5804 ?_
      refine r_iload e5803 ?_
      have bv5809 := q_bnd x5792
      have bv5810 := q_bnd v5602
      refine r_ics 39 rfl (fun c5808 => ?_) (fun c5808 => ?_)
      · have c5808_ : x5792.toInt ≥ v5602.toInt := en_i_ge_t c5808
        refine At.enter rfl ?_
        refine q_iinc e5802 (x5571.toInt + 1) rfl (by omega) (fun v5811 hv5811 => ?_)
        refine r_goto ?_
        have bv5812 := q_bnd x5791
        exact ih5577 (8 - v5811.toInt) _ _ ⟨x5791, v5811, by first | rfl | omega, hI5794, hF5795, (w_p1 (by decide) (Or.inr rfl) e5799), (w_p1 (by decide) (Or.inr rfl) e5800), (w_p1 (by decide) (Or.inr rfl) e5801), (w_e1 _ _ _), by omega⟩ ⟨by omega, by omega⟩
      · have c5808_ : x5792.toInt < v5602.toInt := en_i_ge_f c5808
        refine At.enter rfl ?_
        refine r_iload_n e5801 ?_
        refine r_aload_n e5799 ?_
        refine q_getR (Sh.ref hI5794.1 kx_231 rfl) ?_
        refine r_iload e5804 ?_
        obtain ⟨v5813, hv5813⟩ : ∃ v, eA g5793 249 x5792.toInt = v := ⟨_, rfl⟩
        have rv5813 := RgA.at hI5794.2.2.1 (Sh.arr hI5794.1 ka_249).2 (p := 249) rfl (j := x5792.toInt) (by omega)
        rw [hv5813] at rv5813
        dsimp only at rv5813
        refine q_iald (Sh.arr hI5794.1 ka_249) x5792.toInt rfl (by omega) v5813 hv5813 ?_
        refine r_iload_n e5800 ?_
        refine r_ics 51 rfl (fun c5814 => ?_) (fun c5814 => ?_)
        · have c5814_ : v5813.toInt ≠ a1.toInt := en_i_ne_t c5814
          refine At.enter rfl ?_
          refine r_iconst 0 rfl ?_
          refine Ar.fall 61 rfl ?_
          refine At.enter rfl ?_
          have bv5815 := q_bnd x5791
          refine q_iadd (x5791.toInt + 0) rfl (by omega) (fun v5816 hv5816 => ?_)
          refine r_istore_n _ rfl ?_
          refine q_iinc (w_p1 (by decide) (Or.inr rfl) e5804) (x5792.toInt + 1) rfl (by omega) (fun v5817 hv5817 => ?_)
          refine r_goto ?_
          have bv5818 := q_bnd v5816
          exact ih5798 (12 - v5817.toInt) _ _ ⟨v5816, v5817, by first | rfl | omega, hI5794, hF5795, (w_p1 (by decide) (Or.inr rfl) (w_p1 (by decide) (Or.inr rfl) e5799)), (w_p1 (by decide) (Or.inr rfl) (w_p1 (by decide) (Or.inr rfl) e5800)), (w_p1 (by decide) (Or.inr rfl) (w_e1 _ _ _)), (w_p1 (by decide) (Or.inr rfl) (w_p1 (by decide) (Or.inr rfl) e5802)), (w_p1 (by decide) (Or.inr rfl) (w_p1 (by decide) (Or.inr rfl) e5803)), (w_e1 _ _ _), by omega⟩ ⟨by omega, by omega⟩
        · have c5814_ : v5813.toInt = a1.toInt := en_i_ne_f c5814
          refine At.enter rfl ?_
          refine r_aload_n e5799 ?_
          refine r_iload_n e5802 ?_
          refine r_iload_n e5800 ?_
          refine r_callV 57 rfl [.ref 231, .int x5571, .int a1] [.int x5791] (Nat.le_of_ble_eq_true rfl) rfl (T_X11_feeOf_231 _ hI5794 x5571 (by omega) a1 (by omega)) ?_
          rintro _ _ ⟨g5819, rfl, hI5820, hF5821, v5822, rfl, hr5823⟩
          refine At.sti ?_
          have hF5824 := Fr.tr hF5795 hF5821 rfl rfl
          refine At.enter rfl ?_
          refine r_goto ?_
          refine At.enter rfl ?_
          refine q_iaddO (fun v5825 _ => ?_)
          refine r_istore_n _ rfl ?_
          refine q_iinc (w_p1 (by decide) (Or.inr rfl) e5804) (x5792.toInt + 1) rfl (by omega) (fun v5826 hv5826 => ?_)
          refine r_goto ?_
          have bv5827 := q_bnd v5825
          exact ih5798 (12 - v5826.toInt) _ _ ⟨v5825, v5826, by first | rfl | omega, hI5820, hF5824, (w_p1 (by decide) (Or.inr rfl) (w_p1 (by decide) (Or.inr rfl) e5799)), (w_p1 (by decide) (Or.inr rfl) (w_p1 (by decide) (Or.inr rfl) e5800)), (w_p1 (by decide) (Or.inr rfl) (w_e1 _ _ _)), (w_p1 (by decide) (Or.inr rfl) (w_p1 (by decide) (Or.inr rfl) e5802)), (w_p1 (by decide) (Or.inr rfl) (w_p1 (by decide) (Or.inr rfl) e5803)), (w_e1 _ _ _), by omega⟩ ⟨by omega, by omega⟩

def F_X11_income_231 : List (Nat × Nat) := [(231, 0), (231, 27), (231, 30), (231, 31), (231, 32), (231, 36)]
def A_X11_income_231 : List Nat := [246, 247, 248, 249]
set_option maxRecDepth 100000 in
set_option maxHeartbeats 4000000 in
theorem T_X11_income_231 (d : Nat) {N : Nat} {g0 : List en_E} (hI0 : HI g0) (a1 : Int32) : Ev (d + 9) 248 [.ref 231, .int a1] (g0, N) (fun w h' => ∃ g', h' = (g', N) ∧ HI g' ∧ Fr F_X11_income_231 A_X11_income_231 g0 g' ∧ ∃ r : Int32, w = some (.int r) ∧ True) := by
  have hF0 : Fr F_X11_income_231 A_X11_income_231 g0 g0 := Fr.rf
  refine Ev.mk rfl rfl ⟨Nat.le_of_ble_eq_true rfl, Or.inr (q_rc hI0.1 kx_231 rfl)⟩ ?_
  show At _ none _ _ (0, [(0, .ref 231), (1, .int a1)], [], (_, _)) _
  refine At.enter rfl ?_
  refine r_aload_n rfl ?_
  refine r_iconst 0 rfl ?_
  refine q_putI (Sh.int hI0.1 kx_231 rfl) rfl ?_
  have hI41 := HI.wI0 hI0 kx_231 rfl (p := 231) (b := 0) (v := 0) rfl
  have hF42 := Fr.wI (p := 231) (b := 0) (v := 0) hF0 rfl
  refine r_aload_n rfl ?_
  refine r_iload_n rfl ?_
  refine q_inlV 10 rfl [.ref 231, .int a1] [] (Nat.le_of_ble_eq_true rfl) rfl ?_
  refine Ev.mk rfl rfl ⟨Nat.le_of_ble_eq_true rfl, Or.inr (q_rc hI41.1 kx_231 rfl)⟩ ?_
  show At _ none _ _ (0, [(0, .ref 231), (1, .int a1)], [], (_, _)) _
  refine At.enter rfl ?_
  refine r_iload_n rfl ?_
  refine q_i2l (fun v43 hv43 => ?_)
  refine r_lconst 0 rfl ?_
  refine r_aload_n rfl ?_
  refine q_getR (Sh.ref hI41.1 kx_231 rfl) ?_
  refine r_iconst 0 rfl ?_
  obtain ⟨v44, hv44⟩ : ∃ v, eA g0 233 0 = v := ⟨_, rfl⟩
  have tv44 := congrArg Int32.toInt hv44
  have wv44 := HI.t0 hI0
  rw [hv44] at wv44
  refine q_iald (Sh.arr hI41.1 ka_233) 0 rfl (by decide) v44 ((eA_c (gA_sI)).trans hv44) ?_
  refine q_i2l (fun v45 hv45 => ?_)
  refine r_lconst 1 rfl ?_
  refine q_lsub (v45.toInt - 1) rfl (by omega) (fun v46 hv46 => ?_)
  refine q_inlS 15 rfl [.long v43, .long 0, .long v46] [] (Nat.le_of_ble_eq_true rfl) rfl ?_
  refine Ev.mk rfl rfl ⟨Nat.le_of_ble_eq_true rfl, Or.inl rfl⟩ ?_
  show At _ none _ _ (0, [(0, .long v43), (2, .long 0), (4, .long v46)], [], (_, _)) _
  refine At.enter rfl ?_
  refine r_lload_n rfl ?_
  refine r_lload_n rfl ?_
  refine r_lcmp _ rfl ?_
  refine r_ifs 6 rfl (fun c47 => ?_) (fun c47 => ?_)
  · have c47_ : v43.toInt < 0 := en_j_lt_t c47
    refine At.enter rfl ?_
    refine r_iconst 0 rfl ?_
    refine Ar.fall 18 rfl ?_
    refine At.enter rfl ?_
    refine q_iretz (by decide) ?_
    refine At.enter rfl ?_
    refine q_iretz (by decide) ?_
    refine At.enter rfl ?_
    refine r_iff 13 rfl (by decide) ?_
    refine At.enter rfl ?_
    refine r_iconst (-1) rfl ?_
    refine r_ireti ?_
    exact ⟨_, rfl, hI41, hF42, _, rfl, trivial⟩
  · have c47_ : v43.toInt ≥ 0 := en_j_lt_f c47
    refine At.enter rfl ?_
    refine r_lload_n rfl ?_
    refine r_lload rfl ?_
    refine r_lcmp _ rfl ?_
    refine r_ifs 13 rfl (fun c48 => ?_) (fun c48 => ?_)
    · have c48_ : v43.toInt > v46.toInt := en_j_gt_t c48
      refine At.enter rfl ?_
      refine r_iconst 0 rfl ?_
      refine Ar.fall 18 rfl ?_
      refine At.enter rfl ?_
      refine q_iretz (by decide) ?_
      refine At.enter rfl ?_
      refine q_iretz (by decide) ?_
      refine At.enter rfl ?_
      refine r_iff 13 rfl (by decide) ?_
      refine At.enter rfl ?_
      refine r_iconst (-1) rfl ?_
      refine r_ireti ?_
      exact ⟨_, rfl, hI41, hF42, _, rfl, trivial⟩
    · have c48_ : v43.toInt ≤ v46.toInt := en_j_gt_f c48
      refine At.enter rfl ?_
      refine r_iconst 1 rfl ?_
      refine r_goto ?_
      refine At.enter rfl ?_
      refine q_iretz (by decide) ?_
      refine At.enter rfl ?_
      refine q_iretz (by decide) ?_
      refine At.enter rfl ?_
      refine r_ift (by decide) ?_
      refine At.enter rfl ?_
      refine r_aload_n rfl ?_
      refine r_callV 19 rfl [.ref 231] [] (Nat.le_of_ble_eq_true rfl) rfl (T_X11_asIs_231 _ hI41) ?_
      rintro _ _ ⟨g49, rfl, hI50, hF51, rfl⟩
      refine At.stn ?_
      have hF54 := Fr.tr hF42 hF51 rfl rfl
      refine At.enter rfl ?_
      refine r_aload_n rfl ?_
      refine r_iload_n rfl ?_
      refine r_callV 24 rfl [.ref 231, .int a1] [] (Nat.le_of_ble_eq_true rfl) rfl (T_X11_incomeOf_231 _ hI50 a1 (by omega)) ?_
      rintro _ _ ⟨g55, rfl, hI56, hF57, v58, rfl, hr59⟩
      refine At.sti ?_
      have hF60 := Fr.tr hF54 hF57 rfl rfl
      refine At.enter rfl ?_
      refine r_ireti ?_
      exact ⟨_, rfl, hI56, hF60, _, rfl, trivial⟩

def F_X11_answerOf_231 : List (Nat × Nat) := [(231, 27), (231, 30), (231, 31), (231, 32), (231, 47)]
def A_X11_answerOf_231 : List Nat := [247, 249]
set_option maxRecDepth 100000 in
set_option maxHeartbeats 4000000 in
theorem T_X11_answerOf_231 (d : Nat) {N : Nat} {g0 : List en_E} (hI0 : HI g0) (a1 : Int32) (h_a1 : 0 ≤ a1.toInt ∧ a1.toInt ≤ 11) : Ev (d + 9) 249 [.ref 231, .int a1] (g0, N) (fun w h' => ∃ g', h' = (g', N) ∧ HI g' ∧ Fr F_X11_answerOf_231 A_X11_answerOf_231 g0 g' ∧ ∃ r : Int32, w = some (.int r) ∧ (0 ≤ r.toInt ∧ r.toInt ≤ 99)) := by
  have hF0 : Fr F_X11_answerOf_231 A_X11_answerOf_231 g0 g0 := Fr.rf
  refine Ev.mk rfl rfl ⟨Nat.le_of_ble_eq_true rfl, Or.inr (q_rc hI0.1 kx_231 rfl)⟩ ?_
  show At _ none _ _ (0, [(0, .ref 231), (1, .int a1)], [], (_, _)) _
  refine At.enter rfl ?_
  refine r_aload_n rfl ?_
  refine q_getR (Sh.ref hI0.1 kx_231 rfl) ?_
  refine r_iload_n rfl ?_
  obtain ⟨v945, hv945⟩ : ∃ v, eA g0 247 a1.toInt = v := ⟨_, rfl⟩
  refine q_iald (Sh.arr hI0.1 ka_247) a1.toInt rfl (by omega) v945 hv945 ?_
  refine r_istore_n ([(2, .int v945), (0, .ref 231), (1, .int a1)]) rfl ?_
  refine r_iconst 0 rfl ?_
  refine r_istore_n ([(3, .int 0), (2, .int v945), (0, .ref 231), (1, .int a1)]) rfl ?_
  refine r_aload_n rfl ?_
  refine r_iconst (-1) rfl ?_
  refine q_putI (Sh.int hI0.1 kx_231 rfl) rfl ?_
  have hI946 := HI.wI0 hI0 kx_231 rfl (p := 231) (b := 47) (v := (-1)) rfl
  have hF947 := Fr.wI (p := 231) (b := 47) (v := (-1)) hF0 rfl
  refine r_iconst 0 rfl ?_
  refine r_istore ([(4, .int 0), (3, .int 0), (2, .int v945), (0, .ref 231), (1, .int a1)]) rfl ?_
  refine Ar.fall 17 rfl ?_
  have z_1385 : (0 : Int32).toInt = 0 := rfl
  have z_1386 : (0 : Int32).toInt = 0 := rfl
  refine w_loopI (fun n_ l_ g_ => ∃ x1370 : Int32, ∃ x1371 : Int32, n_ = 100 - x1371.toInt ∧ HI g_ ∧ Fr F_X11_answerOf_231 A_X11_answerOf_231 g0 g_ ∧ en_get 0 l_ = some (.ref 231) ∧ en_get 1 l_ = some (.int a1) ∧ en_get 2 l_ = some (.int v945) ∧ en_get 3 l_ = some (.int x1370) ∧ en_get 4 l_ = some (.int x1371) ∧ (0 ≤ x1370.toInt ∧ x1370.toInt ≤ 99) ∧ (0 ≤ x1371.toInt ∧ x1371.toInt ≤ 100)) ?_ (100 - 0) ⟨0, 0, by first | rfl | omega, hI946, hF947, rfl, rfl, rfl, rfl, rfl, by decide, by decide⟩
  rintro n1376 l1375 g1372 ⟨x1370, x1371, hm1387, hI1373, hF1374, e1378, e1379, e1380, e1381, e1382, r1383, r1384⟩ ih1377
  refine At.enter rfl ?_
  refine r_iload e1382 ?_
  refine r_bipush 100 rfl ?_
  refine r_ics 24 rfl (fun c1388 => ?_) (fun c1388 => ?_)
  · have c1388_ : x1371.toInt ≥ 100 := en_i_ge_t c1388
    refine At.enter rfl ?_
    refine r_aload_n e1378 ?_
    refine q_getR (Sh.ref hI1373.1 kx_231 rfl) ?_
    refine r_iload_n e1379 ?_
    refine r_iload_n e1380 ?_
    refine q_iast (Sh.arr hI1373.1 ka_247) (a1.toInt) rfl (by omega) ?_
    have hI1389 := HI.wA0 hI1373 ka_247 (p := 247) rfl rfl (a1.toInt) (v945)
    have hF1390 := Fr.wA (p := 247) (j := a1.toInt) (v := v945) hF1374 rfl
    refine r_iload_n e1381 ?_
    refine r_ireti ?_
    exact ⟨_, rfl, hI1389, hF1390, _, rfl, by omega⟩
  · have c1388_ : x1371.toInt < 100 := en_i_ge_f c1388
    refine At.enter rfl ?_
    refine r_aload_n e1378 ?_
    refine q_getR (Sh.ref hI1373.1 kx_231 rfl) ?_
    refine r_iload_n e1379 ?_
    refine r_iload e1382 ?_
    refine q_iast (Sh.arr hI1373.1 ka_247) (a1.toInt) rfl (by omega) ?_
    have hI1391 := HI.wA0 hI1373 ka_247 (p := 247) rfl rfl (a1.toInt) (x1371)
    have hF1392 := Fr.wA (p := 247) (j := a1.toInt) (v := x1371) hF1374 rfl
    refine r_aload_n e1378 ?_
    refine r_iload_n e1379 ?_
    refine r_callV 37 rfl [.ref 231, .int a1] [] (Nat.le_of_ble_eq_true rfl) rfl (T_X11_incomeOf_231 _ hI1391 a1 (by omega)) ?_
    rintro _ _ ⟨g1393, rfl, hI1394, hF1395, v1396, rfl, hr1397⟩
    refine At.sti ?_
    have hF1398 := Fr.tr hF1392 hF1395 rfl rfl
    refine At.enter rfl ?_
    refine r_istore _ rfl ?_
    refine r_iload (w_e1 _ _ _) ?_
    refine r_aload_n (w_p1 (by decide) (Or.inr rfl) e1378) ?_
    obtain ⟨v1399, hv1399⟩ : ∃ v, gI g1372 231 47 = v := ⟨_, rfl⟩
    refine q_getI (Sh.int hI1394.1 kx_231 rfl) v1399 (((hF1395.1 231 47 (by decide)).trans (gI_sW)).trans hv1399) ?_
    have bv1401 := q_bnd v1396
    have bv1402 := q_bnd v1399
    refine r_ics 48 rfl (fun c1400 => ?_) (fun c1400 => ?_)
    · have c1400_ : v1396.toInt ≤ v1399.toInt := en_i_le_t c1400
      refine At.enter rfl ?_
      refine r_iload_n (w_p1 (by decide) (Or.inr rfl) e1381) ?_
      refine Ar.fall 54 rfl ?_
      refine At.enter rfl ?_
      refine r_istore_n _ rfl ?_
      refine r_aload_n (w_p1 (by decide) (Or.inr rfl) (w_p1 (by decide) (Or.inr rfl) e1378)) ?_
      refine r_iload (w_p1 (by decide) (Or.inr rfl) (w_e1 _ _ _)) ?_
      refine r_aload_n (w_p1 (by decide) (Or.inr rfl) (w_p1 (by decide) (Or.inr rfl) e1378)) ?_
      refine q_getI (Sh.int hI1394.1 kx_231 rfl) v1399 (((hF1395.1 231 47 (by decide)).trans (gI_sW)).trans hv1399) ?_
      refine r_ics 65 rfl (fun c1403 => ?_) (fun c1403 => ?_)
      · have c1403_ : v1396.toInt ≤ v1399.toInt := en_i_le_t c1403
        refine At.enter rfl ?_
        refine r_aload_n (w_p1 (by decide) (Or.inr rfl) (w_p1 (by decide) (Or.inr rfl) e1378)) ?_
        refine q_getI (Sh.int hI1394.1 kx_231 rfl) v1399 (((hF1395.1 231 47 (by decide)).trans (gI_sW)).trans hv1399) ?_
        refine Ar.fall 74 rfl ?_
        refine At.enter rfl ?_
        refine q_putI (Sh.int hI1394.1 kx_231 rfl) rfl ?_
        have hI1404 := HI.wI0 hI1394 kx_231 rfl (p := 231) (b := 47) (v := v1399) rfl
        have hF1405 := Fr.wI (p := 231) (b := 47) (v := v1399) hF1398 rfl
        refine q_iinc (w_p1 (by decide) (Or.inr rfl) (w_p1 (by decide) (Or.inr rfl) e1382)) (x1371.toInt + 1) rfl (by omega) (fun v1406 hv1406 => ?_)
        refine r_goto ?_
        exact ih1377 (100 - v1406.toInt) _ _ ⟨x1370, v1406, by first | rfl | omega, hI1404, hF1405, (w_p1 (by decide) (Or.inr rfl) (w_p1 (by decide) (Or.inr rfl) (w_p1 (by decide) (Or.inr rfl) e1378))), (w_p1 (by decide) (Or.inr rfl) (w_p1 (by decide) (Or.inr rfl) (w_p1 (by decide) (Or.inr rfl) e1379))), (w_p1 (by decide) (Or.inr rfl) (w_p1 (by decide) (Or.inr rfl) (w_p1 (by decide) (Or.inr rfl) e1380))), (w_p1 (by decide) (Or.inr rfl) (w_e1 _ _ _)), (w_e1 _ _ _), by omega, by omega⟩ ⟨by omega, by omega⟩
      · have c1403_ : v1396.toInt > v1399.toInt := en_i_le_f c1403
        refine At.enter rfl ?_
        refine r_iload (w_p1 (by decide) (Or.inr rfl) (w_e1 _ _ _)) ?_
        refine r_goto ?_
        refine At.enter rfl ?_
        refine q_putI (Sh.int hI1394.1 kx_231 rfl) rfl ?_
        have hI1407 := HI.wI0 hI1394 kx_231 rfl (p := 231) (b := 47) (v := v1396) rfl
        have hF1408 := Fr.wI (p := 231) (b := 47) (v := v1396) hF1398 rfl
        refine q_iinc (w_p1 (by decide) (Or.inr rfl) (w_p1 (by decide) (Or.inr rfl) e1382)) (x1371.toInt + 1) rfl (by omega) (fun v1409 hv1409 => ?_)
        refine r_goto ?_
        exact ih1377 (100 - v1409.toInt) _ _ ⟨x1370, v1409, by first | rfl | omega, hI1407, hF1408, (w_p1 (by decide) (Or.inr rfl) (w_p1 (by decide) (Or.inr rfl) (w_p1 (by decide) (Or.inr rfl) e1378))), (w_p1 (by decide) (Or.inr rfl) (w_p1 (by decide) (Or.inr rfl) (w_p1 (by decide) (Or.inr rfl) e1379))), (w_p1 (by decide) (Or.inr rfl) (w_p1 (by decide) (Or.inr rfl) (w_p1 (by decide) (Or.inr rfl) e1380))), (w_p1 (by decide) (Or.inr rfl) (w_e1 _ _ _)), (w_e1 _ _ _), by omega, by omega⟩ ⟨by omega, by omega⟩
    · have c1400_ : v1396.toInt > v1399.toInt := en_i_le_f c1400
      refine At.enter rfl ?_
      refine r_iload (w_p1 (by decide) (Or.inr rfl) e1382) ?_
      refine r_goto ?_
      refine At.enter rfl ?_
      refine r_istore_n _ rfl ?_
      refine r_aload_n (w_p1 (by decide) (Or.inr rfl) (w_p1 (by decide) (Or.inr rfl) e1378)) ?_
      refine r_iload (w_p1 (by decide) (Or.inr rfl) (w_e1 _ _ _)) ?_
      refine r_aload_n (w_p1 (by decide) (Or.inr rfl) (w_p1 (by decide) (Or.inr rfl) e1378)) ?_
      refine q_getI (Sh.int hI1394.1 kx_231 rfl) v1399 (((hF1395.1 231 47 (by decide)).trans (gI_sW)).trans hv1399) ?_
      refine r_ics 65 rfl (fun c1410 => ?_) (fun c1410 => ?_)
      · have c1410_ : v1396.toInt ≤ v1399.toInt := en_i_le_t c1410
        refine At.enter rfl ?_
        refine r_aload_n (w_p1 (by decide) (Or.inr rfl) (w_p1 (by decide) (Or.inr rfl) e1378)) ?_
        refine q_getI (Sh.int hI1394.1 kx_231 rfl) v1399 (((hF1395.1 231 47 (by decide)).trans (gI_sW)).trans hv1399) ?_
        refine Ar.fall 74 rfl ?_
        refine At.enter rfl ?_
        refine q_putI (Sh.int hI1394.1 kx_231 rfl) rfl ?_
        have hI1411 := HI.wI0 hI1394 kx_231 rfl (p := 231) (b := 47) (v := v1399) rfl
        have hF1412 := Fr.wI (p := 231) (b := 47) (v := v1399) hF1398 rfl
        refine q_iinc (w_p1 (by decide) (Or.inr rfl) (w_p1 (by decide) (Or.inr rfl) e1382)) (x1371.toInt + 1) rfl (by omega) (fun v1413 hv1413 => ?_)
        refine r_goto ?_
        exact ih1377 (100 - v1413.toInt) _ _ ⟨x1371, v1413, by first | rfl | omega, hI1411, hF1412, (w_p1 (by decide) (Or.inr rfl) (w_p1 (by decide) (Or.inr rfl) (w_p1 (by decide) (Or.inr rfl) e1378))), (w_p1 (by decide) (Or.inr rfl) (w_p1 (by decide) (Or.inr rfl) (w_p1 (by decide) (Or.inr rfl) e1379))), (w_p1 (by decide) (Or.inr rfl) (w_p1 (by decide) (Or.inr rfl) (w_p1 (by decide) (Or.inr rfl) e1380))), (w_p1 (by decide) (Or.inr rfl) (w_e1 _ _ _)), (w_e1 _ _ _), by omega, by omega⟩ ⟨by omega, by omega⟩
      · have c1410_ : v1396.toInt > v1399.toInt := en_i_le_f c1410
        refine At.enter rfl ?_
        refine r_iload (w_p1 (by decide) (Or.inr rfl) (w_e1 _ _ _)) ?_
        refine r_goto ?_
        refine At.enter rfl ?_
        refine q_putI (Sh.int hI1394.1 kx_231 rfl) rfl ?_
        have hI1414 := HI.wI0 hI1394 kx_231 rfl (p := 231) (b := 47) (v := v1396) rfl
        have hF1415 := Fr.wI (p := 231) (b := 47) (v := v1396) hF1398 rfl
        refine q_iinc (w_p1 (by decide) (Or.inr rfl) (w_p1 (by decide) (Or.inr rfl) e1382)) (x1371.toInt + 1) rfl (by omega) (fun v1416 hv1416 => ?_)
        refine r_goto ?_
        exact ih1377 (100 - v1416.toInt) _ _ ⟨x1371, v1416, by first | rfl | omega, hI1414, hF1415, (w_p1 (by decide) (Or.inr rfl) (w_p1 (by decide) (Or.inr rfl) (w_p1 (by decide) (Or.inr rfl) e1378))), (w_p1 (by decide) (Or.inr rfl) (w_p1 (by decide) (Or.inr rfl) (w_p1 (by decide) (Or.inr rfl) e1379))), (w_p1 (by decide) (Or.inr rfl) (w_p1 (by decide) (Or.inr rfl) (w_p1 (by decide) (Or.inr rfl) e1380))), (w_p1 (by decide) (Or.inr rfl) (w_e1 _ _ _)), (w_e1 _ _ _), by omega, by omega⟩ ⟨by omega, by omega⟩

def F_X11_answer_231 : List (Nat × Nat) := [(231, 0), (231, 27), (231, 30), (231, 31), (231, 32), (231, 36), (231, 47)]
def A_X11_answer_231 : List Nat := [246, 247, 248, 249]
set_option maxRecDepth 100000 in
set_option maxHeartbeats 4000000 in
theorem T_X11_answer_231 (d : Nat) {N : Nat} {g0 : List en_E} (hI0 : HI g0) (a1 : Int32) (a2 : Int32) : Ev (d + 10) 250 [.ref 231, .int a1, .int a2] (g0, N) (fun w h' => ∃ g', h' = (g', N) ∧ HI g' ∧ Fr F_X11_answer_231 A_X11_answer_231 g0 g' ∧ ∃ r : Int32, w = some (.int r) ∧ True) := by
  have hF0 : Fr F_X11_answer_231 A_X11_answer_231 g0 g0 := Fr.rf
  refine Ev.mk rfl rfl ⟨Nat.le_of_ble_eq_true rfl, Or.inr (q_rc hI0.1 kx_231 rfl)⟩ ?_
  show At _ none _ _ (0, [(0, .ref 231), (1, .int a1), (2, .int a2)], [], (_, _)) _
  refine At.enter rfl ?_
  refine r_aload_n rfl ?_
  refine r_iconst 0 rfl ?_
  refine q_putI (Sh.int hI0.1 kx_231 rfl) rfl ?_
  have hI51 := HI.wI0 hI0 kx_231 rfl (p := 231) (b := 0) (v := 0) rfl
  have hF52 := Fr.wI (p := 231) (b := 0) (v := 0) hF0 rfl
  refine r_aload_n rfl ?_
  refine r_iload_n rfl ?_
  refine q_inlV 10 rfl [.ref 231, .int a1] [] (Nat.le_of_ble_eq_true rfl) rfl ?_
  refine Ev.mk rfl rfl ⟨Nat.le_of_ble_eq_true rfl, Or.inr (q_rc hI51.1 kx_231 rfl)⟩ ?_
  show At _ none _ _ (0, [(0, .ref 231), (1, .int a1)], [], (_, _)) _
  refine At.enter rfl ?_
  refine r_iload_n rfl ?_
  refine q_i2l (fun v53 hv53 => ?_)
  refine r_lconst 0 rfl ?_
  refine r_aload_n rfl ?_
  refine q_getR (Sh.ref hI51.1 kx_231 rfl) ?_
  refine r_iconst 0 rfl ?_
  obtain ⟨v54, hv54⟩ : ∃ v, eA g0 233 0 = v := ⟨_, rfl⟩
  have tv54 := congrArg Int32.toInt hv54
  have wv54 := HI.t0 hI0
  rw [hv54] at wv54
  refine q_iald (Sh.arr hI51.1 ka_233) 0 rfl (by decide) v54 ((eA_c (gA_sI)).trans hv54) ?_
  refine q_i2l (fun v55 hv55 => ?_)
  refine r_lconst 1 rfl ?_
  refine q_lsub (v55.toInt - 1) rfl (by omega) (fun v56 hv56 => ?_)
  refine q_inlS 15 rfl [.long v53, .long 0, .long v56] [] (Nat.le_of_ble_eq_true rfl) rfl ?_
  refine Ev.mk rfl rfl ⟨Nat.le_of_ble_eq_true rfl, Or.inl rfl⟩ ?_
  show At _ none _ _ (0, [(0, .long v53), (2, .long 0), (4, .long v56)], [], (_, _)) _
  refine At.enter rfl ?_
  refine r_lload_n rfl ?_
  refine r_lload_n rfl ?_
  refine r_lcmp _ rfl ?_
  refine r_ifs 6 rfl (fun c57 => ?_) (fun c57 => ?_)
  · have c57_ : v53.toInt < 0 := en_j_lt_t c57
    refine At.enter rfl ?_
    refine r_iconst 0 rfl ?_
    refine Ar.fall 18 rfl ?_
    refine At.enter rfl ?_
    refine q_iretz (by decide) ?_
    refine At.enter rfl ?_
    refine q_iretz (by decide) ?_
    refine At.enter rfl ?_
    refine r_ift (by decide) ?_
    refine At.enter rfl ?_
    refine r_iconst (-1) rfl ?_
    refine r_ireti ?_
    exact ⟨_, rfl, hI51, hF52, _, rfl, trivial⟩
  · have c57_ : v53.toInt ≥ 0 := en_j_lt_f c57
    refine At.enter rfl ?_
    refine r_lload_n rfl ?_
    refine r_lload rfl ?_
    refine r_lcmp _ rfl ?_
    refine r_ifs 13 rfl (fun c58 => ?_) (fun c58 => ?_)
    · have c58_ : v53.toInt > v56.toInt := en_j_gt_t c58
      refine At.enter rfl ?_
      refine r_iconst 0 rfl ?_
      refine Ar.fall 18 rfl ?_
      refine At.enter rfl ?_
      refine q_iretz (by decide) ?_
      refine At.enter rfl ?_
      refine q_iretz (by decide) ?_
      refine At.enter rfl ?_
      refine r_ift (by decide) ?_
      refine At.enter rfl ?_
      refine r_iconst (-1) rfl ?_
      refine r_ireti ?_
      exact ⟨_, rfl, hI51, hF52, _, rfl, trivial⟩
    · have c58_ : v53.toInt ≤ v56.toInt := en_j_gt_f c58
      refine At.enter rfl ?_
      refine r_iconst 1 rfl ?_
      refine r_goto ?_
      refine At.enter rfl ?_
      refine q_iretz (by decide) ?_
      refine At.enter rfl ?_
      refine q_iretz (by decide) ?_
      refine At.enter rfl ?_
      refine r_iff 13 rfl (by decide) ?_
      refine At.enter rfl ?_
      refine r_iload_n rfl ?_
      refine q_i2l (fun v59 hv59 => ?_)
      refine r_lconst 0 rfl ?_
      refine r_lconst 1 rfl ?_
      refine q_inlS 20 rfl [.long v59, .long 0, .long 1] [] (Nat.le_of_ble_eq_true rfl) rfl ?_
      refine Ev.mk rfl rfl ⟨Nat.le_of_ble_eq_true rfl, Or.inl rfl⟩ ?_
      show At _ none _ _ (0, [(0, .long v59), (2, .long 0), (4, .long 1)], [], (_, _)) _
      refine At.enter rfl ?_
      refine r_lload_n rfl ?_
      refine r_lload_n rfl ?_
      refine r_lcmp _ rfl ?_
      refine r_ifs 6 rfl (fun c60 => ?_) (fun c60 => ?_)
      · have c60_ : v59.toInt < 0 := en_j_lt_t c60
        refine At.enter rfl ?_
        refine r_iconst 0 rfl ?_
        refine Ar.fall 18 rfl ?_
        refine At.enter rfl ?_
        refine q_iretz (by decide) ?_
        refine At.enter rfl ?_
        refine r_iff 23 rfl (by decide) ?_
        refine At.enter rfl ?_
        refine r_iconst (-1) rfl ?_
        refine r_ireti ?_
        exact ⟨_, rfl, hI51, hF52, _, rfl, trivial⟩
      · have c60_ : v59.toInt ≥ 0 := en_j_lt_f c60
        refine At.enter rfl ?_
        refine r_lload_n rfl ?_
        refine r_lload rfl ?_
        refine r_lcmp _ rfl ?_
        refine r_ifs 13 rfl (fun c61 => ?_) (fun c61 => ?_)
        · have c61_ : v59.toInt > 1 := en_j_gt_t c61
          refine At.enter rfl ?_
          refine r_iconst 0 rfl ?_
          refine Ar.fall 18 rfl ?_
          refine At.enter rfl ?_
          refine q_iretz (by decide) ?_
          refine At.enter rfl ?_
          refine r_iff 23 rfl (by decide) ?_
          refine At.enter rfl ?_
          refine r_iconst (-1) rfl ?_
          refine r_ireti ?_
          exact ⟨_, rfl, hI51, hF52, _, rfl, trivial⟩
        · have c61_ : v59.toInt ≤ 1 := en_j_gt_f c61
          refine At.enter rfl ?_
          refine r_iconst 1 rfl ?_
          refine r_goto ?_
          refine At.enter rfl ?_
          refine q_iretz (by decide) ?_
          refine At.enter rfl ?_
          refine r_ift (by decide) ?_
          refine At.enter rfl ?_
          refine r_aload_n rfl ?_
          refine r_callV 29 rfl [.ref 231] [] (Nat.le_of_ble_eq_true rfl) rfl (T_X11_asIs_231 _ hI51) ?_
          rintro _ _ ⟨g62, rfl, hI63, hF64, rfl⟩
          refine At.stn ?_
          have hF67 := Fr.tr hF52 hF64 rfl rfl
          refine At.enter rfl ?_
          refine r_aload_n rfl ?_
          refine r_iload_n rfl ?_
          refine r_callV 34 rfl [.ref 231, .int a1] [] (Nat.le_of_ble_eq_true rfl) rfl (T_X11_answerOf_231 _ hI63 a1 (by omega)) ?_
          rintro _ _ ⟨g68, rfl, hI69, hF70, v71, rfl, hr72⟩
          refine At.sti ?_
          have hF73 := Fr.tr hF67 hF70 rfl rfl
          refine At.enter rfl ?_
          refine r_istore_n ([(3, .int v71), (0, .ref 231), (1, .int a1), (2, .int a2)]) rfl ?_
          refine r_iload_n rfl ?_
          refine r_ifs 39 rfl (fun c74 => ?_) (fun c74 => ?_)
          · have c74_ : a2.toInt ≠ 0 := en_k_ne_t c74
            refine At.enter rfl ?_
            refine r_aload_n rfl ?_
            obtain ⟨v75, hv75⟩ : ∃ v, gI g68 231 47 = v := ⟨_, rfl⟩
            refine q_getI (Sh.int hI69.1 kx_231 rfl) v75 hv75 ?_
            refine Ar.fall 47 rfl ?_
            refine At.enter rfl ?_
            refine r_ireti ?_
            exact ⟨_, rfl, hI69, hF73, _, rfl, trivial⟩
          · have c74_ : a2.toInt = 0 := en_k_ne_f c74
            refine At.enter rfl ?_
            refine r_iload_n rfl ?_
            refine r_goto ?_
            refine At.enter rfl ?_
            refine r_ireti ?_
            exact ⟨_, rfl, hI69, hF73, _, rfl, trivial⟩

def F_X11_restless_231 : List (Nat × Nat) := [(231, 0), (231, 27), (231, 30), (231, 31), (231, 32), (231, 36), (231, 47)]
def A_X11_restless_231 : List Nat := [246, 247, 248, 249]
set_option maxRecDepth 100000 in
set_option maxHeartbeats 4000000 in
theorem T_X11_restless_231 (d : Nat) {N : Nat} {g0 : List en_E} (hI0 : HI g0) : Ev (d + 10) 251 [.ref 231] (g0, N) (fun w h' => ∃ g', h' = (g', N) ∧ HI g' ∧ Fr F_X11_restless_231 A_X11_restless_231 g0 g' ∧ ∃ r : Int32, w = some (.int r) ∧ ((-1) ≤ r.toInt ∧ r.toInt ≤ 11)) := by
  have hF0 : Fr F_X11_restless_231 A_X11_restless_231 g0 g0 := Fr.rf
  refine Ev.mk rfl rfl ⟨Nat.le_of_ble_eq_true rfl, Or.inr (q_rc hI0.1 kx_231 rfl)⟩ ?_
  show At _ none _ _ (0, [(0, .ref 231)], [], (_, _)) _
  refine At.enter rfl ?_
  refine r_aload_n rfl ?_
  refine r_iconst 0 rfl ?_
  refine q_putI (Sh.int hI0.1 kx_231 rfl) rfl ?_
  have hI517 := HI.wI0 hI0 kx_231 rfl (p := 231) (b := 0) (v := 0) rfl
  have hF518 := Fr.wI (p := 231) (b := 0) (v := 0) hF0 rfl
  refine r_aload_n rfl ?_
  refine r_callV 9 rfl [.ref 231] [] (Nat.le_of_ble_eq_true rfl) rfl (T_X11_asIs_231 _ hI517) ?_
  rintro _ _ ⟨g519, rfl, hI520, hF521, rfl⟩
  refine At.stn ?_
  have hF524 := Fr.tr hF518 hF521 rfl rfl
  refine At.enter rfl ?_
  refine r_iconst 0 rfl ?_
  refine r_istore_n ([(1, .int 0), (0, .ref 231)]) rfl ?_
  refine Ar.fall 11 rfl ?_
  have z_751 : (0 : Int32).toInt = 0 := rfl
  refine w_loopI (fun n_ l_ g_ => ∃ x741 : Int32, n_ = 12 - x741.toInt ∧ HI g_ ∧ Fr F_X11_restless_231 A_X11_restless_231 g0 g_ ∧ en_get 0 l_ = some (.ref 231) ∧ en_get 1 l_ = some (.int x741) ∧ (0 ≤ x741.toInt ∧ x741.toInt ≤ 12)) ?_ (12 - 0) ⟨0, by first | rfl | omega, hI520, hF524, rfl, rfl, by decide⟩
  rintro n746 l745 g742 ⟨x741, hm752, hI743, hF744, e748, e749, r750⟩ ih747
  refine At.enter rfl ?_
  refine r_iload_n e749 ?_
  refine r_aload_n e748 ?_
  refine q_getR (Sh.ref hI743.1 kx_231 rfl) ?_
  refine r_iconst 0 rfl ?_
  obtain ⟨v753, hv753⟩ : ∃ v, eA g0 233 0 = v := ⟨_, rfl⟩
  have tv753 := congrArg Int32.toInt hv753
  have wv753 := HI.t0 hI0
  rw [hv753] at wv753
  refine q_iald (Sh.arr hI743.1 ka_233) 0 rfl (by decide) v753 ((eA_c (hF744.2.1 233 (by decide))).trans hv753) ?_
  have bv755 := q_bnd x741
  have bv756 := q_bnd v753
  refine r_ics 21 rfl (fun c754 => ?_) (fun c754 => ?_)
  · have c754_ : x741.toInt ≥ v753.toInt := en_i_ge_t c754
    refine At.enter rfl ?_
    refine r_iconst (-1) rfl ?_
    refine r_ireti ?_
    exact ⟨_, rfl, hI743, hF744, _, rfl, by decide⟩
  · have c754_ : x741.toInt < v753.toInt := en_i_ge_f c754
    refine At.enter rfl ?_
    refine r_aload_n e748 ?_
    refine r_iload_n e749 ?_
    refine r_callV 26 rfl [.ref 231, .int x741] [] (Nat.le_of_ble_eq_true rfl) rfl (T_X11_incomeOf_231 _ hI743 x741 (by omega)) ?_
    rintro _ _ ⟨g757, rfl, hI758, hF759, v760, rfl, hr761⟩
    refine At.sti ?_
    have hF762 := Fr.tr hF744 hF759 rfl rfl
    refine At.enter rfl ?_
    refine r_istore_n _ rfl ?_
    refine r_aload_n (w_p1 (by decide) (Or.inr rfl) e748) ?_
    refine r_iload_n (w_p1 (by decide) (Or.inr rfl) e749) ?_
    refine r_callV 32 rfl [.ref 231, .int x741] [] (Nat.le_of_ble_eq_true rfl) rfl (T_X11_answerOf_231 _ hI758 x741 (by omega)) ?_
    rintro _ _ ⟨g763, rfl, hI764, hF765, v766, rfl, hr767⟩
    refine At.sti ?_
    have hF768 := Fr.tr hF762 hF765 rfl rfl
    refine At.enter rfl ?_
    refine r_istore_n _ rfl ?_
    refine r_iload_n (w_e1 _ _ _) ?_
    refine r_iconst (-1) rfl ?_
    refine r_ics 38 rfl (fun c769 => ?_) (fun c769 => ?_)
    · have c769_ : v766.toInt = (-1) := en_i_eq_t c769
      exfalso; omega
    · have c769_ : v766.toInt ≠ (-1) := en_i_eq_f c769
      refine At.enter rfl ?_
      refine r_aload_n (w_p1 (by decide) (Or.inr rfl) (w_p1 (by decide) (Or.inr rfl) e748)) ?_
      obtain ⟨v770, hv770⟩ : ∃ v, gI g763 231 47 = v := ⟨_, rfl⟩
      refine q_getI (Sh.int hI764.1 kx_231 rfl) v770 hv770 ?_
      refine r_iload_n (w_p1 (by decide) (Or.inr rfl) (w_e1 _ _ _)) ?_
      have bv772 := q_bnd v770
      have bv773 := q_bnd v760
      refine r_ics 46 rfl (fun c771 => ?_) (fun c771 => ?_)
      · have c771_ : v770.toInt ≤ v760.toInt := en_i_le_t c771
        refine At.enter rfl ?_
        refine q_iinc (w_p1 (by decide) (Or.inr rfl) (w_p1 (by decide) (Or.inr rfl) e749)) (x741.toInt + 1) rfl (by omega) (fun v774 hv774 => ?_)
        refine r_goto ?_
        exact ih747 (12 - v774.toInt) _ _ ⟨v774, by first | rfl | omega, hI764, hF768, (w_p1 (by decide) (Or.inr rfl) (w_p1 (by decide) (Or.inr rfl) (w_p1 (by decide) (Or.inr rfl) e748))), (w_e1 _ _ _), by omega⟩ ⟨by omega, by omega⟩
      · have c771_ : v770.toInt > v760.toInt := en_i_le_f c771
        refine At.enter rfl ?_
        refine r_iload_n (w_p1 (by decide) (Or.inr rfl) (w_p1 (by decide) (Or.inr rfl) e749)) ?_
        refine r_ireti ?_
        exact ⟨_, rfl, hI764, hF768, _, rfl, by omega⟩

def F_X11_rests_231 : List (Nat × Nat) := [(231, 0), (231, 27), (231, 30), (231, 31), (231, 32), (231, 36), (231, 47)]
def A_X11_rests_231 : List Nat := [246, 247, 248, 249]
set_option maxRecDepth 100000 in
set_option maxHeartbeats 4000000 in
theorem T_X11_rests_231 (d : Nat) {N : Nat} {g0 : List en_E} (hI0 : HI g0) (a1 : Int32) : Ev (d + 10) 252 [.ref 231, .int a1] (g0, N) (fun w h' => ∃ g', h' = (g', N) ∧ HI g' ∧ Fr F_X11_rests_231 A_X11_rests_231 g0 g' ∧ ∃ r : Int32, w = some (.int r) ∧ True) := by
  have hF0 : Fr F_X11_rests_231 A_X11_rests_231 g0 g0 := Fr.rf
  refine Ev.mk rfl rfl ⟨Nat.le_of_ble_eq_true rfl, Or.inr (q_rc hI0.1 kx_231 rfl)⟩ ?_
  show At _ none _ _ (0, [(0, .ref 231), (1, .int a1)], [], (_, _)) _
  refine At.enter rfl ?_
  refine r_aload_n rfl ?_
  refine r_iconst 0 rfl ?_
  refine q_putI (Sh.int hI0.1 kx_231 rfl) rfl ?_
  have hI14051 := HI.wI0 hI0 kx_231 rfl (p := 231) (b := 0) (v := 0) rfl
  have hF14052 := Fr.wI (p := 231) (b := 0) (v := 0) hF0 rfl
  refine r_iload_n rfl ?_
  refine r_iconst (-1) rfl ?_
  refine r_ics 10 rfl (fun c14053 => ?_) (fun c14053 => ?_)
  · have c14053_ : a1.toInt = (-1) := en_i_eq_t c14053
    refine At.enter rfl ?_
    refine r_aload_n rfl ?_
    refine r_callV 24 rfl [.ref 231] [] (Nat.le_of_ble_eq_true rfl) rfl (T_X11_asIs_231 _ hI14051) ?_
    rintro _ _ ⟨g14054, rfl, hI14055, hF14056, rfl⟩
    refine At.stn ?_
    have hF14059 := Fr.tr hF14052 hF14056 rfl rfl
    refine At.enter rfl ?_
    refine r_iconst 0 rfl ?_
    refine r_istore_n ([(2, .int 0), (0, .ref 231), (1, .int a1)]) rfl ?_
    refine r_iconst 1 rfl ?_
    refine r_istore_n ([(3, .int 1), (2, .int 0), (0, .ref 231), (1, .int a1)]) rfl ?_
    refine Ar.fall 28 rfl ?_
    have z_17297 : (0 : Int32).toInt = 0 := rfl
    have z_17298 : (1 : Int32).toInt = 1 := rfl
    refine w_loopI (fun n_ l_ g_ => ∃ x17283 : Int32, ∃ x17284 : Int32, n_ = 50 - x17283.toInt ∧ HI g_ ∧ Fr F_X11_rests_231 A_X11_rests_231 g0 g_ ∧ en_get 0 l_ = some (.ref 231) ∧ en_get 1 l_ = some (.int a1) ∧ en_get 2 l_ = some (.int x17283) ∧ en_get 3 l_ = some (.int x17284) ∧ (0 ≤ x17283.toInt ∧ x17283.toInt ≤ 50) ∧ (0 ≤ x17284.toInt ∧ x17284.toInt ≤ 1)) ?_ (50 - 0) ⟨0, 1, by first | rfl | omega, hI14055, hF14059, rfl, rfl, rfl, rfl, by decide, by decide⟩
    rintro n17289 l17288 g17285 ⟨x17283, x17284, hm17299, hI17286, hF17287, e17291, e17292, e17293, e17294, r17295, r17296⟩ ih17290
    refine At.enter rfl ?_
    refine r_iload_n e17294 ?_
    refine r_ifs 32 rfl (fun c17300 => ?_) (fun c17300 => ?_)
    · have c17300_ : x17284.toInt = 0 := en_k_eq_t c17300
      refine At.enter rfl ?_
      refine r_iload_n e17292 ?_
      refine r_iconst (-1) rfl ?_
      refine r_ics 107 rfl (fun c17301 => ?_) (fun c17301 => ?_)
      · have c17301_ : a1.toInt = (-1) := en_i_eq_t c17301
        refine At.enter rfl ?_
        refine r_iload_n e17294 ?_
        refine r_ifs 120 rfl (fun c17302 => ?_) (fun c17302 => ?_)
        · have c17302_ : x17284.toInt = 0 := en_k_eq_t c17302
          refine At.enter rfl ?_
          refine r_iload_n e17293 ?_
          refine Ar.fall 126 rfl ?_
          refine At.enter rfl ?_
          refine r_ireti ?_
          exact ⟨_, rfl, hI17286, hF17287, _, rfl, trivial⟩
        · have c17302_ : x17284.toInt ≠ 0 := en_k_eq_f c17302
          exfalso; omega
      · have c17301_ : a1.toInt ≠ (-1) := en_i_eq_f c17301
        exfalso; omega
    · have c17300_ : x17284.toInt ≠ 0 := en_k_eq_f c17300
      refine At.enter rfl ?_
      refine r_iload_n e17293 ?_
      refine r_bipush 50 rfl ?_
      refine r_ics 38 rfl (fun c17303 => ?_) (fun c17303 => ?_)
      · have c17303_ : x17283.toInt ≥ 50 := en_i_ge_t c17303
        refine At.enter rfl ?_
        refine r_iload_n e17292 ?_
        refine r_iconst (-1) rfl ?_
        refine r_ics 107 rfl (fun c17304 => ?_) (fun c17304 => ?_)
        · have c17304_ : a1.toInt = (-1) := en_i_eq_t c17304
          refine At.enter rfl ?_
          refine r_iload_n e17294 ?_
          refine r_ifs 120 rfl (fun c17305 => ?_) (fun c17305 => ?_)
          · have c17305_ : x17284.toInt = 0 := en_k_eq_t c17305
            exfalso; omega
          · have c17305_ : x17284.toInt ≠ 0 := en_k_eq_f c17305
            refine At.enter rfl ?_
            refine r_bipush 51 rfl ?_
            refine r_goto ?_
            refine At.enter rfl ?_
            refine r_ireti ?_
            exact ⟨_, rfl, hI17286, hF17287, _, rfl, trivial⟩
        · have c17304_ : a1.toInt ≠ (-1) := en_i_eq_f c17304
          exfalso; omega
      · have c17303_ : x17283.toInt < 50 := en_i_ge_f c17303
        refine At.enter rfl ?_
        refine r_iconst 0 rfl ?_
        refine r_istore_n _ rfl ?_
        refine q_iinc (w_p1 (by decide) (Or.inr rfl) e17293) (x17283.toInt + 1) rfl (by omega) (fun v17306 hv17306 => ?_)
        refine r_iconst 0 rfl ?_
        refine r_istore _ rfl ?_
        refine Ar.fall 46 rfl ?_
        have z_17565 : (0 : Int32).toInt = 0 := rfl
        have z_17566 : (0 : Int32).toInt = 0 := rfl
        refine w_loopI (fun n_ l_ g_ => ∃ x17550 : Int32, ∃ x17551 : Int32, n_ = 12 - x17551.toInt ∧ HI g_ ∧ Fr F_X11_rests_231 A_X11_rests_231 g0 g_ ∧ en_get 0 l_ = some (.ref 231) ∧ en_get 1 l_ = some (.int a1) ∧ en_get 2 l_ = some (.int v17306) ∧ en_get 3 l_ = some (.int x17550) ∧ en_get 4 l_ = some (.int x17551) ∧ (0 ≤ x17550.toInt ∧ x17550.toInt ≤ 1) ∧ (0 ≤ x17551.toInt ∧ x17551.toInt ≤ 12)) ?_ (12 - 0) ⟨0, 0, by first | rfl | omega, hI17286, hF17287, (w_p1 (by decide) (Or.inr rfl) (w_p1 (by decide) (Or.inr rfl) (w_p1 (by decide) (Or.inr rfl) e17291))), (w_p1 (by decide) (Or.inr rfl) (w_p1 (by decide) (Or.inr rfl) (w_p1 (by decide) (Or.inr rfl) e17292))), (w_p1 (by decide) (Or.inr rfl) (w_e1 _ _ _)), (w_p1 (by decide) (Or.inr rfl) (w_p1 (by decide) (Or.inr rfl) (w_e1 _ _ _))), (w_e1 _ _ _), by decide, by decide⟩
        rintro n17556 l17555 g17552 ⟨x17550, x17551, hm17567, hI17553, hF17554, e17558, e17559, e17560, e17561, e17562, r17563, r17564⟩ ih17557
        refine At.enter rfl ?_
        refine r_iload e17562 ?_
        refine r_aload_n e17558 ?_
        refine q_getR (Sh.ref hI17553.1 kx_231 rfl) ?_
        refine r_iconst 0 rfl ?_
        obtain ⟨v17568, hv17568⟩ : ∃ v, eA g0 233 0 = v := ⟨_, rfl⟩
        have tv17568 := congrArg Int32.toInt hv17568
        have wv17568 := HI.t0 hI0
        rw [hv17568] at wv17568
        refine q_iald (Sh.arr hI17553.1 ka_233) 0 rfl (by decide) v17568 ((eA_c (hF17554.2.1 233 (by decide))).trans hv17568) ?_
        have bv17570 := q_bnd x17551
        have bv17571 := q_bnd v17568
        refine r_ics 57 rfl (fun c17569 => ?_) (fun c17569 => ?_)
        · have c17569_ : x17551.toInt ≥ v17568.toInt := en_i_ge_t c17569
          refine At.enter rfl ?_
          refine r_goto ?_
          exact ih17290 (50 - v17306.toInt) _ _ ⟨v17306, x17550, by first | rfl | omega, hI17553, hF17554, e17558, e17559, e17560, e17561, by omega, by omega⟩ ⟨by omega, by omega⟩
        · have c17569_ : x17551.toInt < v17568.toInt := en_i_ge_f c17569
          refine At.enter rfl ?_
          refine r_aload_n e17558 ?_
          refine r_iload e17562 ?_
          refine r_callV 63 rfl [.ref 231, .int x17551] [] (Nat.le_of_ble_eq_true rfl) rfl (T_X11_incomeOf_231 _ hI17553 x17551 (by omega)) ?_
          rintro _ _ ⟨g17572, rfl, hI17573, hF17574, v17575, rfl, hr17576⟩
          refine At.sti ?_
          have hF17577 := Fr.tr hF17554 hF17574 rfl rfl
          refine At.enter rfl ?_
          refine r_istore _ rfl ?_
          refine r_aload_n (w_p1 (by decide) (Or.inr rfl) e17558) ?_
          refine r_iload (w_p1 (by decide) (Or.inr rfl) e17562) ?_
          refine r_callV 71 rfl [.ref 231, .int x17551] [] (Nat.le_of_ble_eq_true rfl) rfl (T_X11_answerOf_231 _ hI17573 x17551 (by omega)) ?_
          rintro _ _ ⟨g17578, rfl, hI17579, hF17580, v17581, rfl, hr17582⟩
          refine At.sti ?_
          have hF17583 := Fr.tr hF17577 hF17580 rfl rfl
          refine At.enter rfl ?_
          refine r_istore _ rfl ?_
          refine r_aload_n (w_p1 (by decide) (Or.inr rfl) (w_p1 (by decide) (Or.inr rfl) e17558)) ?_
          obtain ⟨v17584, hv17584⟩ : ∃ v, gI g17578 231 47 = v := ⟨_, rfl⟩
          refine q_getI (Sh.int hI17579.1 kx_231 rfl) v17584 hv17584 ?_
          refine r_iload (w_p1 (by decide) (Or.inr rfl) (w_e1 _ _ _)) ?_
          have bv17586 := q_bnd v17584
          have bv17587 := q_bnd v17575
          refine r_ics 82 rfl (fun c17585 => ?_) (fun c17585 => ?_)
          · have c17585_ : v17584.toInt ≤ v17575.toInt := en_i_le_t c17585
            refine At.enter rfl ?_
            refine q_iinc (w_p1 (by decide) (Or.inr rfl) (w_p1 (by decide) (Or.inr rfl) e17562)) (x17551.toInt + 1) rfl (by omega) (fun v17588 hv17588 => ?_)
            refine r_goto ?_
            exact ih17557 (12 - v17588.toInt) _ _ ⟨x17550, v17588, by first | rfl | omega, hI17579, hF17583, (w_p1 (by decide) (Or.inr rfl) (w_p1 (by decide) (Or.inr rfl) (w_p1 (by decide) (Or.inr rfl) e17558))), (w_p1 (by decide) (Or.inr rfl) (w_p1 (by decide) (Or.inr rfl) (w_p1 (by decide) (Or.inr rfl) e17559))), (w_p1 (by decide) (Or.inr rfl) (w_p1 (by decide) (Or.inr rfl) (w_p1 (by decide) (Or.inr rfl) e17560))), (w_p1 (by decide) (Or.inr rfl) (w_p1 (by decide) (Or.inr rfl) (w_p1 (by decide) (Or.inr rfl) e17561))), (w_e1 _ _ _), by omega, by omega⟩ ⟨by omega, by omega⟩
          · have c17585_ : v17584.toInt > v17575.toInt := en_i_le_f c17585
            refine At.enter rfl ?_
            refine r_aload_n (w_p1 (by decide) (Or.inr rfl) (w_p1 (by decide) (Or.inr rfl) e17558)) ?_
            refine q_getR (Sh.ref hI17579.1 kx_231 rfl) ?_
            refine r_iload (w_p1 (by decide) (Or.inr rfl) (w_p1 (by decide) (Or.inr rfl) e17562)) ?_
            refine r_iload (w_e1 _ _ _) ?_
            refine q_iast (Sh.arr hI17579.1 ka_247) (x17551.toInt) rfl (by omega) ?_
            have hI17589 := HI.wA0 hI17579 ka_247 (p := 247) rfl rfl (x17551.toInt) (v17581)
            have hF17590 := Fr.wA (p := 247) (j := x17551.toInt) (v := v17581) hF17583 rfl
            refine r_iconst 1 rfl ?_
            refine r_istore_n _ rfl ?_
            refine Ar.fall 93 rfl ?_
            refine At.enter rfl ?_
            refine q_iinc (w_p1 (by decide) (Or.inr rfl) (w_p1 (by decide) (Or.inr rfl) (w_p1 (by decide) (Or.inr rfl) e17562))) (x17551.toInt + 1) rfl (by omega) (fun v17591 hv17591 => ?_)
            refine r_goto ?_
            exact ih17557 (12 - v17591.toInt) _ _ ⟨1, v17591, by first | rfl | omega, hI17589, hF17590, (w_p1 (by decide) (Or.inr rfl) (w_p1 (by decide) (Or.inr rfl) (w_p1 (by decide) (Or.inr rfl) (w_p1 (by decide) (Or.inr rfl) e17558)))), (w_p1 (by decide) (Or.inr rfl) (w_p1 (by decide) (Or.inr rfl) (w_p1 (by decide) (Or.inr rfl) (w_p1 (by decide) (Or.inr rfl) e17559)))), (w_p1 (by decide) (Or.inr rfl) (w_p1 (by decide) (Or.inr rfl) (w_p1 (by decide) (Or.inr rfl) (w_p1 (by decide) (Or.inr rfl) e17560)))), (w_p1 (by decide) (Or.inr rfl) (w_e1 _ _ _)), (w_e1 _ _ _), by decide, by omega⟩ ⟨by omega, by omega⟩
  · have c14053_ : a1.toInt ≠ (-1) := en_i_eq_f c14053
    refine At.enter rfl ?_
    refine r_aload_n rfl ?_
    refine r_iload_n rfl ?_
    refine q_inlV 15 rfl [.ref 231, .int a1] [] (Nat.le_of_ble_eq_true rfl) rfl ?_
    refine Ev.mk rfl rfl ⟨Nat.le_of_ble_eq_true rfl, Or.inr (q_rc hI14051.1 kx_231 rfl)⟩ ?_
    show At _ none _ _ (0, [(0, .ref 231), (1, .int a1)], [], (_, _)) _
    refine At.enter rfl ?_
    refine r_iload_n rfl ?_
    refine q_i2l (fun v17592 hv17592 => ?_)
    refine r_lconst 0 rfl ?_
    refine r_aload_n rfl ?_
    refine q_getR (Sh.ref hI14051.1 kx_231 rfl) ?_
    refine r_iconst 0 rfl ?_
    obtain ⟨v17593, hv17593⟩ : ∃ v, eA g0 233 0 = v := ⟨_, rfl⟩
    have tv17593 := congrArg Int32.toInt hv17593
    have wv17593 := HI.t0 hI0
    rw [hv17593] at wv17593
    refine q_iald (Sh.arr hI14051.1 ka_233) 0 rfl (by decide) v17593 ((eA_c (gA_sI)).trans hv17593) ?_
    refine q_i2l (fun v17594 hv17594 => ?_)
    refine r_lconst 1 rfl ?_
    refine q_lsub (v17594.toInt - 1) rfl (by omega) (fun v17595 hv17595 => ?_)
    refine q_inlS 15 rfl [.long v17592, .long 0, .long v17595] [] (Nat.le_of_ble_eq_true rfl) rfl ?_
    refine Ev.mk rfl rfl ⟨Nat.le_of_ble_eq_true rfl, Or.inl rfl⟩ ?_
    show At _ none _ _ (0, [(0, .long v17592), (2, .long 0), (4, .long v17595)], [], (_, _)) _
    refine At.enter rfl ?_
    refine r_lload_n rfl ?_
    refine r_lload_n rfl ?_
    refine r_lcmp _ rfl ?_
    refine r_ifs 6 rfl (fun c17596 => ?_) (fun c17596 => ?_)
    · have c17596_ : v17592.toInt < 0 := en_j_lt_t c17596
      refine At.enter rfl ?_
      refine r_iconst 0 rfl ?_
      refine Ar.fall 18 rfl ?_
      refine At.enter rfl ?_
      refine q_iretz (by decide) ?_
      refine At.enter rfl ?_
      refine q_iretz (by decide) ?_
      refine At.enter rfl ?_
      refine r_iff 18 rfl (by decide) ?_
      refine At.enter rfl ?_
      refine r_iconst (-1) rfl ?_
      refine r_ireti ?_
      exact ⟨_, rfl, hI14051, hF14052, _, rfl, trivial⟩
    · have c17596_ : v17592.toInt ≥ 0 := en_j_lt_f c17596
      refine At.enter rfl ?_
      refine r_lload_n rfl ?_
      refine r_lload rfl ?_
      refine r_lcmp _ rfl ?_
      refine r_ifs 13 rfl (fun c17597 => ?_) (fun c17597 => ?_)
      · have c17597_ : v17592.toInt > v17595.toInt := en_j_gt_t c17597
        refine At.enter rfl ?_
        refine r_iconst 0 rfl ?_
        refine Ar.fall 18 rfl ?_
        refine At.enter rfl ?_
        refine q_iretz (by decide) ?_
        refine At.enter rfl ?_
        refine q_iretz (by decide) ?_
        refine At.enter rfl ?_
        refine r_iff 18 rfl (by decide) ?_
        refine At.enter rfl ?_
        refine r_iconst (-1) rfl ?_
        refine r_ireti ?_
        exact ⟨_, rfl, hI14051, hF14052, _, rfl, trivial⟩
      · have c17597_ : v17592.toInt ≤ v17595.toInt := en_j_gt_f c17597
        refine At.enter rfl ?_
        refine r_iconst 1 rfl ?_
        refine r_goto ?_
        refine At.enter rfl ?_
        refine q_iretz (by decide) ?_
        refine At.enter rfl ?_
        refine q_iretz (by decide) ?_
        refine At.enter rfl ?_
        refine r_ift (by decide) ?_
        refine At.enter rfl ?_
        refine r_aload_n rfl ?_
        refine r_callV 24 rfl [.ref 231] [] (Nat.le_of_ble_eq_true rfl) rfl (T_X11_asIs_231 _ hI14051) ?_
        rintro _ _ ⟨g17598, rfl, hI17599, hF17600, rfl⟩
        refine At.stn ?_
        have hF17603 := Fr.tr hF14052 hF17600 rfl rfl
        refine At.enter rfl ?_
        refine r_iconst 0 rfl ?_
        refine r_istore_n ([(2, .int 0), (0, .ref 231), (1, .int a1)]) rfl ?_
        refine r_iconst 1 rfl ?_
        refine r_istore_n ([(3, .int 1), (2, .int 0), (0, .ref 231), (1, .int a1)]) rfl ?_
        refine Ar.fall 28 rfl ?_
        have z_20731 : (0 : Int32).toInt = 0 := rfl
        have z_20732 : (1 : Int32).toInt = 1 := rfl
        refine w_loopI (fun n_ l_ g_ => ∃ x20717 : Int32, ∃ x20718 : Int32, n_ = 50 - x20717.toInt ∧ HI g_ ∧ Fr F_X11_rests_231 A_X11_rests_231 g0 g_ ∧ en_get 0 l_ = some (.ref 231) ∧ en_get 1 l_ = some (.int a1) ∧ en_get 2 l_ = some (.int x20717) ∧ en_get 3 l_ = some (.int x20718) ∧ (0 ≤ x20717.toInt ∧ x20717.toInt ≤ 50) ∧ (0 ≤ x20718.toInt ∧ x20718.toInt ≤ 1)) ?_ (50 - 0) ⟨0, 1, by first | rfl | omega, hI17599, hF17603, rfl, rfl, rfl, rfl, by decide, by decide⟩
        rintro n20723 l20722 g20719 ⟨x20717, x20718, hm20733, hI20720, hF20721, e20725, e20726, e20727, e20728, r20729, r20730⟩ ih20724
        refine At.enter rfl ?_
        refine r_iload_n e20728 ?_
        refine r_ifs 32 rfl (fun c20734 => ?_) (fun c20734 => ?_)
        · have c20734_ : x20718.toInt = 0 := en_k_eq_t c20734
          refine At.enter rfl ?_
          refine r_iload_n e20726 ?_
          refine r_iconst (-1) rfl ?_
          refine r_ics 107 rfl (fun c20735 => ?_) (fun c20735 => ?_)
          · have c20735_ : a1.toInt = (-1) := en_i_eq_t c20735
            exfalso; omega
          · have c20735_ : a1.toInt ≠ (-1) := en_i_eq_f c20735
            refine At.enter rfl ?_
            refine r_aload_n e20725 ?_
            refine q_getR (Sh.ref hI20720.1 kx_231 rfl) ?_
            refine r_iload_n e20726 ?_
            obtain ⟨v20736, hv20736⟩ : ∃ v, eA g20719 247 a1.toInt = v := ⟨_, rfl⟩
            refine q_iald (Sh.arr hI20720.1 ka_247) a1.toInt rfl (by omega) v20736 hv20736 ?_
            refine r_goto ?_
            refine At.enter rfl ?_
            refine r_ireti ?_
            exact ⟨_, rfl, hI20720, hF20721, _, rfl, trivial⟩
        · have c20734_ : x20718.toInt ≠ 0 := en_k_eq_f c20734
          refine At.enter rfl ?_
          refine r_iload_n e20727 ?_
          refine r_bipush 50 rfl ?_
          refine r_ics 38 rfl (fun c20737 => ?_) (fun c20737 => ?_)
          · have c20737_ : x20717.toInt ≥ 50 := en_i_ge_t c20737
            refine At.enter rfl ?_
            refine r_iload_n e20726 ?_
            refine r_iconst (-1) rfl ?_
            refine r_ics 107 rfl (fun c20738 => ?_) (fun c20738 => ?_)
            · have c20738_ : a1.toInt = (-1) := en_i_eq_t c20738
              exfalso; omega
            · have c20738_ : a1.toInt ≠ (-1) := en_i_eq_f c20738
              refine At.enter rfl ?_
              refine r_aload_n e20725 ?_
              refine q_getR (Sh.ref hI20720.1 kx_231 rfl) ?_
              refine r_iload_n e20726 ?_
              obtain ⟨v20739, hv20739⟩ : ∃ v, eA g20719 247 a1.toInt = v := ⟨_, rfl⟩
              refine q_iald (Sh.arr hI20720.1 ka_247) a1.toInt rfl (by omega) v20739 hv20739 ?_
              refine r_goto ?_
              refine At.enter rfl ?_
              refine r_ireti ?_
              exact ⟨_, rfl, hI20720, hF20721, _, rfl, trivial⟩
          · have c20737_ : x20717.toInt < 50 := en_i_ge_f c20737
            refine At.enter rfl ?_
            refine r_iconst 0 rfl ?_
            refine r_istore_n _ rfl ?_
            refine q_iinc (w_p1 (by decide) (Or.inr rfl) e20727) (x20717.toInt + 1) rfl (by omega) (fun v20740 hv20740 => ?_)
            refine r_iconst 0 rfl ?_
            refine r_istore _ rfl ?_
            refine Ar.fall 46 rfl ?_
            have z_20990 : (0 : Int32).toInt = 0 := rfl
            have z_20991 : (0 : Int32).toInt = 0 := rfl
            refine w_loopI (fun n_ l_ g_ => ∃ x20975 : Int32, ∃ x20976 : Int32, n_ = 12 - x20976.toInt ∧ HI g_ ∧ Fr F_X11_rests_231 A_X11_rests_231 g0 g_ ∧ en_get 0 l_ = some (.ref 231) ∧ en_get 1 l_ = some (.int a1) ∧ en_get 2 l_ = some (.int v20740) ∧ en_get 3 l_ = some (.int x20975) ∧ en_get 4 l_ = some (.int x20976) ∧ (0 ≤ x20975.toInt ∧ x20975.toInt ≤ 1) ∧ (0 ≤ x20976.toInt ∧ x20976.toInt ≤ 12)) ?_ (12 - 0) ⟨0, 0, by first | rfl | omega, hI20720, hF20721, (w_p1 (by decide) (Or.inr rfl) (w_p1 (by decide) (Or.inr rfl) (w_p1 (by decide) (Or.inr rfl) e20725))), (w_p1 (by decide) (Or.inr rfl) (w_p1 (by decide) (Or.inr rfl) (w_p1 (by decide) (Or.inr rfl) e20726))), (w_p1 (by decide) (Or.inr rfl) (w_e1 _ _ _)), (w_p1 (by decide) (Or.inr rfl) (w_p1 (by decide) (Or.inr rfl) (w_e1 _ _ _))), (w_e1 _ _ _), by decide, by decide⟩
            rintro n20981 l20980 g20977 ⟨x20975, x20976, hm20992, hI20978, hF20979, e20983, e20984, e20985, e20986, e20987, r20988, r20989⟩ ih20982
            refine At.enter rfl ?_
            refine r_iload e20987 ?_
            refine r_aload_n e20983 ?_
            refine q_getR (Sh.ref hI20978.1 kx_231 rfl) ?_
            refine r_iconst 0 rfl ?_
            refine q_iald (Sh.arr hI20978.1 ka_233) 0 rfl (by decide) v17593 ((eA_c (hF20979.2.1 233 (by decide))).trans hv17593) ?_
            have bv20994 := q_bnd x20976
            have bv20995 := q_bnd v17593
            refine r_ics 57 rfl (fun c20993 => ?_) (fun c20993 => ?_)
            · have c20993_ : x20976.toInt ≥ v17593.toInt := en_i_ge_t c20993
              refine At.enter rfl ?_
              refine r_goto ?_
              exact ih20724 (50 - v20740.toInt) _ _ ⟨v20740, x20975, by first | rfl | omega, hI20978, hF20979, e20983, e20984, e20985, e20986, by omega, by omega⟩ ⟨by omega, by omega⟩
            · have c20993_ : x20976.toInt < v17593.toInt := en_i_ge_f c20993
              refine At.enter rfl ?_
              refine r_aload_n e20983 ?_
              refine r_iload e20987 ?_
              refine r_callV 63 rfl [.ref 231, .int x20976] [] (Nat.le_of_ble_eq_true rfl) rfl (T_X11_incomeOf_231 _ hI20978 x20976 (by omega)) ?_
              rintro _ _ ⟨g20996, rfl, hI20997, hF20998, v20999, rfl, hr21000⟩
              refine At.sti ?_
              have hF21001 := Fr.tr hF20979 hF20998 rfl rfl
              refine At.enter rfl ?_
              refine r_istore _ rfl ?_
              refine r_aload_n (w_p1 (by decide) (Or.inr rfl) e20983) ?_
              refine r_iload (w_p1 (by decide) (Or.inr rfl) e20987) ?_
              refine r_callV 71 rfl [.ref 231, .int x20976] [] (Nat.le_of_ble_eq_true rfl) rfl (T_X11_answerOf_231 _ hI20997 x20976 (by omega)) ?_
              rintro _ _ ⟨g21002, rfl, hI21003, hF21004, v21005, rfl, hr21006⟩
              refine At.sti ?_
              have hF21007 := Fr.tr hF21001 hF21004 rfl rfl
              refine At.enter rfl ?_
              refine r_istore _ rfl ?_
              refine r_aload_n (w_p1 (by decide) (Or.inr rfl) (w_p1 (by decide) (Or.inr rfl) e20983)) ?_
              obtain ⟨v21008, hv21008⟩ : ∃ v, gI g21002 231 47 = v := ⟨_, rfl⟩
              refine q_getI (Sh.int hI21003.1 kx_231 rfl) v21008 hv21008 ?_
              refine r_iload (w_p1 (by decide) (Or.inr rfl) (w_e1 _ _ _)) ?_
              have bv21010 := q_bnd v21008
              have bv21011 := q_bnd v20999
              refine r_ics 82 rfl (fun c21009 => ?_) (fun c21009 => ?_)
              · have c21009_ : v21008.toInt ≤ v20999.toInt := en_i_le_t c21009
                refine At.enter rfl ?_
                refine q_iinc (w_p1 (by decide) (Or.inr rfl) (w_p1 (by decide) (Or.inr rfl) e20987)) (x20976.toInt + 1) rfl (by omega) (fun v21012 hv21012 => ?_)
                refine r_goto ?_
                exact ih20982 (12 - v21012.toInt) _ _ ⟨x20975, v21012, by first | rfl | omega, hI21003, hF21007, (w_p1 (by decide) (Or.inr rfl) (w_p1 (by decide) (Or.inr rfl) (w_p1 (by decide) (Or.inr rfl) e20983))), (w_p1 (by decide) (Or.inr rfl) (w_p1 (by decide) (Or.inr rfl) (w_p1 (by decide) (Or.inr rfl) e20984))), (w_p1 (by decide) (Or.inr rfl) (w_p1 (by decide) (Or.inr rfl) (w_p1 (by decide) (Or.inr rfl) e20985))), (w_p1 (by decide) (Or.inr rfl) (w_p1 (by decide) (Or.inr rfl) (w_p1 (by decide) (Or.inr rfl) e20986))), (w_e1 _ _ _), by omega, by omega⟩ ⟨by omega, by omega⟩
              · have c21009_ : v21008.toInt > v20999.toInt := en_i_le_f c21009
                refine At.enter rfl ?_
                refine r_aload_n (w_p1 (by decide) (Or.inr rfl) (w_p1 (by decide) (Or.inr rfl) e20983)) ?_
                refine q_getR (Sh.ref hI21003.1 kx_231 rfl) ?_
                refine r_iload (w_p1 (by decide) (Or.inr rfl) (w_p1 (by decide) (Or.inr rfl) e20987)) ?_
                refine r_iload (w_e1 _ _ _) ?_
                refine q_iast (Sh.arr hI21003.1 ka_247) (x20976.toInt) rfl (by omega) ?_
                have hI21013 := HI.wA0 hI21003 ka_247 (p := 247) rfl rfl (x20976.toInt) (v21005)
                have hF21014 := Fr.wA (p := 247) (j := x20976.toInt) (v := v21005) hF21007 rfl
                refine r_iconst 1 rfl ?_
                refine r_istore_n _ rfl ?_
                refine Ar.fall 93 rfl ?_
                refine At.enter rfl ?_
                refine q_iinc (w_p1 (by decide) (Or.inr rfl) (w_p1 (by decide) (Or.inr rfl) (w_p1 (by decide) (Or.inr rfl) e20987))) (x20976.toInt + 1) rfl (by omega) (fun v21015 hv21015 => ?_)
                refine r_goto ?_
                exact ih20982 (12 - v21015.toInt) _ _ ⟨1, v21015, by first | rfl | omega, hI21013, hF21014, (w_p1 (by decide) (Or.inr rfl) (w_p1 (by decide) (Or.inr rfl) (w_p1 (by decide) (Or.inr rfl) (w_p1 (by decide) (Or.inr rfl) e20983)))), (w_p1 (by decide) (Or.inr rfl) (w_p1 (by decide) (Or.inr rfl) (w_p1 (by decide) (Or.inr rfl) (w_p1 (by decide) (Or.inr rfl) e20984)))), (w_p1 (by decide) (Or.inr rfl) (w_p1 (by decide) (Or.inr rfl) (w_p1 (by decide) (Or.inr rfl) (w_p1 (by decide) (Or.inr rfl) e20985)))), (w_p1 (by decide) (Or.inr rfl) (w_e1 _ _ _)), (w_e1 _ _ _), by decide, by omega⟩ ⟨by omega, by omega⟩

def F_X11_pieces_231 : List (Nat × Nat) := [(231, 0)]
def A_X11_pieces_231 : List Nat := [249]
set_option maxRecDepth 100000 in
set_option maxHeartbeats 4000000 in
theorem T_X11_pieces_231 (d : Nat) {N : Nat} {g0 : List en_E} (hI0 : HI g0) (a1 : Int32) : Ev (d + 5) 253 [.ref 231, .int a1] (g0, N) (fun w h' => ∃ g', h' = (g', N) ∧ HI g' ∧ Fr F_X11_pieces_231 A_X11_pieces_231 g0 g' ∧ ∃ r : Int32, w = some (.int r) ∧ True ∧ ((¬ (0 ≤ a1.toInt ∧ a1.toInt < (eA g0 233 1).toInt) → r.toInt = -1) ∧ ((0 ≤ a1.toInt ∧ a1.toInt < (eA g0 233 1).toInt) → (eA g0 233 (46 + (6 * a1.toInt + 2))).toInt ≠ -1 → PCE (NMq g0) (SM g0) 12 (eA g0 233 (46 + (6 * a1.toInt + 1))).toInt (eA g0 233 (46 + (6 * a1.toInt + 2))).toInt (eA g0 233 (46 + (6 * a1.toInt + 0))).toInt r))) := by
  have hF0 : Fr F_X11_pieces_231 A_X11_pieces_231 g0 g0 := Fr.rf
  refine Ev.mk rfl rfl ⟨Nat.le_of_ble_eq_true rfl, Or.inr (q_rc hI0.1 kx_231 rfl)⟩ ?_
  show At _ none _ _ (0, [(0, .ref 231), (1, .int a1)], [], (_, _)) _
  refine At.enter rfl ?_
  refine r_aload_n rfl ?_
  refine r_iconst 0 rfl ?_
  refine q_putI (Sh.int hI0.1 kx_231 rfl) rfl ?_
  have hI681 := HI.wI0 hI0 kx_231 rfl (p := 231) (b := 0) (v := 0) rfl
  have hF682 := Fr.wI (p := 231) (b := 0) (v := 0) hF0 rfl
  refine r_aload_n rfl ?_
  refine r_iload_n rfl ?_
  refine q_inlV 10 rfl [.ref 231, .int a1] [] (Nat.le_of_ble_eq_true rfl) rfl ?_
  refine Ev.mk rfl rfl ⟨Nat.le_of_ble_eq_true rfl, Or.inr (q_rc hI681.1 kx_231 rfl)⟩ ?_
  show At _ none _ _ (0, [(0, .ref 231), (1, .int a1)], [], (_, _)) _
  refine At.enter rfl ?_
  refine r_iload_n rfl ?_
  refine q_i2l (fun v683 hv683 => ?_)
  refine r_lconst 0 rfl ?_
  refine r_aload_n rfl ?_
  refine q_getR (Sh.ref hI681.1 kx_231 rfl) ?_
  refine r_iconst 1 rfl ?_
  obtain ⟨v684, hv684⟩ : ∃ v, eA g0 233 1 = v := ⟨_, rfl⟩
  have tv684 := congrArg Int32.toInt hv684
  have wv684 := HI.t1 hI0
  rw [hv684] at wv684
  refine q_iald (Sh.arr hI681.1 ka_233) 1 rfl (by decide) v684 ((eA_c (gA_sI)).trans hv684) ?_
  refine q_i2l (fun v685 hv685 => ?_)
  refine r_lconst 1 rfl ?_
  refine q_lsub (v685.toInt - 1) rfl (by omega) (fun v686 hv686 => ?_)
  refine q_inlS 15 rfl [.long v683, .long 0, .long v686] [] (Nat.le_of_ble_eq_true rfl) rfl ?_
  refine Ev.mk rfl rfl ⟨Nat.le_of_ble_eq_true rfl, Or.inl rfl⟩ ?_
  show At _ none _ _ (0, [(0, .long v683), (2, .long 0), (4, .long v686)], [], (_, _)) _
  refine At.enter rfl ?_
  refine r_lload_n rfl ?_
  refine r_lload_n rfl ?_
  refine r_lcmp _ rfl ?_
  refine r_ifs 6 rfl (fun c687 => ?_) (fun c687 => ?_)
  · have c687_ : v683.toInt < 0 := en_j_lt_t c687
    refine At.enter rfl ?_
    refine r_iconst 0 rfl ?_
    refine Ar.fall 18 rfl ?_
    refine At.enter rfl ?_
    refine q_iretz (by decide) ?_
    refine At.enter rfl ?_
    refine q_iretz (by decide) ?_
    refine At.enter rfl ?_
    refine r_iff 13 rfl (by decide) ?_
    refine At.enter rfl ?_
    refine r_iconst (-1) rfl ?_
    refine r_ireti ?_
    have zv688 : ((-1) : Int32).toInt = (-1) := rfl
    have x689 := HI.eqA hI0 (p := 233) (j := 1) (hv684)
    exact ⟨_, rfl, hI681, hF682, _, rfl, trivial, ⟨fun _ => by omega, fun h => absurd h (by omega)⟩⟩
  · have c687_ : v683.toInt ≥ 0 := en_j_lt_f c687
    refine At.enter rfl ?_
    refine r_lload_n rfl ?_
    refine r_lload rfl ?_
    refine r_lcmp _ rfl ?_
    refine r_ifs 13 rfl (fun c690 => ?_) (fun c690 => ?_)
    · have c690_ : v683.toInt > v686.toInt := en_j_gt_t c690
      refine At.enter rfl ?_
      refine r_iconst 0 rfl ?_
      refine Ar.fall 18 rfl ?_
      refine At.enter rfl ?_
      refine q_iretz (by decide) ?_
      refine At.enter rfl ?_
      refine q_iretz (by decide) ?_
      refine At.enter rfl ?_
      refine r_iff 13 rfl (by decide) ?_
      refine At.enter rfl ?_
      refine r_iconst (-1) rfl ?_
      refine r_ireti ?_
      have zv691 : ((-1) : Int32).toInt = (-1) := rfl
      have x692 := HI.eqA hI0 (p := 233) (j := 1) (hv684)
      exact ⟨_, rfl, hI681, hF682, _, rfl, trivial, ⟨fun _ => by omega, fun h => absurd h (by omega)⟩⟩
    · have c690_ : v683.toInt ≤ v686.toInt := en_j_gt_f c690
      refine At.enter rfl ?_
      refine r_iconst 1 rfl ?_
      refine r_goto ?_
      refine At.enter rfl ?_
      refine q_iretz (by decide) ?_
      refine At.enter rfl ?_
      refine q_iretz (by decide) ?_
      refine At.enter rfl ?_
      refine r_ift (by decide) ?_
      refine At.enter rfl ?_
      refine r_aload_n rfl ?_
      refine r_iload_n rfl ?_
      refine r_callV 20 rfl [.ref 231, .int a1] [] (Nat.le_of_ble_eq_true rfl) rfl (T_X11_findWay_231 _ hI681 a1 (by omega) (by rw [eA_c ((gA_sI)), hv684]; omega)) ?_
      rintro _ _ ⟨g693, rfl, hI694, hF695, v696, rfl, hr697⟩
      refine At.sti ?_
      have hF698 := Fr.tr hF682 hF695 rfl rfl
      obtain ⟨w699, w700, w701, w702⟩ := hr697
      have w703 := And.intro w699 w700
      have fw704 : ∀ j : Int, 0 ≤ j → j ≤ v696.toInt → (eA g693 249 j).toInt < (eA g0 233 0).toInt := fun j a b => by have z := w703.2 j a b; rw [eA_c ((gA_sI))] at z; exact z
      have w705 := WAYF.cg ((gA_sI)) w701
      have w706 := itI.cg ((gA_sI)) w702
      refine At.enter rfl ?_
      refine r_istore_n ([(2, .int v696), (0, .ref 231), (1, .int a1)]) rfl ?_
      refine r_iload_n rfl ?_
      refine r_iconst 1 rfl ?_
      refine r_ics 26 rfl (fun c707 => ?_) (fun c707 => ?_)
      · have c707_ : v696.toInt ≥ 1 := en_i_ge_t c707
        refine At.enter rfl ?_
        refine r_bipush 9 rfl ?_
        refine r_istore_n ([(3, .int 9), (2, .int v696), (0, .ref 231), (1, .int a1)]) rfl ?_
        refine r_iconst 0 rfl ?_
        refine r_istore ([(4, .int 0), (3, .int 9), (2, .int v696), (0, .ref 231), (1, .int a1)]) rfl ?_
        refine Ar.fall 34 rfl ?_
        have z_999 : (9 : Int32).toInt = 9 := rfl
        have z_1000 : (0 : Int32).toInt = 0 := rfl
        refine w_loopI (fun n_ l_ g_ => ∃ x979 : Int32, ∃ x980 : Int32, n_ = 12 - x980.toInt ∧ HI g_ ∧ Fr F_X11_pieces_231 A_X11_pieces_231 g0 g_ ∧ en_get 0 l_ = some (.ref 231) ∧ en_get 1 l_ = some (.int a1) ∧ en_get 2 l_ = some (.int v696) ∧ en_get 3 l_ = some (.int x979) ∧ en_get 4 l_ = some (.int x980) ∧ (1 ≤ x979.toInt ∧ x979.toInt ≤ 9) ∧ (0 ≤ x980.toInt ∧ x980.toInt ≤ 12) ∧ (∀ j : Int, 0 ≤ j → j ≤ v696.toInt → (eA g_ 249 j).toInt < (eA g0 233 0).toInt) ∧ (∀ j : Int, 0 ≤ j → j ≤ v696.toInt → (eA g_ 249 j).toInt = itI (NMq g0) j (eA g0 233 (46 + (6 * a1.toInt + 1))).toInt) ∧ (x979.toInt = LSI (NMq g0) (SM g0) x980.toInt (eA g0 233 (46 + (6 * a1.toInt + 1))).toInt) ∧ (0 ≤ x980.toInt) ∧ (x980.toInt ≤ v696.toInt)) ?_ (12 - 0) ⟨9, 0, by first | rfl | omega, hI694, hF698, rfl, rfl, rfl, rfl, rfl, by decide, by decide, (fun j a b => by rw [eA_c (rfl)]; exact fw704 j a b), (fun j a b => (eA_ti (rfl)).trans (w706 j a b)), (LSI.z _ _ _ (by first | decide | omega)), by omega, by omega⟩
        rintro n985 l984 g981 ⟨x979, x980, hm1001, hI982, hF983, e987, e988, e989, e990, e991, r992, r993, q994, q995, q996, q997, q998⟩ ih986
        refine At.enter rfl ?_
        refine r_iload e991 ?_
        refine r_iload_n e989 ?_
        have bv1003 := q_bnd x980
        have bv1004 := q_bnd v696
        refine r_ics 40 rfl (fun c1002 => ?_) (fun c1002 => ?_)
        · have c1002_ : x980.toInt ≥ v696.toInt := en_i_ge_t c1002
          refine At.enter rfl ?_
          refine r_iload_n e989 ?_
          refine r_aload_n e987 ?_
          refine r_iload_n e988 ?_
          refine r_iconst 0 rfl ?_
          refine q_inlV 86 rfl [.ref 231, .int a1, .int 0] [.int v696] (Nat.le_of_ble_eq_true rfl) rfl ?_
          refine Ev.mk rfl rfl ⟨Nat.le_of_ble_eq_true rfl, Or.inr (q_rc hI982.1 kx_231 rfl)⟩ ?_
          show At _ none _ _ (0, [(0, .ref 231), (1, .int a1), (2, .int 0)], [], (_, _)) _
          refine At.enter rfl ?_
          refine r_aload_n rfl ?_
          refine q_getR (Sh.ref hI982.1 kx_231 rfl) ?_
          refine r_bipush 46 rfl ?_
          refine r_bipush 6 rfl ?_
          refine r_iload_n rfl ?_
          refine q_imul (6 * a1.toInt) rfl (by omega) (fun v1005 hv1005 => ?_)
          refine q_iadd (46 + v1005.toInt) rfl (by omega) (fun v1006 hv1006 => ?_)
          refine r_iload_n rfl ?_
          refine q_iadd (v1006.toInt + 0) rfl (by omega) (fun v1007 hv1007 => ?_)
          obtain ⟨v1008, hv1008⟩ : ∃ v, eA g0 233 (6 * a1.toInt + 46) = v := ⟨_, rfl⟩
          have wv1008 := HI.l0 hI0 (j := (6 * a1.toInt + 46)) (a1.toInt) (by omega) (by omega)
          rw [hv1008] at wv1008
          refine q_iald (Sh.arr hI982.1 ka_233) (6 * a1.toInt + 46) (by omega) (by omega) v1008 ((eA_c (hF983.2.1 233 (by decide))).trans hv1008) ?_
          refine q_ireti ?_
          refine At.enter rfl ?_
          refine r_iload_n e990 ?_
          refine q_iaddO (fun v1009 ov1009 => ?_)
          refine r_iconst 1 rfl ?_
          refine q_isubO (fun v1010 ov1010 => ?_)
          refine r_iload_n e990 ?_
          refine q_idivO (by omega) (fun v1011 ov1011 => ?_)
          refine q_iaddO (fun v1012 ov1012 => ?_)
          refine r_iconst 1 rfl ?_
          refine q_isubO (fun v1013 ov1013 => ?_)
          refine r_ireti ?_
          have x1014 := HI.eqA hI0 (p := 233) (j := 1) (hv684)
          exact ⟨_, rfl, hI982, hF983, _, rfl, trivial, ⟨fun h => absurd h (by omega), fun h hw => PCE.mk v696 x979 v1008 (w705 hw) (by rw [show v696.toInt = x980.toInt from by omega]; exact q996) (by omega) (by omega) ((congrArg Int32.toInt hv1008).symm.trans (eA_ix (by omega))) (by rw [ov1013, ov1012, ov1011, ov1010, ov1009])⟩⟩
        · have c1002_ : x980.toInt < v696.toInt := en_i_ge_f c1002
          refine At.enter rfl ?_
          refine r_aload_n e987 ?_
          refine r_aload_n e987 ?_
          refine q_getR (Sh.ref hI982.1 kx_231 rfl) ?_
          refine r_iload e991 ?_
          obtain ⟨v1015, hv1015⟩ : ∃ v, eA g981 249 x980.toInt = v := ⟨_, rfl⟩
          have rv1015 := RgA.at hI982.2.2.1 (Sh.arr hI982.1 ka_249).2 (p := 249) rfl (j := x980.toInt) (by omega)
          rw [hv1015] at rv1015
          dsimp only at rv1015
          have yv1015 := q994 x980.toInt (by omega) (by omega)
          rw [hv1015] at yv1015
          have zv1015 := q995 x980.toInt (by omega) (by omega)
          rw [hv1015] at zv1015
          refine q_iald (Sh.arr hI982.1 ka_249) x980.toInt rfl (by omega) v1015 hv1015 ?_
          refine r_iconst 1 rfl ?_
          refine q_inlV 52 rfl [.ref 231, .int v1015, .int 1] [] (Nat.le_of_ble_eq_true rfl) rfl ?_
          refine Ev.mk rfl rfl ⟨Nat.le_of_ble_eq_true rfl, Or.inr (q_rc hI982.1 kx_231 rfl)⟩ ?_
          show At _ none _ _ (0, [(0, .ref 231), (1, .int v1015), (2, .int 1)], [], (_, _)) _
          refine At.enter rfl ?_
          refine r_aload_n rfl ?_
          refine q_getR (Sh.ref hI982.1 kx_231 rfl) ?_
          refine r_bipush 10 rfl ?_
          refine r_iconst 3 rfl ?_
          refine r_iload_n rfl ?_
          refine q_imul (3 * v1015.toInt) rfl (by omega) (fun v1016 hv1016 => ?_)
          refine q_iadd (10 + v1016.toInt) rfl (by omega) (fun v1017 hv1017 => ?_)
          refine r_iload_n rfl ?_
          refine q_iadd (v1017.toInt + 1) rfl (by omega) (fun v1018 hv1018 => ?_)
          obtain ⟨v1019, hv1019⟩ : ∃ v, eA g0 233 (3 * v1015.toInt + 11) = v := ⟨_, rfl⟩
          have wv1019 := HI.s1 hI0 (j := (3 * v1015.toInt + 11)) (v1015.toInt) (by omega) (by omega)
          rw [hv1019] at wv1019
          refine q_iald (Sh.arr hI982.1 ka_233) (3 * v1015.toInt + 11) (by omega) (by omega) v1019 ((eA_c (hF983.2.1 233 (by decide))).trans hv1019) ?_
          refine q_ireti ?_
          refine At.enter rfl ?_
          refine r_iload_n e990 ?_
          have bv1021 := q_bnd v1019
          have bv1022 := q_bnd x979
          refine r_ics 56 rfl (fun c1020 => ?_) (fun c1020 => ?_)
          · have c1020_ : v1019.toInt ≥ x979.toInt := en_i_ge_t c1020
            refine At.enter rfl ?_
            refine r_iload_n e990 ?_
            refine Ar.fall 72 rfl ?_
            refine At.enter rfl ?_
            refine r_istore_n _ rfl ?_
            refine q_iinc (w_p1 (by decide) (Or.inr rfl) e991) (x980.toInt + 1) rfl (by omega) (fun v1023 hv1023 => ?_)
            refine r_goto ?_
            exact ih986 (12 - v1023.toInt) _ _ ⟨x979, v1023, by first | rfl | omega, hI982, hF983, (w_p1 (by decide) (Or.inr rfl) (w_p1 (by decide) (Or.inr rfl) e987)), (w_p1 (by decide) (Or.inr rfl) (w_p1 (by decide) (Or.inr rfl) e988)), (w_p1 (by decide) (Or.inr rfl) (w_p1 (by decide) (Or.inr rfl) e989)), (w_p1 (by decide) (Or.inr rfl) (w_e1 _ _ _)), (w_e1 _ _ _), by omega, by omega, (fun j a b => by rw [eA_c (rfl)]; exact q994 j a b), (fun j a b => (eA_ti (rfl)).trans (q995 j a b)), (LSI.step (x := v1019.toInt) (by omega) (show v1023.toInt = x980.toInt + 1 from by omega) q996 (by rw [← zv1015]; show (eA g0 233 (10 + 3 * v1015.toInt + 1)).toInt = _; exact (eA_ix (by omega)).trans (congrArg Int32.toInt hv1019)) ⟨by omega, by omega, by omega⟩), by omega, by omega⟩ ⟨by omega, by omega⟩
          · have c1020_ : v1019.toInt < x979.toInt := en_i_ge_f c1020
            refine At.enter rfl ?_
            refine r_aload_n e987 ?_
            refine r_aload_n e987 ?_
            refine q_getR (Sh.ref hI982.1 kx_231 rfl) ?_
            refine r_iload e991 ?_
            refine q_iald (Sh.arr hI982.1 ka_249) x980.toInt rfl (by omega) v1015 hv1015 ?_
            refine r_iconst 1 rfl ?_
            refine q_inlV 68 rfl [.ref 231, .int v1015, .int 1] [] (Nat.le_of_ble_eq_true rfl) rfl ?_
            refine Ev.mk rfl rfl ⟨Nat.le_of_ble_eq_true rfl, Or.inr (q_rc hI982.1 kx_231 rfl)⟩ ?_
            show At _ none _ _ (0, [(0, .ref 231), (1, .int v1015), (2, .int 1)], [], (_, _)) _
            refine At.enter rfl ?_
            refine r_aload_n rfl ?_
            refine q_getR (Sh.ref hI982.1 kx_231 rfl) ?_
            refine r_bipush 10 rfl ?_
            refine r_iconst 3 rfl ?_
            refine r_iload_n rfl ?_
            refine q_imul (3 * v1015.toInt) rfl (by omega) (fun v1024 hv1024 => ?_)
            refine q_iadd (10 + v1024.toInt) rfl (by omega) (fun v1025 hv1025 => ?_)
            refine r_iload_n rfl ?_
            refine q_iadd (v1025.toInt + 1) rfl (by omega) (fun v1026 hv1026 => ?_)
            refine q_iald (Sh.arr hI982.1 ka_233) (3 * v1015.toInt + 11) (by omega) (by omega) v1019 ((eA_c (hF983.2.1 233 (by decide))).trans hv1019) ?_
            refine q_ireti ?_
            refine At.enter rfl ?_
            refine r_goto ?_
            refine At.enter rfl ?_
            refine r_istore_n _ rfl ?_
            refine q_iinc (w_p1 (by decide) (Or.inr rfl) e991) (x980.toInt + 1) rfl (by omega) (fun v1027 hv1027 => ?_)
            refine r_goto ?_
            exact ih986 (12 - v1027.toInt) _ _ ⟨v1019, v1027, by first | rfl | omega, hI982, hF983, (w_p1 (by decide) (Or.inr rfl) (w_p1 (by decide) (Or.inr rfl) e987)), (w_p1 (by decide) (Or.inr rfl) (w_p1 (by decide) (Or.inr rfl) e988)), (w_p1 (by decide) (Or.inr rfl) (w_p1 (by decide) (Or.inr rfl) e989)), (w_p1 (by decide) (Or.inr rfl) (w_e1 _ _ _)), (w_e1 _ _ _), by omega, by omega, (fun j a b => by rw [eA_c (rfl)]; exact q994 j a b), (fun j a b => (eA_ti (rfl)).trans (q995 j a b)), (LSI.step (x := v1019.toInt) (by omega) (show v1027.toInt = x980.toInt + 1 from by omega) q996 (by rw [← zv1015]; show (eA g0 233 (10 + 3 * v1015.toInt + 1)).toInt = _; exact (eA_ix (by omega)).trans (congrArg Int32.toInt hv1019)) ⟨by omega, by omega, by omega⟩), by omega, by omega⟩ ⟨by omega, by omega⟩
      · have c707_ : v696.toInt < 1 := en_i_ge_f c707
        refine At.enter rfl ?_
        refine r_iload_n rfl ?_
        refine r_ireti ?_
        have x1028 := HI.eqA hI0 (p := 233) (j := 1) (hv684)
        exact ⟨_, rfl, hI694, hF698, _, rfl, trivial, ⟨fun h => absurd h (by omega), fun h hw => PCE.few v696 (w705 hw) (by omega) (by omega)⟩⟩

def F_X11_after_231 : List (Nat × Nat) := []
def A_X11_after_231 : List Nat := []
set_option maxRecDepth 100000 in
set_option maxHeartbeats 4000000 in
theorem T_X11_after_231 (d : Nat) {N : Nat} {g0 : List en_E} (hI0 : HI g0) (a1 : Int32) (h_a1 : (-1) ≤ a1.toInt ∧ a1.toInt ≤ 11) (a2 : Int32) : Ev (d + 4) 256 [.ref 231, .int a1, .int a2] (g0, N) (fun w h' => ∃ g', h' = (g', N) ∧ HI g' ∧ Fr F_X11_after_231 A_X11_after_231 g0 g' ∧ ∃ r : Int32, w = some (.int r) ∧ ((-1) ≤ r.toInt ∧ r.toInt ≤ 11) ∧ (r.toInt = itI (NMq g0) a2.toInt a1.toInt)) := by
  have hF0 : Fr F_X11_after_231 A_X11_after_231 g0 g0 := Fr.rf
  refine Ev.mk rfl rfl ⟨Nat.le_of_ble_eq_true rfl, Or.inr (q_rc hI0.1 kx_231 rfl)⟩ ?_
  show At _ none _ _ (0, [(0, .ref 231), (1, .int a1), (2, .int a2)], [], (_, _)) _
  refine At.enter rfl ?_
  refine r_iload_n rfl ?_
  refine r_istore_n ([(3, .int a1), (0, .ref 231), (1, .int a1), (2, .int a2)]) rfl ?_
  refine r_iconst 0 rfl ?_
  refine r_istore ([(4, .int 0), (3, .int a1), (0, .ref 231), (1, .int a1), (2, .int a2)]) rfl ?_
  refine Ar.fall 5 rfl ?_
  have z_1028 : (0 : Int32).toInt = 0 := rfl
  refine w_loopI (fun n_ l_ g_ => ∃ x1010 : Int32, ∃ x1011 : Int32, n_ = 2147483647 - x1011.toInt ∧ HI g_ ∧ Fr F_X11_after_231 A_X11_after_231 g0 g_ ∧ en_get 0 l_ = some (.ref 231) ∧ en_get 1 l_ = some (.int a1) ∧ en_get 2 l_ = some (.int a2) ∧ en_get 3 l_ = some (.int x1010) ∧ en_get 4 l_ = some (.int x1011) ∧ ((-1) ≤ x1010.toInt ∧ x1010.toInt ≤ 11) ∧ 0 ≤ x1011.toInt ∧ (x1010.toInt = itI (NMq g0) x1011.toInt a1.toInt) ∧ (0 ≤ x1011.toInt) ∧ (x1011.toInt ≤ a2.toInt ∨ x1011.toInt = 0)) ?_ (2147483647 - 0) ⟨a1, 0, by first | rfl | omega, hI0, hF0, rfl, rfl, rfl, rfl, rfl, by omega, by decide, (itI_n _ (by first | decide | omega) _).symm, by omega, by omega⟩
  rintro n1016 l1015 g1012 ⟨x1010, x1011, hm1029, hI1013, hF1014, e1018, e1019, e1020, e1021, e1022, r1023, r1024, q1025, q1026, q1027⟩ ih1017
  refine At.enter rfl ?_
  refine r_iload e1022 ?_
  refine r_iload_n e1020 ?_
  have bv1031 := q_bnd x1011
  have bv1032 := q_bnd a2
  refine r_ics 11 rfl (fun c1030 => ?_) (fun c1030 => ?_)
  · have c1030_ : x1011.toInt ≥ a2.toInt := en_i_ge_t c1030
    refine At.enter rfl ?_
    refine r_iload_n e1021 ?_
    refine r_ireti ?_
    exact ⟨_, rfl, hI1013, hF1014, _, rfl, by omega, (by first | exact (Decidable.em (a2.toInt ≤ 0)).elim (fun k => (by rw [itI_n _ k]; have z := itI_n (NMq g0) (k := x1011.toInt) (by omega) a1.toInt; omega)) (fun k => (by rw [show a2.toInt = x1011.toInt from by omega]; omega)) | (have z := itI_e (NMq.e g0) (i := x1011.toInt) (k := a2.toInt) (s := a1.toInt) (by omega) (by omega); omega))⟩
  · have c1030_ : x1011.toInt < a2.toInt := en_i_ge_f c1030
    refine At.enter rfl ?_
    refine r_iload_n e1021 ?_
    refine r_iconst (-1) rfl ?_
    refine r_ics 16 rfl (fun c1033 => ?_) (fun c1033 => ?_)
    · have c1033_ : x1010.toInt = (-1) := en_i_eq_t c1033
      refine At.enter rfl ?_
      refine r_iload_n e1021 ?_
      refine r_ireti ?_
      exact ⟨_, rfl, hI1013, hF1014, _, rfl, by omega, (by first | exact (Decidable.em (a2.toInt ≤ 0)).elim (fun k => (by rw [itI_n _ k]; have z := itI_n (NMq g0) (k := x1011.toInt) (by omega) a1.toInt; omega)) (fun k => (by rw [show a2.toInt = x1011.toInt from by omega]; omega)) | (have z := itI_e (NMq.e g0) (i := x1011.toInt) (k := a2.toInt) (s := a1.toInt) (by omega) (by omega); omega))⟩
    · have c1033_ : x1010.toInt ≠ (-1) := en_i_eq_f c1033
      refine At.enter rfl ?_
      refine r_aload_n e1018 ?_
      refine r_iload_n e1021 ?_
      refine r_iconst 0 rfl ?_
      refine r_callV 22 rfl [.ref 231, .int x1010, .int 0] [] (Nat.le_of_ble_eq_true rfl) rfl (T_X11_nextOf0_231 _ hI1013 x1010 (by omega)) ?_
      rintro _ _ ⟨g1034, rfl, hI1035, hF1036, v1037, rfl, hr1038⟩
      refine At.sti ?_
      have hF1039 := Fr.tr hF1014 hF1036 rfl rfl
      have zv1040 : (0 : Int32).toInt = 0 := rfl
      rw [eA_c ((hF1014.2.1 233 (by decide)))] at hr1038
      rw [NMo.c ((hF1014.2.1 233 (by decide)))] at hr1038
      refine At.enter rfl ?_
      refine r_istore_n _ rfl ?_
      refine q_iinc (w_p1 (by decide) (Or.inr rfl) e1022) (x1011.toInt + 1) rfl (by omega) (fun v1041 hv1041 => ?_)
      refine r_goto ?_
      have bv1042 := q_bnd v1041
      exact ih1017 (2147483647 - v1041.toInt) _ _ ⟨v1037, v1041, by first | rfl | omega, hI1035, hF1039, (w_p1 (by decide) (Or.inr rfl) (w_p1 (by decide) (Or.inr rfl) e1018)), (w_p1 (by decide) (Or.inr rfl) (w_p1 (by decide) (Or.inr rfl) e1019)), (w_p1 (by decide) (Or.inr rfl) (w_p1 (by decide) (Or.inr rfl) e1020)), (w_p1 (by decide) (Or.inr rfl) (w_e1 _ _ _)), (w_e1 _ _ _), by omega, by omega, (by rw [show v1041.toInt = x1011.toInt + 1 from by omega, itI_s (NMq g0) (by omega), ← q1025]; have z := NMq.ne (g := g0) (s := x1010.toInt) (by omega); omega), by omega, by omega⟩ ⟨by omega, by omega⟩

def F_X11_thieves_231 : List (Nat × Nat) := [(231, 0)]
def A_X11_thieves_231 : List Nat := []
set_option maxRecDepth 100000 in
set_option maxHeartbeats 4000000 in
theorem T_X11_thieves_231 (d : Nat) {N : Nat} {g0 : List en_E} (hI0 : HI g0) : Ev (d + 5) 257 [.ref 231] (g0, N) (fun w h' => ∃ g', h' = (g', N) ∧ HI g' ∧ Fr F_X11_thieves_231 A_X11_thieves_231 g0 g' ∧ ∃ r : Int32, w = some (.int r) ∧ True ∧ (r.toInt = (ACI (FITM g0 (eA g0 233 4).toInt) (eA g0 233 0).toInt).toInt)) := by
  have hF0 : Fr F_X11_thieves_231 A_X11_thieves_231 g0 g0 := Fr.rf
  refine Ev.mk rfl rfl ⟨Nat.le_of_ble_eq_true rfl, Or.inr (q_rc hI0.1 kx_231 rfl)⟩ ?_
  show At _ none _ _ (0, [(0, .ref 231)], [], (_, _)) _
  refine At.enter rfl ?_
  refine r_aload_n rfl ?_
  refine r_iconst 0 rfl ?_
  refine q_putI (Sh.int hI0.1 kx_231 rfl) rfl ?_
  have hI5484 := HI.wI0 hI0 kx_231 rfl (p := 231) (b := 0) (v := 0) rfl
  have hF5485 := Fr.wI (p := 231) (b := 0) (v := 0) hF0 rfl
  refine r_iconst 0 rfl ?_
  refine r_istore_n ([(1, .int 0), (0, .ref 231)]) rfl ?_
  refine r_iconst 0 rfl ?_
  refine r_istore_n ([(2, .int 0), (1, .int 0), (0, .ref 231)]) rfl ?_
  refine Ar.fall 9 rfl ?_
  have z_7949 : (0 : Int32).toInt = 0 := rfl
  have z_7950 : (0 : Int32).toInt = 0 := rfl
  obtain ⟨v7951, hv7951⟩ : ∃ v, eA g0 233 0 = v := ⟨_, rfl⟩
  have tv7951 := congrArg Int32.toInt hv7951
  have wv7951 := HI.t0 hI0
  rw [hv7951] at wv7951
  have tv7951 := congrArg Int32.toInt hv7951
  have x7952 := HI.eqA hI5484 (p := 233) (j := 0) (((eA_c gA_sI).trans hv7951))
  obtain ⟨v7953, hv7953⟩ : ∃ v, eA g0 233 4 = v := ⟨_, rfl⟩
  have wv7953 := HI.t4 hI0
  rw [hv7953] at wv7953
  have tv7953 := congrArg Int32.toInt hv7953
  have x7954 := HI.eqA hI5484 (p := 233) (j := 4) (((eA_c gA_sI).trans hv7953))
  refine w_loopI (fun n_ l_ g_ => ∃ x7934 : Int32, ∃ x7935 : Int32, n_ = 12 - x7935.toInt ∧ HI g_ ∧ Fr F_X11_thieves_231 A_X11_thieves_231 g0 g_ ∧ en_get 0 l_ = some (.ref 231) ∧ en_get 1 l_ = some (.int x7934) ∧ en_get 2 l_ = some (.int x7935) ∧ (0 ≤ x7935.toInt ∧ x7935.toInt ≤ 12) ∧ (x7934.toInt = (ACI (FITM g0 (eA g0 233 4).toInt) x7935.toInt).toInt) ∧ (0 ≤ x7935.toInt) ∧ (x7935.toInt ≤ (eA g0 233 0).toInt)) ?_ (12 - 0) ⟨0, 0, by first | rfl | omega, hI5484, hF5485, rfl, rfl, rfl, by decide, ((by first | rfl | omega : _ = (0 : Int)).trans (ACI.z _ (by first | decide | omega))), by omega, by omega⟩
  rintro n7940 l7939 g7936 ⟨x7934, x7935, hm7955, hI7937, hF7938, e7942, e7943, e7944, r7945, q7946, q7947, q7948⟩ ih7941
  refine At.enter rfl ?_
  refine r_iload_n e7944 ?_
  refine r_aload_n e7942 ?_
  refine q_getR (Sh.ref hI7937.1 kx_231 rfl) ?_
  refine r_iconst 0 rfl ?_
  refine q_iald (Sh.arr hI7937.1 ka_233) 0 rfl (by decide) v7951 ((eA_c (hF7938.2.1 233 (by decide))).trans hv7951) ?_
  have bv7957 := q_bnd x7935
  have bv7958 := q_bnd v7951
  refine r_ics 19 rfl (fun c7956 => ?_) (fun c7956 => ?_)
  · have c7956_ : x7935.toInt ≥ v7951.toInt := en_i_ge_t c7956
    refine At.enter rfl ?_
    refine r_iload_n e7943 ?_
    refine r_ireti ?_
    have x7959 := HI.eqA hI0 (p := 233) (j := 0) (hv7951)
    exact ⟨_, rfl, hI7937, hF7938, _, rfl, trivial, (by rw [show (eA g0 233 0).toInt = x7935.toInt from by omega]; exact q7946)⟩
  · have c7956_ : x7935.toInt < v7951.toInt := en_i_ge_f c7956
    refine At.enter rfl ?_
    refine r_iconst 1 rfl ?_
    refine r_istore_n _ rfl ?_
    refine r_iconst 0 rfl ?_
    refine r_istore _ rfl ?_
    refine Ar.fall 24 rfl ?_
    have z_8185 : (1 : Int32).toInt = 1 := rfl
    have z_8186 : (0 : Int32).toInt = 0 := rfl
    have x8187 := HI.eqA hI7937 (p := 233) (j := 0) (((eA_c (hF7938.2.1 233 (by decide))).trans hv7951))
    have x8188 := HI.eqA hI7937 (p := 233) (j := 4) (((eA_c (hF7938.2.1 233 (by decide))).trans hv7953))
    refine w_loopI (fun n_ l_ g_ => ∃ x8167 : Int32, ∃ x8168 : Int32, n_ = 8 - x8168.toInt ∧ HI g_ ∧ Fr F_X11_thieves_231 A_X11_thieves_231 g0 g_ ∧ en_get 0 l_ = some (.ref 231) ∧ en_get 1 l_ = some (.int x7934) ∧ en_get 2 l_ = some (.int x7935) ∧ en_get 3 l_ = some (.int x8167) ∧ en_get 4 l_ = some (.int x8168) ∧ (0 ≤ x8167.toInt ∧ x8167.toInt ≤ 1) ∧ (0 ≤ x8168.toInt ∧ x8168.toInt ≤ 8) ∧ (BL (FITM g0 x8168.toInt x7935.toInt) x8167.toInt) ∧ (0 ≤ x8168.toInt) ∧ (x8168.toInt ≤ (eA g0 233 4).toInt)) ?_ (8 - 0) ⟨1, 0, by first | rfl | omega, hI7937, hF7938, (w_p1 (by decide) (Or.inr rfl) (w_p1 (by decide) (Or.inr rfl) e7942)), (w_p1 (by decide) (Or.inr rfl) (w_p1 (by decide) (Or.inr rfl) e7943)), (w_p1 (by decide) (Or.inr rfl) (w_p1 (by decide) (Or.inr rfl) e7944)), (w_p1 (by decide) (Or.inr rfl) (w_e1 _ _ _)), (w_e1 _ _ _), by decide, by decide, (FITM.z _ _ (by first | decide | omega) (by first | rfl | decide | omega)), by omega, by omega⟩
    rintro n8173 l8172 g8169 ⟨x8167, x8168, hm8189, hI8170, hF8171, e8175, e8176, e8177, e8178, e8179, r8180, r8181, q8182, q8183, q8184⟩ ih8174
    refine At.enter rfl ?_
    refine r_iload e8179 ?_
    refine r_aload_n e8175 ?_
    refine q_getR (Sh.ref hI8170.1 kx_231 rfl) ?_
    refine r_iconst 4 rfl ?_
    refine q_iald (Sh.arr hI8170.1 ka_233) 4 rfl (by decide) v7953 ((eA_c (hF8171.2.1 233 (by decide))).trans hv7953) ?_
    have bv8191 := q_bnd x8168
    have bv8192 := q_bnd v7953
    refine r_ics 35 rfl (fun c8190 => ?_) (fun c8190 => ?_)
    · have c8190_ : x8168.toInt ≥ v7953.toInt := en_i_ge_t c8190
      refine At.enter rfl ?_
      refine r_iload_n e8176 ?_
      refine r_iload_n e8178 ?_
      refine r_ifs 90 rfl (fun c8193 => ?_) (fun c8193 => ?_)
      · have c8193_ : x8167.toInt = 0 := en_k_eq_t c8193
        refine At.enter rfl ?_
        refine r_iconst 0 rfl ?_
        refine Ar.fall 97 rfl ?_
        refine At.enter rfl ?_
        refine q_iorO (fun v8194 hv8194 => ?_)
        refine r_istore_n _ rfl ?_
        refine q_iinc (w_p1 (by decide) (Or.inr rfl) e8177) (x7935.toInt + 1) rfl (by omega) (fun v8195 hv8195 => ?_)
        refine r_goto ?_
        have bv8196 := q_bnd v8194
        exact ih7941 (12 - v8195.toInt) _ _ ⟨v8194, v8195, by first | rfl | omega, hI8170, hF8171, (w_p1 (by decide) (Or.inr rfl) (w_p1 (by decide) (Or.inr rfl) e8175)), (w_p1 (by decide) (Or.inr rfl) (w_e1 _ _ _)), (w_e1 _ _ _), by omega, (by have fz : BL (FITM g0 (eA g0 233 4).toInt x7935.toInt) x8167.toInt := (show x8168.toInt = (eA g0 233 4).toInt from by omega) ▸ q8182; first | exact ACI.yes (i := x7935) (by omega) (show v8195.toInt = x7935.toInt + 1 from by omega) (BL.yes fz (by omega)) rfl hv8194 (by assumption) q7946 | exact (q_or0 hv8194 (by first | rfl | omega)).trans (ACI.no (by omega) (show v8195.toInt = x7935.toInt + 1 from by omega) (BL.no fz (by omega)) q7946)), by omega, by omega⟩ ⟨by omega, by omega⟩
      · have c8193_ : x8167.toInt ≠ 0 := en_k_eq_f c8193
        refine At.enter rfl ?_
        refine r_iconst 1 rfl ?_
        refine r_iload_n e8177 ?_
        refine q_ishlO (fun v8197 hv8197 => ?_)
        refine r_goto ?_
        refine At.enter rfl ?_
        refine q_iorO (fun v8198 hv8198 => ?_)
        refine r_istore_n _ rfl ?_
        refine q_iinc (w_p1 (by decide) (Or.inr rfl) e8177) (x7935.toInt + 1) rfl (by omega) (fun v8199 hv8199 => ?_)
        refine r_goto ?_
        have bv8200 := q_bnd v8198
        exact ih7941 (12 - v8199.toInt) _ _ ⟨v8198, v8199, by first | rfl | omega, hI8170, hF8171, (w_p1 (by decide) (Or.inr rfl) (w_p1 (by decide) (Or.inr rfl) e8175)), (w_p1 (by decide) (Or.inr rfl) (w_e1 _ _ _)), (w_e1 _ _ _), by omega, (by have fz : BL (FITM g0 (eA g0 233 4).toInt x7935.toInt) x8167.toInt := (show x8168.toInt = (eA g0 233 4).toInt from by omega) ▸ q8182; first | exact ACI.yes (i := x7935) (by omega) (show v8199.toInt = x7935.toInt + 1 from by omega) (BL.yes fz (by omega)) rfl hv8198 (by assumption) q7946 | exact (q_or0 hv8198 (by first | rfl | omega)).trans (ACI.no (by omega) (show v8199.toInt = x7935.toInt + 1 from by omega) (BL.no fz (by omega)) q7946)), by omega, by omega⟩ ⟨by omega, by omega⟩
    · have c8190_ : x8168.toInt < v7953.toInt := en_i_ge_f c8190
      refine At.enter rfl ?_
      refine r_iload_n e8178 ?_
      refine r_ifs 39 rfl (fun c8201 => ?_) (fun c8201 => ?_)
      · have c8201_ : x8167.toInt = 0 := en_k_eq_t c8201
        refine At.enter rfl ?_
        refine r_iconst 0 rfl ?_
        refine Ar.fall 78 rfl ?_
        refine At.enter rfl ?_
        refine r_istore_n _ rfl ?_
        refine q_iinc (w_p1 (by decide) (Or.inr rfl) e8179) (x8168.toInt + 1) rfl (by omega) (fun v8202 hv8202 => ?_)
        refine r_goto ?_
        exact ih8174 (8 - v8202.toInt) _ _ ⟨0, v8202, by first | rfl | omega, hI8170, hF8171, (w_p1 (by decide) (Or.inr rfl) (w_p1 (by decide) (Or.inr rfl) e8175)), (w_p1 (by decide) (Or.inr rfl) (w_p1 (by decide) (Or.inr rfl) e8176)), (w_p1 (by decide) (Or.inr rfl) (w_p1 (by decide) (Or.inr rfl) e8177)), (w_p1 (by decide) (Or.inr rfl) (w_e1 _ _ _)), (w_e1 _ _ _), by decide, by omega, (FITM.no2 q8182 (by omega) (show v8202.toInt = x8168.toInt + 1 from by omega) (by omega)), by omega, by omega⟩ ⟨by omega, by omega⟩
      · have c8201_ : x8167.toInt ≠ 0 := en_k_eq_f c8201
        refine At.enter rfl ?_
        refine r_aload_n e8175 ?_
        refine r_iload_n e8177 ?_
        refine r_aload_n e8175 ?_
        refine q_getR (Sh.ref hI8170.1 kx_231 rfl) ?_
        refine r_bipush 94 rfl ?_
        refine r_iconst 2 rfl ?_
        refine r_iload e8179 ?_
        refine q_imul (2 * x8168.toInt) rfl (by omega) (fun v8203 hv8203 => ?_)
        refine q_iadd (94 + v8203.toInt) rfl (by omega) (fun v8204 hv8204 => ?_)
        refine r_iconst 1 rfl ?_
        refine q_iadd (v8204.toInt + 1) rfl (by omega) (fun v8205 hv8205 => ?_)
        obtain ⟨v8206, hv8206⟩ : ∃ v, eA g0 233 (2 * x8168.toInt + 95) = v := ⟨_, rfl⟩
        have wv8206 := HI.g1 hI0 (j := (2 * x8168.toInt + 95)) (x8168.toInt) (by omega) (by omega)
        rw [hv8206] at wv8206
        refine q_iald (Sh.arr hI8170.1 ka_233) (2 * x8168.toInt + 95) (by omega) (by omega) v8206 ((eA_c (hF8171.2.1 233 (by decide))).trans hv8206) ?_
        refine r_callV 58 rfl [.ref 231, .int x7935, .int v8206] [] (Nat.le_of_ble_eq_true rfl) rfl (T_X11_after_231 _ hI8170 x7935 (by omega) v8206) ?_
        rintro _ _ ⟨g8207, rfl, hI8208, hF8209, v8210, rfl, hr8211⟩
        refine At.sti ?_
        have hF8212 := Fr.tr hF8171 hF8209 rfl rfl
        rw [NMq.cI ((hF8171.2.1 233 (by decide)))] at hr8211
        refine At.enter rfl ?_
        refine r_aload_n e8175 ?_
        refine q_getR (Sh.ref hI8208.1 kx_231 rfl) ?_
        refine r_bipush 94 rfl ?_
        refine r_iconst 2 rfl ?_
        refine r_iload e8179 ?_
        refine q_imul (2 * x8168.toInt) rfl (by omega) (fun v8213 hv8213 => ?_)
        refine q_iadd (94 + v8213.toInt) rfl (by omega) (fun v8214 hv8214 => ?_)
        obtain ⟨v8215, hv8215⟩ : ∃ v, eA g0 233 (2 * x8168.toInt + 94) = v := ⟨_, rfl⟩
        have wv8215 := HI.g0 hI0 (j := (2 * x8168.toInt + 94)) (x8168.toInt) (by omega) (by omega)
        rw [hv8215] at wv8215
        refine q_iald (Sh.arr hI8208.1 ka_233) (2 * x8168.toInt + 94) (by omega) (by omega) v8215 ((eA_c ((hF8209.2.1 233 (by decide)).trans (hF8171.2.1 233 (by decide)))).trans hv8215) ?_
        refine r_ics 73 rfl (fun c8216 => ?_) (fun c8216 => ?_)
        · have c8216_ : v8210.toInt ≠ v8215.toInt := en_i_ne_t c8216
          refine At.enter rfl ?_
          refine r_iconst 0 rfl ?_
          refine Ar.fall 78 rfl ?_
          refine At.enter rfl ?_
          refine r_istore_n _ rfl ?_
          refine q_iinc (w_p1 (by decide) (Or.inr rfl) e8179) (x8168.toInt + 1) rfl (by omega) (fun v8217 hv8217 => ?_)
          refine r_goto ?_
          exact ih8174 (8 - v8217.toInt) _ _ ⟨0, v8217, by first | rfl | omega, hI8208, hF8212, (w_p1 (by decide) (Or.inr rfl) (w_p1 (by decide) (Or.inr rfl) e8175)), (w_p1 (by decide) (Or.inr rfl) (w_p1 (by decide) (Or.inr rfl) e8176)), (w_p1 (by decide) (Or.inr rfl) (w_p1 (by decide) (Or.inr rfl) e8177)), (w_p1 (by decide) (Or.inr rfl) (w_e1 _ _ _)), (w_e1 _ _ _), by decide, by omega, (by first | exact FITM.yes q8182 (by omega) (show v8217.toInt = x8168.toInt + 1 from by omega) (by have y1 := (eA_ix (g := g0) (p := 233) (show 94 + 2 * x8168.toInt + 1 = (2 * x8168.toInt + 95) from by omega)).trans (congrArg Int32.toInt hv8206); have y0 := (eA_ix (g := g0) (p := 233) (show 94 + 2 * x8168.toInt = (2 * x8168.toInt + 94) from by omega)).trans (congrArg Int32.toInt hv8215); rw [y1, y0]; omega) (by omega) | exact FITM.no1 (by omega) (show v8217.toInt = x8168.toInt + 1 from by omega) (by have y1 := (eA_ix (g := g0) (p := 233) (show 94 + 2 * x8168.toInt + 1 = (2 * x8168.toInt + 95) from by omega)).trans (congrArg Int32.toInt hv8206); have y0 := (eA_ix (g := g0) (p := 233) (show 94 + 2 * x8168.toInt = (2 * x8168.toInt + 94) from by omega)).trans (congrArg Int32.toInt hv8215); rw [y1, y0]; omega) (by omega)), by omega, by omega⟩ ⟨by omega, by omega⟩
        · have c8216_ : v8210.toInt = v8215.toInt := en_i_ne_f c8216
          refine At.enter rfl ?_
          refine r_iconst 1 rfl ?_
          refine r_goto ?_
          refine At.enter rfl ?_
          refine r_istore_n _ rfl ?_
          refine q_iinc (w_p1 (by decide) (Or.inr rfl) e8179) (x8168.toInt + 1) rfl (by omega) (fun v8218 hv8218 => ?_)
          refine r_goto ?_
          exact ih8174 (8 - v8218.toInt) _ _ ⟨1, v8218, by first | rfl | omega, hI8208, hF8212, (w_p1 (by decide) (Or.inr rfl) (w_p1 (by decide) (Or.inr rfl) e8175)), (w_p1 (by decide) (Or.inr rfl) (w_p1 (by decide) (Or.inr rfl) e8176)), (w_p1 (by decide) (Or.inr rfl) (w_p1 (by decide) (Or.inr rfl) e8177)), (w_p1 (by decide) (Or.inr rfl) (w_e1 _ _ _)), (w_e1 _ _ _), by decide, by omega, (by first | exact FITM.yes q8182 (by omega) (show v8218.toInt = x8168.toInt + 1 from by omega) (by have y1 := (eA_ix (g := g0) (p := 233) (show 94 + 2 * x8168.toInt + 1 = (2 * x8168.toInt + 95) from by omega)).trans (congrArg Int32.toInt hv8206); have y0 := (eA_ix (g := g0) (p := 233) (show 94 + 2 * x8168.toInt = (2 * x8168.toInt + 94) from by omega)).trans (congrArg Int32.toInt hv8215); rw [y1, y0]; omega) (by omega) | exact FITM.no1 (by omega) (show v8218.toInt = x8168.toInt + 1 from by omega) (by have y1 := (eA_ix (g := g0) (p := 233) (show 94 + 2 * x8168.toInt + 1 = (2 * x8168.toInt + 95) from by omega)).trans (congrArg Int32.toInt hv8206); have y0 := (eA_ix (g := g0) (p := 233) (show 94 + 2 * x8168.toInt = (2 * x8168.toInt + 94) from by omega)).trans (congrArg Int32.toInt hv8215); rw [y1, y0]; omega) (by omega)), by omega, by omega⟩ ⟨by omega, by omega⟩

def F_X11_meet_231 : List (Nat × Nat) := [(231, 0)]
def A_X11_meet_231 : List Nat := []
set_option maxRecDepth 100000 in
set_option maxHeartbeats 4000000 in
theorem T_X11_meet_231 (d : Nat) {N : Nat} {g0 : List en_E} (hI0 : HI g0) (a1 : Int32) (a2 : Int32) (a3 : Int32) : Ev (d + 5) 258 [.ref 231, .int a1, .int a2, .int a3] (g0, N) (fun w h' => ∃ g', h' = (g', N) ∧ HI g' ∧ Fr F_X11_meet_231 A_X11_meet_231 g0 g' ∧ ∃ r : Int32, w = some (.int r) ∧ ((-1) ≤ r.toInt ∧ r.toInt ≤ 99) ∧ (((0 ≤ a1.toInt ∧ a1.toInt < (eA g0 233 0).toInt ∧ 0 ≤ a2.toInt ∧ a2.toInt < (eA g0 233 0).toInt ∧ 0 ≤ a3.toInt ∧ a3.toInt ≤ 1) → MEET (NMq g0) 99 a1.toInt a2.toInt a3.toInt r.toInt) ∧ (¬ (0 ≤ a1.toInt ∧ a1.toInt < (eA g0 233 0).toInt ∧ 0 ≤ a2.toInt ∧ a2.toInt < (eA g0 233 0).toInt ∧ 0 ≤ a3.toInt ∧ a3.toInt ≤ 1) → r.toInt = -1))) := by
  have hF0 : Fr F_X11_meet_231 A_X11_meet_231 g0 g0 := Fr.rf
  refine Ev.mk rfl rfl ⟨Nat.le_of_ble_eq_true rfl, Or.inr (q_rc hI0.1 kx_231 rfl)⟩ ?_
  show At _ none _ _ (0, [(0, .ref 231), (1, .int a1), (2, .int a2), (3, .int a3)], [], (_, _)) _
  refine At.enter rfl ?_
  refine r_aload_n rfl ?_
  refine r_iconst 0 rfl ?_
  refine q_putI (Sh.int hI0.1 kx_231 rfl) rfl ?_
  have hI663 := HI.wI0 hI0 kx_231 rfl (p := 231) (b := 0) (v := 0) rfl
  have hF664 := Fr.wI (p := 231) (b := 0) (v := 0) hF0 rfl
  refine r_aload_n rfl ?_
  refine r_iload_n rfl ?_
  refine q_inlV 10 rfl [.ref 231, .int a1] [] (Nat.le_of_ble_eq_true rfl) rfl ?_
  refine Ev.mk rfl rfl ⟨Nat.le_of_ble_eq_true rfl, Or.inr (q_rc hI663.1 kx_231 rfl)⟩ ?_
  show At _ none _ _ (0, [(0, .ref 231), (1, .int a1)], [], (_, _)) _
  refine At.enter rfl ?_
  refine r_iload_n rfl ?_
  refine q_i2l (fun v665 hv665 => ?_)
  refine r_lconst 0 rfl ?_
  refine r_aload_n rfl ?_
  refine q_getR (Sh.ref hI663.1 kx_231 rfl) ?_
  refine r_iconst 0 rfl ?_
  obtain ⟨v666, hv666⟩ : ∃ v, eA g0 233 0 = v := ⟨_, rfl⟩
  have tv666 := congrArg Int32.toInt hv666
  have wv666 := HI.t0 hI0
  rw [hv666] at wv666
  refine q_iald (Sh.arr hI663.1 ka_233) 0 rfl (by decide) v666 ((eA_c (gA_sI)).trans hv666) ?_
  refine q_i2l (fun v667 hv667 => ?_)
  refine r_lconst 1 rfl ?_
  refine q_lsub (v667.toInt - 1) rfl (by omega) (fun v668 hv668 => ?_)
  refine q_inlS 15 rfl [.long v665, .long 0, .long v668] [] (Nat.le_of_ble_eq_true rfl) rfl ?_
  refine Ev.mk rfl rfl ⟨Nat.le_of_ble_eq_true rfl, Or.inl rfl⟩ ?_
  show At _ none _ _ (0, [(0, .long v665), (2, .long 0), (4, .long v668)], [], (_, _)) _
  refine At.enter rfl ?_
  refine r_lload_n rfl ?_
  refine r_lload_n rfl ?_
  refine r_lcmp _ rfl ?_
  refine r_ifs 6 rfl (fun c669 => ?_) (fun c669 => ?_)
  · have c669_ : v665.toInt < 0 := en_j_lt_t c669
    refine At.enter rfl ?_
    refine r_iconst 0 rfl ?_
    refine Ar.fall 18 rfl ?_
    refine At.enter rfl ?_
    refine q_iretz (by decide) ?_
    refine At.enter rfl ?_
    refine q_iretz (by decide) ?_
    refine At.enter rfl ?_
    refine r_ift (by decide) ?_
    refine At.enter rfl ?_
    refine r_iconst (-1) rfl ?_
    refine r_ireti ?_
    have zv670 : ((-1) : Int32).toInt = (-1) := rfl
    have x671 := HI.eqA hI0 (p := 233) (j := 0) (hv666)
    exact ⟨_, rfl, hI663, hF664, _, rfl, by decide, ⟨fun h => absurd h (by omega), fun _ => by omega⟩⟩
  · have c669_ : v665.toInt ≥ 0 := en_j_lt_f c669
    refine At.enter rfl ?_
    refine r_lload_n rfl ?_
    refine r_lload rfl ?_
    refine r_lcmp _ rfl ?_
    refine r_ifs 13 rfl (fun c672 => ?_) (fun c672 => ?_)
    · have c672_ : v665.toInt > v668.toInt := en_j_gt_t c672
      refine At.enter rfl ?_
      refine r_iconst 0 rfl ?_
      refine Ar.fall 18 rfl ?_
      refine At.enter rfl ?_
      refine q_iretz (by decide) ?_
      refine At.enter rfl ?_
      refine q_iretz (by decide) ?_
      refine At.enter rfl ?_
      refine r_ift (by decide) ?_
      refine At.enter rfl ?_
      refine r_iconst (-1) rfl ?_
      refine r_ireti ?_
      have zv673 : ((-1) : Int32).toInt = (-1) := rfl
      have x674 := HI.eqA hI0 (p := 233) (j := 0) (hv666)
      exact ⟨_, rfl, hI663, hF664, _, rfl, by decide, ⟨fun h => absurd h (by omega), fun _ => by omega⟩⟩
    · have c672_ : v665.toInt ≤ v668.toInt := en_j_gt_f c672
      refine At.enter rfl ?_
      refine r_iconst 1 rfl ?_
      refine r_goto ?_
      refine At.enter rfl ?_
      refine q_iretz (by decide) ?_
      refine At.enter rfl ?_
      refine q_iretz (by decide) ?_
      refine At.enter rfl ?_
      refine r_iff 13 rfl (by decide) ?_
      refine At.enter rfl ?_
      refine r_aload_n rfl ?_
      refine r_iload_n rfl ?_
      refine q_inlV 18 rfl [.ref 231, .int a2] [] (Nat.le_of_ble_eq_true rfl) rfl ?_
      refine Ev.mk rfl rfl ⟨Nat.le_of_ble_eq_true rfl, Or.inr (q_rc hI663.1 kx_231 rfl)⟩ ?_
      show At _ none _ _ (0, [(0, .ref 231), (1, .int a2)], [], (_, _)) _
      refine At.enter rfl ?_
      refine r_iload_n rfl ?_
      refine q_i2l (fun v675 hv675 => ?_)
      refine r_lconst 0 rfl ?_
      refine r_aload_n rfl ?_
      refine q_getR (Sh.ref hI663.1 kx_231 rfl) ?_
      refine r_iconst 0 rfl ?_
      refine q_iald (Sh.arr hI663.1 ka_233) 0 rfl (by decide) v666 ((eA_c (gA_sI)).trans hv666) ?_
      refine q_i2l (fun v676 hv676 => ?_)
      refine r_lconst 1 rfl ?_
      refine q_lsub (v676.toInt - 1) rfl (by omega) (fun v677 hv677 => ?_)
      refine q_inlS 15 rfl [.long v675, .long 0, .long v677] [] (Nat.le_of_ble_eq_true rfl) rfl ?_
      refine Ev.mk rfl rfl ⟨Nat.le_of_ble_eq_true rfl, Or.inl rfl⟩ ?_
      show At _ none _ _ (0, [(0, .long v675), (2, .long 0), (4, .long v677)], [], (_, _)) _
      refine At.enter rfl ?_
      refine r_lload_n rfl ?_
      refine r_lload_n rfl ?_
      refine r_lcmp _ rfl ?_
      refine r_ifs 6 rfl (fun c678 => ?_) (fun c678 => ?_)
      · have c678_ : v675.toInt < 0 := en_j_lt_t c678
        refine At.enter rfl ?_
        refine r_iconst 0 rfl ?_
        refine Ar.fall 18 rfl ?_
        refine At.enter rfl ?_
        refine q_iretz (by decide) ?_
        refine At.enter rfl ?_
        refine q_iretz (by decide) ?_
        refine At.enter rfl ?_
        refine r_ift (by decide) ?_
        refine At.enter rfl ?_
        refine r_iconst (-1) rfl ?_
        refine r_ireti ?_
        have zv679 : ((-1) : Int32).toInt = (-1) := rfl
        have x680 := HI.eqA hI0 (p := 233) (j := 0) (hv666)
        exact ⟨_, rfl, hI663, hF664, _, rfl, by decide, ⟨fun h => absurd h (by omega), fun _ => by omega⟩⟩
      · have c678_ : v675.toInt ≥ 0 := en_j_lt_f c678
        refine At.enter rfl ?_
        refine r_lload_n rfl ?_
        refine r_lload rfl ?_
        refine r_lcmp _ rfl ?_
        refine r_ifs 13 rfl (fun c681 => ?_) (fun c681 => ?_)
        · have c681_ : v675.toInt > v677.toInt := en_j_gt_t c681
          refine At.enter rfl ?_
          refine r_iconst 0 rfl ?_
          refine Ar.fall 18 rfl ?_
          refine At.enter rfl ?_
          refine q_iretz (by decide) ?_
          refine At.enter rfl ?_
          refine q_iretz (by decide) ?_
          refine At.enter rfl ?_
          refine r_ift (by decide) ?_
          refine At.enter rfl ?_
          refine r_iconst (-1) rfl ?_
          refine r_ireti ?_
          have zv682 : ((-1) : Int32).toInt = (-1) := rfl
          have x683 := HI.eqA hI0 (p := 233) (j := 0) (hv666)
          exact ⟨_, rfl, hI663, hF664, _, rfl, by decide, ⟨fun h => absurd h (by omega), fun _ => by omega⟩⟩
        · have c681_ : v675.toInt ≤ v677.toInt := en_j_gt_f c681
          refine At.enter rfl ?_
          refine r_iconst 1 rfl ?_
          refine r_goto ?_
          refine At.enter rfl ?_
          refine q_iretz (by decide) ?_
          refine At.enter rfl ?_
          refine q_iretz (by decide) ?_
          refine At.enter rfl ?_
          refine r_iff 21 rfl (by decide) ?_
          refine At.enter rfl ?_
          refine r_iload_n rfl ?_
          refine q_i2l (fun v684 hv684 => ?_)
          refine r_lconst 0 rfl ?_
          refine r_lconst 1 rfl ?_
          refine q_inlS 28 rfl [.long v684, .long 0, .long 1] [] (Nat.le_of_ble_eq_true rfl) rfl ?_
          refine Ev.mk rfl rfl ⟨Nat.le_of_ble_eq_true rfl, Or.inl rfl⟩ ?_
          show At _ none _ _ (0, [(0, .long v684), (2, .long 0), (4, .long 1)], [], (_, _)) _
          refine At.enter rfl ?_
          refine r_lload_n rfl ?_
          refine r_lload_n rfl ?_
          refine r_lcmp _ rfl ?_
          refine r_ifs 6 rfl (fun c685 => ?_) (fun c685 => ?_)
          · have c685_ : v684.toInt < 0 := en_j_lt_t c685
            refine At.enter rfl ?_
            refine r_iconst 0 rfl ?_
            refine Ar.fall 18 rfl ?_
            refine At.enter rfl ?_
            refine q_iretz (by decide) ?_
            refine At.enter rfl ?_
            refine r_iff 31 rfl (by decide) ?_
            refine At.enter rfl ?_
            refine r_iconst (-1) rfl ?_
            refine r_ireti ?_
            have zv686 : ((-1) : Int32).toInt = (-1) := rfl
            have x687 := HI.eqA hI0 (p := 233) (j := 0) (hv666)
            exact ⟨_, rfl, hI663, hF664, _, rfl, by decide, ⟨fun h => absurd h (by omega), fun _ => by omega⟩⟩
          · have c685_ : v684.toInt ≥ 0 := en_j_lt_f c685
            refine At.enter rfl ?_
            refine r_lload_n rfl ?_
            refine r_lload rfl ?_
            refine r_lcmp _ rfl ?_
            refine r_ifs 13 rfl (fun c688 => ?_) (fun c688 => ?_)
            · have c688_ : v684.toInt > 1 := en_j_gt_t c688
              refine At.enter rfl ?_
              refine r_iconst 0 rfl ?_
              refine Ar.fall 18 rfl ?_
              refine At.enter rfl ?_
              refine q_iretz (by decide) ?_
              refine At.enter rfl ?_
              refine r_iff 31 rfl (by decide) ?_
              refine At.enter rfl ?_
              refine r_iconst (-1) rfl ?_
              refine r_ireti ?_
              have zv689 : ((-1) : Int32).toInt = (-1) := rfl
              have x690 := HI.eqA hI0 (p := 233) (j := 0) (hv666)
              exact ⟨_, rfl, hI663, hF664, _, rfl, by decide, ⟨fun h => absurd h (by omega), fun _ => by omega⟩⟩
            · have c688_ : v684.toInt ≤ 1 := en_j_gt_f c688
              refine At.enter rfl ?_
              refine r_iconst 1 rfl ?_
              refine r_goto ?_
              refine At.enter rfl ?_
              refine q_iretz (by decide) ?_
              refine At.enter rfl ?_
              refine r_ift (by decide) ?_
              refine At.enter rfl ?_
              refine r_iconst 0 rfl ?_
              refine r_istore ([(4, .int 0), (0, .ref 231), (1, .int a1), (2, .int a2), (3, .int a3)]) rfl ?_
              refine Ar.fall 36 rfl ?_
              have z_986 : (0 : Int32).toInt = 0 := rfl
              refine w_loopI (fun n_ l_ g_ => ∃ x971 : Int32, n_ = 100 - x971.toInt ∧ HI g_ ∧ Fr F_X11_meet_231 A_X11_meet_231 g0 g_ ∧ en_get 0 l_ = some (.ref 231) ∧ en_get 1 l_ = some (.int a1) ∧ en_get 2 l_ = some (.int a2) ∧ en_get 3 l_ = some (.int a3) ∧ en_get 4 l_ = some (.int x971) ∧ (0 ≤ x971.toInt ∧ x971.toInt ≤ 100) ∧ (∀ j : Int, 0 ≤ j → j < x971.toInt → ¬ MT (NMq g0) a1.toInt a2.toInt j) ∧ (0 ≤ x971.toInt)) ?_ (100 - 0) ⟨0, by first | rfl | omega, hI663, hF664, rfl, rfl, rfl, rfl, rfl, by decide, (fun j h0 h1 => absurd h1 (by omega)), by omega⟩
              rintro n976 l975 g972 ⟨x971, hm987, hI973, hF974, e978, e979, e980, e981, e982, r983, q984, q985⟩ ih977
              refine At.enter rfl ?_
              refine r_iload e982 ?_
              refine r_bipush 100 rfl ?_
              refine r_ics 43 rfl (fun c988 => ?_) (fun c988 => ?_)
              · have c988_ : x971.toInt ≥ 100 := en_i_ge_t c988
                refine At.enter rfl ?_
                refine r_iconst (-1) rfl ?_
                refine r_ireti ?_
                have zv989 : ((-1) : Int32).toInt = (-1) := rfl
                have x990 := HI.eqA hI0 (p := 233) (j := 0) (hv666)
                exact ⟨_, rfl, hI973, hF974, _, rfl, by decide, ⟨fun _ => (by first | exact MEET.a x971.toInt (by omega) (by omega) (by omega) (by omega) q984 (by omega) (by omega) | exact MEET.n (NMq.e g0) q984 (by omega) (by omega)), fun h => absurd (by omega) h⟩⟩
              · have c988_ : x971.toInt < 100 := en_i_ge_f c988
                refine At.enter rfl ?_
                refine r_aload_n e978 ?_
                refine r_iload_n e979 ?_
                refine r_iload e982 ?_
                refine r_callV 50 rfl [.ref 231, .int a1, .int x971] [] (Nat.le_of_ble_eq_true rfl) rfl (T_X11_after_231 _ hI973 a1 (by omega) x971) ?_
                rintro _ _ ⟨g991, rfl, hI992, hF993, v994, rfl, hr995⟩
                refine At.sti ?_
                have hF996 := Fr.tr hF974 hF993 rfl rfl
                rw [NMq.cI ((hF974.2.1 233 (by decide)))] at hr995
                refine At.enter rfl ?_
                refine r_istore _ rfl ?_
                refine r_iload (w_e1 _ _ _) ?_
                refine r_iconst (-1) rfl ?_
                refine r_ics 58 rfl (fun c997 => ?_) (fun c997 => ?_)
                · have c997_ : v994.toInt = (-1) := en_i_eq_t c997
                  refine At.enter rfl ?_
                  refine q_iinc (w_p1 (by decide) (Or.inr rfl) e982) (x971.toInt + 1) rfl (by omega) (fun v998 hv998 => ?_)
                  refine r_goto ?_
                  exact ih977 (100 - v998.toInt) _ _ ⟨v998, by first | rfl | omega, hI992, hF996, (w_p1 (by decide) (Or.inr rfl) (w_p1 (by decide) (Or.inr rfl) e978)), (w_p1 (by decide) (Or.inr rfl) (w_p1 (by decide) (Or.inr rfl) e979)), (w_p1 (by decide) (Or.inr rfl) (w_p1 (by decide) (Or.inr rfl) e980)), (w_p1 (by decide) (Or.inr rfl) (w_p1 (by decide) (Or.inr rfl) e981)), (w_e1 _ _ _), by omega, (MT.step q984 (by omega) (show v998.toInt = x971.toInt + 1 from by omega)), by omega⟩ ⟨by omega, by omega⟩
                · have c997_ : v994.toInt ≠ (-1) := en_i_eq_f c997
                  refine At.enter rfl ?_
                  refine r_iload (w_e1 _ _ _) ?_
                  refine r_aload_n (w_p1 (by decide) (Or.inr rfl) e978) ?_
                  refine r_iload_n (w_p1 (by decide) (Or.inr rfl) e980) ?_
                  refine r_iload (w_p1 (by decide) (Or.inr rfl) e982) ?_
                  refine r_callV 67 rfl [.ref 231, .int a2, .int x971] [.int v994] (Nat.le_of_ble_eq_true rfl) rfl (T_X11_after_231 _ hI992 a2 (by omega) x971) ?_
                  rintro _ _ ⟨g999, rfl, hI1000, hF1001, v1002, rfl, hr1003⟩
                  refine At.sti ?_
                  have hF1004 := Fr.tr hF996 hF1001 rfl rfl
                  rw [NMq.cI (((hF993.2.1 233 (by decide)).trans (hF974.2.1 233 (by decide))))] at hr1003
                  refine At.enter rfl ?_
                  refine r_ics 70 rfl (fun c1005 => ?_) (fun c1005 => ?_)
                  · have c1005_ : v994.toInt ≠ v1002.toInt := en_i_ne_t c1005
                    refine At.enter rfl ?_
                    refine q_iinc (w_p1 (by decide) (Or.inr rfl) e982) (x971.toInt + 1) rfl (by omega) (fun v1006 hv1006 => ?_)
                    refine r_goto ?_
                    exact ih977 (100 - v1006.toInt) _ _ ⟨v1006, by first | rfl | omega, hI1000, hF1004, (w_p1 (by decide) (Or.inr rfl) (w_p1 (by decide) (Or.inr rfl) e978)), (w_p1 (by decide) (Or.inr rfl) (w_p1 (by decide) (Or.inr rfl) e979)), (w_p1 (by decide) (Or.inr rfl) (w_p1 (by decide) (Or.inr rfl) e980)), (w_p1 (by decide) (Or.inr rfl) (w_p1 (by decide) (Or.inr rfl) e981)), (w_e1 _ _ _), by omega, (MT.step q984 (by omega) (show v1006.toInt = x971.toInt + 1 from by omega)), by omega⟩ ⟨by omega, by omega⟩
                  · have c1005_ : v994.toInt = v1002.toInt := en_i_ne_f c1005
                    refine At.enter rfl ?_
                    refine r_iload_n (w_p1 (by decide) (Or.inr rfl) e981) ?_
                    refine r_ifs 74 rfl (fun c1007 => ?_) (fun c1007 => ?_)
                    · have c1007_ : a3.toInt ≠ 0 := en_k_ne_t c1007
                      refine At.enter rfl ?_
                      refine r_iload (w_e1 _ _ _) ?_
                      refine Ar.fall 81 rfl ?_
                      refine At.enter rfl ?_
                      refine r_ireti ?_
                      have x1008 := HI.eqA hI0 (p := 233) (j := 0) (hv666)
                      exact ⟨_, rfl, hI1000, hF1004, _, rfl, by omega, ⟨fun _ => (by first | exact MEET.a x971.toInt (by omega) (by omega) (by omega) (by omega) q984 (by omega) (by omega) | exact MEET.n (NMq.e g0) q984 (by omega) (by omega)), fun h => absurd (by omega) h⟩⟩
                    · have c1007_ : a3.toInt = 0 := en_k_ne_f c1007
                      refine At.enter rfl ?_
                      refine r_iload (w_p1 (by decide) (Or.inr rfl) e982) ?_
                      refine r_goto ?_
                      refine At.enter rfl ?_
                      refine r_ireti ?_
                      have x1009 := HI.eqA hI0 (p := 233) (j := 0) (hv666)
                      exact ⟨_, rfl, hI1000, hF1004, _, rfl, by omega, ⟨fun _ => (by first | exact MEET.a x971.toInt (by omega) (by omega) (by omega) (by omega) q984 (by omega) (by omega) | exact MEET.n (NMq.e g0) q984 (by omega) (by omega)), fun h => absurd (by omega) h⟩⟩

def F_X11_byNoon_231 : List (Nat × Nat) := []
def A_X11_byNoon_231 : List Nat := []
set_option maxRecDepth 100000 in
set_option maxHeartbeats 4000000 in
theorem T_X11_byNoon_231 (d : Nat) {N : Nat} {g0 : List en_E} (hI0 : HI g0) : Ev (d + 1) 260 [.ref 231] (g0, N) (fun w h' => ∃ g', h' = (g', N) ∧ HI g' ∧ Fr F_X11_byNoon_231 A_X11_byNoon_231 g0 g' ∧ ∃ r : Int32, w = some (.int r) ∧ (0 ≤ r.toInt ∧ r.toInt ≤ 8)) := by
  have hF0 : Fr F_X11_byNoon_231 A_X11_byNoon_231 g0 g0 := Fr.rf
  refine Ev.mk rfl rfl ⟨Nat.le_of_ble_eq_true rfl, Or.inr (q_rc hI0.1 kx_231 rfl)⟩ ?_
  show At _ none _ _ (0, [(0, .ref 231)], [], (_, _)) _
  refine At.enter rfl ?_
  refine r_iconst 0 rfl ?_
  refine r_istore_n ([(1, .int 0), (0, .ref 231)]) rfl ?_
  refine r_iconst 0 rfl ?_
  refine r_istore_n ([(2, .int 0), (1, .int 0), (0, .ref 231)]) rfl ?_
  refine Ar.fall 4 rfl ?_
  have z_1404 : (0 : Int32).toInt = 0 := rfl
  have z_1405 : (0 : Int32).toInt = 0 := rfl
  refine w_loopI (fun n_ l_ g_ => ∃ x1390 : Int32, ∃ x1391 : Int32, n_ = 8 - x1391.toInt ∧ HI g_ ∧ Fr F_X11_byNoon_231 A_X11_byNoon_231 g0 g_ ∧ en_get 0 l_ = some (.ref 231) ∧ en_get 1 l_ = some (.int x1390) ∧ en_get 2 l_ = some (.int x1391) ∧ (0 ≤ x1390.toInt ∧ x1390.toInt ≤ 8) ∧ (0 ≤ x1391.toInt ∧ x1391.toInt ≤ 8) ∧ (x1390.toInt ≤ x1391.toInt)) ?_ (8 - 0) ⟨0, 0, by first | rfl | omega, hI0, hF0, rfl, rfl, rfl, by decide, by decide, by omega⟩
  rintro n1396 l1395 g1392 ⟨x1390, x1391, hm1406, hI1393, hF1394, e1398, e1399, e1400, r1401, r1402, q1403⟩ ih1397
  refine At.enter rfl ?_
  refine r_iload_n e1400 ?_
  refine r_aload_n e1398 ?_
  refine q_getR (Sh.ref hI1393.1 kx_231 rfl) ?_
  refine r_iconst 1 rfl ?_
  obtain ⟨v1407, hv1407⟩ : ∃ v, eA g0 233 1 = v := ⟨_, rfl⟩
  have tv1407 := congrArg Int32.toInt hv1407
  have wv1407 := HI.t1 hI0
  rw [hv1407] at wv1407
  refine q_iald (Sh.arr hI1393.1 ka_233) 1 rfl (by decide) v1407 ((eA_c (hF1394.2.1 233 (by decide))).trans hv1407) ?_
  have bv1409 := q_bnd x1391
  have bv1410 := q_bnd v1407
  refine r_ics 14 rfl (fun c1408 => ?_) (fun c1408 => ?_)
  · have c1408_ : x1391.toInt ≥ v1407.toInt := en_i_ge_t c1408
    refine At.enter rfl ?_
    refine r_iload_n e1399 ?_
    refine r_ireti ?_
    exact ⟨_, rfl, hI1393, hF1394, _, rfl, by omega⟩
  · have c1408_ : x1391.toInt < v1407.toInt := en_i_ge_f c1408
    refine At.enter rfl ?_
    refine r_iload_n e1399 ?_
    refine r_aload_n e1398 ?_
    refine q_getR (Sh.ref hI1393.1 kx_231 rfl) ?_
    refine r_iload_n e1400 ?_
    obtain ⟨v1411, hv1411⟩ : ∃ v, eA g0 253 x1391.toInt = v := ⟨_, rfl⟩
    refine q_iald (Sh.arr hI1393.1 ka_253) x1391.toInt rfl (by omega) v1411 ((eA_c (hF1394.2.1 253 (by decide))).trans hv1411) ?_
    refine r_iconst (-1) rfl ?_
    refine r_ics 25 rfl (fun c1412 => ?_) (fun c1412 => ?_)
    · have c1412_ : v1411.toInt = (-1) := en_i_eq_t c1412
      refine At.enter rfl ?_
      refine r_iconst 0 rfl ?_
      refine Ar.fall 45 rfl ?_
      refine At.enter rfl ?_
      refine q_iadd (x1390.toInt + 0) rfl (by omega) (fun v1413 hv1413 => ?_)
      refine r_istore_n _ rfl ?_
      refine q_iinc (w_p1 (by decide) (Or.inr rfl) e1400) (x1391.toInt + 1) rfl (by omega) (fun v1414 hv1414 => ?_)
      refine r_goto ?_
      exact ih1397 (8 - v1414.toInt) _ _ ⟨v1413, v1414, by first | rfl | omega, hI1393, hF1394, (w_p1 (by decide) (Or.inr rfl) (w_p1 (by decide) (Or.inr rfl) e1398)), (w_p1 (by decide) (Or.inr rfl) (w_e1 _ _ _)), (w_e1 _ _ _), by omega, by omega, by omega⟩ ⟨by omega, by omega⟩
    · have c1412_ : v1411.toInt ≠ (-1) := en_i_eq_f c1412
      refine At.enter rfl ?_
      refine r_aload_n e1398 ?_
      refine q_getR (Sh.ref hI1393.1 kx_231 rfl) ?_
      refine r_iload_n e1400 ?_
      refine q_iald (Sh.arr hI1393.1 ka_253) x1391.toInt rfl (by omega) v1411 ((eA_c (hF1394.2.1 253 (by decide))).trans hv1411) ?_
      refine r_aload_n e1398 ?_
      refine q_getR (Sh.ref hI1393.1 kx_231 rfl) ?_
      refine r_iconst 5 rfl ?_
      obtain ⟨v1415, hv1415⟩ : ∃ v, eA g0 233 5 = v := ⟨_, rfl⟩
      have wv1415 := HI.t5 hI0
      rw [hv1415] at wv1415
      refine q_iald (Sh.arr hI1393.1 ka_233) 5 rfl (by decide) v1415 ((eA_c (hF1394.2.1 233 (by decide))).trans hv1415) ?_
      have bv1417 := q_bnd v1411
      have bv1418 := q_bnd v1415
      refine r_ics 40 rfl (fun c1416 => ?_) (fun c1416 => ?_)
      · have c1416_ : v1411.toInt > v1415.toInt := en_i_gt_t c1416
        refine At.enter rfl ?_
        refine r_iconst 0 rfl ?_
        refine Ar.fall 45 rfl ?_
        refine At.enter rfl ?_
        refine q_iadd (x1390.toInt + 0) rfl (by omega) (fun v1419 hv1419 => ?_)
        refine r_istore_n _ rfl ?_
        refine q_iinc (w_p1 (by decide) (Or.inr rfl) e1400) (x1391.toInt + 1) rfl (by omega) (fun v1420 hv1420 => ?_)
        refine r_goto ?_
        exact ih1397 (8 - v1420.toInt) _ _ ⟨v1419, v1420, by first | rfl | omega, hI1393, hF1394, (w_p1 (by decide) (Or.inr rfl) (w_p1 (by decide) (Or.inr rfl) e1398)), (w_p1 (by decide) (Or.inr rfl) (w_e1 _ _ _)), (w_e1 _ _ _), by omega, by omega, by omega⟩ ⟨by omega, by omega⟩
      · have c1416_ : v1411.toInt ≤ v1415.toInt := en_i_gt_f c1416
        refine At.enter rfl ?_
        refine r_iconst 1 rfl ?_
        refine r_goto ?_
        refine At.enter rfl ?_
        refine q_iadd (x1390.toInt + 1) rfl (by omega) (fun v1421 hv1421 => ?_)
        refine r_istore_n _ rfl ?_
        refine q_iinc (w_p1 (by decide) (Or.inr rfl) e1400) (x1391.toInt + 1) rfl (by omega) (fun v1422 hv1422 => ?_)
        refine r_goto ?_
        exact ih1397 (8 - v1422.toInt) _ _ ⟨v1421, v1422, by first | rfl | omega, hI1393, hF1394, (w_p1 (by decide) (Or.inr rfl) (w_p1 (by decide) (Or.inr rfl) e1398)), (w_p1 (by decide) (Or.inr rfl) (w_e1 _ _ _)), (w_e1 _ _ _), by omega, by omega, by omega⟩ ⟨by omega, by omega⟩

def F_X11_draw_231 : List (Nat × Nat) := [(231, 0), (231, 1), (231, 27), (231, 30), (231, 31), (231, 32), (231, 36), (231, 48), (231, 51)]
def A_X11_draw_231 : List Nat := [232, 246, 247, 248, 250, 251, 252, 253, 254, 255, 256, 257, 258]
set_option maxRecDepth 100000 in
set_option maxHeartbeats 4000000 in
theorem T_X11_draw_231 (d : Nat) {N : Nat} {g0 : List en_E} (hI0 : HI g0) (a1 : Int32) : Ev (d + 8) 261 [.ref 231, .int a1] (g0, N) (fun w h' => ∃ g', h' = (g', N) ∧ HI g' ∧ Fr F_X11_draw_231 A_X11_draw_231 g0 g' ∧ ∃ r : Int32, w = some (.int r) ∧ ((-1) ≤ r.toInt ∧ r.toInt ≤ 8)) := by
  have hF0 : Fr F_X11_draw_231 A_X11_draw_231 g0 g0 := Fr.rf
  refine Ev.mk rfl rfl ⟨Nat.le_of_ble_eq_true rfl, Or.inr (q_rc hI0.1 kx_231 rfl)⟩ ?_
  show At _ none _ _ (0, [(0, .ref 231), (1, .int a1)], [], (_, _)) _
  refine At.enter rfl ?_
  refine r_aload_n rfl ?_
  refine r_iconst 0 rfl ?_
  refine q_putI (Sh.int hI0.1 kx_231 rfl) rfl ?_
  have hI40767 := HI.wI0 hI0 kx_231 rfl (p := 231) (b := 0) (v := 0) rfl
  have hF40768 := Fr.wI (p := 231) (b := 0) (v := 0) hF0 rfl
  refine r_iload_n rfl ?_
  refine q_i2l (fun v40769 hv40769 => ?_)
  refine r_lconst 0 rfl ?_
  refine r_ldc2 1000000 rfl ?_
  refine q_inlS 14 rfl [.long v40769, .long 0, .long 1000000] [] (Nat.le_of_ble_eq_true rfl) rfl ?_
  refine Ev.mk rfl rfl ⟨Nat.le_of_ble_eq_true rfl, Or.inl rfl⟩ ?_
  show At _ none _ _ (0, [(0, .long v40769), (2, .long 0), (4, .long 1000000)], [], (_, _)) _
  refine At.enter rfl ?_
  refine r_lload_n rfl ?_
  refine r_lload_n rfl ?_
  refine r_lcmp _ rfl ?_
  refine r_ifs 6 rfl (fun c40770 => ?_) (fun c40770 => ?_)
  · have c40770_ : v40769.toInt < 0 := en_j_lt_t c40770
    refine At.enter rfl ?_
    refine r_iconst 0 rfl ?_
    refine Ar.fall 18 rfl ?_
    refine At.enter rfl ?_
    refine q_iretz (by decide) ?_
    refine At.enter rfl ?_
    refine r_iff 17 rfl (by decide) ?_
    refine At.enter rfl ?_
    refine r_aload_n rfl ?_
    refine r_iconst (-1) rfl ?_
    refine r_callV 22 rfl [.ref 231, .int (-1)] [] (Nat.le_of_ble_eq_true rfl) rfl (T_X11_tell_231 _ hI40767 (-1) (by decide)) ?_
    rintro _ _ ⟨g40771, rfl, hI40772, hF40773, v40774, rfl, hr40775⟩
    refine At.sti ?_
    have hF40776 := Fr.tr hF40768 hF40773 rfl rfl
    have zv40777 : ((-1) : Int32).toInt = (-1) := rfl
    refine At.enter rfl ?_
    refine r_ireti ?_
    exact ⟨_, rfl, hI40772, hF40776, _, rfl, by omega⟩
  · have c40770_ : v40769.toInt ≥ 0 := en_j_lt_f c40770
    refine At.enter rfl ?_
    refine r_lload_n rfl ?_
    refine r_lload rfl ?_
    refine r_lcmp _ rfl ?_
    refine r_ifs 13 rfl (fun c40778 => ?_) (fun c40778 => ?_)
    · have c40778_ : v40769.toInt > 1000000 := en_j_gt_t c40778
      refine At.enter rfl ?_
      refine r_iconst 0 rfl ?_
      refine Ar.fall 18 rfl ?_
      refine At.enter rfl ?_
      refine q_iretz (by decide) ?_
      refine At.enter rfl ?_
      refine r_iff 17 rfl (by decide) ?_
      refine At.enter rfl ?_
      refine r_aload_n rfl ?_
      refine r_iconst (-1) rfl ?_
      refine r_callV 22 rfl [.ref 231, .int (-1)] [] (Nat.le_of_ble_eq_true rfl) rfl (T_X11_tell_231 _ hI40767 (-1) (by decide)) ?_
      rintro _ _ ⟨g40779, rfl, hI40780, hF40781, v40782, rfl, hr40783⟩
      refine At.sti ?_
      have hF40784 := Fr.tr hF40768 hF40781 rfl rfl
      have zv40785 : ((-1) : Int32).toInt = (-1) := rfl
      refine At.enter rfl ?_
      refine r_ireti ?_
      exact ⟨_, rfl, hI40780, hF40784, _, rfl, by omega⟩
    · have c40778_ : v40769.toInt ≤ 1000000 := en_j_gt_f c40778
      refine At.enter rfl ?_
      refine r_iconst 1 rfl ?_
      refine r_goto ?_
      refine At.enter rfl ?_
      refine q_iretz (by decide) ?_
      refine At.enter rfl ?_
      refine r_ift (by decide) ?_
      refine At.enter rfl ?_
      refine r_aload_n rfl ?_
      refine r_iload_n rfl ?_
      refine q_i2l (fun v40786 hv40786 => ?_)
      refine q_putJ (Sh.long hI40767.1 kx_231 rfl) rfl ?_
      have hI40787 := HI.wJ hI40767 kx_231 rfl (p := 231) (b := 48) (v := v40786)
      have hF40788 := Fr.wJ (p := 231) (b := 48) (v := v40786) hF40768 rfl
      refine r_aload_n rfl ?_
      refine r_callV 33 rfl [.ref 231] [] (Nat.le_of_ble_eq_true rfl) rfl (T_X11_asIs_231 _ hI40787) ?_
      rintro _ _ ⟨g40789, rfl, hI40790, hF40791, rfl⟩
      refine At.stn ?_
      have hF40794 := Fr.tr hF40788 hF40791 rfl rfl
      refine At.enter rfl ?_
      refine r_iconst 0 rfl ?_
      refine r_istore_n ([(2, .int 0), (0, .ref 231), (1, .int a1)]) rfl ?_
      refine Ar.fall 35 rfl ?_
      have z_58572 : (0 : Int32).toInt = 0 := rfl
      refine w_loopI (fun n_ l_ g_ => ∃ x58561 : Int32, n_ = 8 - x58561.toInt ∧ HI g_ ∧ Fr F_X11_draw_231 A_X11_draw_231 g0 g_ ∧ en_get 0 l_ = some (.ref 231) ∧ en_get 1 l_ = some (.int a1) ∧ en_get 2 l_ = some (.int x58561) ∧ (0 ≤ x58561.toInt ∧ x58561.toInt ≤ 8)) ?_ (8 - 0) ⟨0, by first | rfl | omega, hI40790, hF40794, rfl, rfl, rfl, by decide⟩
      rintro n58566 l58565 g58562 ⟨x58561, hm58573, hI58563, hF58564, e58568, e58569, e58570, r58571⟩ ih58567
      refine At.enter rfl ?_
      refine r_iload_n e58570 ?_
      refine r_aload_n e58568 ?_
      refine q_getR (Sh.ref hI58563.1 kx_231 rfl) ?_
      refine r_iconst 1 rfl ?_
      obtain ⟨v58574, hv58574⟩ : ∃ v, eA g0 233 1 = v := ⟨_, rfl⟩
      have tv58574 := congrArg Int32.toInt hv58574
      have wv58574 := HI.t1 hI0
      rw [hv58574] at wv58574
      refine q_iald (Sh.arr hI58563.1 ka_233) 1 rfl (by decide) v58574 ((eA_c (hF58564.2.1 233 (by decide))).trans hv58574) ?_
      have bv58576 := q_bnd x58561
      have bv58577 := q_bnd v58574
      refine r_ics 45 rfl (fun c58575 => ?_) (fun c58575 => ?_)
      · have c58575_ : x58561.toInt ≥ v58574.toInt := en_i_ge_t c58575
        refine At.enter rfl ?_
        refine r_iconst 0 rfl ?_
        refine r_istore_n _ rfl ?_
        refine Ar.fall 65 rfl ?_
        have z_60848 : (0 : Int32).toInt = 0 := rfl
        refine w_loopI (fun n_ l_ g_ => ∃ x60837 : Int32, n_ = 12 - x60837.toInt ∧ HI g_ ∧ Fr F_X11_draw_231 A_X11_draw_231 g0 g_ ∧ en_get 0 l_ = some (.ref 231) ∧ en_get 1 l_ = some (.int a1) ∧ en_get 2 l_ = some (.int x60837) ∧ (0 ≤ x60837.toInt ∧ x60837.toInt ≤ 12)) ?_ (12 - 0) ⟨0, by first | rfl | omega, hI58563, hF58564, (w_p1 (by decide) (Or.inr rfl) e58568), (w_p1 (by decide) (Or.inr rfl) e58569), (w_e1 _ _ _), by decide⟩
        rintro n60842 l60841 g60838 ⟨x60837, hm60849, hI60839, hF60840, e60844, e60845, e60846, r60847⟩ ih60843
        refine At.enter rfl ?_
        refine r_iload_n e60846 ?_
        refine r_aload_n e60844 ?_
        refine q_getR (Sh.ref hI60839.1 kx_231 rfl) ?_
        refine r_iconst 0 rfl ?_
        obtain ⟨v60850, hv60850⟩ : ∃ v, eA g0 233 0 = v := ⟨_, rfl⟩
        have tv60850 := congrArg Int32.toInt hv60850
        have wv60850 := HI.t0 hI0
        rw [hv60850] at wv60850
        refine q_iald (Sh.arr hI60839.1 ka_233) 0 rfl (by decide) v60850 ((eA_c (hF60840.2.1 233 (by decide))).trans hv60850) ?_
        have bv60852 := q_bnd x60837
        have bv60853 := q_bnd v60850
        refine r_ics 75 rfl (fun c60851 => ?_) (fun c60851 => ?_)
        · have c60851_ : x60837.toInt ≥ v60850.toInt := en_i_ge_t c60851
          refine At.enter rfl ?_
          refine r_aload_n e60844 ?_
          refine r_callV 117 rfl [.ref 231] [] (Nat.le_of_ble_eq_true rfl) rfl (T_X11_run_231 _ hI60839) ?_
          rintro _ _ ⟨g60854, rfl, hI60855, hF60856, rfl⟩
          refine At.stn ?_
          have hF60859 := Fr.tr hF60840 hF60856 rfl rfl
          refine At.enter rfl ?_
          refine r_aload_n e60844 ?_
          refine r_aload_n e60844 ?_
          refine q_getR (Sh.ref hI60855.1 kx_231 rfl) ?_
          refine r_iconst 1 rfl ?_
          refine q_iald (Sh.arr hI60855.1 ka_233) 1 rfl (by decide) v58574 ((eA_c ((hF60856.2.1 233 (by decide)).trans (hF60840.2.1 233 (by decide)))).trans hv58574) ?_
          refine q_putI (Sh.int hI60855.1 kx_231 rfl) rfl ?_
          have hI60860 := HI.wI1 hI60855 kx_231 rfl (p := 231) (b := 51) (v := v58574) rfl (by dsimp only; omega)
          have hF60861 := Fr.wI (p := 231) (b := 51) (v := v58574) hF60859 rfl
          refine r_iconst 0 rfl ?_
          refine r_istore_n _ rfl ?_
          refine Ar.fall 129 rfl ?_
          have z_61048 : (0 : Int32).toInt = 0 := rfl
          refine w_loopI (fun n_ l_ g_ => ∃ x61037 : Int32, n_ = 8 - x61037.toInt ∧ HI g_ ∧ Fr F_X11_draw_231 A_X11_draw_231 g0 g_ ∧ en_get 0 l_ = some (.ref 231) ∧ en_get 1 l_ = some (.int a1) ∧ en_get 2 l_ = some (.int x61037) ∧ (0 ≤ x61037.toInt ∧ x61037.toInt ≤ 8)) ?_ (8 - 0) ⟨0, by first | rfl | omega, hI60860, hF60861, (w_p1 (by decide) (Or.inr rfl) e60844), (w_p1 (by decide) (Or.inr rfl) e60845), (w_e1 _ _ _), by decide⟩
          rintro n61042 l61041 g61038 ⟨x61037, hm61049, hI61039, hF61040, e61044, e61045, e61046, r61047⟩ ih61043
          refine At.enter rfl ?_
          refine r_iload_n e61046 ?_
          refine r_aload_n e61044 ?_
          obtain ⟨v61050, hv61050⟩ : ∃ v, gI g61038 231 51 = v := ⟨_, rfl⟩
          have rv61050 := RgF.at hI61039.2.1 (p := 231) (b := 51) rfl
          rw [hv61050] at rv61050
          dsimp only at rv61050
          refine q_getI (Sh.int hI61039.1 kx_231 rfl) v61050 hv61050 ?_
          have bv61052 := q_bnd x61037
          have bv61053 := q_bnd v61050
          refine r_ics 137 rfl (fun c61051 => ?_) (fun c61051 => ?_)
          · have c61051_ : x61037.toInt ≥ v61050.toInt := en_i_ge_t c61051
            refine At.enter rfl ?_
            refine r_aload_n e61044 ?_
            refine r_aload_n e61044 ?_
            refine r_callV 172 rfl [.ref 231] [.ref 231] (Nat.le_of_ble_eq_true rfl) rfl (T_X11_byNoon_231 _ hI61039) ?_
            rintro _ _ ⟨g61054, rfl, hI61055, hF61056, v61057, rfl, hr61058⟩
            refine At.sti ?_
            have hF61059 := Fr.tr hF61040 hF61056 rfl rfl
            refine At.enter rfl ?_
            refine r_callV 175 rfl [.ref 231, .int v61057] [] (Nat.le_of_ble_eq_true rfl) rfl (T_X11_tell_231 _ hI61055 v61057 (by omega)) ?_
            rintro _ _ ⟨g61060, rfl, hI61061, hF61062, v61063, rfl, hr61064⟩
            refine At.sti ?_
            have hF61065 := Fr.tr hF61059 hF61062 rfl rfl
            refine At.enter rfl ?_
            refine r_ireti ?_
            exact ⟨_, rfl, hI61061, hF61065, _, rfl, by omega⟩
          · have c61051_ : x61037.toInt < v61050.toInt := en_i_ge_f c61051
            refine At.enter rfl ?_
            refine r_aload_n e61044 ?_
            refine q_getR (Sh.ref hI61039.1 kx_231 rfl) ?_
            refine r_iload_n e61046 ?_
            refine r_aload_n e61044 ?_
            refine q_getR (Sh.ref hI61039.1 kx_231 rfl) ?_
            refine r_iload_n e61046 ?_
            obtain ⟨v61066, hv61066⟩ : ∃ v, eA g61038 253 x61037.toInt = v := ⟨_, rfl⟩
            refine q_iald (Sh.arr hI61039.1 ka_253) x61037.toInt rfl (by omega) v61066 hv61066 ?_
            refine q_iast (Sh.arr hI61039.1 ka_257) (x61037.toInt) rfl (by omega) ?_
            have hI61067 := HI.wA0 hI61039 ka_257 (p := 257) rfl rfl (x61037.toInt) (v61066)
            have hF61068 := Fr.wA (p := 257) (j := x61037.toInt) (v := v61066) hF61040 rfl
            refine r_aload_n e61044 ?_
            refine q_getR (Sh.ref hI61067.1 kx_231 rfl) ?_
            refine r_iload_n e61046 ?_
            refine r_aload_n e61044 ?_
            refine q_getR (Sh.ref hI61067.1 kx_231 rfl) ?_
            refine r_iload_n e61046 ?_
            obtain ⟨v61069, hv61069⟩ : ∃ v, eA g61038 248 x61037.toInt = v := ⟨_, rfl⟩
            refine q_iald (Sh.arr hI61067.1 ka_248) x61037.toInt rfl (by omega) v61069 ((eA_c (gA_sA_ne (by decide))).trans hv61069) ?_
            refine q_iast (Sh.arr hI61067.1 ka_258) (x61037.toInt) rfl (by omega) ?_
            have hI61070 := HI.wA0 hI61067 ka_258 (p := 258) rfl rfl (x61037.toInt) (v61069)
            have hF61071 := Fr.wA (p := 258) (j := x61037.toInt) (v := v61069) hF61068 rfl
            refine q_iinc e61046 (x61037.toInt + 1) rfl (by omega) (fun v61072 hv61072 => ?_)
            refine r_goto ?_
            exact ih61043 (8 - v61072.toInt) _ _ ⟨v61072, by first | rfl | omega, hI61070, hF61071, (w_p1 (by decide) (Or.inr rfl) e61044), (w_p1 (by decide) (Or.inr rfl) e61045), (w_e1 _ _ _), by omega⟩ ⟨by omega, by omega⟩
        · have c60851_ : x60837.toInt < v60850.toInt := en_i_ge_f c60851
          refine At.enter rfl ?_
          refine r_aload_n e60844 ?_
          refine q_getR (Sh.ref hI60839.1 kx_231 rfl) ?_
          refine r_iload_n e60846 ?_
          refine r_dup2 ⟨rfl, rfl⟩ ?_
          obtain ⟨v61073, hv61073⟩ : ∃ v, eA g60838 246 x60837.toInt = v := ⟨_, rfl⟩
          refine q_iald (Sh.arr hI60839.1 ka_246) x60837.toInt rfl (by omega) v61073 hv61073 ?_
          refine r_aload_n e60844 ?_
          refine r_iconst 3 rfl ?_
          refine q_inlV 87 rfl [.ref 231, .int 3] [.int v61073, .int x60837, .ref 246] (Nat.le_of_ble_eq_true rfl) rfl ?_
          refine Ev.mk rfl rfl ⟨Nat.le_of_ble_eq_true rfl, Or.inr (q_rc hI60839.1 kx_231 rfl)⟩ ?_
          show At _ none _ _ (0, [(0, .ref 231), (1, .int 3)], [], (_, _)) _
          refine At.enter rfl ?_
          refine r_aload_n rfl ?_
          refine r_aload_n rfl ?_
          obtain ⟨v61074, hv61074⟩ : ∃ v, gJ g60838 231 48 = v := ⟨_, rfl⟩
          refine q_getJv (Sh.long hI60839.1 kx_231 rfl) v61074 hv61074 ?_
          refine r_ldc2 1103 rfl ?_
          refine q_lmulO (fun v61075 _ => ?_)
          refine r_ldc2 12345 rfl ?_
          refine q_laddO (fun v61076 _ => ?_)
          refine r_ldc2 1000003 rfl ?_
          refine q_lremO (by decide) (fun v61077 _ => ?_)
          refine q_putJ (Sh.long hI60839.1 kx_231 rfl) rfl ?_
          have hI61078 := HI.wJ hI60839 kx_231 rfl (p := 231) (b := 48) (v := v61077)
          have hF61079 := Fr.wJ (p := 231) (b := 48) (v := v61077) hF60840 rfl
          refine r_aload_n rfl ?_
          refine q_getJv (Sh.long hI61078.1 kx_231 rfl) v61077 (gJ_sJ_eq hI60839.1 kx_231 rfl _) ?_
          refine r_iload_n rfl ?_
          refine r_i2l 3 rfl ?_
          refine q_lremO (by decide) (fun v61080 _ => ?_)
          refine q_l2iO (fun v61081 hv61081 => ?_)
          refine q_ireti ?_
          refine At.enter rfl ?_
          refine r_ifs 90 rfl (fun c61082 => ?_) (fun c61082 => ?_)
          · have c61082_ : v61081.toInt ≠ 0 := en_k_ne_t c61082
            refine At.enter rfl ?_
            refine r_iconst 0 rfl ?_
            refine Ar.fall 105 rfl ?_
            refine At.enter rfl ?_
            have bv61083 := q_bnd v61073
            refine q_isub (v61073.toInt - 0) rfl (by omega) (fun v61084 hv61084 => ?_)
            refine q_iast (Sh.arr hI61078.1 ka_246) (x60837.toInt) rfl (by omega) ?_
            have hI61085 := HI.wA0 hI61078 ka_246 (p := 246) rfl rfl (x60837.toInt) (v61084)
            have hF61086 := Fr.wA (p := 246) (j := x60837.toInt) (v := v61084) hF61079 rfl
            refine q_iinc e60846 (x60837.toInt + 1) rfl (by omega) (fun v61087 hv61087 => ?_)
            refine r_goto ?_
            exact ih60843 (12 - v61087.toInt) _ _ ⟨v61087, by first | rfl | omega, hI61085, hF61086, (w_p1 (by decide) (Or.inr rfl) e60844), (w_p1 (by decide) (Or.inr rfl) e60845), (w_e1 _ _ _), by omega⟩ ⟨by omega, by omega⟩
          · have c61082_ : v61081.toInt = 0 := en_k_ne_f c61082
            refine At.enter rfl ?_
            refine r_aload_n e60844 ?_
            refine q_getR (Sh.ref hI61078.1 kx_231 rfl) ?_
            refine r_iload_n e60846 ?_
            refine q_iald (Sh.arr hI61078.1 ka_246) x60837.toInt rfl (by omega) v61073 ((eA_c (gA_sJ)).trans hv61073) ?_
            refine r_iconst 1 rfl ?_
            refine r_ics 100 rfl (fun c61088 => ?_) (fun c61088 => ?_)
            · have c61088_ : v61073.toInt ≤ 1 := en_i_le_t c61088
              refine At.enter rfl ?_
              refine r_iconst 0 rfl ?_
              refine Ar.fall 105 rfl ?_
              refine At.enter rfl ?_
              have bv61089 := q_bnd v61073
              refine q_isub (v61073.toInt - 0) rfl (by omega) (fun v61090 hv61090 => ?_)
              refine q_iast (Sh.arr hI61078.1 ka_246) (x60837.toInt) rfl (by omega) ?_
              have hI61091 := HI.wA0 hI61078 ka_246 (p := 246) rfl rfl (x60837.toInt) (v61090)
              have hF61092 := Fr.wA (p := 246) (j := x60837.toInt) (v := v61090) hF61079 rfl
              refine q_iinc e60846 (x60837.toInt + 1) rfl (by omega) (fun v61093 hv61093 => ?_)
              refine r_goto ?_
              exact ih60843 (12 - v61093.toInt) _ _ ⟨v61093, by first | rfl | omega, hI61091, hF61092, (w_p1 (by decide) (Or.inr rfl) e60844), (w_p1 (by decide) (Or.inr rfl) e60845), (w_e1 _ _ _), by omega⟩ ⟨by omega, by omega⟩
            · have c61088_ : v61073.toInt > 1 := en_i_le_f c61088
              refine At.enter rfl ?_
              refine r_iconst 1 rfl ?_
              refine r_goto ?_
              refine At.enter rfl ?_
              have bv61094 := q_bnd v61073
              refine q_isub (v61073.toInt - 1) rfl (by omega) (fun v61095 hv61095 => ?_)
              refine q_iast (Sh.arr hI61078.1 ka_246) (x60837.toInt) rfl (by omega) ?_
              have hI61096 := HI.wA0 hI61078 ka_246 (p := 246) rfl rfl (x60837.toInt) (v61095)
              have hF61097 := Fr.wA (p := 246) (j := x60837.toInt) (v := v61095) hF61079 rfl
              refine q_iinc e60846 (x60837.toInt + 1) rfl (by omega) (fun v61098 hv61098 => ?_)
              refine r_goto ?_
              exact ih60843 (12 - v61098.toInt) _ _ ⟨v61098, by first | rfl | omega, hI61096, hF61097, (w_p1 (by decide) (Or.inr rfl) e60844), (w_p1 (by decide) (Or.inr rfl) e60845), (w_e1 _ _ _), by omega⟩ ⟨by omega, by omega⟩
      · have c58575_ : x58561.toInt < v58574.toInt := en_i_ge_f c58575
        refine At.enter rfl ?_
        refine r_aload_n e58568 ?_
        refine q_getR (Sh.ref hI58563.1 kx_231 rfl) ?_
        refine r_iload_n e58570 ?_
        refine r_aload_n e58568 ?_
        refine r_bipush 30 rfl ?_
        refine q_inlV 56 rfl [.ref 231, .int 30] [.int x58561, .ref 248] (Nat.le_of_ble_eq_true rfl) rfl ?_
        refine Ev.mk rfl rfl ⟨Nat.le_of_ble_eq_true rfl, Or.inr (q_rc hI58563.1 kx_231 rfl)⟩ ?_
        show At _ none _ _ (0, [(0, .ref 231), (1, .int 30)], [], (_, _)) _
        refine At.enter rfl ?_
        refine r_aload_n rfl ?_
        refine r_aload_n rfl ?_
        obtain ⟨v61099, hv61099⟩ : ∃ v, gJ g58562 231 48 = v := ⟨_, rfl⟩
        refine q_getJv (Sh.long hI58563.1 kx_231 rfl) v61099 hv61099 ?_
        refine r_ldc2 1103 rfl ?_
        refine q_lmulO (fun v61100 _ => ?_)
        refine r_ldc2 12345 rfl ?_
        refine q_laddO (fun v61101 _ => ?_)
        refine r_ldc2 1000003 rfl ?_
        refine q_lremO (by decide) (fun v61102 _ => ?_)
        refine q_putJ (Sh.long hI58563.1 kx_231 rfl) rfl ?_
        have hI61103 := HI.wJ hI58563 kx_231 rfl (p := 231) (b := 48) (v := v61102)
        have hF61104 := Fr.wJ (p := 231) (b := 48) (v := v61102) hF58564 rfl
        refine r_aload_n rfl ?_
        refine q_getJv (Sh.long hI61103.1 kx_231 rfl) v61102 (gJ_sJ_eq hI58563.1 kx_231 rfl _) ?_
        refine r_iload_n rfl ?_
        refine r_i2l 30 rfl ?_
        refine q_lremO (by decide) (fun v61105 _ => ?_)
        refine q_l2iO (fun v61106 hv61106 => ?_)
        refine q_ireti ?_
        refine At.enter rfl ?_
        refine q_iast (Sh.arr hI61103.1 ka_248) (x58561.toInt) rfl (by omega) ?_
        have hI61107 := HI.wA0 hI61103 ka_248 (p := 248) rfl rfl (x58561.toInt) (v61106)
        have hF61108 := Fr.wA (p := 248) (j := x58561.toInt) (v := v61106) hF61104 rfl
        refine q_iinc e58570 (x58561.toInt + 1) rfl (by omega) (fun v61109 hv61109 => ?_)
        refine r_goto ?_
        exact ih58567 (8 - v61109.toInt) _ _ ⟨v61109, by first | rfl | omega, hI61107, hF61108, (w_p1 (by decide) (Or.inr rfl) e58568), (w_p1 (by decide) (Or.inr rfl) e58569), (w_e1 _ _ _), by omega⟩ ⟨by omega, by omega⟩

def F_X11_drawn_231 : List (Nat × Nat) := [(231, 0)]
def A_X11_drawn_231 : List Nat := []
set_option maxRecDepth 100000 in
set_option maxHeartbeats 4000000 in
theorem T_X11_drawn_231 (d : Nat) {N : Nat} {g0 : List en_E} (hI0 : HI g0) (a1 : Int32) (a2 : Int32) : Ev (d + 2) 262 [.ref 231, .int a1, .int a2] (g0, N) (fun w h' => ∃ g', h' = (g', N) ∧ HI g' ∧ Fr F_X11_drawn_231 A_X11_drawn_231 g0 g' ∧ ∃ r : Int32, w = some (.int r) ∧ True) := by
  have hF0 : Fr F_X11_drawn_231 A_X11_drawn_231 g0 g0 := Fr.rf
  refine Ev.mk rfl rfl ⟨Nat.le_of_ble_eq_true rfl, Or.inr (q_rc hI0.1 kx_231 rfl)⟩ ?_
  show At _ none _ _ (0, [(0, .ref 231), (1, .int a1), (2, .int a2)], [], (_, _)) _
  refine At.enter rfl ?_
  refine r_aload_n rfl ?_
  refine r_iconst 0 rfl ?_
  refine q_putI (Sh.int hI0.1 kx_231 rfl) rfl ?_
  have hI29 := HI.wI0 hI0 kx_231 rfl (p := 231) (b := 0) (v := 0) rfl
  have hF30 := Fr.wI (p := 231) (b := 0) (v := 0) hF0 rfl
  refine r_iload_n rfl ?_
  refine q_i2l (fun v31 hv31 => ?_)
  refine r_lconst 0 rfl ?_
  refine r_aload_n rfl ?_
  obtain ⟨v32, hv32⟩ : ∃ v, gI g0 231 51 = v := ⟨_, rfl⟩
  have rv32 := RgF.at hI0.2.1 (p := 231) (b := 51) rfl
  rw [hv32] at rv32
  dsimp only at rv32
  refine q_getI (Sh.int hI29.1 kx_231 rfl) v32 ((gI_sI_ne (by decide)).trans hv32) ?_
  refine q_i2l (fun v33 hv33 => ?_)
  refine r_lconst 1 rfl ?_
  refine q_lsub (v33.toInt - 1) rfl (by omega) (fun v34 hv34 => ?_)
  refine q_inlS 18 rfl [.long v31, .long 0, .long v34] [] (Nat.le_of_ble_eq_true rfl) rfl ?_
  refine Ev.mk rfl rfl ⟨Nat.le_of_ble_eq_true rfl, Or.inl rfl⟩ ?_
  show At _ none _ _ (0, [(0, .long v31), (2, .long 0), (4, .long v34)], [], (_, _)) _
  refine At.enter rfl ?_
  refine r_lload_n rfl ?_
  refine r_lload_n rfl ?_
  refine r_lcmp _ rfl ?_
  refine r_ifs 6 rfl (fun c35 => ?_) (fun c35 => ?_)
  · have c35_ : v31.toInt < 0 := en_j_lt_t c35
    refine At.enter rfl ?_
    refine r_iconst 0 rfl ?_
    refine Ar.fall 18 rfl ?_
    refine At.enter rfl ?_
    refine q_iretz (by decide) ?_
    refine At.enter rfl ?_
    refine r_ift (by decide) ?_
    refine At.enter rfl ?_
    refine r_iconst (-1) rfl ?_
    refine Ar.fall 54 rfl ?_
    refine At.enter rfl ?_
    refine r_ireti ?_
    exact ⟨_, rfl, hI29, hF30, _, rfl, trivial⟩
  · have c35_ : v31.toInt ≥ 0 := en_j_lt_f c35
    refine At.enter rfl ?_
    refine r_lload_n rfl ?_
    refine r_lload rfl ?_
    refine r_lcmp _ rfl ?_
    refine r_ifs 13 rfl (fun c36 => ?_) (fun c36 => ?_)
    · have c36_ : v31.toInt > v34.toInt := en_j_gt_t c36
      refine At.enter rfl ?_
      refine r_iconst 0 rfl ?_
      refine Ar.fall 18 rfl ?_
      refine At.enter rfl ?_
      refine q_iretz (by decide) ?_
      refine At.enter rfl ?_
      refine r_ift (by decide) ?_
      refine At.enter rfl ?_
      refine r_iconst (-1) rfl ?_
      refine Ar.fall 54 rfl ?_
      refine At.enter rfl ?_
      refine r_ireti ?_
      exact ⟨_, rfl, hI29, hF30, _, rfl, trivial⟩
    · have c36_ : v31.toInt ≤ v34.toInt := en_j_gt_f c36
      refine At.enter rfl ?_
      refine r_iconst 1 rfl ?_
      refine r_goto ?_
      refine At.enter rfl ?_
      refine q_iretz (by decide) ?_
      refine At.enter rfl ?_
      refine r_iff 21 rfl (by decide) ?_
      refine At.enter rfl ?_
      refine r_iload_n rfl ?_
      refine q_i2l (fun v37 hv37 => ?_)
      refine r_lconst 0 rfl ?_
      refine r_lconst 1 rfl ?_
      refine q_inlS 28 rfl [.long v37, .long 0, .long 1] [] (Nat.le_of_ble_eq_true rfl) rfl ?_
      refine Ev.mk rfl rfl ⟨Nat.le_of_ble_eq_true rfl, Or.inl rfl⟩ ?_
      show At _ none _ _ (0, [(0, .long v37), (2, .long 0), (4, .long 1)], [], (_, _)) _
      refine At.enter rfl ?_
      refine r_lload_n rfl ?_
      refine r_lload_n rfl ?_
      refine r_lcmp _ rfl ?_
      refine r_ifs 6 rfl (fun c38 => ?_) (fun c38 => ?_)
      · have c38_ : v37.toInt < 0 := en_j_lt_t c38
        refine At.enter rfl ?_
        refine r_iconst 0 rfl ?_
        refine Ar.fall 18 rfl ?_
        refine At.enter rfl ?_
        refine q_iretz (by decide) ?_
        refine At.enter rfl ?_
        refine r_ift (by decide) ?_
        refine At.enter rfl ?_
        refine r_iconst (-1) rfl ?_
        refine Ar.fall 54 rfl ?_
        refine At.enter rfl ?_
        refine r_ireti ?_
        exact ⟨_, rfl, hI29, hF30, _, rfl, trivial⟩
      · have c38_ : v37.toInt ≥ 0 := en_j_lt_f c38
        refine At.enter rfl ?_
        refine r_lload_n rfl ?_
        refine r_lload rfl ?_
        refine r_lcmp _ rfl ?_
        refine r_ifs 13 rfl (fun c39 => ?_) (fun c39 => ?_)
        · have c39_ : v37.toInt > 1 := en_j_gt_t c39
          refine At.enter rfl ?_
          refine r_iconst 0 rfl ?_
          refine Ar.fall 18 rfl ?_
          refine At.enter rfl ?_
          refine q_iretz (by decide) ?_
          refine At.enter rfl ?_
          refine r_ift (by decide) ?_
          refine At.enter rfl ?_
          refine r_iconst (-1) rfl ?_
          refine Ar.fall 54 rfl ?_
          refine At.enter rfl ?_
          refine r_ireti ?_
          exact ⟨_, rfl, hI29, hF30, _, rfl, trivial⟩
        · have c39_ : v37.toInt ≤ 1 := en_j_gt_f c39
          refine At.enter rfl ?_
          refine r_iconst 1 rfl ?_
          refine r_goto ?_
          refine At.enter rfl ?_
          refine q_iretz (by decide) ?_
          refine At.enter rfl ?_
          refine r_iff 31 rfl (by decide) ?_
          refine At.enter rfl ?_
          refine r_iload_n rfl ?_
          refine r_ifs 35 rfl (fun c40 => ?_) (fun c40 => ?_)
          · have c40_ : a2.toInt ≠ 0 := en_k_ne_t c40
            refine At.enter rfl ?_
            refine r_aload_n rfl ?_
            refine q_getR (Sh.ref hI29.1 kx_231 rfl) ?_
            refine r_iload_n rfl ?_
            obtain ⟨v41, hv41⟩ : ∃ v, eA g0 258 a1.toInt = v := ⟨_, rfl⟩
            refine q_iald (Sh.arr hI29.1 ka_258) a1.toInt rfl (by omega) v41 ((eA_c (gA_sI)).trans hv41) ?_
            refine r_goto ?_
            refine At.enter rfl ?_
            refine r_ireti ?_
            exact ⟨_, rfl, hI29, hF30, _, rfl, trivial⟩
          · have c40_ : a2.toInt = 0 := en_k_ne_f c40
            refine At.enter rfl ?_
            refine r_aload_n rfl ?_
            refine q_getR (Sh.ref hI29.1 kx_231 rfl) ?_
            refine r_iload_n rfl ?_
            obtain ⟨v42, hv42⟩ : ∃ v, eA g0 257 a1.toInt = v := ⟨_, rfl⟩
            refine q_iald (Sh.arr hI29.1 ka_257) a1.toInt rfl (by omega) v42 ((eA_c (gA_sI)).trans hv42) ?_
            refine r_goto ?_
            refine At.enter rfl ?_
            refine r_ireti ?_
            exact ⟨_, rfl, hI29, hF30, _, rfl, trivial⟩

def F_X11_count_231 : List (Nat × Nat) := [(231, 0), (231, 27), (231, 30), (231, 31), (231, 32), (231, 36)]
def A_X11_count_231 : List Nat := [246, 247, 248, 250, 251, 252, 253, 254, 255, 256]
set_option maxRecDepth 100000 in
set_option maxHeartbeats 4000000 in
theorem T_X11_count_231 (d : Nat) {N : Nat} {g0 : List en_E} (hI0 : HI g0) (a1 : Int32) : Ev (d + 9) 263 [.ref 231, .int a1] (g0, N) (fun w h' => ∃ g', h' = (g', N) ∧ HI g' ∧ Fr F_X11_count_231 A_X11_count_231 g0 g' ∧ ∃ r : Int32, w = some (.int r) ∧ True) := by
  have hF0 : Fr F_X11_count_231 A_X11_count_231 g0 g0 := Fr.rf
  refine Ev.mk rfl rfl ⟨Nat.le_of_ble_eq_true rfl, Or.inr (q_rc hI0.1 kx_231 rfl)⟩ ?_
  show At _ none _ _ (0, [(0, .ref 231), (1, .int a1)], [], (_, _)) _
  refine At.enter rfl ?_
  refine r_aload_n rfl ?_
  refine r_iconst 0 rfl ?_
  refine q_putI (Sh.int hI0.1 kx_231 rfl) rfl ?_
  have hI1691 := HI.wI0 hI0 kx_231 rfl (p := 231) (b := 0) (v := 0) rfl
  have hF1692 := Fr.wI (p := 231) (b := 0) (v := 0) hF0 rfl
  refine r_iload_n rfl ?_
  refine r_iconst 4 rfl ?_
  refine r_ics 10 rfl (fun c1693 => ?_) (fun c1693 => ?_)
  · have c1693_ : a1.toInt = 4 := en_i_eq_t c1693
    refine At.enter rfl ?_
    refine r_aload_n rfl ?_
    refine r_callV 19 rfl [.ref 231] [] (Nat.le_of_ble_eq_true rfl) rfl (T_X11_runDay_231 _ hI1691) ?_
    rintro _ _ ⟨g1694, rfl, hI1695, hF1696, rfl⟩
    refine At.stn ?_
    have hF1699 := Fr.tr hF1692 hF1696 rfl rfl
    refine At.enter rfl ?_
    refine r_iconst 0 rfl ?_
    refine r_istore_n ([(2, .int 0), (0, .ref 231), (1, .int a1)]) rfl ?_
    refine r_iconst 0 rfl ?_
    refine r_istore_n ([(3, .int 0), (2, .int 0), (0, .ref 231), (1, .int a1)]) rfl ?_
    refine Ar.fall 23 rfl ?_
    have z_2155 : (0 : Int32).toInt = 0 := rfl
    have z_2156 : (0 : Int32).toInt = 0 := rfl
    refine w_loopI (fun n_ l_ g_ => ∃ x2142 : Int32, ∃ x2143 : Int32, n_ = 8 - x2143.toInt ∧ HI g_ ∧ Fr F_X11_count_231 A_X11_count_231 g0 g_ ∧ en_get 0 l_ = some (.ref 231) ∧ en_get 1 l_ = some (.int a1) ∧ en_get 2 l_ = some (.int x2142) ∧ en_get 3 l_ = some (.int x2143) ∧ (0 ≤ x2143.toInt ∧ x2143.toInt ≤ 8)) ?_ (8 - 0) ⟨0, 0, by first | rfl | omega, hI1695, hF1699, rfl, rfl, rfl, rfl, by decide⟩
    rintro n2148 l2147 g2144 ⟨x2142, x2143, hm2157, hI2145, hF2146, e2150, e2151, e2152, e2153, r2154⟩ ih2149
    refine At.enter rfl ?_
    refine r_iload_n e2153 ?_
    refine r_aload_n e2150 ?_
    refine q_getR (Sh.ref hI2145.1 kx_231 rfl) ?_
    refine r_iconst 1 rfl ?_
    obtain ⟨v2158, hv2158⟩ : ∃ v, eA g0 233 1 = v := ⟨_, rfl⟩
    have tv2158 := congrArg Int32.toInt hv2158
    have wv2158 := HI.t1 hI0
    rw [hv2158] at wv2158
    refine q_iald (Sh.arr hI2145.1 ka_233) 1 rfl (by decide) v2158 ((eA_c (hF2146.2.1 233 (by decide))).trans hv2158) ?_
    have bv2160 := q_bnd x2143
    have bv2161 := q_bnd v2158
    refine r_ics 33 rfl (fun c2159 => ?_) (fun c2159 => ?_)
    · have c2159_ : x2143.toInt ≥ v2158.toInt := en_i_ge_t c2159
      refine At.enter rfl ?_
      refine r_iload_n e2151 ?_
      refine r_iconst 4 rfl ?_
      refine r_ics 62 rfl (fun c2162 => ?_) (fun c2162 => ?_)
      · have c2162_ : a1.toInt ≠ 4 := en_i_ne_t c2162
        exfalso; omega
      · have c2162_ : a1.toInt = 4 := en_i_ne_f c2162
        refine At.enter rfl ?_
        refine r_aload_n e2150 ?_
        refine r_callV 66 rfl [.ref 231] [] (Nat.le_of_ble_eq_true rfl) rfl (T_X11_byNoon_231 _ hI2145) ?_
        rintro _ _ ⟨g2163, rfl, hI2164, hF2165, v2166, rfl, hr2167⟩
        refine At.sti ?_
        have hF2168 := Fr.tr hF2146 hF2165 rfl rfl
        refine At.enter rfl ?_
        refine r_goto ?_
        refine At.enter rfl ?_
        refine r_ireti ?_
        exact ⟨_, rfl, hI2164, hF2168, _, rfl, trivial⟩
    · have c2159_ : x2143.toInt < v2158.toInt := en_i_ge_f c2159
      refine At.enter rfl ?_
      refine r_iload_n e2152 ?_
      refine r_aload_n e2150 ?_
      refine q_getR (Sh.ref hI2145.1 kx_231 rfl) ?_
      refine r_iload_n e2153 ?_
      obtain ⟨v2169, hv2169⟩ : ∃ v, eA g2144 253 x2143.toInt = v := ⟨_, rfl⟩
      refine q_iald (Sh.arr hI2145.1 ka_253) x2143.toInt rfl (by omega) v2169 hv2169 ?_
      refine r_iconst (-1) rfl ?_
      refine r_ics 44 rfl (fun c2170 => ?_) (fun c2170 => ?_)
      · have c2170_ : v2169.toInt ≠ (-1) := en_i_ne_t c2170
        refine At.enter rfl ?_
        refine r_iconst 0 rfl ?_
        refine Ar.fall 49 rfl ?_
        refine At.enter rfl ?_
        have bv2171 := q_bnd x2142
        refine q_iadd (x2142.toInt + 0) rfl (by omega) (fun v2172 hv2172 => ?_)
        refine r_istore_n _ rfl ?_
        refine q_iinc (w_p1 (by decide) (Or.inr rfl) e2153) (x2143.toInt + 1) rfl (by omega) (fun v2173 hv2173 => ?_)
        refine r_goto ?_
        have bv2174 := q_bnd v2172
        exact ih2149 (8 - v2173.toInt) _ _ ⟨v2172, v2173, by first | rfl | omega, hI2145, hF2146, (w_p1 (by decide) (Or.inr rfl) (w_p1 (by decide) (Or.inr rfl) e2150)), (w_p1 (by decide) (Or.inr rfl) (w_p1 (by decide) (Or.inr rfl) e2151)), (w_p1 (by decide) (Or.inr rfl) (w_e1 _ _ _)), (w_e1 _ _ _), by omega⟩ ⟨by omega, by omega⟩
      · have c2170_ : v2169.toInt = (-1) := en_i_ne_f c2170
        refine At.enter rfl ?_
        refine r_iconst 1 rfl ?_
        refine r_goto ?_
        refine At.enter rfl ?_
        refine q_iaddO (fun v2175 _ => ?_)
        refine r_istore_n _ rfl ?_
        refine q_iinc (w_p1 (by decide) (Or.inr rfl) e2153) (x2143.toInt + 1) rfl (by omega) (fun v2176 hv2176 => ?_)
        refine r_goto ?_
        have bv2177 := q_bnd v2175
        exact ih2149 (8 - v2176.toInt) _ _ ⟨v2175, v2176, by first | rfl | omega, hI2145, hF2146, (w_p1 (by decide) (Or.inr rfl) (w_p1 (by decide) (Or.inr rfl) e2150)), (w_p1 (by decide) (Or.inr rfl) (w_p1 (by decide) (Or.inr rfl) e2151)), (w_p1 (by decide) (Or.inr rfl) (w_e1 _ _ _)), (w_e1 _ _ _), by omega⟩ ⟨by omega, by omega⟩
  · have c1693_ : a1.toInt ≠ 4 := en_i_eq_f c1693
    refine At.enter rfl ?_
    refine r_iload_n rfl ?_
    refine r_iconst 5 rfl ?_
    refine r_ics 15 rfl (fun c2178 => ?_) (fun c2178 => ?_)
    · have c2178_ : a1.toInt ≠ 5 := en_i_ne_t c2178
      refine At.enter rfl ?_
      refine r_iload_n rfl ?_
      by_cases c2179_0 : a1.toInt = 0
      · refine r_tsw 148 (by rw [c2179_0]; rfl) ?_
        refine At.enter rfl ?_
        refine r_aload_n rfl ?_
        refine q_getR (Sh.ref hI1691.1 kx_231 rfl) ?_
        refine r_iconst 0 rfl ?_
        obtain ⟨v2180, hv2180⟩ : ∃ v, eA g0 233 0 = v := ⟨_, rfl⟩
        have tv2180 := congrArg Int32.toInt hv2180
        have wv2180 := HI.t0 hI0
        rw [hv2180] at wv2180
        refine q_iald (Sh.arr hI1691.1 ka_233) 0 rfl (by decide) v2180 ((eA_c (gA_sI)).trans hv2180) ?_
        refine r_ireti ?_
        exact ⟨_, rfl, hI1691, hF1692, _, rfl, trivial⟩
      by_cases c2179_1 : a1.toInt = 1
      · refine r_tsw 155 (by rw [c2179_1]; rfl) ?_
        refine At.enter rfl ?_
        refine r_aload_n rfl ?_
        refine q_getR (Sh.ref hI1691.1 kx_231 rfl) ?_
        refine r_iconst 1 rfl ?_
        obtain ⟨v2181, hv2181⟩ : ∃ v, eA g0 233 1 = v := ⟨_, rfl⟩
        have tv2181 := congrArg Int32.toInt hv2181
        have wv2181 := HI.t1 hI0
        rw [hv2181] at wv2181
        refine q_iald (Sh.arr hI1691.1 ka_233) 1 rfl (by decide) v2181 ((eA_c (gA_sI)).trans hv2181) ?_
        refine r_ireti ?_
        exact ⟨_, rfl, hI1691, hF1692, _, rfl, trivial⟩
      by_cases c2179_2 : a1.toInt = 2
      · refine r_tsw 162 (by rw [c2179_2]; rfl) ?_
        refine At.enter rfl ?_
        refine r_aload_n rfl ?_
        refine q_getR (Sh.ref hI1691.1 kx_231 rfl) ?_
        refine r_iconst 2 rfl ?_
        obtain ⟨v2182, hv2182⟩ : ∃ v, eA g0 233 2 = v := ⟨_, rfl⟩
        have tv2182 := congrArg Int32.toInt hv2182
        have wv2182 := HI.t2 hI0
        rw [hv2182] at wv2182
        refine q_iald (Sh.arr hI1691.1 ka_233) 2 rfl (by decide) v2182 ((eA_c (gA_sI)).trans hv2182) ?_
        refine r_ireti ?_
        exact ⟨_, rfl, hI1691, hF1692, _, rfl, trivial⟩
      by_cases c2179_3 : a1.toInt = 3
      · refine r_tsw 169 (by rw [c2179_3]; rfl) ?_
        refine At.enter rfl ?_
        refine r_aload_n rfl ?_
        refine q_getR (Sh.ref hI1691.1 kx_231 rfl) ?_
        refine r_iconst 4 rfl ?_
        obtain ⟨v2183, hv2183⟩ : ∃ v, eA g0 233 4 = v := ⟨_, rfl⟩
        have wv2183 := HI.t4 hI0
        rw [hv2183] at wv2183
        refine q_iald (Sh.arr hI1691.1 ka_233) 4 rfl (by decide) v2183 ((eA_c (gA_sI)).trans hv2183) ?_
        refine r_ireti ?_
        exact ⟨_, rfl, hI1691, hF1692, _, rfl, trivial⟩
      by_cases c2179_4 : a1.toInt = 4
      · refine r_tsw 239 (by rw [c2179_4]; rfl) ?_
        refine At.enter rfl ?_
        refine r_iconst (-1) rfl ?_
        refine r_ireti ?_
        exact ⟨_, rfl, hI1691, hF1692, _, rfl, trivial⟩
      by_cases c2179_5 : a1.toInt = 5
      · refine r_tsw 239 (by rw [c2179_5]; rfl) ?_
        refine At.enter rfl ?_
        refine r_iconst (-1) rfl ?_
        refine r_ireti ?_
        exact ⟨_, rfl, hI1691, hF1692, _, rfl, trivial⟩
      by_cases c2179_6 : a1.toInt = 6
      · refine r_tsw 176 (by rw [c2179_6]; rfl) ?_
        refine At.enter rfl ?_
        refine r_aload_n rfl ?_
        obtain ⟨v2184, hv2184⟩ : ∃ v, gI g0 231 8 = v := ⟨_, rfl⟩
        have rv2184 := RgF.at hI0.2.1 (p := 231) (b := 8) rfl
        rw [hv2184] at rv2184
        dsimp only at rv2184
        refine q_getI (Sh.int hI1691.1 kx_231 rfl) v2184 ((gI_sI_ne (by decide)).trans hv2184) ?_
        refine r_ireti ?_
        exact ⟨_, rfl, hI1691, hF1692, _, rfl, trivial⟩
      by_cases c2179_7 : a1.toInt = 7
      · refine r_tsw 181 (by rw [c2179_7]; rfl) ?_
        refine At.enter rfl ?_
        refine r_aload_n rfl ?_
        refine q_getR (Sh.ref hI1691.1 kx_231 rfl) ?_
        refine r_iconst 1 rfl ?_
        obtain ⟨v2185, hv2185⟩ : ∃ v, eA g0 232 1 = v := ⟨_, rfl⟩
        refine q_iald (Sh.arr hI1691.1 ka_232) 1 rfl (by decide) v2185 ((eA_c (gA_sI)).trans hv2185) ?_
        refine r_ireti ?_
        exact ⟨_, rfl, hI1691, hF1692, _, rfl, trivial⟩
      by_cases c2179_8 : a1.toInt = 8
      · refine r_tsw 188 (by rw [c2179_8]; rfl) ?_
        refine At.enter rfl ?_
        refine r_aload_n rfl ?_
        refine q_getR (Sh.ref hI1691.1 kx_231 rfl) ?_
        refine r_iconst 2 rfl ?_
        obtain ⟨v2186, hv2186⟩ : ∃ v, eA g0 232 2 = v := ⟨_, rfl⟩
        refine q_iald (Sh.arr hI1691.1 ka_232) 2 rfl (by decide) v2186 ((eA_c (gA_sI)).trans hv2186) ?_
        refine r_ireti ?_
        exact ⟨_, rfl, hI1691, hF1692, _, rfl, trivial⟩
      by_cases c2179_9 : a1.toInt = 9
      · refine r_tsw 195 (by rw [c2179_9]; rfl) ?_
        refine At.enter rfl ?_
        refine r_aload_n rfl ?_
        refine q_getR (Sh.ref hI1691.1 kx_231 rfl) ?_
        refine r_iconst 3 rfl ?_
        obtain ⟨v2187, hv2187⟩ : ∃ v, eA g0 232 3 = v := ⟨_, rfl⟩
        refine q_iald (Sh.arr hI1691.1 ka_232) 3 rfl (by decide) v2187 ((eA_c (gA_sI)).trans hv2187) ?_
        refine r_ireti ?_
        exact ⟨_, rfl, hI1691, hF1692, _, rfl, trivial⟩
      by_cases c2179_10 : a1.toInt = 10
      · refine r_tsw 202 (by rw [c2179_10]; rfl) ?_
        refine At.enter rfl ?_
        refine r_aload_n rfl ?_
        refine q_getR (Sh.ref hI1691.1 kx_231 rfl) ?_
        refine r_iconst 5 rfl ?_
        obtain ⟨v2188, hv2188⟩ : ∃ v, eA g0 232 5 = v := ⟨_, rfl⟩
        refine q_iald (Sh.arr hI1691.1 ka_232) 5 rfl (by decide) v2188 ((eA_c (gA_sI)).trans hv2188) ?_
        refine r_ireti ?_
        exact ⟨_, rfl, hI1691, hF1692, _, rfl, trivial⟩
      by_cases c2179_11 : a1.toInt = 11
      · refine r_tsw 209 (by rw [c2179_11]; rfl) ?_
        refine At.enter rfl ?_
        refine r_aload_n rfl ?_
        refine q_getR (Sh.ref hI1691.1 kx_231 rfl) ?_
        refine r_bipush 6 rfl ?_
        obtain ⟨v2189, hv2189⟩ : ∃ v, eA g0 232 6 = v := ⟨_, rfl⟩
        refine q_iald (Sh.arr hI1691.1 ka_232) 6 rfl (by decide) v2189 ((eA_c (gA_sI)).trans hv2189) ?_
        refine r_ireti ?_
        exact ⟨_, rfl, hI1691, hF1692, _, rfl, trivial⟩
      by_cases c2179_12 : a1.toInt = 12
      · refine r_tsw 217 (by rw [c2179_12]; rfl) ?_
        refine At.enter rfl ?_
        refine r_aload_n rfl ?_
        refine q_getR (Sh.ref hI1691.1 kx_231 rfl) ?_
        refine r_iconst 3 rfl ?_
        obtain ⟨v2190, hv2190⟩ : ∃ v, eA g0 233 3 = v := ⟨_, rfl⟩
        have wv2190 := HI.t3 hI0
        rw [hv2190] at wv2190
        refine q_iald (Sh.arr hI1691.1 ka_233) 3 rfl (by decide) v2190 ((eA_c (gA_sI)).trans hv2190) ?_
        refine r_ireti ?_
        exact ⟨_, rfl, hI1691, hF1692, _, rfl, trivial⟩
      by_cases c2179_13 : a1.toInt = 13
      · refine r_tsw 224 (by rw [c2179_13]; rfl) ?_
        refine At.enter rfl ?_
        refine r_aload_n rfl ?_
        refine q_getR (Sh.ref hI1691.1 kx_231 rfl) ?_
        refine r_iconst 5 rfl ?_
        obtain ⟨v2191, hv2191⟩ : ∃ v, eA g0 233 5 = v := ⟨_, rfl⟩
        have wv2191 := HI.t5 hI0
        rw [hv2191] at wv2191
        refine q_iald (Sh.arr hI1691.1 ka_233) 5 rfl (by decide) v2191 ((eA_c (gA_sI)).trans hv2191) ?_
        refine r_ireti ?_
        exact ⟨_, rfl, hI1691, hF1692, _, rfl, trivial⟩
      by_cases c2179_14 : a1.toInt = 14
      · refine r_tsw 231 (by rw [c2179_14]; rfl) ?_
        refine At.enter rfl ?_
        refine r_aload_n rfl ?_
        refine q_getR (Sh.ref hI1691.1 kx_231 rfl) ?_
        refine r_bipush 6 rfl ?_
        obtain ⟨v2192, hv2192⟩ : ∃ v, eA g0 233 6 = v := ⟨_, rfl⟩
        have wv2192 := HI.t6 hI0
        rw [hv2192] at wv2192
        refine q_iald (Sh.arr hI1691.1 ka_233) 6 rfl (by decide) v2192 ((eA_c (gA_sI)).trans hv2192) ?_
        refine r_ireti ?_
        exact ⟨_, rfl, hI1691, hF1692, _, rfl, trivial⟩
      have c2193 : a1.toInt < 0 ∨ 14 < a1.toInt := by omega
      refine r_tsw 239 (by unfold en_sw; rw [if_pos c2193]; rfl) ?_
      refine At.enter rfl ?_
      refine r_iconst (-1) rfl ?_
      refine r_ireti ?_
      exact ⟨_, rfl, hI1691, hF1692, _, rfl, trivial⟩
    · have c2178_ : a1.toInt = 5 := en_i_ne_f c2178
      refine At.enter rfl ?_
      refine r_aload_n rfl ?_
      refine r_callV 19 rfl [.ref 231] [] (Nat.le_of_ble_eq_true rfl) rfl (T_X11_runDay_231 _ hI1691) ?_
      rintro _ _ ⟨g2194, rfl, hI2195, hF2196, rfl⟩
      refine At.stn ?_
      have hF2199 := Fr.tr hF1692 hF2196 rfl rfl
      refine At.enter rfl ?_
      refine r_iconst 0 rfl ?_
      refine r_istore_n ([(2, .int 0), (0, .ref 231), (1, .int a1)]) rfl ?_
      refine r_iconst 0 rfl ?_
      refine r_istore_n ([(3, .int 0), (2, .int 0), (0, .ref 231), (1, .int a1)]) rfl ?_
      refine Ar.fall 23 rfl ?_
      have z_2523 : (0 : Int32).toInt = 0 := rfl
      have z_2524 : (0 : Int32).toInt = 0 := rfl
      refine w_loopI (fun n_ l_ g_ => ∃ x2510 : Int32, ∃ x2511 : Int32, n_ = 8 - x2511.toInt ∧ HI g_ ∧ Fr F_X11_count_231 A_X11_count_231 g0 g_ ∧ en_get 0 l_ = some (.ref 231) ∧ en_get 1 l_ = some (.int a1) ∧ en_get 2 l_ = some (.int x2510) ∧ en_get 3 l_ = some (.int x2511) ∧ (0 ≤ x2511.toInt ∧ x2511.toInt ≤ 8)) ?_ (8 - 0) ⟨0, 0, by first | rfl | omega, hI2195, hF2199, rfl, rfl, rfl, rfl, by decide⟩
      rintro n2516 l2515 g2512 ⟨x2510, x2511, hm2525, hI2513, hF2514, e2518, e2519, e2520, e2521, r2522⟩ ih2517
      refine At.enter rfl ?_
      refine r_iload_n e2521 ?_
      refine r_aload_n e2518 ?_
      refine q_getR (Sh.ref hI2513.1 kx_231 rfl) ?_
      refine r_iconst 1 rfl ?_
      obtain ⟨v2526, hv2526⟩ : ∃ v, eA g0 233 1 = v := ⟨_, rfl⟩
      have tv2526 := congrArg Int32.toInt hv2526
      have wv2526 := HI.t1 hI0
      rw [hv2526] at wv2526
      refine q_iald (Sh.arr hI2513.1 ka_233) 1 rfl (by decide) v2526 ((eA_c (hF2514.2.1 233 (by decide))).trans hv2526) ?_
      have bv2528 := q_bnd x2511
      have bv2529 := q_bnd v2526
      refine r_ics 33 rfl (fun c2527 => ?_) (fun c2527 => ?_)
      · have c2527_ : x2511.toInt ≥ v2526.toInt := en_i_ge_t c2527
        refine At.enter rfl ?_
        refine r_iload_n e2519 ?_
        refine r_iconst 4 rfl ?_
        refine r_ics 62 rfl (fun c2530 => ?_) (fun c2530 => ?_)
        · have c2530_ : a1.toInt ≠ 4 := en_i_ne_t c2530
          refine At.enter rfl ?_
          refine r_iload_n e2520 ?_
          refine Ar.fall 70 rfl ?_
          refine At.enter rfl ?_
          refine r_ireti ?_
          exact ⟨_, rfl, hI2513, hF2514, _, rfl, trivial⟩
        · have c2530_ : a1.toInt = 4 := en_i_ne_f c2530
          exfalso; omega
      · have c2527_ : x2511.toInt < v2526.toInt := en_i_ge_f c2527
        refine At.enter rfl ?_
        refine r_iload_n e2520 ?_
        refine r_aload_n e2518 ?_
        refine q_getR (Sh.ref hI2513.1 kx_231 rfl) ?_
        refine r_iload_n e2521 ?_
        obtain ⟨v2531, hv2531⟩ : ∃ v, eA g2512 253 x2511.toInt = v := ⟨_, rfl⟩
        refine q_iald (Sh.arr hI2513.1 ka_253) x2511.toInt rfl (by omega) v2531 hv2531 ?_
        refine r_iconst (-1) rfl ?_
        refine r_ics 44 rfl (fun c2532 => ?_) (fun c2532 => ?_)
        · have c2532_ : v2531.toInt ≠ (-1) := en_i_ne_t c2532
          refine At.enter rfl ?_
          refine r_iconst 0 rfl ?_
          refine Ar.fall 49 rfl ?_
          refine At.enter rfl ?_
          have bv2533 := q_bnd x2510
          refine q_iadd (x2510.toInt + 0) rfl (by omega) (fun v2534 hv2534 => ?_)
          refine r_istore_n _ rfl ?_
          refine q_iinc (w_p1 (by decide) (Or.inr rfl) e2521) (x2511.toInt + 1) rfl (by omega) (fun v2535 hv2535 => ?_)
          refine r_goto ?_
          have bv2536 := q_bnd v2534
          exact ih2517 (8 - v2535.toInt) _ _ ⟨v2534, v2535, by first | rfl | omega, hI2513, hF2514, (w_p1 (by decide) (Or.inr rfl) (w_p1 (by decide) (Or.inr rfl) e2518)), (w_p1 (by decide) (Or.inr rfl) (w_p1 (by decide) (Or.inr rfl) e2519)), (w_p1 (by decide) (Or.inr rfl) (w_e1 _ _ _)), (w_e1 _ _ _), by omega⟩ ⟨by omega, by omega⟩
        · have c2532_ : v2531.toInt = (-1) := en_i_ne_f c2532
          refine At.enter rfl ?_
          refine r_iconst 1 rfl ?_
          refine r_goto ?_
          refine At.enter rfl ?_
          refine q_iaddO (fun v2537 _ => ?_)
          refine r_istore_n _ rfl ?_
          refine q_iinc (w_p1 (by decide) (Or.inr rfl) e2521) (x2511.toInt + 1) rfl (by omega) (fun v2538 hv2538 => ?_)
          refine r_goto ?_
          have bv2539 := q_bnd v2537
          exact ih2517 (8 - v2538.toInt) _ _ ⟨v2537, v2538, by first | rfl | omega, hI2513, hF2514, (w_p1 (by decide) (Or.inr rfl) (w_p1 (by decide) (Or.inr rfl) e2518)), (w_p1 (by decide) (Or.inr rfl) (w_p1 (by decide) (Or.inr rfl) e2519)), (w_p1 (by decide) (Or.inr rfl) (w_e1 _ _ _)), (w_e1 _ _ _), by omega⟩ ⟨by omega, by omega⟩
