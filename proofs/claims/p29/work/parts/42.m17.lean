def F_X11_incomeOf_231 : List (Nat × Nat) := [(231, 27), (231, 30), (231, 31), (231, 32)]
def A_X11_incomeOf_231 : List Nat := [249]
theorem ma_X11_isSent_231_233 : memA A_X11_isSent_231 233 = false := by decide
set_option maxRecDepth 100000 in
set_option maxHeartbeats 4000000 in
theorem T_X11_incomeOf_231 (d : Nat) {N : Nat} {g0 : List en_E} (hI0 : HI g0) (a1 : Int32) (h_a1 : 0 ≤ a1.toInt ∧ a1.toInt ≤ 11) : Ev (d + 8) 247 [.ref 231, .int a1] (g0, N) (fun w h' => ∃ g', h' = (g', N) ∧ HI g' ∧ Fr F_X11_incomeOf_231 A_X11_incomeOf_231 g0 g' ∧ ∃ r : Int32, w = some (.int r) ∧ True ∧ INR g0 a1.toInt r.toInt) := by
  have hF0 : Fr F_X11_incomeOf_231 A_X11_incomeOf_231 g0 g0 := Fr.rf
  refine Ev.mk rfl rfl ⟨Nat.le_of_ble_eq_true rfl, Or.inr (q_rc hI0.1 kx_231 rfl)⟩ ?_
  show At _ none _ _ (0, [(0, .ref 231), (1, .int a1)], [], (_, _)) _
  refine At.enter rfl ?_
  refine r_iconst 0 rfl ?_
  refine r_istore_n ([(2, .int 0), (0, .ref 231), (1, .int a1)]) rfl ?_
  refine r_iconst 0 rfl ?_
  refine r_istore_n ([(3, .int 0), (2, .int 0), (0, .ref 231), (1, .int a1)]) rfl ?_
  refine Ar.fall 4 rfl ?_
  have z_5428 : (0 : Int32).toInt = 0 := rfl
  have z_5429 : (0 : Int32).toInt = 0 := rfl
  refine w_loopI (fun n_ l_ g_ => ∃ x5413 : Int32, ∃ x5414 : Int32, n_ = 8 - x5414.toInt ∧ HI g_ ∧ Fr F_X11_incomeOf_231 A_X11_incomeOf_231 g0 g_ ∧ en_get 0 l_ = some (.ref 231) ∧ en_get 1 l_ = some (.int a1) ∧ en_get 2 l_ = some (.int x5413) ∧ en_get 3 l_ = some (.int x5414) ∧ (0 ≤ x5414.toInt ∧ x5414.toInt ≤ 8) ∧ (INW g0 a1.toInt x5414.toInt x5413.toInt) ∧ (x5414.toInt ≤ (eA g0 233 1).toInt ∨ x5414.toInt = 0)) ?_ (8 - 0) ⟨0, 0, by first | rfl | omega, hI0, hF0, rfl, rfl, rfl, rfl, by decide, (INW_z rfl rfl), (Or.inr rfl)⟩
  rintro n5419 l5418 g5415 ⟨x5413, x5414, hm5430, hI5416, hF5417, e5421, e5422, e5423, e5424, r5425, q5426, q5427⟩ ih5420
  refine At.enter rfl ?_
  refine r_iload_n e5424 ?_
  refine r_aload_n e5421 ?_
  refine q_getR (Sh.ref hI5416.1 kx_231 rfl) ?_
  refine r_iconst 1 rfl ?_
  obtain ⟨v5431, hv5431⟩ : ∃ v, eA g0 233 1 = v := ⟨_, rfl⟩
  have tv5431 := congrArg Int32.toInt hv5431
  have wv5431 := HI.t1 hI0
  rw [hv5431] at wv5431
  refine q_iald (Sh.arr hI5416.1 ka_233) 1 rfl (by decide) v5431 ((eA_c (hF5417.2.1 233 (by decide))).trans hv5431) ?_
  have bv5433 := q_bnd x5414
  have bv5434 := q_bnd v5431
  refine r_ics 14 rfl (fun c5432 => ?_) (fun c5432 => ?_)
  · have c5432_ : x5414.toInt ≥ v5431.toInt := en_i_ge_t c5432
    refine At.enter rfl ?_
    refine r_iload_n e5423 ?_
    refine r_ireti ?_
    exact ⟨_, rfl, hI5416, hF5417, _, rfl, trivial, (INR_mk q5426 (by have y := congrArg Int32.toInt hv5431; omega) rfl)⟩
  · have c5432_ : x5414.toInt < v5431.toInt := en_i_ge_f c5432
    refine At.enter rfl ?_
    refine r_aload_n e5421 ?_
    refine r_iload_n e5424 ?_
    refine r_callV 19 rfl [.ref 231, .int x5414] [] (Nat.le_of_ble_eq_true rfl) rfl (T_X11_isSent_231 _ hI5416 x5414 (by omega) (by rw [eA_c ((hF5417.2.1 233 (by decide))), hv5431]; omega)) ?_
    rintro _ _ ⟨g5435, rfl, hI5436, hF5437, v5438, rfl, hr5439⟩
    refine At.sti ?_
    have hF5440 := Fr.tr hF5417 hF5437 rfl rfl
    have is5441 := ISM_c ((hF5417.2.1 233 (by decide))) ((hF5417.2.1 246 (by decide))) ((hF5417.2.1 247 (by decide))) hr5439.2
    refine At.enter rfl ?_
    refine r_ifs 22 rfl (fun c5442 => ?_) (fun c5442 => ?_)
    · have c5442_ : v5438.toInt = 0 := en_k_eq_t c5442
      refine At.enter rfl ?_
      refine q_iinc e5424 (x5414.toInt + 1) rfl (by omega) (fun v5443 hv5443 => ?_)
      refine r_goto ?_
      have bv5444 := q_bnd x5413
      exact ih5420 (8 - v5443.toInt) _ _ ⟨x5413, v5443, by first | rfl | omega, hI5436, hF5440, (w_p1 (by decide) (Or.inr rfl) e5421), (w_p1 (by decide) (Or.inr rfl) e5422), (w_p1 (by decide) (Or.inr rfl) e5423), (w_e1 _ _ _), by omega, (INW_no q5426 is5441 (by omega) hI0 (by omega) (by omega) (by have y := congrArg Int32.toInt hv5431; omega) (by omega) rfl), (Or.inl (by have y := congrArg Int32.toInt hv5431; omega))⟩ ⟨by omega, by omega⟩
    · have c5442_ : v5438.toInt ≠ 0 := en_k_eq_f c5442
      refine At.enter rfl ?_
      refine r_aload_n e5421 ?_
      refine r_iload_n e5424 ?_
      refine r_callV 27 rfl [.ref 231, .int x5414] [] (Nat.le_of_ble_eq_true rfl) rfl (T_X11_findWay_231 _ hI5436 x5414 (by omega) (by rw [eA_c (((hF5437.2.1 233 ma_X11_isSent_231_233).trans (hF5417.2.1 233 (by decide)))), hv5431]; omega)) ?_
      rintro _ _ ⟨g5445, rfl, hI5446, hF5447, v5448, rfl, hr5449⟩
      refine At.sti ?_
      have hF5450 := Fr.tr hF5440 hF5447 rfl rfl
      obtain ⟨w5451, w5452, w5453, w5454⟩ := hr5449
      have w5455 := And.intro w5451 w5452
      have fw5456 : ∀ j : Int, 0 ≤ j → j ≤ v5448.toInt → (eA g5445 249 j).toInt < (eA g0 233 0).toInt := fun j a b => by have z := w5455.2 j a b; rw [eA_c (((hF5437.2.1 233 ma_X11_isSent_231_233).trans (hF5417.2.1 233 (by decide))))] at z; exact z
      have w5457 := WAYF.cg (((hF5437.2.1 233 ma_X11_isSent_231_233).trans (hF5417.2.1 233 (by decide)))) w5453
      have w5458 := itI.cg (((hF5437.2.1 233 ma_X11_isSent_231_233).trans (hF5417.2.1 233 (by decide)))) w5454
      refine At.enter rfl ?_
      refine r_istore _ rfl ?_
      refine r_iconst 0 rfl ?_
      refine r_istore _ rfl ?_
      refine Ar.fall 32 rfl ?_
      have z_5648 : (0 : Int32).toInt = 0 := rfl
      refine w_loopI (fun n_ l_ g_ => ∃ x5630 : Int32, ∃ x5631 : Int32, n_ = 12 - x5631.toInt ∧ HI g_ ∧ Fr F_X11_incomeOf_231 A_X11_incomeOf_231 g0 g_ ∧ en_get 0 l_ = some (.ref 231) ∧ en_get 1 l_ = some (.int a1) ∧ en_get 2 l_ = some (.int x5630) ∧ en_get 3 l_ = some (.int x5414) ∧ en_get 4 l_ = some (.int v5448) ∧ en_get 5 l_ = some (.int x5631) ∧ (0 ≤ x5631.toInt ∧ x5631.toInt ≤ 12) ∧ (IJL g0 x5414.toInt a1.toInt x5413.toInt x5631.toInt x5630.toInt) ∧ (∀ j : Int, 0 ≤ j → j ≤ v5448.toInt → (eA g_ 249 j).toInt = itI (NMq g0) j (FLM g0 x5414.toInt)) ∧ (x5631.toInt ≤ v5448.toInt ∨ x5631.toInt = 0)) ?_ (12 - 0) ⟨x5413, 0, by first | rfl | omega, hI5446, hF5450, (w_p1 (by decide) (Or.inr rfl) (w_p1 (by decide) (Or.inr rfl) e5421)), (w_p1 (by decide) (Or.inr rfl) (w_p1 (by decide) (Or.inr rfl) e5422)), (w_p1 (by decide) (Or.inr rfl) (w_p1 (by decide) (Or.inr rfl) e5423)), (w_p1 (by decide) (Or.inr rfl) (w_p1 (by decide) (Or.inr rfl) e5424)), (w_p1 (by decide) (Or.inr rfl) (w_e1 _ _ _)), (w_e1 _ _ _), by decide, (IJ_z rfl rfl), (fun j a b => w5458 j a b), (Or.inr rfl)⟩
      rintro n5636 l5635 g5632 ⟨x5630, x5631, hm5649, hI5633, hF5634, e5638, e5639, e5640, e5641, e5642, e5643, r5644, q5645, q5646, q5647⟩ ih5637
      refine At.enter rfl ?_
      refine r_iload e5643 ?_
      refine r_iload e5642 ?_
      have bv5651 := q_bnd x5631
      have bv5652 := q_bnd v5448
      refine r_ics 39 rfl (fun c5650 => ?_) (fun c5650 => ?_)
      · have c5650_ : x5631.toInt ≥ v5448.toInt := en_i_ge_t c5650
        refine At.enter rfl ?_
        refine q_iinc e5641 (x5414.toInt + 1) rfl (by omega) (fun v5653 hv5653 => ?_)
        refine r_goto ?_
        have bv5654 := q_bnd x5630
        exact ih5420 (8 - v5653.toInt) _ _ ⟨x5630, v5653, by first | rfl | omega, hI5633, hF5634, (w_p1 (by decide) (Or.inr rfl) e5638), (w_p1 (by decide) (Or.inr rfl) e5639), (w_p1 (by decide) (Or.inr rfl) e5640), (w_e1 _ _ _), by omega, (INW_ye q5426 is5441 (by omega) hI0 (by omega) (by omega) (by have y := congrArg Int32.toInt hv5431; omega) w5457 q5645 (by omega) q5647 (by omega)), (Or.inl (by have y := congrArg Int32.toInt hv5431; omega))⟩ ⟨by omega, by omega⟩
      · have c5650_ : x5631.toInt < v5448.toInt := en_i_ge_f c5650
        refine At.enter rfl ?_
        refine r_iload_n e5640 ?_
        refine r_aload_n e5638 ?_
        refine q_getR (Sh.ref hI5633.1 kx_231 rfl) ?_
        refine r_iload e5643 ?_
        obtain ⟨v5655, hv5655⟩ : ∃ v, eA g5632 249 x5631.toInt = v := ⟨_, rfl⟩
        have rv5655 := RgA.at hI5633.2.2.1 (Sh.arr hI5633.1 ka_249).2 (p := 249) rfl (j := x5631.toInt) (by omega)
        rw [hv5655] at rv5655
        dsimp only at rv5655
        refine q_iald (Sh.arr hI5633.1 ka_249) x5631.toInt rfl (by omega) v5655 hv5655 ?_
        refine r_iload_n e5639 ?_
        refine r_ics 51 rfl (fun c5656 => ?_) (fun c5656 => ?_)
        · have c5656_ : v5655.toInt ≠ a1.toInt := en_i_ne_t c5656
          refine At.enter rfl ?_
          refine r_iconst 0 rfl ?_
          refine Ar.fall 61 rfl ?_
          refine At.enter rfl ?_
          refine q_iaddO (fun v5657 ov5657 => ?_)
          refine r_istore_n _ rfl ?_
          refine q_iinc (w_p1 (by decide) (Or.inr rfl) e5643) (x5631.toInt + 1) rfl (by omega) (fun v5658 hv5658 => ?_)
          refine r_goto ?_
          have bv5659 := q_bnd v5657
          exact ih5637 (12 - v5658.toInt) _ _ ⟨v5657, v5658, by first | rfl | omega, hI5633, hF5634, (w_p1 (by decide) (Or.inr rfl) (w_p1 (by decide) (Or.inr rfl) e5638)), (w_p1 (by decide) (Or.inr rfl) (w_p1 (by decide) (Or.inr rfl) e5639)), (w_p1 (by decide) (Or.inr rfl) (w_e1 _ _ _)), (w_p1 (by decide) (Or.inr rfl) (w_p1 (by decide) (Or.inr rfl) e5641)), (w_p1 (by decide) (Or.inr rfl) (w_p1 (by decide) (Or.inr rfl) e5642)), (w_e1 _ _ _), by omega, (IJ_ne (y := v5655.toInt) q5645 (by omega) (by omega) (by rw [← hv5655]; exact q5646 _ (by omega) (by omega)) (by omega) (by rw [ov5657]; exact congrArg Int32.toInt (Int32.add_zero _))), q5646, (Or.inl (by omega))⟩ ⟨by omega, by omega⟩
        · have c5656_ : v5655.toInt = a1.toInt := en_i_ne_f c5656
          refine At.enter rfl ?_
          refine r_aload_n e5638 ?_
          refine r_iload_n e5641 ?_
          refine r_iload_n e5639 ?_
          refine r_callV 57 rfl [.ref 231, .int x5414, .int a1] [.int x5630] (Nat.le_of_ble_eq_true rfl) rfl (T_X11_feeOf_231 _ hI5633 x5414 (by omega) a1 (by omega)) ?_
          rintro _ _ ⟨g5660, rfl, hI5661, hF5662, v5663, rfl, hr5664⟩
          refine At.sti ?_
          have hF5665 := Fr.tr hF5634 hF5662 rfl rfl
          refine At.enter rfl ?_
          refine r_goto ?_
          refine At.enter rfl ?_
          refine q_iaddO (fun v5666 ov5666 => ?_)
          refine r_istore_n _ rfl ?_
          refine q_iinc (w_p1 (by decide) (Or.inr rfl) e5643) (x5631.toInt + 1) rfl (by omega) (fun v5667 hv5667 => ?_)
          refine r_goto ?_
          have bv5668 := q_bnd v5666
          exact ih5637 (12 - v5667.toInt) _ _ ⟨v5666, v5667, by first | rfl | omega, hI5661, hF5665, (w_p1 (by decide) (Or.inr rfl) (w_p1 (by decide) (Or.inr rfl) e5638)), (w_p1 (by decide) (Or.inr rfl) (w_p1 (by decide) (Or.inr rfl) e5639)), (w_p1 (by decide) (Or.inr rfl) (w_e1 _ _ _)), (w_p1 (by decide) (Or.inr rfl) (w_p1 (by decide) (Or.inr rfl) e5641)), (w_p1 (by decide) (Or.inr rfl) (w_p1 (by decide) (Or.inr rfl) e5642)), (w_e1 _ _ _), by omega, (IJ_eq (y := v5655.toInt) q5645 q5426 (by omega) (by omega) (by omega) (by omega) (by rw [← hv5655]; exact q5646 _ (by omega) (by omega)) (by omega) w5457 (VLM hI0 (by omega) (by have y := congrArg Int32.toInt hv5431; omega)).2.1 (by omega) hr5664.2 (hF5634.2.1 233 (by decide)) (hF5634.2.1 246 (by decide)) (hF5634.2.1 247 (by decide)) ov5666), (fun j a b => (eA_ti ((hF5662.2.1 249 ma_X11_feeOf_231_249))).trans (q5646 j a b)), (Or.inl (by omega))⟩ ⟨by omega, by omega⟩

def F_X11_income_231 : List (Nat × Nat) := [(231, 0), (231, 27), (231, 30), (231, 31), (231, 32), (231, 36)]
def A_X11_income_231 : List Nat := [246, 247, 248, 249]
set_option maxRecDepth 100000 in
set_option maxHeartbeats 4000000 in
theorem T_X11_income_231 (d : Nat) {N : Nat} {g0 : List en_E} (hI0 : HI g0) (a1 : Int32) : Ev (d + 9) 248 [.ref 231, .int a1] (g0, N) (fun w h' => ∃ g', h' = (g', N) ∧ HI g' ∧ Fr F_X11_income_231 A_X11_income_231 g0 g' ∧ ∃ r : Int32, w = some (.int r) ∧ True ∧ IMR g0 a1.toInt r.toInt) := by
  have hF0 : Fr F_X11_income_231 A_X11_income_231 g0 g0 := Fr.rf
  refine Ev.mk rfl rfl ⟨Nat.le_of_ble_eq_true rfl, Or.inr (q_rc hI0.1 kx_231 rfl)⟩ ?_
  show At _ none _ _ (0, [(0, .ref 231), (1, .int a1)], [], (_, _)) _
  refine At.enter rfl ?_
  refine r_aload_n rfl ?_
  refine r_iconst 0 rfl ?_
  refine q_putI (Sh.int hI0.1 kx_231 rfl) rfl ?_
  have hI41 := HI.wI0 hI0 kx_231 rfl (p := 231) (b := 0) (v := 0) rfl
  have hF42 := Fr.wI (p := 231) (b := 0) (v := 0) hF0 rfl
  refine r_aload_n rfl ?_
  refine r_iload_n rfl ?_
  refine q_inlV 10 rfl [.ref 231, .int a1] [] (Nat.le_of_ble_eq_true rfl) rfl ?_
  refine Ev.mk rfl rfl ⟨Nat.le_of_ble_eq_true rfl, Or.inr (q_rc hI41.1 kx_231 rfl)⟩ ?_
  show At _ none _ _ (0, [(0, .ref 231), (1, .int a1)], [], (_, _)) _
  refine At.enter rfl ?_
  refine r_iload_n rfl ?_
  refine q_i2l (fun v43 hv43 => ?_)
  refine r_lconst 0 rfl ?_
  refine r_aload_n rfl ?_
  refine q_getR (Sh.ref hI41.1 kx_231 rfl) ?_
  refine r_iconst 0 rfl ?_
  obtain ⟨v44, hv44⟩ : ∃ v, eA g0 233 0 = v := ⟨_, rfl⟩
  have tv44 := congrArg Int32.toInt hv44
  have wv44 := HI.t0 hI0
  rw [hv44] at wv44
  refine q_iald (Sh.arr hI41.1 ka_233) 0 rfl (by decide) v44 ((eA_c (gA_sI)).trans hv44) ?_
  refine q_i2l (fun v45 hv45 => ?_)
  refine r_lconst 1 rfl ?_
  refine q_lsub (v45.toInt - 1) rfl (by omega) (fun v46 hv46 => ?_)
  refine q_inlS 15 rfl [.long v43, .long 0, .long v46] [] (Nat.le_of_ble_eq_true rfl) rfl ?_
  refine Ev.mk rfl rfl ⟨Nat.le_of_ble_eq_true rfl, Or.inl rfl⟩ ?_
  show At _ none _ _ (0, [(0, .long v43), (2, .long 0), (4, .long v46)], [], (_, _)) _
  refine At.enter rfl ?_
  refine r_lload_n rfl ?_
  refine r_lload_n rfl ?_
  refine r_lcmp _ rfl ?_
  refine r_ifs 6 rfl (fun c47 => ?_) (fun c47 => ?_)
  · have c47_ : v43.toInt < 0 := en_j_lt_t c47
    refine At.enter rfl ?_
    refine r_iconst 0 rfl ?_
    refine Ar.fall 18 rfl ?_
    refine At.enter rfl ?_
    refine q_iretz (by decide) ?_
    refine At.enter rfl ?_
    refine q_iretz (by decide) ?_
    refine At.enter rfl ?_
    refine r_iff 13 rfl (by decide) ?_
    refine At.enter rfl ?_
    refine r_iconst (-1) rfl ?_
    refine r_ireti ?_
    have zv48 : ((-1) : Int32).toInt = (-1) := rfl
    exact ⟨_, rfl, hI41, hF42, _, rfl, trivial, ⟨fun _ => by omega, fun z => False.elim (by have z1 := z.1; have z2 := z.2; clear z; have y := congrArg Int32.toInt hv44; omega)⟩⟩
  · have c47_ : v43.toInt ≥ 0 := en_j_lt_f c47
    refine At.enter rfl ?_
    refine r_lload_n rfl ?_
    refine r_lload rfl ?_
    refine r_lcmp _ rfl ?_
    refine r_ifs 13 rfl (fun c49 => ?_) (fun c49 => ?_)
    · have c49_ : v43.toInt > v46.toInt := en_j_gt_t c49
      refine At.enter rfl ?_
      refine r_iconst 0 rfl ?_
      refine Ar.fall 18 rfl ?_
      refine At.enter rfl ?_
      refine q_iretz (by decide) ?_
      refine At.enter rfl ?_
      refine q_iretz (by decide) ?_
      refine At.enter rfl ?_
      refine r_iff 13 rfl (by decide) ?_
      refine At.enter rfl ?_
      refine r_iconst (-1) rfl ?_
      refine r_ireti ?_
      have zv50 : ((-1) : Int32).toInt = (-1) := rfl
      exact ⟨_, rfl, hI41, hF42, _, rfl, trivial, ⟨fun _ => by omega, fun z => False.elim (by have z1 := z.1; have z2 := z.2; clear z; have y := congrArg Int32.toInt hv44; omega)⟩⟩
    · have c49_ : v43.toInt ≤ v46.toInt := en_j_gt_f c49
      refine At.enter rfl ?_
      refine r_iconst 1 rfl ?_
      refine r_goto ?_
      refine At.enter rfl ?_
      refine q_iretz (by decide) ?_
      refine At.enter rfl ?_
      refine q_iretz (by decide) ?_
      refine At.enter rfl ?_
      refine r_ift (by decide) ?_
      refine At.enter rfl ?_
      refine r_aload_n rfl ?_
      refine r_callV 19 rfl [.ref 231] [] (Nat.le_of_ble_eq_true rfl) rfl (T_X11_asIs_231 _ hI41) ?_
      rintro _ _ ⟨g51, rfl, hI52, hF53, rfl, hr55⟩
      refine At.stn ?_
      have hF56 := Fr.tr hF42 hF53 rfl rfl
      have f58 : gA g51 233 = gA g0 233 := ((hF53.2.1 233 ma_X11_asIs_231_233).trans (gA_sI))
      have as57 : ASM g0 g51 := fun s s0 s1 => by have z := hr55 s s0 s1; rw [eA_tq ((gA_sI)), eA_tq ((gA_sI))] at z; exact z
      refine At.enter rfl ?_
      refine r_aload_n rfl ?_
      refine r_iload_n rfl ?_
      refine r_callV 24 rfl [.ref 231, .int a1] [] (Nat.le_of_ble_eq_true rfl) rfl (T_X11_incomeOf_231 _ hI52 a1 (by omega)) ?_
      rintro _ _ ⟨g59, rfl, hI60, hF61, v62, rfl, hr63⟩
      refine At.sti ?_
      have hF64 := Fr.tr hF56 hF61 rfl rfl
      refine At.enter rfl ?_
      refine r_ireti ?_
      exact ⟨_, rfl, hI60, hF64, _, rfl, trivial, ⟨fun z => absurd (show _ from ⟨by have y := congrArg Int32.toInt hv44; omega, by have y := congrArg Int32.toInt hv44; omega⟩) z, fun _ L => ⟨g51, f58, as57, hr63.2 (LOKM_c f58 L)⟩⟩⟩

def F_X11_answerOf_231 : List (Nat × Nat) := [(231, 27), (231, 30), (231, 31), (231, 32), (231, 47)]
def A_X11_answerOf_231 : List Nat := [247, 249]
theorem mf_X11_incomeOf_231_231_47 : memF F_X11_incomeOf_231 231 47 = false := by decide
theorem ma_X11_incomeOf_231_233 : memA A_X11_incomeOf_231 233 = false := by decide
theorem ma_X11_incomeOf_231_246 : memA A_X11_incomeOf_231 246 = false := by decide
theorem ma_X11_incomeOf_231_247 : memA A_X11_incomeOf_231 247 = false := by decide
set_option maxRecDepth 100000 in
set_option maxHeartbeats 4000000 in
theorem T_X11_answerOf_231 (d : Nat) {N : Nat} {g0 : List en_E} (hI0 : HI g0) (a1 : Int32) (h_a1 : 0 ≤ a1.toInt ∧ a1.toInt ≤ 11) : Ev (d + 9) 249 [.ref 231, .int a1] (g0, N) (fun w h' => ∃ g', h' = (g', N) ∧ HI g' ∧ Fr F_X11_answerOf_231 A_X11_answerOf_231 g0 g' ∧ ∃ r : Int32, w = some (.int r) ∧ (0 ≤ r.toInt ∧ r.toInt ≤ 99) ∧ ANM g0 g' a1.toInt r.toInt (gI g' 231 47).toInt) := by
  have hF0 : Fr F_X11_answerOf_231 A_X11_answerOf_231 g0 g0 := Fr.rf
  refine Ev.mk rfl rfl ⟨Nat.le_of_ble_eq_true rfl, Or.inr (q_rc hI0.1 kx_231 rfl)⟩ ?_
  show At _ none _ _ (0, [(0, .ref 231), (1, .int a1)], [], (_, _)) _
  refine At.enter rfl ?_
  refine r_aload_n rfl ?_
  refine q_getR (Sh.ref hI0.1 kx_231 rfl) ?_
  refine r_iload_n rfl ?_
  obtain ⟨v951, hv951⟩ : ∃ v, eA g0 247 a1.toInt = v := ⟨_, rfl⟩
  refine q_iald (Sh.arr hI0.1 ka_247) a1.toInt rfl (by omega) v951 hv951 ?_
  refine r_istore_n ([(2, .int v951), (0, .ref 231), (1, .int a1)]) rfl ?_
  refine r_iconst 0 rfl ?_
  refine r_istore_n ([(3, .int 0), (2, .int v951), (0, .ref 231), (1, .int a1)]) rfl ?_
  refine r_aload_n rfl ?_
  refine r_iconst (-1) rfl ?_
  refine q_putI (Sh.int hI0.1 kx_231 rfl) rfl ?_
  have hI952 := HI.wI0 hI0 kx_231 rfl (p := 231) (b := 47) (v := (-1)) rfl
  have hF953 := Fr.wI (p := 231) (b := 47) (v := (-1)) hF0 rfl
  refine r_iconst 0 rfl ?_
  refine r_istore ([(4, .int 0), (3, .int 0), (2, .int v951), (0, .ref 231), (1, .int a1)]) rfl ?_
  refine Ar.fall 17 rfl ?_
  have z_1392 : (0 : Int32).toInt = 0 := rfl
  have z_1393 : (0 : Int32).toInt = 0 := rfl
  have x1394 := HI.eqI hI952 (p := 231) (b := 47) ((gI_sI_eq hI0.1 kx_231 rfl _))
  have zv1395 : ((-1) : Int32).toInt = (-1) := rfl
  refine w_loopI (fun n_ l_ g_ => ∃ x1376 : Int32, ∃ x1377 : Int32, n_ = 100 - x1377.toInt ∧ HI g_ ∧ Fr F_X11_answerOf_231 A_X11_answerOf_231 g0 g_ ∧ en_get 0 l_ = some (.ref 231) ∧ en_get 1 l_ = some (.int a1) ∧ en_get 2 l_ = some (.int v951) ∧ en_get 3 l_ = some (.int x1376) ∧ en_get 4 l_ = some (.int x1377) ∧ (0 ≤ x1376.toInt ∧ x1376.toInt ≤ 99) ∧ (0 ≤ x1377.toInt ∧ x1377.toInt ≤ 100) ∧ (AMM g0 g_ a1.toInt x1377.toInt (gI g_ 231 47).toInt x1376.toInt)) ?_ (100 - 0) ⟨0, 0, by first | rfl | omega, hI952, hF953, rfl, rfl, rfl, rfl, rfl, by decide, by decide, (AMM_z ⟨(gA_sI), (gA_sI)⟩ ((gA_sI)) rfl (show (gI _ 231 47).toInt = -1 from by omega) rfl)⟩
  rintro n1382 l1381 g1378 ⟨x1376, x1377, hm1396, hI1379, hF1380, e1384, e1385, e1386, e1387, e1388, r1389, r1390, q1391⟩ ih1383
  refine At.enter rfl ?_
  refine r_iload e1388 ?_
  refine r_bipush 100 rfl ?_
  refine r_ics 24 rfl (fun c1397 => ?_) (fun c1397 => ?_)
  · have c1397_ : x1377.toInt ≥ 100 := en_i_ge_t c1397
    refine At.enter rfl ?_
    refine r_aload_n e1384 ?_
    refine q_getR (Sh.ref hI1379.1 kx_231 rfl) ?_
    refine r_iload_n e1385 ?_
    refine r_iload_n e1386 ?_
    refine q_iast (Sh.arr hI1379.1 ka_247) (a1.toInt) rfl (by omega) ?_
    have hI1398 := HI.wA0 hI1379 ka_247 (p := 247) rfl rfl (a1.toInt) (v951)
    have hF1399 := Fr.wA (p := 247) (j := a1.toInt) (v := v951) hF1380 rfl
    refine r_iload_n e1387 ?_
    refine r_ireti ?_
    exact ⟨_, rfl, hI1398, hF1399, _, rfl, by omega, (ANM_mk q1391 (by omega) hI1379.1 ⟨by omega, by omega⟩ (congrArg Int32.toInt hv951).symm (congrArg Int32.toInt gI_sW) rfl)⟩
  · have c1397_ : x1377.toInt < 100 := en_i_ge_f c1397
    refine At.enter rfl ?_
    refine r_aload_n e1384 ?_
    refine q_getR (Sh.ref hI1379.1 kx_231 rfl) ?_
    refine r_iload_n e1385 ?_
    refine r_iload e1388 ?_
    refine q_iast (Sh.arr hI1379.1 ka_247) (a1.toInt) rfl (by omega) ?_
    have hI1400 := HI.wA0 hI1379 ka_247 (p := 247) rfl rfl (a1.toInt) (x1377)
    have hF1401 := Fr.wA (p := 247) (j := a1.toInt) (v := x1377) hF1380 rfl
    refine r_aload_n e1384 ?_
    refine r_iload_n e1385 ?_
    refine r_callV 37 rfl [.ref 231, .int a1] [] (Nat.le_of_ble_eq_true rfl) rfl (T_X11_incomeOf_231 _ hI1400 a1 (by omega)) ?_
    rintro _ _ ⟨g1402, rfl, hI1403, hF1404, v1405, rfl, hr1406⟩
    refine At.sti ?_
    have hF1407 := Fr.tr hF1401 hF1404 rfl rfl
    refine At.enter rfl ?_
    refine r_istore _ rfl ?_
    refine r_iload (w_e1 _ _ _) ?_
    refine r_aload_n (w_p1 (by decide) (Or.inr rfl) e1384) ?_
    obtain ⟨v1408, hv1408⟩ : ∃ v, gI g1378 231 47 = v := ⟨_, rfl⟩
    refine q_getI (Sh.int hI1403.1 kx_231 rfl) v1408 (((hF1404.1 231 47 mf_X11_incomeOf_231_231_47).trans (gI_sW)).trans hv1408) ?_
    have bv1410 := q_bnd v1405
    have bv1411 := q_bnd v1408
    refine r_ics 48 rfl (fun c1409 => ?_) (fun c1409 => ?_)
    · have c1409_ : v1405.toInt ≤ v1408.toInt := en_i_le_t c1409
      refine At.enter rfl ?_
      refine r_iload_n (w_p1 (by decide) (Or.inr rfl) e1387) ?_
      refine Ar.fall 54 rfl ?_
      refine At.enter rfl ?_
      refine r_istore_n _ rfl ?_
      refine r_aload_n (w_p1 (by decide) (Or.inr rfl) (w_p1 (by decide) (Or.inr rfl) e1384)) ?_
      refine r_iload (w_p1 (by decide) (Or.inr rfl) (w_e1 _ _ _)) ?_
      refine r_aload_n (w_p1 (by decide) (Or.inr rfl) (w_p1 (by decide) (Or.inr rfl) e1384)) ?_
      refine q_getI (Sh.int hI1403.1 kx_231 rfl) v1408 (((hF1404.1 231 47 mf_X11_incomeOf_231_231_47).trans (gI_sW)).trans hv1408) ?_
      refine r_ics 65 rfl (fun c1412 => ?_) (fun c1412 => ?_)
      · have c1412_ : v1405.toInt ≤ v1408.toInt := en_i_le_t c1412
        refine At.enter rfl ?_
        refine r_aload_n (w_p1 (by decide) (Or.inr rfl) (w_p1 (by decide) (Or.inr rfl) e1384)) ?_
        refine q_getI (Sh.int hI1403.1 kx_231 rfl) v1408 (((hF1404.1 231 47 mf_X11_incomeOf_231_231_47).trans (gI_sW)).trans hv1408) ?_
        refine Ar.fall 74 rfl ?_
        refine At.enter rfl ?_
        refine q_putI (Sh.int hI1403.1 kx_231 rfl) rfl ?_
        have hI1413 := HI.wI0 hI1403 kx_231 rfl (p := 231) (b := 47) (v := v1408) rfl
        have hF1414 := Fr.wI (p := 231) (b := 47) (v := v1408) hF1407 rfl
        refine q_iinc (w_p1 (by decide) (Or.inr rfl) (w_p1 (by decide) (Or.inr rfl) e1388)) (x1377.toInt + 1) rfl (by omega) (fun v1415 hv1415 => ?_)
        refine r_goto ?_
        have x1416 := HI.eqI hI1413 (p := 231) (b := 47) ((gI_sI_eq hI1403.1 kx_231 rfl _))
        have x1417 := HI.eqI hI1379 (p := 231) (b := 47) (hv1408)
        exact ih1383 (100 - v1415.toInt) _ _ ⟨x1376, v1415, by first | rfl | omega, hI1413, hF1414, (w_p1 (by decide) (Or.inr rfl) (w_p1 (by decide) (Or.inr rfl) (w_p1 (by decide) (Or.inr rfl) e1384))), (w_p1 (by decide) (Or.inr rfl) (w_p1 (by decide) (Or.inr rfl) (w_p1 (by decide) (Or.inr rfl) e1385))), (w_p1 (by decide) (Or.inr rfl) (w_p1 (by decide) (Or.inr rfl) (w_p1 (by decide) (Or.inr rfl) e1386))), (w_p1 (by decide) (Or.inr rfl) (w_e1 _ _ _)), (w_e1 _ _ _), by omega, by omega, (AMM_s q1391 hI0 hI1379.1 ⟨by omega, by omega⟩ (by omega) rfl hr1406.2 ⟨((gA_sI).trans (hF1404.2.1 233 ma_X11_incomeOf_231_233)), ((gA_sI).trans (hF1404.2.1 246 ma_X11_incomeOf_231_246))⟩ (((gA_sI).trans (hF1404.2.1 247 ma_X11_incomeOf_231_247))) (by omega) (by first | exact Or.inl ⟨by omega, by omega, by omega⟩ | exact Or.inr ⟨by omega, by omega, by omega⟩))⟩ ⟨by omega, by omega⟩
      · have c1412_ : v1405.toInt > v1408.toInt := en_i_le_f c1412
        refine At.enter rfl ?_
        refine r_iload (w_p1 (by decide) (Or.inr rfl) (w_e1 _ _ _)) ?_
        refine r_goto ?_
        refine At.enter rfl ?_
        refine q_putI (Sh.int hI1403.1 kx_231 rfl) rfl ?_
        have hI1418 := HI.wI0 hI1403 kx_231 rfl (p := 231) (b := 47) (v := v1405) rfl
        have hF1419 := Fr.wI (p := 231) (b := 47) (v := v1405) hF1407 rfl
        refine q_iinc (w_p1 (by decide) (Or.inr rfl) (w_p1 (by decide) (Or.inr rfl) e1388)) (x1377.toInt + 1) rfl (by omega) (fun v1420 hv1420 => ?_)
        refine r_goto ?_
        have x1421 := HI.eqI hI1418 (p := 231) (b := 47) ((gI_sI_eq hI1403.1 kx_231 rfl _))
        have x1422 := HI.eqI hI1379 (p := 231) (b := 47) (hv1408)
        exact ih1383 (100 - v1420.toInt) _ _ ⟨x1376, v1420, by first | rfl | omega, hI1418, hF1419, (w_p1 (by decide) (Or.inr rfl) (w_p1 (by decide) (Or.inr rfl) (w_p1 (by decide) (Or.inr rfl) e1384))), (w_p1 (by decide) (Or.inr rfl) (w_p1 (by decide) (Or.inr rfl) (w_p1 (by decide) (Or.inr rfl) e1385))), (w_p1 (by decide) (Or.inr rfl) (w_p1 (by decide) (Or.inr rfl) (w_p1 (by decide) (Or.inr rfl) e1386))), (w_p1 (by decide) (Or.inr rfl) (w_e1 _ _ _)), (w_e1 _ _ _), by omega, by omega, (AMM_s q1391 hI0 hI1379.1 ⟨by omega, by omega⟩ (by omega) rfl hr1406.2 ⟨((gA_sI).trans (hF1404.2.1 233 ma_X11_incomeOf_231_233)), ((gA_sI).trans (hF1404.2.1 246 ma_X11_incomeOf_231_246))⟩ (((gA_sI).trans (hF1404.2.1 247 ma_X11_incomeOf_231_247))) (by omega) (by first | exact Or.inl ⟨by omega, by omega, by omega⟩ | exact Or.inr ⟨by omega, by omega, by omega⟩))⟩ ⟨by omega, by omega⟩
    · have c1409_ : v1405.toInt > v1408.toInt := en_i_le_f c1409
      refine At.enter rfl ?_
      refine r_iload (w_p1 (by decide) (Or.inr rfl) e1388) ?_
      refine r_goto ?_
      refine At.enter rfl ?_
      refine r_istore_n _ rfl ?_
      refine r_aload_n (w_p1 (by decide) (Or.inr rfl) (w_p1 (by decide) (Or.inr rfl) e1384)) ?_
      refine r_iload (w_p1 (by decide) (Or.inr rfl) (w_e1 _ _ _)) ?_
      refine r_aload_n (w_p1 (by decide) (Or.inr rfl) (w_p1 (by decide) (Or.inr rfl) e1384)) ?_
      refine q_getI (Sh.int hI1403.1 kx_231 rfl) v1408 (((hF1404.1 231 47 mf_X11_incomeOf_231_231_47).trans (gI_sW)).trans hv1408) ?_
      refine r_ics 65 rfl (fun c1423 => ?_) (fun c1423 => ?_)
      · have c1423_ : v1405.toInt ≤ v1408.toInt := en_i_le_t c1423
        refine At.enter rfl ?_
        refine r_aload_n (w_p1 (by decide) (Or.inr rfl) (w_p1 (by decide) (Or.inr rfl) e1384)) ?_
        refine q_getI (Sh.int hI1403.1 kx_231 rfl) v1408 (((hF1404.1 231 47 mf_X11_incomeOf_231_231_47).trans (gI_sW)).trans hv1408) ?_
        refine Ar.fall 74 rfl ?_
        refine At.enter rfl ?_
        refine q_putI (Sh.int hI1403.1 kx_231 rfl) rfl ?_
        have hI1424 := HI.wI0 hI1403 kx_231 rfl (p := 231) (b := 47) (v := v1408) rfl
        have hF1425 := Fr.wI (p := 231) (b := 47) (v := v1408) hF1407 rfl
        refine q_iinc (w_p1 (by decide) (Or.inr rfl) (w_p1 (by decide) (Or.inr rfl) e1388)) (x1377.toInt + 1) rfl (by omega) (fun v1426 hv1426 => ?_)
        refine r_goto ?_
        have x1427 := HI.eqI hI1424 (p := 231) (b := 47) ((gI_sI_eq hI1403.1 kx_231 rfl _))
        have x1428 := HI.eqI hI1379 (p := 231) (b := 47) (hv1408)
        exact ih1383 (100 - v1426.toInt) _ _ ⟨x1377, v1426, by first | rfl | omega, hI1424, hF1425, (w_p1 (by decide) (Or.inr rfl) (w_p1 (by decide) (Or.inr rfl) (w_p1 (by decide) (Or.inr rfl) e1384))), (w_p1 (by decide) (Or.inr rfl) (w_p1 (by decide) (Or.inr rfl) (w_p1 (by decide) (Or.inr rfl) e1385))), (w_p1 (by decide) (Or.inr rfl) (w_p1 (by decide) (Or.inr rfl) (w_p1 (by decide) (Or.inr rfl) e1386))), (w_p1 (by decide) (Or.inr rfl) (w_e1 _ _ _)), (w_e1 _ _ _), by omega, by omega, (AMM_s q1391 hI0 hI1379.1 ⟨by omega, by omega⟩ (by omega) rfl hr1406.2 ⟨((gA_sI).trans (hF1404.2.1 233 ma_X11_incomeOf_231_233)), ((gA_sI).trans (hF1404.2.1 246 ma_X11_incomeOf_231_246))⟩ (((gA_sI).trans (hF1404.2.1 247 ma_X11_incomeOf_231_247))) (by omega) (by first | exact Or.inl ⟨by omega, by omega, by omega⟩ | exact Or.inr ⟨by omega, by omega, by omega⟩))⟩ ⟨by omega, by omega⟩
      · have c1423_ : v1405.toInt > v1408.toInt := en_i_le_f c1423
        refine At.enter rfl ?_
        refine r_iload (w_p1 (by decide) (Or.inr rfl) (w_e1 _ _ _)) ?_
        refine r_goto ?_
        refine At.enter rfl ?_
        refine q_putI (Sh.int hI1403.1 kx_231 rfl) rfl ?_
        have hI1429 := HI.wI0 hI1403 kx_231 rfl (p := 231) (b := 47) (v := v1405) rfl
        have hF1430 := Fr.wI (p := 231) (b := 47) (v := v1405) hF1407 rfl
        refine q_iinc (w_p1 (by decide) (Or.inr rfl) (w_p1 (by decide) (Or.inr rfl) e1388)) (x1377.toInt + 1) rfl (by omega) (fun v1431 hv1431 => ?_)
        refine r_goto ?_
        have x1432 := HI.eqI hI1429 (p := 231) (b := 47) ((gI_sI_eq hI1403.1 kx_231 rfl _))
        have x1433 := HI.eqI hI1379 (p := 231) (b := 47) (hv1408)
        exact ih1383 (100 - v1431.toInt) _ _ ⟨x1377, v1431, by first | rfl | omega, hI1429, hF1430, (w_p1 (by decide) (Or.inr rfl) (w_p1 (by decide) (Or.inr rfl) (w_p1 (by decide) (Or.inr rfl) e1384))), (w_p1 (by decide) (Or.inr rfl) (w_p1 (by decide) (Or.inr rfl) (w_p1 (by decide) (Or.inr rfl) e1385))), (w_p1 (by decide) (Or.inr rfl) (w_p1 (by decide) (Or.inr rfl) (w_p1 (by decide) (Or.inr rfl) e1386))), (w_p1 (by decide) (Or.inr rfl) (w_e1 _ _ _)), (w_e1 _ _ _), by omega, by omega, (AMM_s q1391 hI0 hI1379.1 ⟨by omega, by omega⟩ (by omega) rfl hr1406.2 ⟨((gA_sI).trans (hF1404.2.1 233 ma_X11_incomeOf_231_233)), ((gA_sI).trans (hF1404.2.1 246 ma_X11_incomeOf_231_246))⟩ (((gA_sI).trans (hF1404.2.1 247 ma_X11_incomeOf_231_247))) (by omega) (by first | exact Or.inl ⟨by omega, by omega, by omega⟩ | exact Or.inr ⟨by omega, by omega, by omega⟩))⟩ ⟨by omega, by omega⟩
