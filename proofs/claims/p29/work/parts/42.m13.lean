def F_X11_swapAt_231 : List (Nat × Nat) := []
def A_X11_swapAt_231 : List Nat := [246, 247]
set_option maxRecDepth 100000 in
set_option maxHeartbeats 4000000 in
theorem T_X11_swapAt_231 (d : Nat) {N : Nat} {g0 : List en_E} (hI0 : HI g0) (a1 : Int32) (h_a1 : 0 ≤ a1.toInt ∧ a1.toInt ≤ 11) (a2 : Int32) (h_a2 : 0 ≤ a2.toInt ∧ a2.toInt ≤ 11) : Ev (d + 1) 236 [.ref 231, .int a1, .int a2] (g0, N) (fun w h' => ∃ g', h' = (g', N) ∧ HI g' ∧ Fr F_X11_swapAt_231 A_X11_swapAt_231 g0 g' ∧ w = none) := by
  have hF0 : Fr F_X11_swapAt_231 A_X11_swapAt_231 g0 g0 := Fr.rf
  refine Ev.mk rfl rfl ⟨Nat.le_of_ble_eq_true rfl, Or.inr (q_rc hI0.1 kx_231 rfl)⟩ ?_
  show At _ none _ _ (0, [(0, .ref 231), (1, .int a1), (2, .int a2)], [], (_, _)) _
  refine At.enter rfl ?_
  refine r_aload_n rfl ?_
  refine q_getR (Sh.ref hI0.1 kx_231 rfl) ?_
  refine r_iload_n rfl ?_
  obtain ⟨v25, hv25⟩ : ∃ v, eA g0 246 a1.toInt = v := ⟨_, rfl⟩
  refine q_iald (Sh.arr hI0.1 ka_246) a1.toInt rfl (by omega) v25 hv25 ?_
  refine r_istore_n ([(3, .int v25), (0, .ref 231), (1, .int a1), (2, .int a2)]) rfl ?_
  refine r_aload_n rfl ?_
  refine q_getR (Sh.ref hI0.1 kx_231 rfl) ?_
  refine r_iload_n rfl ?_
  obtain ⟨v26, hv26⟩ : ∃ v, eA g0 247 a1.toInt = v := ⟨_, rfl⟩
  refine q_iald (Sh.arr hI0.1 ka_247) a1.toInt rfl (by omega) v26 hv26 ?_
  refine r_istore ([(4, .int v26), (3, .int v25), (0, .ref 231), (1, .int a1), (2, .int a2)]) rfl ?_
  refine r_aload_n rfl ?_
  refine q_getR (Sh.ref hI0.1 kx_231 rfl) ?_
  refine r_iload_n rfl ?_
  refine r_aload_n rfl ?_
  refine q_getR (Sh.ref hI0.1 kx_231 rfl) ?_
  refine r_iload_n rfl ?_
  obtain ⟨v27, hv27⟩ : ∃ v, eA g0 246 a2.toInt = v := ⟨_, rfl⟩
  refine q_iald (Sh.arr hI0.1 ka_246) a2.toInt rfl (by omega) v27 hv27 ?_
  refine q_iast (Sh.arr hI0.1 ka_246) (a1.toInt) rfl (by omega) ?_
  have hI28 := HI.wA0 hI0 ka_246 (p := 246) rfl rfl (a1.toInt) (v27)
  have hF29 := Fr.wA (p := 246) (j := a1.toInt) (v := v27) hF0 rfl
  refine r_aload_n rfl ?_
  refine q_getR (Sh.ref hI28.1 kx_231 rfl) ?_
  refine r_iload_n rfl ?_
  refine r_aload_n rfl ?_
  refine q_getR (Sh.ref hI28.1 kx_231 rfl) ?_
  refine r_iload_n rfl ?_
  obtain ⟨v30, hv30⟩ : ∃ v, eA g0 247 a2.toInt = v := ⟨_, rfl⟩
  refine q_iald (Sh.arr hI28.1 ka_247) a2.toInt rfl (by omega) v30 ((eA_c (gA_sA_ne (by decide))).trans hv30) ?_
  refine q_iast (Sh.arr hI28.1 ka_247) (a1.toInt) rfl (by omega) ?_
  have hI31 := HI.wA0 hI28 ka_247 (p := 247) rfl rfl (a1.toInt) (v30)
  have hF32 := Fr.wA (p := 247) (j := a1.toInt) (v := v30) hF29 rfl
  refine r_aload_n rfl ?_
  refine q_getR (Sh.ref hI31.1 kx_231 rfl) ?_
  refine r_iload_n rfl ?_
  refine r_iload_n rfl ?_
  refine q_iast (Sh.arr hI31.1 ka_246) (a2.toInt) rfl (by omega) ?_
  have hI33 := HI.wA0 hI31 ka_246 (p := 246) rfl rfl (a2.toInt) (v25)
  have hF34 := Fr.wA (p := 246) (j := a2.toInt) (v := v25) hF32 rfl
  refine r_aload_n rfl ?_
  refine q_getR (Sh.ref hI33.1 kx_231 rfl) ?_
  refine r_iload_n rfl ?_
  refine r_iload rfl ?_
  refine q_iast (Sh.arr hI33.1 ka_247) (a2.toInt) rfl (by omega) ?_
  have hI35 := HI.wA0 hI33 ka_247 (p := 247) rfl rfl (a2.toInt) (v26)
  have hF36 := Fr.wA (p := 247) (j := a2.toInt) (v := v26) hF34 rfl
  refine r_vret ?_
  exact ⟨_, rfl, hI35, hF36, rfl⟩

def F_X11_allCome_231 : List (Nat × Nat) := [(231, 27), (231, 30), (231, 31), (231, 32)]
def A_X11_allCome_231 : List Nat := [250, 251, 252, 253, 254, 255, 256]
set_option maxRecDepth 100000 in
set_option maxHeartbeats 4000000 in
theorem T_X11_allCome_231 (d : Nat) {N : Nat} {g0 : List en_E} (hI0 : HI g0) (a1 : Int32) (a2 : Int32) : Ev (d + 8) 237 [.ref 231, .int a1, .int a2] (g0, N) (fun w h' => ∃ g', h' = (g', N) ∧ HI g' ∧ Fr F_X11_allCome_231 A_X11_allCome_231 g0 g' ∧ ∃ r : Int32, w = some (.int r) ∧ (0 ≤ r.toInt ∧ r.toInt ≤ 1)) := by
  have hF0 : Fr F_X11_allCome_231 A_X11_allCome_231 g0 g0 := Fr.rf
  refine Ev.mk rfl rfl ⟨Nat.le_of_ble_eq_true rfl, Or.inr (q_rc hI0.1 kx_231 rfl)⟩ ?_
  show At _ none _ _ (0, [(0, .ref 231), (1, .int a1), (2, .int a2)], [], (_, _)) _
  refine At.enter rfl ?_
  refine r_aload_n rfl ?_
  refine r_callV 4 rfl [.ref 231] [] (Nat.le_of_ble_eq_true rfl) rfl (T_X11_run_231 _ hI0) ?_
  rintro _ _ ⟨g377, rfl, hI378, hF379, rfl⟩
  refine At.stn ?_
  have hF382 := Fr.tr hF0 hF379 rfl rfl
  refine At.enter rfl ?_
  refine r_iconst 1 rfl ?_
  refine r_istore_n ([(3, .int 1), (0, .ref 231), (1, .int a1), (2, .int a2)]) rfl ?_
  refine r_iconst 0 rfl ?_
  refine r_istore ([(4, .int 0), (3, .int 1), (0, .ref 231), (1, .int a1), (2, .int a2)]) rfl ?_
  refine Ar.fall 9 rfl ?_
  have z_544 : (1 : Int32).toInt = 1 := rfl
  have z_545 : (0 : Int32).toInt = 0 := rfl
  refine w_loopI (fun n_ l_ g_ => ∃ x529 : Int32, ∃ x530 : Int32, n_ = 8 - x530.toInt ∧ HI g_ ∧ Fr F_X11_allCome_231 A_X11_allCome_231 g0 g_ ∧ en_get 0 l_ = some (.ref 231) ∧ en_get 1 l_ = some (.int a1) ∧ en_get 2 l_ = some (.int a2) ∧ en_get 3 l_ = some (.int x529) ∧ en_get 4 l_ = some (.int x530) ∧ (0 ≤ x529.toInt ∧ x529.toInt ≤ 1) ∧ (0 ≤ x530.toInt ∧ x530.toInt ≤ 8)) ?_ (8 - 0) ⟨1, 0, by first | rfl | omega, hI378, hF382, rfl, rfl, rfl, rfl, rfl, by decide, by decide⟩
  rintro n535 l534 g531 ⟨x529, x530, hm546, hI532, hF533, e537, e538, e539, e540, e541, r542, r543⟩ ih536
  refine At.enter rfl ?_
  refine r_iload e541 ?_
  refine r_aload_n e537 ?_
  refine q_getR (Sh.ref hI532.1 kx_231 rfl) ?_
  refine r_iconst 1 rfl ?_
  obtain ⟨v547, hv547⟩ : ∃ v, eA g0 233 1 = v := ⟨_, rfl⟩
  have tv547 := congrArg Int32.toInt hv547
  have wv547 := HI.t1 hI0
  rw [hv547] at wv547
  refine q_iald (Sh.arr hI532.1 ka_233) 1 rfl (by decide) v547 ((eA_c (hF533.2.1 233 (by decide))).trans hv547) ?_
  have bv549 := q_bnd x530
  have bv550 := q_bnd v547
  refine r_ics 20 rfl (fun c548 => ?_) (fun c548 => ?_)
  · have c548_ : x530.toInt ≥ v547.toInt := en_i_ge_t c548
    refine At.enter rfl ?_
    refine r_iload_n e540 ?_
    refine r_iretz (q_b01 (by omega)) ?_
    exact ⟨_, rfl, hI532, hF533, _, rfl, by omega⟩
  · have c548_ : x530.toInt < v547.toInt := en_i_ge_f c548
    refine At.enter rfl ?_
    refine r_iload_n e540 ?_
    refine r_ifs 24 rfl (fun c551 => ?_) (fun c551 => ?_)
    · have c551_ : x529.toInt = 0 := en_k_eq_t c551
      refine At.enter rfl ?_
      refine r_iconst 0 rfl ?_
      refine Ar.fall 60 rfl ?_
      refine At.enter rfl ?_
      refine r_istore_n _ rfl ?_
      refine q_iinc (w_p1 (by decide) (Or.inr rfl) e541) (x530.toInt + 1) rfl (by omega) (fun v552 hv552 => ?_)
      refine r_goto ?_
      have zv553 : (0 : Int32).toInt = 0 := rfl
      exact ih536 (8 - v552.toInt) _ _ ⟨0, v552, by first | rfl | omega, hI532, hF533, (w_p1 (by decide) (Or.inr rfl) (w_p1 (by decide) (Or.inr rfl) e537)), (w_p1 (by decide) (Or.inr rfl) (w_p1 (by decide) (Or.inr rfl) e538)), (w_p1 (by decide) (Or.inr rfl) (w_p1 (by decide) (Or.inr rfl) e539)), (w_p1 (by decide) (Or.inr rfl) (w_e1 _ _ _)), (w_e1 _ _ _), by decide, by omega⟩ ⟨by omega, by omega⟩
    · have c551_ : x529.toInt ≠ 0 := en_k_eq_f c551
      refine At.enter rfl ?_
      refine r_iload_n e538 ?_
      refine r_iload e541 ?_
      refine q_inlS 30 rfl [.int a1, .int x530] [] (Nat.le_of_ble_eq_true rfl) rfl ?_
      refine Ev.mk rfl rfl ⟨Nat.le_of_ble_eq_true rfl, Or.inl rfl⟩ ?_
      show At _ none _ _ (0, [(0, .int a1), (1, .int x530)], [], (_, _)) _
      refine At.enter rfl ?_
      refine r_iload_n rfl ?_
      refine r_iload_n rfl ?_
      refine q_ishrO (fun v554 hv554 => ?_)
      refine r_iconst 1 rfl ?_
      refine q_iandO (fun v555 hv555 => ?_)
      refine r_iconst 1 rfl ?_
      refine r_ics 9 rfl (fun c556 => ?_) (fun c556 => ?_)
      · have c556_ : v555.toInt ≠ 1 := en_i_ne_t c556
        refine At.enter rfl ?_
        refine r_iconst 0 rfl ?_
        refine Ar.fall 14 rfl ?_
        refine At.enter rfl ?_
        refine q_iretz (by decide) ?_
        refine At.enter rfl ?_
        refine r_ift (by decide) ?_
        refine At.enter rfl ?_
        refine r_iconst 1 rfl ?_
        refine r_goto ?_
        refine At.enter rfl ?_
        refine r_istore_n _ rfl ?_
        refine q_iinc (w_p1 (by decide) (Or.inr rfl) e541) (x530.toInt + 1) rfl (by omega) (fun v557 hv557 => ?_)
        refine r_goto ?_
        have zv558 : (1 : Int32).toInt = 1 := rfl
        exact ih536 (8 - v557.toInt) _ _ ⟨1, v557, by first | rfl | omega, hI532, hF533, (w_p1 (by decide) (Or.inr rfl) (w_p1 (by decide) (Or.inr rfl) e537)), (w_p1 (by decide) (Or.inr rfl) (w_p1 (by decide) (Or.inr rfl) e538)), (w_p1 (by decide) (Or.inr rfl) (w_p1 (by decide) (Or.inr rfl) e539)), (w_p1 (by decide) (Or.inr rfl) (w_e1 _ _ _)), (w_e1 _ _ _), by decide, by omega⟩ ⟨by omega, by omega⟩
      · have c556_ : v555.toInt = 1 := en_i_ne_f c556
        refine At.enter rfl ?_
        refine r_iconst 1 rfl ?_
        refine r_goto ?_
        refine At.enter rfl ?_
        refine q_iretz (by decide) ?_
        refine At.enter rfl ?_
        refine r_iff 33 rfl (by decide) ?_
        refine At.enter rfl ?_
        refine r_aload_n e537 ?_
        refine q_getR (Sh.ref hI532.1 kx_231 rfl) ?_
        refine r_iload e541 ?_
        obtain ⟨v559, hv559⟩ : ∃ v, eA g531 253 x530.toInt = v := ⟨_, rfl⟩
        refine q_iald (Sh.arr hI532.1 ka_253) x530.toInt rfl (by omega) v559 hv559 ?_
        refine r_iconst (-1) rfl ?_
        refine r_ics 44 rfl (fun c560 => ?_) (fun c560 => ?_)
        · have c560_ : v559.toInt = (-1) := en_i_eq_t c560
          refine At.enter rfl ?_
          refine r_iconst 0 rfl ?_
          refine Ar.fall 60 rfl ?_
          refine At.enter rfl ?_
          refine r_istore_n _ rfl ?_
          refine q_iinc (w_p1 (by decide) (Or.inr rfl) e541) (x530.toInt + 1) rfl (by omega) (fun v561 hv561 => ?_)
          refine r_goto ?_
          have zv562 : (0 : Int32).toInt = 0 := rfl
          exact ih536 (8 - v561.toInt) _ _ ⟨0, v561, by first | rfl | omega, hI532, hF533, (w_p1 (by decide) (Or.inr rfl) (w_p1 (by decide) (Or.inr rfl) e537)), (w_p1 (by decide) (Or.inr rfl) (w_p1 (by decide) (Or.inr rfl) e538)), (w_p1 (by decide) (Or.inr rfl) (w_p1 (by decide) (Or.inr rfl) e539)), (w_p1 (by decide) (Or.inr rfl) (w_e1 _ _ _)), (w_e1 _ _ _), by decide, by omega⟩ ⟨by omega, by omega⟩
        · have c560_ : v559.toInt ≠ (-1) := en_i_eq_f c560
          refine At.enter rfl ?_
          refine r_aload_n e537 ?_
          refine q_getR (Sh.ref hI532.1 kx_231 rfl) ?_
          refine r_iload e541 ?_
          refine q_iald (Sh.arr hI532.1 ka_253) x530.toInt rfl (by omega) v559 hv559 ?_
          refine r_iload_n e539 ?_
          have bv564 := q_bnd v559
          have bv565 := q_bnd a2
          refine r_ics 55 rfl (fun c563 => ?_) (fun c563 => ?_)
          · have c563_ : v559.toInt > a2.toInt := en_i_gt_t c563
            refine At.enter rfl ?_
            refine r_iconst 0 rfl ?_
            refine Ar.fall 60 rfl ?_
            refine At.enter rfl ?_
            refine r_istore_n _ rfl ?_
            refine q_iinc (w_p1 (by decide) (Or.inr rfl) e541) (x530.toInt + 1) rfl (by omega) (fun v566 hv566 => ?_)
            refine r_goto ?_
            have zv567 : (0 : Int32).toInt = 0 := rfl
            exact ih536 (8 - v566.toInt) _ _ ⟨0, v566, by first | rfl | omega, hI532, hF533, (w_p1 (by decide) (Or.inr rfl) (w_p1 (by decide) (Or.inr rfl) e537)), (w_p1 (by decide) (Or.inr rfl) (w_p1 (by decide) (Or.inr rfl) e538)), (w_p1 (by decide) (Or.inr rfl) (w_p1 (by decide) (Or.inr rfl) e539)), (w_p1 (by decide) (Or.inr rfl) (w_e1 _ _ _)), (w_e1 _ _ _), by decide, by omega⟩ ⟨by omega, by omega⟩
          · have c563_ : v559.toInt ≤ a2.toInt := en_i_gt_f c563
            refine At.enter rfl ?_
            refine r_iconst 1 rfl ?_
            refine r_goto ?_
            refine At.enter rfl ?_
            refine r_istore_n _ rfl ?_
            refine q_iinc (w_p1 (by decide) (Or.inr rfl) e541) (x530.toInt + 1) rfl (by omega) (fun v568 hv568 => ?_)
            refine r_goto ?_
            have zv569 : (1 : Int32).toInt = 1 := rfl
            exact ih536 (8 - v568.toInt) _ _ ⟨1, v568, by first | rfl | omega, hI532, hF533, (w_p1 (by decide) (Or.inr rfl) (w_p1 (by decide) (Or.inr rfl) e537)), (w_p1 (by decide) (Or.inr rfl) (w_p1 (by decide) (Or.inr rfl) e538)), (w_p1 (by decide) (Or.inr rfl) (w_p1 (by decide) (Or.inr rfl) e539)), (w_p1 (by decide) (Or.inr rfl) (w_e1 _ _ _)), (w_e1 _ _ _), by decide, by omega⟩ ⟨by omega, by omega⟩

def F_X11_findSwaps_231 : List (Nat × Nat) := [(231, 27), (231, 30), (231, 31), (231, 32), (231, 36), (231, 45), (231, 46)]
def A_X11_findSwaps_231 : List Nat := [246, 247, 248, 250, 251, 252, 253, 254, 255, 256]
theorem ma_X11_swapAt_231_233 : memA A_X11_swapAt_231 233 = false := by decide
theorem ma_X11_asIs_231_233 : memA A_X11_asIs_231 233 = false := by decide
theorem mf_X11_allCome_231_231_45 : memF F_X11_allCome_231 231 45 = false := by decide
theorem mf_X11_swapAt_231_231_45 : memF F_X11_swapAt_231 231 45 = false := by decide
theorem mf_X11_asIs_231_231_45 : memF F_X11_asIs_231 231 45 = false := by decide
theorem mf_X11_allCome_231_231_46 : memF F_X11_allCome_231 231 46 = false := by decide
theorem mf_X11_swapAt_231_231_46 : memF F_X11_swapAt_231 231 46 = false := by decide
theorem mf_X11_asIs_231_231_46 : memF F_X11_asIs_231 231 46 = false := by decide
set_option maxRecDepth 100000 in
set_option maxHeartbeats 4000000 in
theorem T_X11_findSwaps_231 (d : Nat) {N : Nat} {g0 : List en_E} (hI0 : HI g0) (a1 : Int32) (a2 : Int32) (h_a2 : 0 ≤ a2.toInt ∧ a2.toInt ≤ 2) : Ev (d + 9) 238 [.ref 231, .int a1, .int a2] (g0, N) (fun w h' => ∃ g', h' = (g', N) ∧ HI g' ∧ Fr F_X11_findSwaps_231 A_X11_findSwaps_231 g0 g' ∧ w = none) := by
  have hF0 : Fr F_X11_findSwaps_231 A_X11_findSwaps_231 g0 g0 := Fr.rf
  refine Ev.mk rfl rfl ⟨Nat.le_of_ble_eq_true rfl, Or.inr (q_rc hI0.1 kx_231 rfl)⟩ ?_
  show At _ none _ _ (0, [(0, .ref 231), (1, .int a1), (2, .int a2)], [], (_, _)) _
  refine At.enter rfl ?_
  refine r_aload_n rfl ?_
  refine r_iconst 0 rfl ?_
  refine q_putI (Sh.int hI0.1 kx_231 rfl) rfl ?_
  have hI3917 := HI.wI0 hI0 kx_231 rfl (p := 231) (b := 45) (v := 0) rfl
  have hF3918 := Fr.wI (p := 231) (b := 45) (v := 0) hF0 rfl
  refine r_aload_n rfl ?_
  refine r_iconst (-1) rfl ?_
  refine q_putI (Sh.int hI3917.1 kx_231 rfl) rfl ?_
  have hI3919 := HI.wI0 hI3917 kx_231 rfl (p := 231) (b := 46) (v := (-1)) rfl
  have hF3920 := Fr.wI (p := 231) (b := 46) (v := (-1)) hF3918 rfl
  refine r_iload_n rfl ?_
  refine r_ifs 14 rfl (fun c3921 => ?_) (fun c3921 => ?_)
  · have c3921_ : a2.toInt ≠ 0 := en_k_ne_t c3921
    refine At.enter rfl ?_
    refine r_iload_n rfl ?_
    refine r_iconst 1 rfl ?_
    refine r_ics 23 rfl (fun c3922 => ?_) (fun c3922 => ?_)
    · have c3922_ : a2.toInt ≠ 1 := en_i_ne_t c3922
      refine At.enter rfl ?_
      refine r_sipush 20736 rfl ?_
      refine Ar.fall 32 rfl ?_
      refine At.enter rfl ?_
      refine r_istore_n ([(3, .int 20736), (0, .ref 231), (1, .int a1), (2, .int a2)]) rfl ?_
      refine r_iconst 0 rfl ?_
      refine r_istore ([(4, .int 0), (3, .int 20736), (0, .ref 231), (1, .int a1), (2, .int a2)]) rfl ?_
      refine Ar.fall 36 rfl ?_
      have z_4628 : (0 : Int32).toInt = 0 := rfl
      refine w_loopI (fun n_ l_ g_ => ∃ x4615 : Int32, n_ = 20736 - x4615.toInt ∧ HI g_ ∧ Fr F_X11_findSwaps_231 A_X11_findSwaps_231 g0 g_ ∧ en_get 0 l_ = some (.ref 231) ∧ en_get 1 l_ = some (.int a1) ∧ en_get 2 l_ = some (.int a2) ∧ en_get 3 l_ = some (.int 20736) ∧ en_get 4 l_ = some (.int x4615) ∧ (0 ≤ x4615.toInt ∧ x4615.toInt ≤ 20736)) ?_ (20736 - 0) ⟨0, by first | rfl | omega, hI3919, hF3920, rfl, rfl, rfl, rfl, rfl, by decide⟩
      rintro n4620 l4619 g4616 ⟨x4615, hm4629, hI4617, hF4618, e4622, e4623, e4624, e4625, e4626, r4627⟩ ih4621
      refine At.enter rfl ?_
      refine r_iload e4626 ?_
      refine r_iload_n e4625 ?_
      refine r_ics 42 rfl (fun c4630 => ?_) (fun c4630 => ?_)
      · have c4630_ : x4615.toInt ≥ 20736 := en_i_ge_t c4630
        refine At.enter rfl ?_
        refine r_vret ?_
        exact ⟨_, rfl, hI4617, hF4618, rfl⟩
      · have c4630_ : x4615.toInt < 20736 := en_i_ge_f c4630
        refine At.enter rfl ?_
        refine r_iload e4626 ?_
        refine r_iload_n e4624 ?_
        refine r_iconst 2 rfl ?_
        refine r_ics 49 rfl (fun c4631 => ?_) (fun c4631 => ?_)
        · have c4631_ : a2.toInt ≠ 2 := en_i_ne_t c4631
          exfalso; omega
        · have c4631_ : a2.toInt = 2 := en_i_ne_f c4631
          refine At.enter rfl ?_
          refine r_sipush 1728 rfl ?_
          refine r_goto ?_
          refine At.enter rfl ?_
          refine q_idiv 1728 rfl (by decide) (by omega) (fun v4632 hv4632 => ?_)
          refine r_istore _ rfl ?_
          refine r_iload (w_p1 (by decide) (Or.inr rfl) e4626) ?_
          refine r_iload_n (w_p1 (by decide) (Or.inr rfl) e4624) ?_
          refine r_iconst 2 rfl ?_
          refine r_ics 67 rfl (fun c4633 => ?_) (fun c4633 => ?_)
          · have c4633_ : a2.toInt ≠ 2 := en_i_ne_t c4633
            exfalso; omega
          · have c4633_ : a2.toInt = 2 := en_i_ne_f c4633
            refine At.enter rfl ?_
            refine r_sipush 144 rfl ?_
            refine r_goto ?_
            refine At.enter rfl ?_
            refine q_idiv 144 rfl (by decide) (by omega) (fun v4634 hv4634 => ?_)
            refine r_bipush 12 rfl ?_
            refine q_irem 12 rfl (by decide) (by omega) (fun v4635 hv4635 => ?_)
            refine r_istore _ rfl ?_
            refine r_iload (w_p1 (by decide) (Or.inr rfl) (w_p1 (by decide) (Or.inr rfl) e4626)) ?_
            refine r_bipush 12 rfl ?_
            refine q_idiv 12 rfl (by decide) (by omega) (fun v4636 hv4636 => ?_)
            refine r_bipush 12 rfl ?_
            refine q_irem 12 rfl (by decide) (by omega) (fun v4637 hv4637 => ?_)
            refine r_istore _ rfl ?_
            refine r_iload (w_p1 (by decide) (Or.inr rfl) (w_p1 (by decide) (Or.inr rfl) (w_p1 (by decide) (Or.inr rfl) e4626))) ?_
            refine r_bipush 12 rfl ?_
            refine q_irem 12 rfl (by decide) (by omega) (fun v4638 hv4638 => ?_)
            refine r_istore _ rfl ?_
            refine r_iload_n (w_p1 (by decide) (Or.inr rfl) (w_p1 (by decide) (Or.inr rfl) (w_p1 (by decide) (Or.inr rfl) (w_p1 (by decide) (Or.inr rfl) e4624)))) ?_
            refine r_ifs 101 rfl (fun c4639 => ?_) (fun c4639 => ?_)
            · have c4639_ : a2.toInt = 0 := en_k_eq_t c4639
              exfalso; omega
            · have c4639_ : a2.toInt ≠ 0 := en_k_eq_f c4639
              refine At.enter rfl ?_
              refine r_iload (w_p1 (by decide) (Or.inr rfl) (w_p1 (by decide) (Or.inr rfl) (w_p1 (by decide) (Or.inr rfl) (w_e1 _ _ _)))) ?_
              refine r_iload (w_p1 (by decide) (Or.inr rfl) (w_p1 (by decide) (Or.inr rfl) (w_e1 _ _ _))) ?_
              have bv4641 := q_bnd v4632
              have bv4642 := q_bnd v4635
              refine r_ics 108 rfl (fun c4640 => ?_) (fun c4640 => ?_)
              · have c4640_ : v4632.toInt ≥ v4635.toInt := en_i_ge_t c4640
                refine At.enter rfl ?_
                refine r_iconst 0 rfl ?_
                refine Ar.fall 122 rfl ?_
                refine At.enter rfl ?_
                refine r_istore _ rfl ?_
                refine r_iload (w_e1 _ _ _) ?_
                refine r_ift (by decide) ?_
                refine At.enter rfl ?_
                refine r_iconst 0 rfl ?_
                refine Ar.fall 155 rfl ?_
                refine At.enter rfl ?_
                refine r_istore _ rfl ?_
                refine r_iload (w_e1 _ _ _) ?_
                refine r_ift (by decide) ?_
                refine At.enter rfl ?_
                refine q_iinc (w_p1 (by decide) (Or.inr rfl) (w_p1 (by decide) (Or.inr rfl) (w_p1 (by decide) (Or.inr rfl) (w_p1 (by decide) (Or.inr rfl) (w_p1 (by decide) (Or.inr rfl) (w_p1 (by decide) (Or.inr rfl) e4626)))))) (x4615.toInt + 1) rfl (by omega) (fun v4643 hv4643 => ?_)
                refine r_goto ?_
                exact ih4621 (20736 - v4643.toInt) _ _ ⟨v4643, by first | rfl | omega, hI4617, hF4618, (w_p1 (by decide) (Or.inr rfl) (w_p1 (by decide) (Or.inr rfl) (w_p1 (by decide) (Or.inr rfl) (w_p1 (by decide) (Or.inr rfl) (w_p1 (by decide) (Or.inr rfl) (w_p1 (by decide) (Or.inr rfl) (w_p1 (by decide) (Or.inr rfl) e4622))))))), (w_p1 (by decide) (Or.inr rfl) (w_p1 (by decide) (Or.inr rfl) (w_p1 (by decide) (Or.inr rfl) (w_p1 (by decide) (Or.inr rfl) (w_p1 (by decide) (Or.inr rfl) (w_p1 (by decide) (Or.inr rfl) (w_p1 (by decide) (Or.inr rfl) e4623))))))), (w_p1 (by decide) (Or.inr rfl) (w_p1 (by decide) (Or.inr rfl) (w_p1 (by decide) (Or.inr rfl) (w_p1 (by decide) (Or.inr rfl) (w_p1 (by decide) (Or.inr rfl) (w_p1 (by decide) (Or.inr rfl) (w_p1 (by decide) (Or.inr rfl) e4624))))))), (w_p1 (by decide) (Or.inr rfl) (w_p1 (by decide) (Or.inr rfl) (w_p1 (by decide) (Or.inr rfl) (w_p1 (by decide) (Or.inr rfl) (w_p1 (by decide) (Or.inr rfl) (w_p1 (by decide) (Or.inr rfl) (w_p1 (by decide) (Or.inr rfl) e4625))))))), (w_e1 _ _ _), by omega⟩ ⟨by omega, by omega⟩
              · have c4640_ : v4632.toInt < v4635.toInt := en_i_ge_f c4640
                refine At.enter rfl ?_
                refine r_aload_n (w_p1 (by decide) (Or.inr rfl) (w_p1 (by decide) (Or.inr rfl) (w_p1 (by decide) (Or.inr rfl) (w_p1 (by decide) (Or.inr rfl) e4622)))) ?_
                refine r_iload (w_p1 (by decide) (Or.inr rfl) (w_p1 (by decide) (Or.inr rfl) (w_e1 _ _ _))) ?_
                refine q_inlV 114 rfl [.ref 231, .int v4635] [] (Nat.le_of_ble_eq_true rfl) rfl ?_
                refine Ev.mk rfl rfl ⟨Nat.le_of_ble_eq_true rfl, Or.inr (q_rc hI4617.1 kx_231 rfl)⟩ ?_
                show At _ none _ _ (0, [(0, .ref 231), (1, .int v4635)], [], (_, _)) _
                refine At.enter rfl ?_
                refine r_iload_n rfl ?_
                refine q_i2l (fun v4644 hv4644 => ?_)
                refine r_lconst 0 rfl ?_
                refine r_aload_n rfl ?_
                refine q_getR (Sh.ref hI4617.1 kx_231 rfl) ?_
                refine r_iconst 0 rfl ?_
                obtain ⟨v4645, hv4645⟩ : ∃ v, eA g0 233 0 = v := ⟨_, rfl⟩
                have tv4645 := congrArg Int32.toInt hv4645
                have wv4645 := HI.t0 hI0
                rw [hv4645] at wv4645
                refine q_iald (Sh.arr hI4617.1 ka_233) 0 rfl (by decide) v4645 ((eA_c (hF4618.2.1 233 (by decide))).trans hv4645) ?_
                refine q_i2l (fun v4646 hv4646 => ?_)
                refine r_lconst 1 rfl ?_
                refine q_lsub (v4646.toInt - 1) rfl (by omega) (fun v4647 hv4647 => ?_)
                refine q_inlS 15 rfl [.long v4644, .long 0, .long v4647] [] (Nat.le_of_ble_eq_true rfl) rfl ?_
                refine Ev.mk rfl rfl ⟨Nat.le_of_ble_eq_true rfl, Or.inl rfl⟩ ?_
                show At _ none _ _ (0, [(0, .long v4644), (2, .long 0), (4, .long v4647)], [], (_, _)) _
                refine At.enter rfl ?_
                refine r_lload_n rfl ?_
                refine r_lload_n rfl ?_
                refine r_lcmp _ rfl ?_
                refine r_ifs 6 rfl (fun c4648 => ?_) (fun c4648 => ?_)
                · have c4648_ : v4644.toInt < 0 := en_j_lt_t c4648
                  exfalso; omega
                · have c4648_ : v4644.toInt ≥ 0 := en_j_lt_f c4648
                  refine At.enter rfl ?_
                  refine r_lload_n rfl ?_
                  refine r_lload rfl ?_
                  refine r_lcmp _ rfl ?_
                  refine r_ifs 13 rfl (fun c4649 => ?_) (fun c4649 => ?_)
                  · have c4649_ : v4644.toInt > v4647.toInt := en_j_gt_t c4649
                    refine At.enter rfl ?_
                    refine r_iconst 0 rfl ?_
                    refine Ar.fall 18 rfl ?_
                    refine At.enter rfl ?_
                    refine q_iretz (by decide) ?_
                    refine At.enter rfl ?_
                    refine q_iretz (by decide) ?_
                    refine At.enter rfl ?_
                    refine r_ift (by decide) ?_
                    refine At.enter rfl ?_
                    refine r_iconst 0 rfl ?_
                    refine Ar.fall 122 rfl ?_
                    refine At.enter rfl ?_
                    refine r_istore _ rfl ?_
                    refine r_iload (w_e1 _ _ _) ?_
                    refine r_ift (by decide) ?_
                    refine At.enter rfl ?_
                    refine r_iconst 0 rfl ?_
                    refine Ar.fall 155 rfl ?_
                    refine At.enter rfl ?_
                    refine r_istore _ rfl ?_
                    refine r_iload (w_e1 _ _ _) ?_
                    refine r_ift (by decide) ?_
                    refine At.enter rfl ?_
                    refine q_iinc (w_p1 (by decide) (Or.inr rfl) (w_p1 (by decide) (Or.inr rfl) (w_p1 (by decide) (Or.inr rfl) (w_p1 (by decide) (Or.inr rfl) (w_p1 (by decide) (Or.inr rfl) (w_p1 (by decide) (Or.inr rfl) e4626)))))) (x4615.toInt + 1) rfl (by omega) (fun v4650 hv4650 => ?_)
                    refine r_goto ?_
                    exact ih4621 (20736 - v4650.toInt) _ _ ⟨v4650, by first | rfl | omega, hI4617, hF4618, (w_p1 (by decide) (Or.inr rfl) (w_p1 (by decide) (Or.inr rfl) (w_p1 (by decide) (Or.inr rfl) (w_p1 (by decide) (Or.inr rfl) (w_p1 (by decide) (Or.inr rfl) (w_p1 (by decide) (Or.inr rfl) (w_p1 (by decide) (Or.inr rfl) e4622))))))), (w_p1 (by decide) (Or.inr rfl) (w_p1 (by decide) (Or.inr rfl) (w_p1 (by decide) (Or.inr rfl) (w_p1 (by decide) (Or.inr rfl) (w_p1 (by decide) (Or.inr rfl) (w_p1 (by decide) (Or.inr rfl) (w_p1 (by decide) (Or.inr rfl) e4623))))))), (w_p1 (by decide) (Or.inr rfl) (w_p1 (by decide) (Or.inr rfl) (w_p1 (by decide) (Or.inr rfl) (w_p1 (by decide) (Or.inr rfl) (w_p1 (by decide) (Or.inr rfl) (w_p1 (by decide) (Or.inr rfl) (w_p1 (by decide) (Or.inr rfl) e4624))))))), (w_p1 (by decide) (Or.inr rfl) (w_p1 (by decide) (Or.inr rfl) (w_p1 (by decide) (Or.inr rfl) (w_p1 (by decide) (Or.inr rfl) (w_p1 (by decide) (Or.inr rfl) (w_p1 (by decide) (Or.inr rfl) (w_p1 (by decide) (Or.inr rfl) e4625))))))), (w_e1 _ _ _), by omega⟩ ⟨by omega, by omega⟩
                  · have c4649_ : v4644.toInt ≤ v4647.toInt := en_j_gt_f c4649
                    refine At.enter rfl ?_
                    refine r_iconst 1 rfl ?_
                    refine r_goto ?_
                    refine At.enter rfl ?_
                    refine q_iretz (by decide) ?_
                    refine At.enter rfl ?_
                    refine q_iretz (by decide) ?_
                    refine At.enter rfl ?_
                    refine r_iff 117 rfl (by decide) ?_
                    refine At.enter rfl ?_
                    refine r_iconst 1 rfl ?_
                    refine r_goto ?_
                    refine At.enter rfl ?_
                    refine r_istore _ rfl ?_
                    refine r_iload (w_e1 _ _ _) ?_
                    refine r_iff 129 rfl (by decide) ?_
                    refine At.enter rfl ?_
                    refine r_iload_n (w_p1 (by decide) (Or.inr rfl) (w_p1 (by decide) (Or.inr rfl) (w_p1 (by decide) (Or.inr rfl) (w_p1 (by decide) (Or.inr rfl) (w_p1 (by decide) (Or.inr rfl) e4624))))) ?_
                    refine r_iconst 2 rfl ?_
                    refine r_ics 134 rfl (fun c4651 => ?_) (fun c4651 => ?_)
                    · have c4651_ : a2.toInt < 2 := en_i_lt_t c4651
                      exfalso; omega
                    · have c4651_ : a2.toInt ≥ 2 := en_i_lt_f c4651
                      refine At.enter rfl ?_
                      refine r_iload (w_p1 (by decide) (Or.inr rfl) (w_p1 (by decide) (Or.inr rfl) (w_e1 _ _ _))) ?_
                      refine r_iload (w_p1 (by decide) (Or.inr rfl) (w_e1 _ _ _)) ?_
                      have bv4653 := q_bnd v4637
                      have bv4654 := q_bnd v4638
                      refine r_ics 141 rfl (fun c4652 => ?_) (fun c4652 => ?_)
                      · have c4652_ : v4637.toInt ≥ v4638.toInt := en_i_ge_t c4652
                        refine At.enter rfl ?_
                        refine r_iconst 0 rfl ?_
                        refine Ar.fall 155 rfl ?_
                        refine At.enter rfl ?_
                        refine r_istore _ rfl ?_
                        refine r_iload (w_e1 _ _ _) ?_
                        refine r_ift (by decide) ?_
                        refine At.enter rfl ?_
                        refine q_iinc (w_p1 (by decide) (Or.inr rfl) (w_p1 (by decide) (Or.inr rfl) (w_p1 (by decide) (Or.inr rfl) (w_p1 (by decide) (Or.inr rfl) (w_p1 (by decide) (Or.inr rfl) (w_p1 (by decide) (Or.inr rfl) e4626)))))) (x4615.toInt + 1) rfl (by omega) (fun v4655 hv4655 => ?_)
                        refine r_goto ?_
                        exact ih4621 (20736 - v4655.toInt) _ _ ⟨v4655, by first | rfl | omega, hI4617, hF4618, (w_p1 (by decide) (Or.inr rfl) (w_p1 (by decide) (Or.inr rfl) (w_p1 (by decide) (Or.inr rfl) (w_p1 (by decide) (Or.inr rfl) (w_p1 (by decide) (Or.inr rfl) (w_p1 (by decide) (Or.inr rfl) (w_p1 (by decide) (Or.inr rfl) e4622))))))), (w_p1 (by decide) (Or.inr rfl) (w_p1 (by decide) (Or.inr rfl) (w_p1 (by decide) (Or.inr rfl) (w_p1 (by decide) (Or.inr rfl) (w_p1 (by decide) (Or.inr rfl) (w_p1 (by decide) (Or.inr rfl) (w_p1 (by decide) (Or.inr rfl) e4623))))))), (w_p1 (by decide) (Or.inr rfl) (w_p1 (by decide) (Or.inr rfl) (w_p1 (by decide) (Or.inr rfl) (w_p1 (by decide) (Or.inr rfl) (w_p1 (by decide) (Or.inr rfl) (w_p1 (by decide) (Or.inr rfl) (w_p1 (by decide) (Or.inr rfl) e4624))))))), (w_p1 (by decide) (Or.inr rfl) (w_p1 (by decide) (Or.inr rfl) (w_p1 (by decide) (Or.inr rfl) (w_p1 (by decide) (Or.inr rfl) (w_p1 (by decide) (Or.inr rfl) (w_p1 (by decide) (Or.inr rfl) (w_p1 (by decide) (Or.inr rfl) e4625))))))), (w_e1 _ _ _), by omega⟩ ⟨by omega, by omega⟩
                      · have c4652_ : v4637.toInt < v4638.toInt := en_i_ge_f c4652
                        refine At.enter rfl ?_
                        refine r_aload_n (w_p1 (by decide) (Or.inr rfl) (w_p1 (by decide) (Or.inr rfl) (w_p1 (by decide) (Or.inr rfl) (w_p1 (by decide) (Or.inr rfl) (w_p1 (by decide) (Or.inr rfl) e4622))))) ?_
                        refine r_iload (w_p1 (by decide) (Or.inr rfl) (w_e1 _ _ _)) ?_
                        refine q_inlV 147 rfl [.ref 231, .int v4638] [] (Nat.le_of_ble_eq_true rfl) rfl ?_
                        refine Ev.mk rfl rfl ⟨Nat.le_of_ble_eq_true rfl, Or.inr (q_rc hI4617.1 kx_231 rfl)⟩ ?_
                        show At _ none _ _ (0, [(0, .ref 231), (1, .int v4638)], [], (_, _)) _
                        refine At.enter rfl ?_
                        refine r_iload_n rfl ?_
                        refine q_i2l (fun v4656 hv4656 => ?_)
                        refine r_lconst 0 rfl ?_
                        refine r_aload_n rfl ?_
                        refine q_getR (Sh.ref hI4617.1 kx_231 rfl) ?_
                        refine r_iconst 0 rfl ?_
                        refine q_iald (Sh.arr hI4617.1 ka_233) 0 rfl (by decide) v4645 ((eA_c (hF4618.2.1 233 (by decide))).trans hv4645) ?_
                        refine q_i2l (fun v4657 hv4657 => ?_)
                        refine r_lconst 1 rfl ?_
                        refine q_lsub (v4657.toInt - 1) rfl (by omega) (fun v4658 hv4658 => ?_)
                        refine q_inlS 15 rfl [.long v4656, .long 0, .long v4658] [] (Nat.le_of_ble_eq_true rfl) rfl ?_
                        refine Ev.mk rfl rfl ⟨Nat.le_of_ble_eq_true rfl, Or.inl rfl⟩ ?_
                        show At _ none _ _ (0, [(0, .long v4656), (2, .long 0), (4, .long v4658)], [], (_, _)) _
                        refine At.enter rfl ?_
                        refine r_lload_n rfl ?_
                        refine r_lload_n rfl ?_
                        refine r_lcmp _ rfl ?_
                        refine r_ifs 6 rfl (fun c4659 => ?_) (fun c4659 => ?_)
                        · have c4659_ : v4656.toInt < 0 := en_j_lt_t c4659
                          exfalso; omega
                        · have c4659_ : v4656.toInt ≥ 0 := en_j_lt_f c4659
                          refine At.enter rfl ?_
                          refine r_lload_n rfl ?_
                          refine r_lload rfl ?_
                          refine r_lcmp _ rfl ?_
                          refine r_ifs 13 rfl (fun c4660 => ?_) (fun c4660 => ?_)
                          · have c4660_ : v4656.toInt > v4658.toInt := en_j_gt_t c4660
                            refine At.enter rfl ?_
                            refine r_iconst 0 rfl ?_
                            refine Ar.fall 18 rfl ?_
                            refine At.enter rfl ?_
                            refine q_iretz (by decide) ?_
                            refine At.enter rfl ?_
                            refine q_iretz (by decide) ?_
                            refine At.enter rfl ?_
                            refine r_ift (by decide) ?_
                            refine At.enter rfl ?_
                            refine r_iconst 0 rfl ?_
                            refine Ar.fall 155 rfl ?_
                            refine At.enter rfl ?_
                            refine r_istore _ rfl ?_
                            refine r_iload (w_e1 _ _ _) ?_
                            refine r_ift (by decide) ?_
                            refine At.enter rfl ?_
                            refine q_iinc (w_p1 (by decide) (Or.inr rfl) (w_p1 (by decide) (Or.inr rfl) (w_p1 (by decide) (Or.inr rfl) (w_p1 (by decide) (Or.inr rfl) (w_p1 (by decide) (Or.inr rfl) (w_p1 (by decide) (Or.inr rfl) e4626)))))) (x4615.toInt + 1) rfl (by omega) (fun v4661 hv4661 => ?_)
                            refine r_goto ?_
                            exact ih4621 (20736 - v4661.toInt) _ _ ⟨v4661, by first | rfl | omega, hI4617, hF4618, (w_p1 (by decide) (Or.inr rfl) (w_p1 (by decide) (Or.inr rfl) (w_p1 (by decide) (Or.inr rfl) (w_p1 (by decide) (Or.inr rfl) (w_p1 (by decide) (Or.inr rfl) (w_p1 (by decide) (Or.inr rfl) (w_p1 (by decide) (Or.inr rfl) e4622))))))), (w_p1 (by decide) (Or.inr rfl) (w_p1 (by decide) (Or.inr rfl) (w_p1 (by decide) (Or.inr rfl) (w_p1 (by decide) (Or.inr rfl) (w_p1 (by decide) (Or.inr rfl) (w_p1 (by decide) (Or.inr rfl) (w_p1 (by decide) (Or.inr rfl) e4623))))))), (w_p1 (by decide) (Or.inr rfl) (w_p1 (by decide) (Or.inr rfl) (w_p1 (by decide) (Or.inr rfl) (w_p1 (by decide) (Or.inr rfl) (w_p1 (by decide) (Or.inr rfl) (w_p1 (by decide) (Or.inr rfl) (w_p1 (by decide) (Or.inr rfl) e4624))))))), (w_p1 (by decide) (Or.inr rfl) (w_p1 (by decide) (Or.inr rfl) (w_p1 (by decide) (Or.inr rfl) (w_p1 (by decide) (Or.inr rfl) (w_p1 (by decide) (Or.inr rfl) (w_p1 (by decide) (Or.inr rfl) (w_p1 (by decide) (Or.inr rfl) e4625))))))), (w_e1 _ _ _), by omega⟩ ⟨by omega, by omega⟩
                          · have c4660_ : v4656.toInt ≤ v4658.toInt := en_j_gt_f c4660
                            refine At.enter rfl ?_
                            refine r_iconst 1 rfl ?_
                            refine r_goto ?_
                            refine At.enter rfl ?_
                            refine q_iretz (by decide) ?_
                            refine At.enter rfl ?_
                            refine q_iretz (by decide) ?_
                            refine At.enter rfl ?_
                            refine r_iff 150 rfl (by decide) ?_
                            refine At.enter rfl ?_
                            refine r_iconst 1 rfl ?_
                            refine r_goto ?_
                            refine At.enter rfl ?_
                            refine r_istore _ rfl ?_
                            refine r_iload (w_e1 _ _ _) ?_
                            refine r_iff 162 rfl (by decide) ?_
                            refine At.enter rfl ?_
                            refine r_aload_n (w_p1 (by decide) (Or.inr rfl) (w_p1 (by decide) (Or.inr rfl) (w_p1 (by decide) (Or.inr rfl) (w_p1 (by decide) (Or.inr rfl) (w_p1 (by decide) (Or.inr rfl) (w_p1 (by decide) (Or.inr rfl) e4622)))))) ?_
                            refine r_callV 166 rfl [.ref 231] [] (Nat.le_of_ble_eq_true rfl) rfl (T_X11_asIs_231 _ hI4617) ?_
                            rintro _ _ ⟨g4662, rfl, hI4663, hF4664, rfl, hr4666⟩
                            refine At.stn ?_
                            have hF4667 := Fr.tr hF4618 hF4664 rfl rfl
                            refine At.enter rfl ?_
                            refine r_iload_n (w_p1 (by decide) (Or.inr rfl) (w_p1 (by decide) (Or.inr rfl) (w_p1 (by decide) (Or.inr rfl) (w_p1 (by decide) (Or.inr rfl) (w_p1 (by decide) (Or.inr rfl) (w_p1 (by decide) (Or.inr rfl) e4624)))))) ?_
                            refine r_ifs 170 rfl (fun c4668 => ?_) (fun c4668 => ?_)
                            · have c4668_ : a2.toInt ≤ 0 := en_k_le_t c4668
                              exfalso; omega
                            · have c4668_ : a2.toInt > 0 := en_k_le_f c4668
                              refine At.enter rfl ?_
                              refine r_aload_n (w_p1 (by decide) (Or.inr rfl) (w_p1 (by decide) (Or.inr rfl) (w_p1 (by decide) (Or.inr rfl) (w_p1 (by decide) (Or.inr rfl) (w_p1 (by decide) (Or.inr rfl) (w_p1 (by decide) (Or.inr rfl) e4622)))))) ?_
                              refine r_iload (w_p1 (by decide) (Or.inr rfl) (w_p1 (by decide) (Or.inr rfl) (w_p1 (by decide) (Or.inr rfl) (w_p1 (by decide) (Or.inr rfl) (w_p1 (by decide) (Or.inr rfl) (w_e1 _ _ _)))))) ?_
                              refine r_iload (w_p1 (by decide) (Or.inr rfl) (w_p1 (by decide) (Or.inr rfl) (w_p1 (by decide) (Or.inr rfl) (w_p1 (by decide) (Or.inr rfl) (w_e1 _ _ _))))) ?_
                              refine r_callV 178 rfl [.ref 231, .int v4632, .int v4635] [] (Nat.le_of_ble_eq_true rfl) rfl (T_X11_swapAt_231 _ hI4663 v4632 (by omega) v4635 (by omega)) ?_
                              rintro _ _ ⟨g4669, rfl, hI4670, hF4671, rfl⟩
                              refine At.stn ?_
                              have hF4674 := Fr.tr hF4667 hF4671 rfl rfl
                              refine At.enter rfl ?_
                              refine r_iload_n (w_p1 (by decide) (Or.inr rfl) (w_p1 (by decide) (Or.inr rfl) (w_p1 (by decide) (Or.inr rfl) (w_p1 (by decide) (Or.inr rfl) (w_p1 (by decide) (Or.inr rfl) (w_p1 (by decide) (Or.inr rfl) e4624)))))) ?_
                              refine r_iconst 1 rfl ?_
                              refine r_ics 183 rfl (fun c4675 => ?_) (fun c4675 => ?_)
                              · have c4675_ : a2.toInt ≤ 1 := en_i_le_t c4675
                                exfalso; omega
                              · have c4675_ : a2.toInt > 1 := en_i_le_f c4675
                                refine At.enter rfl ?_
                                refine r_aload_n (w_p1 (by decide) (Or.inr rfl) (w_p1 (by decide) (Or.inr rfl) (w_p1 (by decide) (Or.inr rfl) (w_p1 (by decide) (Or.inr rfl) (w_p1 (by decide) (Or.inr rfl) (w_p1 (by decide) (Or.inr rfl) e4622)))))) ?_
                                refine r_iload (w_p1 (by decide) (Or.inr rfl) (w_p1 (by decide) (Or.inr rfl) (w_p1 (by decide) (Or.inr rfl) (w_e1 _ _ _)))) ?_
                                refine r_iload (w_p1 (by decide) (Or.inr rfl) (w_p1 (by decide) (Or.inr rfl) (w_e1 _ _ _))) ?_
                                refine r_callV 191 rfl [.ref 231, .int v4637, .int v4638] [] (Nat.le_of_ble_eq_true rfl) rfl (T_X11_swapAt_231 _ hI4670 v4637 (by omega) v4638 (by omega)) ?_
                                rintro _ _ ⟨g4676, rfl, hI4677, hF4678, rfl⟩
                                refine At.stn ?_
                                have hF4681 := Fr.tr hF4674 hF4678 rfl rfl
                                refine At.enter rfl ?_
                                refine r_aload_n (w_p1 (by decide) (Or.inr rfl) (w_p1 (by decide) (Or.inr rfl) (w_p1 (by decide) (Or.inr rfl) (w_p1 (by decide) (Or.inr rfl) (w_p1 (by decide) (Or.inr rfl) (w_p1 (by decide) (Or.inr rfl) e4622)))))) ?_
                                refine r_iload_n (w_p1 (by decide) (Or.inr rfl) (w_p1 (by decide) (Or.inr rfl) (w_p1 (by decide) (Or.inr rfl) (w_p1 (by decide) (Or.inr rfl) (w_p1 (by decide) (Or.inr rfl) (w_p1 (by decide) (Or.inr rfl) e4623)))))) ?_
                                refine r_aload_n (w_p1 (by decide) (Or.inr rfl) (w_p1 (by decide) (Or.inr rfl) (w_p1 (by decide) (Or.inr rfl) (w_p1 (by decide) (Or.inr rfl) (w_p1 (by decide) (Or.inr rfl) (w_p1 (by decide) (Or.inr rfl) e4622)))))) ?_
                                refine q_getR (Sh.ref hI4677.1 kx_231 rfl) ?_
                                refine r_iconst 5 rfl ?_
                                obtain ⟨v4682, hv4682⟩ : ∃ v, eA g0 233 5 = v := ⟨_, rfl⟩
                                have wv4682 := HI.t5 hI0
                                rw [hv4682] at wv4682
                                refine q_iald (Sh.arr hI4677.1 ka_233) 5 rfl (by decide) v4682 ((eA_c ((hF4678.2.1 233 ma_X11_swapAt_231_233).trans ((hF4671.2.1 233 ma_X11_swapAt_231_233).trans ((hF4664.2.1 233 ma_X11_asIs_231_233).trans (hF4618.2.1 233 (by decide)))))).trans hv4682) ?_
                                refine r_callV 202 rfl [.ref 231, .int a1, .int v4682] [] (Nat.le_of_ble_eq_true rfl) rfl (T_X11_allCome_231 _ hI4677 a1 v4682) ?_
                                rintro _ _ ⟨g4683, rfl, hI4684, hF4685, v4686, rfl, hr4687⟩
                                refine At.sti ?_
                                have hF4688 := Fr.tr hF4681 hF4685 rfl rfl
                                refine At.enter rfl ?_
                                refine r_ifs 205 rfl (fun c4689 => ?_) (fun c4689 => ?_)
                                · have c4689_ : v4686.toInt = 0 := en_k_eq_t c4689
                                  refine At.enter rfl ?_
                                  refine q_iinc (w_p1 (by decide) (Or.inr rfl) (w_p1 (by decide) (Or.inr rfl) (w_p1 (by decide) (Or.inr rfl) (w_p1 (by decide) (Or.inr rfl) (w_p1 (by decide) (Or.inr rfl) (w_p1 (by decide) (Or.inr rfl) e4626)))))) (x4615.toInt + 1) rfl (by omega) (fun v4690 hv4690 => ?_)
                                  refine r_goto ?_
                                  exact ih4621 (20736 - v4690.toInt) _ _ ⟨v4690, by first | rfl | omega, hI4684, hF4688, (w_p1 (by decide) (Or.inr rfl) (w_p1 (by decide) (Or.inr rfl) (w_p1 (by decide) (Or.inr rfl) (w_p1 (by decide) (Or.inr rfl) (w_p1 (by decide) (Or.inr rfl) (w_p1 (by decide) (Or.inr rfl) (w_p1 (by decide) (Or.inr rfl) e4622))))))), (w_p1 (by decide) (Or.inr rfl) (w_p1 (by decide) (Or.inr rfl) (w_p1 (by decide) (Or.inr rfl) (w_p1 (by decide) (Or.inr rfl) (w_p1 (by decide) (Or.inr rfl) (w_p1 (by decide) (Or.inr rfl) (w_p1 (by decide) (Or.inr rfl) e4623))))))), (w_p1 (by decide) (Or.inr rfl) (w_p1 (by decide) (Or.inr rfl) (w_p1 (by decide) (Or.inr rfl) (w_p1 (by decide) (Or.inr rfl) (w_p1 (by decide) (Or.inr rfl) (w_p1 (by decide) (Or.inr rfl) (w_p1 (by decide) (Or.inr rfl) e4624))))))), (w_p1 (by decide) (Or.inr rfl) (w_p1 (by decide) (Or.inr rfl) (w_p1 (by decide) (Or.inr rfl) (w_p1 (by decide) (Or.inr rfl) (w_p1 (by decide) (Or.inr rfl) (w_p1 (by decide) (Or.inr rfl) (w_p1 (by decide) (Or.inr rfl) e4625))))))), (w_e1 _ _ _), by omega⟩ ⟨by omega, by omega⟩
                                · have c4689_ : v4686.toInt ≠ 0 := en_k_eq_f c4689
                                  refine At.enter rfl ?_
                                  refine r_aload_n (w_p1 (by decide) (Or.inr rfl) (w_p1 (by decide) (Or.inr rfl) (w_p1 (by decide) (Or.inr rfl) (w_p1 (by decide) (Or.inr rfl) (w_p1 (by decide) (Or.inr rfl) (w_p1 (by decide) (Or.inr rfl) e4622)))))) ?_
                                  refine r_aload_n (w_p1 (by decide) (Or.inr rfl) (w_p1 (by decide) (Or.inr rfl) (w_p1 (by decide) (Or.inr rfl) (w_p1 (by decide) (Or.inr rfl) (w_p1 (by decide) (Or.inr rfl) (w_p1 (by decide) (Or.inr rfl) e4622)))))) ?_
                                  obtain ⟨v4691, hv4691⟩ : ∃ v, gI g4616 231 45 = v := ⟨_, rfl⟩
                                  refine q_getI (Sh.int hI4684.1 kx_231 rfl) v4691 (((hF4685.1 231 45 mf_X11_allCome_231_231_45).trans ((hF4678.1 231 45 mf_X11_swapAt_231_231_45).trans ((hF4671.1 231 45 mf_X11_swapAt_231_231_45).trans (hF4664.1 231 45 mf_X11_asIs_231_231_45)))).trans hv4691) ?_
                                  refine r_ifs 213 rfl (fun c4692 => ?_) (fun c4692 => ?_)
                                  · have c4692_ : v4691.toInt ≠ 0 := en_k_ne_t c4692
                                    refine At.enter rfl ?_
                                    refine r_aload_n (w_p1 (by decide) (Or.inr rfl) (w_p1 (by decide) (Or.inr rfl) (w_p1 (by decide) (Or.inr rfl) (w_p1 (by decide) (Or.inr rfl) (w_p1 (by decide) (Or.inr rfl) (w_p1 (by decide) (Or.inr rfl) e4622)))))) ?_
                                    obtain ⟨v4693, hv4693⟩ : ∃ v, gI g4616 231 46 = v := ⟨_, rfl⟩
                                    refine q_getI (Sh.int hI4684.1 kx_231 rfl) v4693 (((hF4685.1 231 46 mf_X11_allCome_231_231_46).trans ((hF4678.1 231 46 mf_X11_swapAt_231_231_46).trans ((hF4671.1 231 46 mf_X11_swapAt_231_231_46).trans (hF4664.1 231 46 mf_X11_asIs_231_231_46)))).trans hv4693) ?_
                                    refine Ar.fall 222 rfl ?_
                                    refine At.enter rfl ?_
                                    refine q_putI (Sh.int hI4684.1 kx_231 rfl) rfl ?_
                                    have hI4694 := HI.wI0 hI4684 kx_231 rfl (p := 231) (b := 46) (v := v4693) rfl
                                    have hF4695 := Fr.wI (p := 231) (b := 46) (v := v4693) hF4688 rfl
                                    refine r_aload_n (w_p1 (by decide) (Or.inr rfl) (w_p1 (by decide) (Or.inr rfl) (w_p1 (by decide) (Or.inr rfl) (w_p1 (by decide) (Or.inr rfl) (w_p1 (by decide) (Or.inr rfl) (w_p1 (by decide) (Or.inr rfl) e4622)))))) ?_
                                    refine r_dup rfl ?_
                                    refine q_getI (Sh.int hI4694.1 kx_231 rfl) v4691 (((gI_sI_ne (by decide)).trans ((hF4685.1 231 45 mf_X11_allCome_231_231_45).trans ((hF4678.1 231 45 mf_X11_swapAt_231_231_45).trans ((hF4671.1 231 45 mf_X11_swapAt_231_231_45).trans (hF4664.1 231 45 mf_X11_asIs_231_231_45))))).trans hv4691) ?_
                                    refine r_iconst 1 rfl ?_
                                    refine q_iaddO (fun v4696 _ => ?_)
                                    refine q_putI (Sh.int hI4694.1 kx_231 rfl) rfl ?_
                                    have hI4697 := HI.wI0 hI4694 kx_231 rfl (p := 231) (b := 45) (v := v4696) rfl
                                    have hF4698 := Fr.wI (p := 231) (b := 45) (v := v4696) hF4695 rfl
                                    refine Ar.fall 235 rfl ?_
                                    refine At.enter rfl ?_
                                    refine q_iinc (w_p1 (by decide) (Or.inr rfl) (w_p1 (by decide) (Or.inr rfl) (w_p1 (by decide) (Or.inr rfl) (w_p1 (by decide) (Or.inr rfl) (w_p1 (by decide) (Or.inr rfl) (w_p1 (by decide) (Or.inr rfl) e4626)))))) (x4615.toInt + 1) rfl (by omega) (fun v4699 hv4699 => ?_)
                                    refine r_goto ?_
                                    exact ih4621 (20736 - v4699.toInt) _ _ ⟨v4699, by first | rfl | omega, hI4697, hF4698, (w_p1 (by decide) (Or.inr rfl) (w_p1 (by decide) (Or.inr rfl) (w_p1 (by decide) (Or.inr rfl) (w_p1 (by decide) (Or.inr rfl) (w_p1 (by decide) (Or.inr rfl) (w_p1 (by decide) (Or.inr rfl) (w_p1 (by decide) (Or.inr rfl) e4622))))))), (w_p1 (by decide) (Or.inr rfl) (w_p1 (by decide) (Or.inr rfl) (w_p1 (by decide) (Or.inr rfl) (w_p1 (by decide) (Or.inr rfl) (w_p1 (by decide) (Or.inr rfl) (w_p1 (by decide) (Or.inr rfl) (w_p1 (by decide) (Or.inr rfl) e4623))))))), (w_p1 (by decide) (Or.inr rfl) (w_p1 (by decide) (Or.inr rfl) (w_p1 (by decide) (Or.inr rfl) (w_p1 (by decide) (Or.inr rfl) (w_p1 (by decide) (Or.inr rfl) (w_p1 (by decide) (Or.inr rfl) (w_p1 (by decide) (Or.inr rfl) e4624))))))), (w_p1 (by decide) (Or.inr rfl) (w_p1 (by decide) (Or.inr rfl) (w_p1 (by decide) (Or.inr rfl) (w_p1 (by decide) (Or.inr rfl) (w_p1 (by decide) (Or.inr rfl) (w_p1 (by decide) (Or.inr rfl) (w_p1 (by decide) (Or.inr rfl) e4625))))))), (w_e1 _ _ _), by omega⟩ ⟨by omega, by omega⟩
                                  · have c4692_ : v4691.toInt = 0 := en_k_ne_f c4692
                                    refine At.enter rfl ?_
                                    refine r_iload (w_p1 (by decide) (Or.inr rfl) (w_p1 (by decide) (Or.inr rfl) (w_p1 (by decide) (Or.inr rfl) (w_p1 (by decide) (Or.inr rfl) (w_p1 (by decide) (Or.inr rfl) (w_p1 (by decide) (Or.inr rfl) e4626)))))) ?_
                                    refine r_goto ?_
                                    refine At.enter rfl ?_
                                    refine q_putI (Sh.int hI4684.1 kx_231 rfl) rfl ?_
                                    have hI4700 := HI.wI0 hI4684 kx_231 rfl (p := 231) (b := 46) (v := x4615) rfl
                                    have hF4701 := Fr.wI (p := 231) (b := 46) (v := x4615) hF4688 rfl
                                    refine r_aload_n (w_p1 (by decide) (Or.inr rfl) (w_p1 (by decide) (Or.inr rfl) (w_p1 (by decide) (Or.inr rfl) (w_p1 (by decide) (Or.inr rfl) (w_p1 (by decide) (Or.inr rfl) (w_p1 (by decide) (Or.inr rfl) e4622)))))) ?_
                                    refine r_dup rfl ?_
                                    refine q_getI (Sh.int hI4700.1 kx_231 rfl) v4691 (((gI_sI_ne (by decide)).trans ((hF4685.1 231 45 mf_X11_allCome_231_231_45).trans ((hF4678.1 231 45 mf_X11_swapAt_231_231_45).trans ((hF4671.1 231 45 mf_X11_swapAt_231_231_45).trans (hF4664.1 231 45 mf_X11_asIs_231_231_45))))).trans hv4691) ?_
                                    refine r_iconst 1 rfl ?_
                                    refine q_iadd (v4691.toInt + 1) rfl (by omega) (fun v4702 hv4702 => ?_)
                                    refine q_putI (Sh.int hI4700.1 kx_231 rfl) rfl ?_
                                    have hI4703 := HI.wI0 hI4700 kx_231 rfl (p := 231) (b := 45) (v := v4702) rfl
                                    have hF4704 := Fr.wI (p := 231) (b := 45) (v := v4702) hF4701 rfl
                                    refine Ar.fall 235 rfl ?_
                                    refine At.enter rfl ?_
                                    refine q_iinc (w_p1 (by decide) (Or.inr rfl) (w_p1 (by decide) (Or.inr rfl) (w_p1 (by decide) (Or.inr rfl) (w_p1 (by decide) (Or.inr rfl) (w_p1 (by decide) (Or.inr rfl) (w_p1 (by decide) (Or.inr rfl) e4626)))))) (x4615.toInt + 1) rfl (by omega) (fun v4705 hv4705 => ?_)
                                    refine r_goto ?_
                                    exact ih4621 (20736 - v4705.toInt) _ _ ⟨v4705, by first | rfl | omega, hI4703, hF4704, (w_p1 (by decide) (Or.inr rfl) (w_p1 (by decide) (Or.inr rfl) (w_p1 (by decide) (Or.inr rfl) (w_p1 (by decide) (Or.inr rfl) (w_p1 (by decide) (Or.inr rfl) (w_p1 (by decide) (Or.inr rfl) (w_p1 (by decide) (Or.inr rfl) e4622))))))), (w_p1 (by decide) (Or.inr rfl) (w_p1 (by decide) (Or.inr rfl) (w_p1 (by decide) (Or.inr rfl) (w_p1 (by decide) (Or.inr rfl) (w_p1 (by decide) (Or.inr rfl) (w_p1 (by decide) (Or.inr rfl) (w_p1 (by decide) (Or.inr rfl) e4623))))))), (w_p1 (by decide) (Or.inr rfl) (w_p1 (by decide) (Or.inr rfl) (w_p1 (by decide) (Or.inr rfl) (w_p1 (by decide) (Or.inr rfl) (w_p1 (by decide) (Or.inr rfl) (w_p1 (by decide) (Or.inr rfl) (w_p1 (by decide) (Or.inr rfl) e4624))))))), (w_p1 (by decide) (Or.inr rfl) (w_p1 (by decide) (Or.inr rfl) (w_p1 (by decide) (Or.inr rfl) (w_p1 (by decide) (Or.inr rfl) (w_p1 (by decide) (Or.inr rfl) (w_p1 (by decide) (Or.inr rfl) (w_p1 (by decide) (Or.inr rfl) e4625))))))), (w_e1 _ _ _), by omega⟩ ⟨by omega, by omega⟩
    · have c3922_ : a2.toInt = 1 := en_i_ne_f c3922
      refine At.enter rfl ?_
      refine r_sipush 144 rfl ?_
      refine r_goto ?_
      refine At.enter rfl ?_
      refine r_istore_n ([(3, .int 144), (0, .ref 231), (1, .int a1), (2, .int a2)]) rfl ?_
      refine r_iconst 0 rfl ?_
      refine r_istore ([(4, .int 0), (3, .int 144), (0, .ref 231), (1, .int a1), (2, .int a2)]) rfl ?_
      refine Ar.fall 36 rfl ?_
      have z_5665 : (0 : Int32).toInt = 0 := rfl
      refine w_loopI (fun n_ l_ g_ => ∃ x5652 : Int32, n_ = 144 - x5652.toInt ∧ HI g_ ∧ Fr F_X11_findSwaps_231 A_X11_findSwaps_231 g0 g_ ∧ en_get 0 l_ = some (.ref 231) ∧ en_get 1 l_ = some (.int a1) ∧ en_get 2 l_ = some (.int a2) ∧ en_get 3 l_ = some (.int 144) ∧ en_get 4 l_ = some (.int x5652) ∧ (0 ≤ x5652.toInt ∧ x5652.toInt ≤ 144)) ?_ (144 - 0) ⟨0, by first | rfl | omega, hI3919, hF3920, rfl, rfl, rfl, rfl, rfl, by decide⟩
      rintro n5657 l5656 g5653 ⟨x5652, hm5666, hI5654, hF5655, e5659, e5660, e5661, e5662, e5663, r5664⟩ ih5658
      refine At.enter rfl ?_
      refine r_iload e5663 ?_
      refine r_iload_n e5662 ?_
      refine r_ics 42 rfl (fun c5667 => ?_) (fun c5667 => ?_)
      · have c5667_ : x5652.toInt ≥ 144 := en_i_ge_t c5667
        refine At.enter rfl ?_
        refine r_vret ?_
        exact ⟨_, rfl, hI5654, hF5655, rfl⟩
      · have c5667_ : x5652.toInt < 144 := en_i_ge_f c5667
        refine At.enter rfl ?_
        refine r_iload e5663 ?_
        refine r_iload_n e5661 ?_
        refine r_iconst 2 rfl ?_
        refine r_ics 49 rfl (fun c5668 => ?_) (fun c5668 => ?_)
        · have c5668_ : a2.toInt ≠ 2 := en_i_ne_t c5668
          refine At.enter rfl ?_
          refine r_bipush 12 rfl ?_
          refine Ar.fall 57 rfl ?_
          refine At.enter rfl ?_
          refine q_idiv 12 rfl (by decide) (by omega) (fun v5669 hv5669 => ?_)
          refine r_istore _ rfl ?_
          refine r_iload (w_p1 (by decide) (Or.inr rfl) e5663) ?_
          refine r_iload_n (w_p1 (by decide) (Or.inr rfl) e5661) ?_
          refine r_iconst 2 rfl ?_
          refine r_ics 67 rfl (fun c5670 => ?_) (fun c5670 => ?_)
          · have c5670_ : a2.toInt ≠ 2 := en_i_ne_t c5670
            refine At.enter rfl ?_
            refine r_iconst 1 rfl ?_
            refine Ar.fall 74 rfl ?_
            refine At.enter rfl ?_
            refine q_idiv 1 rfl (by decide) (by omega) (fun v5671 hv5671 => ?_)
            refine r_bipush 12 rfl ?_
            refine q_irem 12 rfl (by decide) (by omega) (fun v5672 hv5672 => ?_)
            refine r_istore _ rfl ?_
            refine r_iload (w_p1 (by decide) (Or.inr rfl) (w_p1 (by decide) (Or.inr rfl) e5663)) ?_
            refine r_bipush 12 rfl ?_
            refine q_idiv 12 rfl (by decide) (by omega) (fun v5673 hv5673 => ?_)
            refine r_bipush 12 rfl ?_
            refine q_irem 12 rfl (by decide) (by omega) (fun v5674 hv5674 => ?_)
            refine r_istore _ rfl ?_
            refine r_iload (w_p1 (by decide) (Or.inr rfl) (w_p1 (by decide) (Or.inr rfl) (w_p1 (by decide) (Or.inr rfl) e5663))) ?_
            refine r_bipush 12 rfl ?_
            refine q_irem 12 rfl (by decide) (by omega) (fun v5675 hv5675 => ?_)
            refine r_istore _ rfl ?_
            refine r_iload_n (w_p1 (by decide) (Or.inr rfl) (w_p1 (by decide) (Or.inr rfl) (w_p1 (by decide) (Or.inr rfl) (w_p1 (by decide) (Or.inr rfl) e5661)))) ?_
            refine r_ifs 101 rfl (fun c5676 => ?_) (fun c5676 => ?_)
            · have c5676_ : a2.toInt = 0 := en_k_eq_t c5676
              exfalso; omega
            · have c5676_ : a2.toInt ≠ 0 := en_k_eq_f c5676
              refine At.enter rfl ?_
              refine r_iload (w_p1 (by decide) (Or.inr rfl) (w_p1 (by decide) (Or.inr rfl) (w_p1 (by decide) (Or.inr rfl) (w_e1 _ _ _)))) ?_
              refine r_iload (w_p1 (by decide) (Or.inr rfl) (w_p1 (by decide) (Or.inr rfl) (w_e1 _ _ _))) ?_
              have bv5678 := q_bnd v5669
              have bv5679 := q_bnd v5672
              refine r_ics 108 rfl (fun c5677 => ?_) (fun c5677 => ?_)
              · have c5677_ : v5669.toInt ≥ v5672.toInt := en_i_ge_t c5677
                refine At.enter rfl ?_
                refine r_iconst 0 rfl ?_
                refine Ar.fall 122 rfl ?_
                refine At.enter rfl ?_
                refine r_istore _ rfl ?_
                refine r_iload (w_e1 _ _ _) ?_
                refine r_ift (by decide) ?_
                refine At.enter rfl ?_
                refine r_iconst 0 rfl ?_
                refine Ar.fall 155 rfl ?_
                refine At.enter rfl ?_
                refine r_istore _ rfl ?_
                refine r_iload (w_e1 _ _ _) ?_
                refine r_ift (by decide) ?_
                refine At.enter rfl ?_
                refine q_iinc (w_p1 (by decide) (Or.inr rfl) (w_p1 (by decide) (Or.inr rfl) (w_p1 (by decide) (Or.inr rfl) (w_p1 (by decide) (Or.inr rfl) (w_p1 (by decide) (Or.inr rfl) (w_p1 (by decide) (Or.inr rfl) e5663)))))) (x5652.toInt + 1) rfl (by omega) (fun v5680 hv5680 => ?_)
                refine r_goto ?_
                exact ih5658 (144 - v5680.toInt) _ _ ⟨v5680, by first | rfl | omega, hI5654, hF5655, (w_p1 (by decide) (Or.inr rfl) (w_p1 (by decide) (Or.inr rfl) (w_p1 (by decide) (Or.inr rfl) (w_p1 (by decide) (Or.inr rfl) (w_p1 (by decide) (Or.inr rfl) (w_p1 (by decide) (Or.inr rfl) (w_p1 (by decide) (Or.inr rfl) e5659))))))), (w_p1 (by decide) (Or.inr rfl) (w_p1 (by decide) (Or.inr rfl) (w_p1 (by decide) (Or.inr rfl) (w_p1 (by decide) (Or.inr rfl) (w_p1 (by decide) (Or.inr rfl) (w_p1 (by decide) (Or.inr rfl) (w_p1 (by decide) (Or.inr rfl) e5660))))))), (w_p1 (by decide) (Or.inr rfl) (w_p1 (by decide) (Or.inr rfl) (w_p1 (by decide) (Or.inr rfl) (w_p1 (by decide) (Or.inr rfl) (w_p1 (by decide) (Or.inr rfl) (w_p1 (by decide) (Or.inr rfl) (w_p1 (by decide) (Or.inr rfl) e5661))))))), (w_p1 (by decide) (Or.inr rfl) (w_p1 (by decide) (Or.inr rfl) (w_p1 (by decide) (Or.inr rfl) (w_p1 (by decide) (Or.inr rfl) (w_p1 (by decide) (Or.inr rfl) (w_p1 (by decide) (Or.inr rfl) (w_p1 (by decide) (Or.inr rfl) e5662))))))), (w_e1 _ _ _), by omega⟩ ⟨by omega, by omega⟩
              · have c5677_ : v5669.toInt < v5672.toInt := en_i_ge_f c5677
                refine At.enter rfl ?_
                refine r_aload_n (w_p1 (by decide) (Or.inr rfl) (w_p1 (by decide) (Or.inr rfl) (w_p1 (by decide) (Or.inr rfl) (w_p1 (by decide) (Or.inr rfl) e5659)))) ?_
                refine r_iload (w_p1 (by decide) (Or.inr rfl) (w_p1 (by decide) (Or.inr rfl) (w_e1 _ _ _))) ?_
                refine q_inlV 114 rfl [.ref 231, .int v5672] [] (Nat.le_of_ble_eq_true rfl) rfl ?_
                refine Ev.mk rfl rfl ⟨Nat.le_of_ble_eq_true rfl, Or.inr (q_rc hI5654.1 kx_231 rfl)⟩ ?_
                show At _ none _ _ (0, [(0, .ref 231), (1, .int v5672)], [], (_, _)) _
                refine At.enter rfl ?_
                refine r_iload_n rfl ?_
                refine q_i2l (fun v5681 hv5681 => ?_)
                refine r_lconst 0 rfl ?_
                refine r_aload_n rfl ?_
                refine q_getR (Sh.ref hI5654.1 kx_231 rfl) ?_
                refine r_iconst 0 rfl ?_
                obtain ⟨v5682, hv5682⟩ : ∃ v, eA g0 233 0 = v := ⟨_, rfl⟩
                have tv5682 := congrArg Int32.toInt hv5682
                have wv5682 := HI.t0 hI0
                rw [hv5682] at wv5682
                refine q_iald (Sh.arr hI5654.1 ka_233) 0 rfl (by decide) v5682 ((eA_c (hF5655.2.1 233 (by decide))).trans hv5682) ?_
                refine q_i2l (fun v5683 hv5683 => ?_)
                refine r_lconst 1 rfl ?_
                refine q_lsub (v5683.toInt - 1) rfl (by omega) (fun v5684 hv5684 => ?_)
                refine q_inlS 15 rfl [.long v5681, .long 0, .long v5684] [] (Nat.le_of_ble_eq_true rfl) rfl ?_
                refine Ev.mk rfl rfl ⟨Nat.le_of_ble_eq_true rfl, Or.inl rfl⟩ ?_
                show At _ none _ _ (0, [(0, .long v5681), (2, .long 0), (4, .long v5684)], [], (_, _)) _
                refine At.enter rfl ?_
                refine r_lload_n rfl ?_
                refine r_lload_n rfl ?_
                refine r_lcmp _ rfl ?_
                refine r_ifs 6 rfl (fun c5685 => ?_) (fun c5685 => ?_)
                · have c5685_ : v5681.toInt < 0 := en_j_lt_t c5685
                  exfalso; omega
                · have c5685_ : v5681.toInt ≥ 0 := en_j_lt_f c5685
                  refine At.enter rfl ?_
                  refine r_lload_n rfl ?_
                  refine r_lload rfl ?_
                  refine r_lcmp _ rfl ?_
                  refine r_ifs 13 rfl (fun c5686 => ?_) (fun c5686 => ?_)
                  · have c5686_ : v5681.toInt > v5684.toInt := en_j_gt_t c5686
                    refine At.enter rfl ?_
                    refine r_iconst 0 rfl ?_
                    refine Ar.fall 18 rfl ?_
                    refine At.enter rfl ?_
                    refine q_iretz (by decide) ?_
                    refine At.enter rfl ?_
                    refine q_iretz (by decide) ?_
                    refine At.enter rfl ?_
                    refine r_ift (by decide) ?_
                    refine At.enter rfl ?_
                    refine r_iconst 0 rfl ?_
                    refine Ar.fall 122 rfl ?_
                    refine At.enter rfl ?_
                    refine r_istore _ rfl ?_
                    refine r_iload (w_e1 _ _ _) ?_
                    refine r_ift (by decide) ?_
                    refine At.enter rfl ?_
                    refine r_iconst 0 rfl ?_
                    refine Ar.fall 155 rfl ?_
                    refine At.enter rfl ?_
                    refine r_istore _ rfl ?_
                    refine r_iload (w_e1 _ _ _) ?_
                    refine r_ift (by decide) ?_
                    refine At.enter rfl ?_
                    refine q_iinc (w_p1 (by decide) (Or.inr rfl) (w_p1 (by decide) (Or.inr rfl) (w_p1 (by decide) (Or.inr rfl) (w_p1 (by decide) (Or.inr rfl) (w_p1 (by decide) (Or.inr rfl) (w_p1 (by decide) (Or.inr rfl) e5663)))))) (x5652.toInt + 1) rfl (by omega) (fun v5687 hv5687 => ?_)
                    refine r_goto ?_
                    exact ih5658 (144 - v5687.toInt) _ _ ⟨v5687, by first | rfl | omega, hI5654, hF5655, (w_p1 (by decide) (Or.inr rfl) (w_p1 (by decide) (Or.inr rfl) (w_p1 (by decide) (Or.inr rfl) (w_p1 (by decide) (Or.inr rfl) (w_p1 (by decide) (Or.inr rfl) (w_p1 (by decide) (Or.inr rfl) (w_p1 (by decide) (Or.inr rfl) e5659))))))), (w_p1 (by decide) (Or.inr rfl) (w_p1 (by decide) (Or.inr rfl) (w_p1 (by decide) (Or.inr rfl) (w_p1 (by decide) (Or.inr rfl) (w_p1 (by decide) (Or.inr rfl) (w_p1 (by decide) (Or.inr rfl) (w_p1 (by decide) (Or.inr rfl) e5660))))))), (w_p1 (by decide) (Or.inr rfl) (w_p1 (by decide) (Or.inr rfl) (w_p1 (by decide) (Or.inr rfl) (w_p1 (by decide) (Or.inr rfl) (w_p1 (by decide) (Or.inr rfl) (w_p1 (by decide) (Or.inr rfl) (w_p1 (by decide) (Or.inr rfl) e5661))))))), (w_p1 (by decide) (Or.inr rfl) (w_p1 (by decide) (Or.inr rfl) (w_p1 (by decide) (Or.inr rfl) (w_p1 (by decide) (Or.inr rfl) (w_p1 (by decide) (Or.inr rfl) (w_p1 (by decide) (Or.inr rfl) (w_p1 (by decide) (Or.inr rfl) e5662))))))), (w_e1 _ _ _), by omega⟩ ⟨by omega, by omega⟩
                  · have c5686_ : v5681.toInt ≤ v5684.toInt := en_j_gt_f c5686
                    refine At.enter rfl ?_
                    refine r_iconst 1 rfl ?_
                    refine r_goto ?_
                    refine At.enter rfl ?_
                    refine q_iretz (by decide) ?_
                    refine At.enter rfl ?_
                    refine q_iretz (by decide) ?_
                    refine At.enter rfl ?_
                    refine r_iff 117 rfl (by decide) ?_
                    refine At.enter rfl ?_
                    refine r_iconst 1 rfl ?_
                    refine r_goto ?_
                    refine At.enter rfl ?_
                    refine r_istore _ rfl ?_
                    refine r_iload (w_e1 _ _ _) ?_
                    refine r_iff 129 rfl (by decide) ?_
                    refine At.enter rfl ?_
                    refine r_iload_n (w_p1 (by decide) (Or.inr rfl) (w_p1 (by decide) (Or.inr rfl) (w_p1 (by decide) (Or.inr rfl) (w_p1 (by decide) (Or.inr rfl) (w_p1 (by decide) (Or.inr rfl) e5661))))) ?_
                    refine r_iconst 2 rfl ?_
                    refine r_ics 134 rfl (fun c5688 => ?_) (fun c5688 => ?_)
                    · have c5688_ : a2.toInt < 2 := en_i_lt_t c5688
                      refine At.enter rfl ?_
                      refine r_iconst 1 rfl ?_
                      refine r_goto ?_
                      refine At.enter rfl ?_
                      refine r_istore _ rfl ?_
                      refine r_iload (w_e1 _ _ _) ?_
                      refine r_iff 162 rfl (by decide) ?_
                      refine At.enter rfl ?_
                      refine r_aload_n (w_p1 (by decide) (Or.inr rfl) (w_p1 (by decide) (Or.inr rfl) (w_p1 (by decide) (Or.inr rfl) (w_p1 (by decide) (Or.inr rfl) (w_p1 (by decide) (Or.inr rfl) (w_p1 (by decide) (Or.inr rfl) e5659)))))) ?_
                      refine r_callV 166 rfl [.ref 231] [] (Nat.le_of_ble_eq_true rfl) rfl (T_X11_asIs_231 _ hI5654) ?_
                      rintro _ _ ⟨g5689, rfl, hI5690, hF5691, rfl, hr5693⟩
                      refine At.stn ?_
                      have hF5694 := Fr.tr hF5655 hF5691 rfl rfl
                      refine At.enter rfl ?_
                      refine r_iload_n (w_p1 (by decide) (Or.inr rfl) (w_p1 (by decide) (Or.inr rfl) (w_p1 (by decide) (Or.inr rfl) (w_p1 (by decide) (Or.inr rfl) (w_p1 (by decide) (Or.inr rfl) (w_p1 (by decide) (Or.inr rfl) e5661)))))) ?_
                      refine r_ifs 170 rfl (fun c5695 => ?_) (fun c5695 => ?_)
                      · have c5695_ : a2.toInt ≤ 0 := en_k_le_t c5695
                        exfalso; omega
                      · have c5695_ : a2.toInt > 0 := en_k_le_f c5695
                        refine At.enter rfl ?_
                        refine r_aload_n (w_p1 (by decide) (Or.inr rfl) (w_p1 (by decide) (Or.inr rfl) (w_p1 (by decide) (Or.inr rfl) (w_p1 (by decide) (Or.inr rfl) (w_p1 (by decide) (Or.inr rfl) (w_p1 (by decide) (Or.inr rfl) e5659)))))) ?_
                        refine r_iload (w_p1 (by decide) (Or.inr rfl) (w_p1 (by decide) (Or.inr rfl) (w_p1 (by decide) (Or.inr rfl) (w_p1 (by decide) (Or.inr rfl) (w_p1 (by decide) (Or.inr rfl) (w_e1 _ _ _)))))) ?_
                        refine r_iload (w_p1 (by decide) (Or.inr rfl) (w_p1 (by decide) (Or.inr rfl) (w_p1 (by decide) (Or.inr rfl) (w_p1 (by decide) (Or.inr rfl) (w_e1 _ _ _))))) ?_
                        refine r_callV 178 rfl [.ref 231, .int v5669, .int v5672] [] (Nat.le_of_ble_eq_true rfl) rfl (T_X11_swapAt_231 _ hI5690 v5669 (by omega) v5672 (by omega)) ?_
                        rintro _ _ ⟨g5696, rfl, hI5697, hF5698, rfl⟩
                        refine At.stn ?_
                        have hF5701 := Fr.tr hF5694 hF5698 rfl rfl
                        refine At.enter rfl ?_
                        refine r_iload_n (w_p1 (by decide) (Or.inr rfl) (w_p1 (by decide) (Or.inr rfl) (w_p1 (by decide) (Or.inr rfl) (w_p1 (by decide) (Or.inr rfl) (w_p1 (by decide) (Or.inr rfl) (w_p1 (by decide) (Or.inr rfl) e5661)))))) ?_
                        refine r_iconst 1 rfl ?_
                        refine r_ics 183 rfl (fun c5702 => ?_) (fun c5702 => ?_)
                        · have c5702_ : a2.toInt ≤ 1 := en_i_le_t c5702
                          refine At.enter rfl ?_
                          refine r_aload_n (w_p1 (by decide) (Or.inr rfl) (w_p1 (by decide) (Or.inr rfl) (w_p1 (by decide) (Or.inr rfl) (w_p1 (by decide) (Or.inr rfl) (w_p1 (by decide) (Or.inr rfl) (w_p1 (by decide) (Or.inr rfl) e5659)))))) ?_
                          refine r_iload_n (w_p1 (by decide) (Or.inr rfl) (w_p1 (by decide) (Or.inr rfl) (w_p1 (by decide) (Or.inr rfl) (w_p1 (by decide) (Or.inr rfl) (w_p1 (by decide) (Or.inr rfl) (w_p1 (by decide) (Or.inr rfl) e5660)))))) ?_
                          refine r_aload_n (w_p1 (by decide) (Or.inr rfl) (w_p1 (by decide) (Or.inr rfl) (w_p1 (by decide) (Or.inr rfl) (w_p1 (by decide) (Or.inr rfl) (w_p1 (by decide) (Or.inr rfl) (w_p1 (by decide) (Or.inr rfl) e5659)))))) ?_
                          refine q_getR (Sh.ref hI5697.1 kx_231 rfl) ?_
                          refine r_iconst 5 rfl ?_
                          obtain ⟨v5703, hv5703⟩ : ∃ v, eA g0 233 5 = v := ⟨_, rfl⟩
                          have wv5703 := HI.t5 hI0
                          rw [hv5703] at wv5703
                          refine q_iald (Sh.arr hI5697.1 ka_233) 5 rfl (by decide) v5703 ((eA_c ((hF5698.2.1 233 ma_X11_swapAt_231_233).trans ((hF5691.2.1 233 ma_X11_asIs_231_233).trans (hF5655.2.1 233 (by decide))))).trans hv5703) ?_
                          refine r_callV 202 rfl [.ref 231, .int a1, .int v5703] [] (Nat.le_of_ble_eq_true rfl) rfl (T_X11_allCome_231 _ hI5697 a1 v5703) ?_
                          rintro _ _ ⟨g5704, rfl, hI5705, hF5706, v5707, rfl, hr5708⟩
                          refine At.sti ?_
                          have hF5709 := Fr.tr hF5701 hF5706 rfl rfl
                          refine At.enter rfl ?_
                          refine r_ifs 205 rfl (fun c5710 => ?_) (fun c5710 => ?_)
                          · have c5710_ : v5707.toInt = 0 := en_k_eq_t c5710
                            refine At.enter rfl ?_
                            refine q_iinc (w_p1 (by decide) (Or.inr rfl) (w_p1 (by decide) (Or.inr rfl) (w_p1 (by decide) (Or.inr rfl) (w_p1 (by decide) (Or.inr rfl) (w_p1 (by decide) (Or.inr rfl) (w_p1 (by decide) (Or.inr rfl) e5663)))))) (x5652.toInt + 1) rfl (by omega) (fun v5711 hv5711 => ?_)
                            refine r_goto ?_
                            exact ih5658 (144 - v5711.toInt) _ _ ⟨v5711, by first | rfl | omega, hI5705, hF5709, (w_p1 (by decide) (Or.inr rfl) (w_p1 (by decide) (Or.inr rfl) (w_p1 (by decide) (Or.inr rfl) (w_p1 (by decide) (Or.inr rfl) (w_p1 (by decide) (Or.inr rfl) (w_p1 (by decide) (Or.inr rfl) (w_p1 (by decide) (Or.inr rfl) e5659))))))), (w_p1 (by decide) (Or.inr rfl) (w_p1 (by decide) (Or.inr rfl) (w_p1 (by decide) (Or.inr rfl) (w_p1 (by decide) (Or.inr rfl) (w_p1 (by decide) (Or.inr rfl) (w_p1 (by decide) (Or.inr rfl) (w_p1 (by decide) (Or.inr rfl) e5660))))))), (w_p1 (by decide) (Or.inr rfl) (w_p1 (by decide) (Or.inr rfl) (w_p1 (by decide) (Or.inr rfl) (w_p1 (by decide) (Or.inr rfl) (w_p1 (by decide) (Or.inr rfl) (w_p1 (by decide) (Or.inr rfl) (w_p1 (by decide) (Or.inr rfl) e5661))))))), (w_p1 (by decide) (Or.inr rfl) (w_p1 (by decide) (Or.inr rfl) (w_p1 (by decide) (Or.inr rfl) (w_p1 (by decide) (Or.inr rfl) (w_p1 (by decide) (Or.inr rfl) (w_p1 (by decide) (Or.inr rfl) (w_p1 (by decide) (Or.inr rfl) e5662))))))), (w_e1 _ _ _), by omega⟩ ⟨by omega, by omega⟩
                          · have c5710_ : v5707.toInt ≠ 0 := en_k_eq_f c5710
                            refine At.enter rfl ?_
                            refine r_aload_n (w_p1 (by decide) (Or.inr rfl) (w_p1 (by decide) (Or.inr rfl) (w_p1 (by decide) (Or.inr rfl) (w_p1 (by decide) (Or.inr rfl) (w_p1 (by decide) (Or.inr rfl) (w_p1 (by decide) (Or.inr rfl) e5659)))))) ?_
                            refine r_aload_n (w_p1 (by decide) (Or.inr rfl) (w_p1 (by decide) (Or.inr rfl) (w_p1 (by decide) (Or.inr rfl) (w_p1 (by decide) (Or.inr rfl) (w_p1 (by decide) (Or.inr rfl) (w_p1 (by decide) (Or.inr rfl) e5659)))))) ?_
                            obtain ⟨v5712, hv5712⟩ : ∃ v, gI g5653 231 45 = v := ⟨_, rfl⟩
                            refine q_getI (Sh.int hI5705.1 kx_231 rfl) v5712 (((hF5706.1 231 45 mf_X11_allCome_231_231_45).trans ((hF5698.1 231 45 mf_X11_swapAt_231_231_45).trans (hF5691.1 231 45 mf_X11_asIs_231_231_45))).trans hv5712) ?_
                            refine r_ifs 213 rfl (fun c5713 => ?_) (fun c5713 => ?_)
                            · have c5713_ : v5712.toInt ≠ 0 := en_k_ne_t c5713
                              refine At.enter rfl ?_
                              refine r_aload_n (w_p1 (by decide) (Or.inr rfl) (w_p1 (by decide) (Or.inr rfl) (w_p1 (by decide) (Or.inr rfl) (w_p1 (by decide) (Or.inr rfl) (w_p1 (by decide) (Or.inr rfl) (w_p1 (by decide) (Or.inr rfl) e5659)))))) ?_
                              obtain ⟨v5714, hv5714⟩ : ∃ v, gI g5653 231 46 = v := ⟨_, rfl⟩
                              refine q_getI (Sh.int hI5705.1 kx_231 rfl) v5714 (((hF5706.1 231 46 mf_X11_allCome_231_231_46).trans ((hF5698.1 231 46 mf_X11_swapAt_231_231_46).trans (hF5691.1 231 46 mf_X11_asIs_231_231_46))).trans hv5714) ?_
                              refine Ar.fall 222 rfl ?_
                              refine At.enter rfl ?_
                              refine q_putI (Sh.int hI5705.1 kx_231 rfl) rfl ?_
                              have hI5715 := HI.wI0 hI5705 kx_231 rfl (p := 231) (b := 46) (v := v5714) rfl
                              have hF5716 := Fr.wI (p := 231) (b := 46) (v := v5714) hF5709 rfl
                              refine r_aload_n (w_p1 (by decide) (Or.inr rfl) (w_p1 (by decide) (Or.inr rfl) (w_p1 (by decide) (Or.inr rfl) (w_p1 (by decide) (Or.inr rfl) (w_p1 (by decide) (Or.inr rfl) (w_p1 (by decide) (Or.inr rfl) e5659)))))) ?_
                              refine r_dup rfl ?_
                              refine q_getI (Sh.int hI5715.1 kx_231 rfl) v5712 (((gI_sI_ne (by decide)).trans ((hF5706.1 231 45 mf_X11_allCome_231_231_45).trans ((hF5698.1 231 45 mf_X11_swapAt_231_231_45).trans (hF5691.1 231 45 mf_X11_asIs_231_231_45)))).trans hv5712) ?_
                              refine r_iconst 1 rfl ?_
                              refine q_iaddO (fun v5717 _ => ?_)
                              refine q_putI (Sh.int hI5715.1 kx_231 rfl) rfl ?_
                              have hI5718 := HI.wI0 hI5715 kx_231 rfl (p := 231) (b := 45) (v := v5717) rfl
                              have hF5719 := Fr.wI (p := 231) (b := 45) (v := v5717) hF5716 rfl
                              refine Ar.fall 235 rfl ?_
                              refine At.enter rfl ?_
                              refine q_iinc (w_p1 (by decide) (Or.inr rfl) (w_p1 (by decide) (Or.inr rfl) (w_p1 (by decide) (Or.inr rfl) (w_p1 (by decide) (Or.inr rfl) (w_p1 (by decide) (Or.inr rfl) (w_p1 (by decide) (Or.inr rfl) e5663)))))) (x5652.toInt + 1) rfl (by omega) (fun v5720 hv5720 => ?_)
                              refine r_goto ?_
                              exact ih5658 (144 - v5720.toInt) _ _ ⟨v5720, by first | rfl | omega, hI5718, hF5719, (w_p1 (by decide) (Or.inr rfl) (w_p1 (by decide) (Or.inr rfl) (w_p1 (by decide) (Or.inr rfl) (w_p1 (by decide) (Or.inr rfl) (w_p1 (by decide) (Or.inr rfl) (w_p1 (by decide) (Or.inr rfl) (w_p1 (by decide) (Or.inr rfl) e5659))))))), (w_p1 (by decide) (Or.inr rfl) (w_p1 (by decide) (Or.inr rfl) (w_p1 (by decide) (Or.inr rfl) (w_p1 (by decide) (Or.inr rfl) (w_p1 (by decide) (Or.inr rfl) (w_p1 (by decide) (Or.inr rfl) (w_p1 (by decide) (Or.inr rfl) e5660))))))), (w_p1 (by decide) (Or.inr rfl) (w_p1 (by decide) (Or.inr rfl) (w_p1 (by decide) (Or.inr rfl) (w_p1 (by decide) (Or.inr rfl) (w_p1 (by decide) (Or.inr rfl) (w_p1 (by decide) (Or.inr rfl) (w_p1 (by decide) (Or.inr rfl) e5661))))))), (w_p1 (by decide) (Or.inr rfl) (w_p1 (by decide) (Or.inr rfl) (w_p1 (by decide) (Or.inr rfl) (w_p1 (by decide) (Or.inr rfl) (w_p1 (by decide) (Or.inr rfl) (w_p1 (by decide) (Or.inr rfl) (w_p1 (by decide) (Or.inr rfl) e5662))))))), (w_e1 _ _ _), by omega⟩ ⟨by omega, by omega⟩
                            · have c5713_ : v5712.toInt = 0 := en_k_ne_f c5713
                              refine At.enter rfl ?_
                              refine r_iload (w_p1 (by decide) (Or.inr rfl) (w_p1 (by decide) (Or.inr rfl) (w_p1 (by decide) (Or.inr rfl) (w_p1 (by decide) (Or.inr rfl) (w_p1 (by decide) (Or.inr rfl) (w_p1 (by decide) (Or.inr rfl) e5663)))))) ?_
                              refine r_goto ?_
                              refine At.enter rfl ?_
                              refine q_putI (Sh.int hI5705.1 kx_231 rfl) rfl ?_
                              have hI5721 := HI.wI0 hI5705 kx_231 rfl (p := 231) (b := 46) (v := x5652) rfl
                              have hF5722 := Fr.wI (p := 231) (b := 46) (v := x5652) hF5709 rfl
                              refine r_aload_n (w_p1 (by decide) (Or.inr rfl) (w_p1 (by decide) (Or.inr rfl) (w_p1 (by decide) (Or.inr rfl) (w_p1 (by decide) (Or.inr rfl) (w_p1 (by decide) (Or.inr rfl) (w_p1 (by decide) (Or.inr rfl) e5659)))))) ?_
                              refine r_dup rfl ?_
                              refine q_getI (Sh.int hI5721.1 kx_231 rfl) v5712 (((gI_sI_ne (by decide)).trans ((hF5706.1 231 45 mf_X11_allCome_231_231_45).trans ((hF5698.1 231 45 mf_X11_swapAt_231_231_45).trans (hF5691.1 231 45 mf_X11_asIs_231_231_45)))).trans hv5712) ?_
                              refine r_iconst 1 rfl ?_
                              refine q_iadd (v5712.toInt + 1) rfl (by omega) (fun v5723 hv5723 => ?_)
                              refine q_putI (Sh.int hI5721.1 kx_231 rfl) rfl ?_
                              have hI5724 := HI.wI0 hI5721 kx_231 rfl (p := 231) (b := 45) (v := v5723) rfl
                              have hF5725 := Fr.wI (p := 231) (b := 45) (v := v5723) hF5722 rfl
                              refine Ar.fall 235 rfl ?_
                              refine At.enter rfl ?_
                              refine q_iinc (w_p1 (by decide) (Or.inr rfl) (w_p1 (by decide) (Or.inr rfl) (w_p1 (by decide) (Or.inr rfl) (w_p1 (by decide) (Or.inr rfl) (w_p1 (by decide) (Or.inr rfl) (w_p1 (by decide) (Or.inr rfl) e5663)))))) (x5652.toInt + 1) rfl (by omega) (fun v5726 hv5726 => ?_)
                              refine r_goto ?_
                              exact ih5658 (144 - v5726.toInt) _ _ ⟨v5726, by first | rfl | omega, hI5724, hF5725, (w_p1 (by decide) (Or.inr rfl) (w_p1 (by decide) (Or.inr rfl) (w_p1 (by decide) (Or.inr rfl) (w_p1 (by decide) (Or.inr rfl) (w_p1 (by decide) (Or.inr rfl) (w_p1 (by decide) (Or.inr rfl) (w_p1 (by decide) (Or.inr rfl) e5659))))))), (w_p1 (by decide) (Or.inr rfl) (w_p1 (by decide) (Or.inr rfl) (w_p1 (by decide) (Or.inr rfl) (w_p1 (by decide) (Or.inr rfl) (w_p1 (by decide) (Or.inr rfl) (w_p1 (by decide) (Or.inr rfl) (w_p1 (by decide) (Or.inr rfl) e5660))))))), (w_p1 (by decide) (Or.inr rfl) (w_p1 (by decide) (Or.inr rfl) (w_p1 (by decide) (Or.inr rfl) (w_p1 (by decide) (Or.inr rfl) (w_p1 (by decide) (Or.inr rfl) (w_p1 (by decide) (Or.inr rfl) (w_p1 (by decide) (Or.inr rfl) e5661))))))), (w_p1 (by decide) (Or.inr rfl) (w_p1 (by decide) (Or.inr rfl) (w_p1 (by decide) (Or.inr rfl) (w_p1 (by decide) (Or.inr rfl) (w_p1 (by decide) (Or.inr rfl) (w_p1 (by decide) (Or.inr rfl) (w_p1 (by decide) (Or.inr rfl) e5662))))))), (w_e1 _ _ _), by omega⟩ ⟨by omega, by omega⟩
                        · have c5702_ : a2.toInt > 1 := en_i_le_f c5702
                          exfalso; omega
                    · have c5688_ : a2.toInt ≥ 2 := en_i_lt_f c5688
                      exfalso; omega
          · have c5670_ : a2.toInt = 2 := en_i_ne_f c5670
            exfalso; omega
        · have c5668_ : a2.toInt = 2 := en_i_ne_f c5668
          exfalso; omega
  · have c3921_ : a2.toInt = 0 := en_k_ne_f c3921
    refine At.enter rfl ?_
    refine r_iconst 1 rfl ?_
    refine r_goto ?_
    refine At.enter rfl ?_
    refine r_istore_n ([(3, .int 1), (0, .ref 231), (1, .int a1), (2, .int a2)]) rfl ?_
    refine r_iconst 0 rfl ?_
    refine r_istore ([(4, .int 0), (3, .int 1), (0, .ref 231), (1, .int a1), (2, .int a2)]) rfl ?_
    refine Ar.fall 36 rfl ?_
    have z_5830 : (0 : Int32).toInt = 0 := rfl
    refine w_loopI (fun n_ l_ g_ => ∃ x5817 : Int32, n_ = 1 - x5817.toInt ∧ HI g_ ∧ Fr F_X11_findSwaps_231 A_X11_findSwaps_231 g0 g_ ∧ en_get 0 l_ = some (.ref 231) ∧ en_get 1 l_ = some (.int a1) ∧ en_get 2 l_ = some (.int a2) ∧ en_get 3 l_ = some (.int 1) ∧ en_get 4 l_ = some (.int x5817) ∧ (0 ≤ x5817.toInt ∧ x5817.toInt ≤ 1)) ?_ (1 - 0) ⟨0, by first | rfl | omega, hI3919, hF3920, rfl, rfl, rfl, rfl, rfl, by decide⟩
    rintro n5822 l5821 g5818 ⟨x5817, hm5831, hI5819, hF5820, e5824, e5825, e5826, e5827, e5828, r5829⟩ ih5823
    refine At.enter rfl ?_
    refine r_iload e5828 ?_
    refine r_iload_n e5827 ?_
    refine r_ics 42 rfl (fun c5832 => ?_) (fun c5832 => ?_)
    · have c5832_ : x5817.toInt ≥ 1 := en_i_ge_t c5832
      refine At.enter rfl ?_
      refine r_vret ?_
      exact ⟨_, rfl, hI5819, hF5820, rfl⟩
    · have c5832_ : x5817.toInt < 1 := en_i_ge_f c5832
      refine At.enter rfl ?_
      refine r_iload e5828 ?_
      refine r_iload_n e5826 ?_
      refine r_iconst 2 rfl ?_
      refine r_ics 49 rfl (fun c5833 => ?_) (fun c5833 => ?_)
      · have c5833_ : a2.toInt ≠ 2 := en_i_ne_t c5833
        refine At.enter rfl ?_
        refine r_bipush 12 rfl ?_
        refine Ar.fall 57 rfl ?_
        refine At.enter rfl ?_
        refine q_idiv 12 rfl (by decide) (by omega) (fun v5834 hv5834 => ?_)
        refine r_istore _ rfl ?_
        refine r_iload (w_p1 (by decide) (Or.inr rfl) e5828) ?_
        refine r_iload_n (w_p1 (by decide) (Or.inr rfl) e5826) ?_
        refine r_iconst 2 rfl ?_
        refine r_ics 67 rfl (fun c5835 => ?_) (fun c5835 => ?_)
        · have c5835_ : a2.toInt ≠ 2 := en_i_ne_t c5835
          refine At.enter rfl ?_
          refine r_iconst 1 rfl ?_
          refine Ar.fall 74 rfl ?_
          refine At.enter rfl ?_
          refine q_idiv 1 rfl (by decide) (by omega) (fun v5836 hv5836 => ?_)
          refine r_bipush 12 rfl ?_
          refine q_irem 12 rfl (by decide) (by omega) (fun v5837 hv5837 => ?_)
          refine r_istore _ rfl ?_
          refine r_iload (w_p1 (by decide) (Or.inr rfl) (w_p1 (by decide) (Or.inr rfl) e5828)) ?_
          refine r_bipush 12 rfl ?_
          refine q_idiv 12 rfl (by decide) (by omega) (fun v5838 hv5838 => ?_)
          refine r_bipush 12 rfl ?_
          refine q_irem 12 rfl (by decide) (by omega) (fun v5839 hv5839 => ?_)
          refine r_istore _ rfl ?_
          refine r_iload (w_p1 (by decide) (Or.inr rfl) (w_p1 (by decide) (Or.inr rfl) (w_p1 (by decide) (Or.inr rfl) e5828))) ?_
          refine r_bipush 12 rfl ?_
          refine q_irem 12 rfl (by decide) (by omega) (fun v5840 hv5840 => ?_)
          refine r_istore _ rfl ?_
          refine r_iload_n (w_p1 (by decide) (Or.inr rfl) (w_p1 (by decide) (Or.inr rfl) (w_p1 (by decide) (Or.inr rfl) (w_p1 (by decide) (Or.inr rfl) e5826)))) ?_
          refine r_ifs 101 rfl (fun c5841 => ?_) (fun c5841 => ?_)
          · have c5841_ : a2.toInt = 0 := en_k_eq_t c5841
            refine At.enter rfl ?_
            refine r_iconst 1 rfl ?_
            refine r_goto ?_
            refine At.enter rfl ?_
            refine r_istore _ rfl ?_
            refine r_iload (w_e1 _ _ _) ?_
            refine r_iff 129 rfl (by decide) ?_
            refine At.enter rfl ?_
            refine r_iload_n (w_p1 (by decide) (Or.inr rfl) (w_p1 (by decide) (Or.inr rfl) (w_p1 (by decide) (Or.inr rfl) (w_p1 (by decide) (Or.inr rfl) (w_p1 (by decide) (Or.inr rfl) e5826))))) ?_
            refine r_iconst 2 rfl ?_
            refine r_ics 134 rfl (fun c5842 => ?_) (fun c5842 => ?_)
            · have c5842_ : a2.toInt < 2 := en_i_lt_t c5842
              refine At.enter rfl ?_
              refine r_iconst 1 rfl ?_
              refine r_goto ?_
              refine At.enter rfl ?_
              refine r_istore _ rfl ?_
              refine r_iload (w_e1 _ _ _) ?_
              refine r_iff 162 rfl (by decide) ?_
              refine At.enter rfl ?_
              refine r_aload_n (w_p1 (by decide) (Or.inr rfl) (w_p1 (by decide) (Or.inr rfl) (w_p1 (by decide) (Or.inr rfl) (w_p1 (by decide) (Or.inr rfl) (w_p1 (by decide) (Or.inr rfl) (w_p1 (by decide) (Or.inr rfl) e5824)))))) ?_
              refine r_callV 166 rfl [.ref 231] [] (Nat.le_of_ble_eq_true rfl) rfl (T_X11_asIs_231 _ hI5819) ?_
              rintro _ _ ⟨g5843, rfl, hI5844, hF5845, rfl, hr5847⟩
              refine At.stn ?_
              have hF5848 := Fr.tr hF5820 hF5845 rfl rfl
              refine At.enter rfl ?_
              refine r_iload_n (w_p1 (by decide) (Or.inr rfl) (w_p1 (by decide) (Or.inr rfl) (w_p1 (by decide) (Or.inr rfl) (w_p1 (by decide) (Or.inr rfl) (w_p1 (by decide) (Or.inr rfl) (w_p1 (by decide) (Or.inr rfl) e5826)))))) ?_
              refine r_ifs 170 rfl (fun c5849 => ?_) (fun c5849 => ?_)
              · have c5849_ : a2.toInt ≤ 0 := en_k_le_t c5849
                refine At.enter rfl ?_
                refine r_iload_n (w_p1 (by decide) (Or.inr rfl) (w_p1 (by decide) (Or.inr rfl) (w_p1 (by decide) (Or.inr rfl) (w_p1 (by decide) (Or.inr rfl) (w_p1 (by decide) (Or.inr rfl) (w_p1 (by decide) (Or.inr rfl) e5826)))))) ?_
                refine r_iconst 1 rfl ?_
                refine r_ics 183 rfl (fun c5850 => ?_) (fun c5850 => ?_)
                · have c5850_ : a2.toInt ≤ 1 := en_i_le_t c5850
                  refine At.enter rfl ?_
                  refine r_aload_n (w_p1 (by decide) (Or.inr rfl) (w_p1 (by decide) (Or.inr rfl) (w_p1 (by decide) (Or.inr rfl) (w_p1 (by decide) (Or.inr rfl) (w_p1 (by decide) (Or.inr rfl) (w_p1 (by decide) (Or.inr rfl) e5824)))))) ?_
                  refine r_iload_n (w_p1 (by decide) (Or.inr rfl) (w_p1 (by decide) (Or.inr rfl) (w_p1 (by decide) (Or.inr rfl) (w_p1 (by decide) (Or.inr rfl) (w_p1 (by decide) (Or.inr rfl) (w_p1 (by decide) (Or.inr rfl) e5825)))))) ?_
                  refine r_aload_n (w_p1 (by decide) (Or.inr rfl) (w_p1 (by decide) (Or.inr rfl) (w_p1 (by decide) (Or.inr rfl) (w_p1 (by decide) (Or.inr rfl) (w_p1 (by decide) (Or.inr rfl) (w_p1 (by decide) (Or.inr rfl) e5824)))))) ?_
                  refine q_getR (Sh.ref hI5844.1 kx_231 rfl) ?_
                  refine r_iconst 5 rfl ?_
                  obtain ⟨v5851, hv5851⟩ : ∃ v, eA g0 233 5 = v := ⟨_, rfl⟩
                  have wv5851 := HI.t5 hI0
                  rw [hv5851] at wv5851
                  refine q_iald (Sh.arr hI5844.1 ka_233) 5 rfl (by decide) v5851 ((eA_c ((hF5845.2.1 233 ma_X11_asIs_231_233).trans (hF5820.2.1 233 (by decide)))).trans hv5851) ?_
                  refine r_callV 202 rfl [.ref 231, .int a1, .int v5851] [] (Nat.le_of_ble_eq_true rfl) rfl (T_X11_allCome_231 _ hI5844 a1 v5851) ?_
                  rintro _ _ ⟨g5852, rfl, hI5853, hF5854, v5855, rfl, hr5856⟩
                  refine At.sti ?_
                  have hF5857 := Fr.tr hF5848 hF5854 rfl rfl
                  refine At.enter rfl ?_
                  refine r_ifs 205 rfl (fun c5858 => ?_) (fun c5858 => ?_)
                  · have c5858_ : v5855.toInt = 0 := en_k_eq_t c5858
                    refine At.enter rfl ?_
                    refine q_iinc (w_p1 (by decide) (Or.inr rfl) (w_p1 (by decide) (Or.inr rfl) (w_p1 (by decide) (Or.inr rfl) (w_p1 (by decide) (Or.inr rfl) (w_p1 (by decide) (Or.inr rfl) (w_p1 (by decide) (Or.inr rfl) e5828)))))) (x5817.toInt + 1) rfl (by omega) (fun v5859 hv5859 => ?_)
                    refine r_goto ?_
                    exact ih5823 (1 - v5859.toInt) _ _ ⟨v5859, by first | rfl | omega, hI5853, hF5857, (w_p1 (by decide) (Or.inr rfl) (w_p1 (by decide) (Or.inr rfl) (w_p1 (by decide) (Or.inr rfl) (w_p1 (by decide) (Or.inr rfl) (w_p1 (by decide) (Or.inr rfl) (w_p1 (by decide) (Or.inr rfl) (w_p1 (by decide) (Or.inr rfl) e5824))))))), (w_p1 (by decide) (Or.inr rfl) (w_p1 (by decide) (Or.inr rfl) (w_p1 (by decide) (Or.inr rfl) (w_p1 (by decide) (Or.inr rfl) (w_p1 (by decide) (Or.inr rfl) (w_p1 (by decide) (Or.inr rfl) (w_p1 (by decide) (Or.inr rfl) e5825))))))), (w_p1 (by decide) (Or.inr rfl) (w_p1 (by decide) (Or.inr rfl) (w_p1 (by decide) (Or.inr rfl) (w_p1 (by decide) (Or.inr rfl) (w_p1 (by decide) (Or.inr rfl) (w_p1 (by decide) (Or.inr rfl) (w_p1 (by decide) (Or.inr rfl) e5826))))))), (w_p1 (by decide) (Or.inr rfl) (w_p1 (by decide) (Or.inr rfl) (w_p1 (by decide) (Or.inr rfl) (w_p1 (by decide) (Or.inr rfl) (w_p1 (by decide) (Or.inr rfl) (w_p1 (by decide) (Or.inr rfl) (w_p1 (by decide) (Or.inr rfl) e5827))))))), (w_e1 _ _ _), by omega⟩ ⟨by omega, by omega⟩
                  · have c5858_ : v5855.toInt ≠ 0 := en_k_eq_f c5858
                    refine At.enter rfl ?_
                    refine r_aload_n (w_p1 (by decide) (Or.inr rfl) (w_p1 (by decide) (Or.inr rfl) (w_p1 (by decide) (Or.inr rfl) (w_p1 (by decide) (Or.inr rfl) (w_p1 (by decide) (Or.inr rfl) (w_p1 (by decide) (Or.inr rfl) e5824)))))) ?_
                    refine r_aload_n (w_p1 (by decide) (Or.inr rfl) (w_p1 (by decide) (Or.inr rfl) (w_p1 (by decide) (Or.inr rfl) (w_p1 (by decide) (Or.inr rfl) (w_p1 (by decide) (Or.inr rfl) (w_p1 (by decide) (Or.inr rfl) e5824)))))) ?_
                    obtain ⟨v5860, hv5860⟩ : ∃ v, gI g5818 231 45 = v := ⟨_, rfl⟩
                    refine q_getI (Sh.int hI5853.1 kx_231 rfl) v5860 (((hF5854.1 231 45 mf_X11_allCome_231_231_45).trans (hF5845.1 231 45 mf_X11_asIs_231_231_45)).trans hv5860) ?_
                    refine r_ifs 213 rfl (fun c5861 => ?_) (fun c5861 => ?_)
                    · have c5861_ : v5860.toInt ≠ 0 := en_k_ne_t c5861
                      refine At.enter rfl ?_
                      refine r_aload_n (w_p1 (by decide) (Or.inr rfl) (w_p1 (by decide) (Or.inr rfl) (w_p1 (by decide) (Or.inr rfl) (w_p1 (by decide) (Or.inr rfl) (w_p1 (by decide) (Or.inr rfl) (w_p1 (by decide) (Or.inr rfl) e5824)))))) ?_
                      obtain ⟨v5862, hv5862⟩ : ∃ v, gI g5818 231 46 = v := ⟨_, rfl⟩
                      refine q_getI (Sh.int hI5853.1 kx_231 rfl) v5862 (((hF5854.1 231 46 mf_X11_allCome_231_231_46).trans (hF5845.1 231 46 mf_X11_asIs_231_231_46)).trans hv5862) ?_
                      refine Ar.fall 222 rfl ?_
                      refine At.enter rfl ?_
                      refine q_putI (Sh.int hI5853.1 kx_231 rfl) rfl ?_
                      have hI5863 := HI.wI0 hI5853 kx_231 rfl (p := 231) (b := 46) (v := v5862) rfl
                      have hF5864 := Fr.wI (p := 231) (b := 46) (v := v5862) hF5857 rfl
                      refine r_aload_n (w_p1 (by decide) (Or.inr rfl) (w_p1 (by decide) (Or.inr rfl) (w_p1 (by decide) (Or.inr rfl) (w_p1 (by decide) (Or.inr rfl) (w_p1 (by decide) (Or.inr rfl) (w_p1 (by decide) (Or.inr rfl) e5824)))))) ?_
                      refine r_dup rfl ?_
                      refine q_getI (Sh.int hI5863.1 kx_231 rfl) v5860 (((gI_sI_ne (by decide)).trans ((hF5854.1 231 45 mf_X11_allCome_231_231_45).trans (hF5845.1 231 45 mf_X11_asIs_231_231_45))).trans hv5860) ?_
                      refine r_iconst 1 rfl ?_
                      refine q_iaddO (fun v5865 _ => ?_)
                      refine q_putI (Sh.int hI5863.1 kx_231 rfl) rfl ?_
                      have hI5866 := HI.wI0 hI5863 kx_231 rfl (p := 231) (b := 45) (v := v5865) rfl
                      have hF5867 := Fr.wI (p := 231) (b := 45) (v := v5865) hF5864 rfl
                      refine Ar.fall 235 rfl ?_
                      refine At.enter rfl ?_
                      refine q_iinc (w_p1 (by decide) (Or.inr rfl) (w_p1 (by decide) (Or.inr rfl) (w_p1 (by decide) (Or.inr rfl) (w_p1 (by decide) (Or.inr rfl) (w_p1 (by decide) (Or.inr rfl) (w_p1 (by decide) (Or.inr rfl) e5828)))))) (x5817.toInt + 1) rfl (by omega) (fun v5868 hv5868 => ?_)
                      refine r_goto ?_
                      exact ih5823 (1 - v5868.toInt) _ _ ⟨v5868, by first | rfl | omega, hI5866, hF5867, (w_p1 (by decide) (Or.inr rfl) (w_p1 (by decide) (Or.inr rfl) (w_p1 (by decide) (Or.inr rfl) (w_p1 (by decide) (Or.inr rfl) (w_p1 (by decide) (Or.inr rfl) (w_p1 (by decide) (Or.inr rfl) (w_p1 (by decide) (Or.inr rfl) e5824))))))), (w_p1 (by decide) (Or.inr rfl) (w_p1 (by decide) (Or.inr rfl) (w_p1 (by decide) (Or.inr rfl) (w_p1 (by decide) (Or.inr rfl) (w_p1 (by decide) (Or.inr rfl) (w_p1 (by decide) (Or.inr rfl) (w_p1 (by decide) (Or.inr rfl) e5825))))))), (w_p1 (by decide) (Or.inr rfl) (w_p1 (by decide) (Or.inr rfl) (w_p1 (by decide) (Or.inr rfl) (w_p1 (by decide) (Or.inr rfl) (w_p1 (by decide) (Or.inr rfl) (w_p1 (by decide) (Or.inr rfl) (w_p1 (by decide) (Or.inr rfl) e5826))))))), (w_p1 (by decide) (Or.inr rfl) (w_p1 (by decide) (Or.inr rfl) (w_p1 (by decide) (Or.inr rfl) (w_p1 (by decide) (Or.inr rfl) (w_p1 (by decide) (Or.inr rfl) (w_p1 (by decide) (Or.inr rfl) (w_p1 (by decide) (Or.inr rfl) e5827))))))), (w_e1 _ _ _), by omega⟩ ⟨by omega, by omega⟩
                    · have c5861_ : v5860.toInt = 0 := en_k_ne_f c5861
                      refine At.enter rfl ?_
                      refine r_iload (w_p1 (by decide) (Or.inr rfl) (w_p1 (by decide) (Or.inr rfl) (w_p1 (by decide) (Or.inr rfl) (w_p1 (by decide) (Or.inr rfl) (w_p1 (by decide) (Or.inr rfl) (w_p1 (by decide) (Or.inr rfl) e5828)))))) ?_
                      refine r_goto ?_
                      refine At.enter rfl ?_
                      refine q_putI (Sh.int hI5853.1 kx_231 rfl) rfl ?_
                      have hI5869 := HI.wI0 hI5853 kx_231 rfl (p := 231) (b := 46) (v := x5817) rfl
                      have hF5870 := Fr.wI (p := 231) (b := 46) (v := x5817) hF5857 rfl
                      refine r_aload_n (w_p1 (by decide) (Or.inr rfl) (w_p1 (by decide) (Or.inr rfl) (w_p1 (by decide) (Or.inr rfl) (w_p1 (by decide) (Or.inr rfl) (w_p1 (by decide) (Or.inr rfl) (w_p1 (by decide) (Or.inr rfl) e5824)))))) ?_
                      refine r_dup rfl ?_
                      refine q_getI (Sh.int hI5869.1 kx_231 rfl) v5860 (((gI_sI_ne (by decide)).trans ((hF5854.1 231 45 mf_X11_allCome_231_231_45).trans (hF5845.1 231 45 mf_X11_asIs_231_231_45))).trans hv5860) ?_
                      refine r_iconst 1 rfl ?_
                      refine q_iadd (v5860.toInt + 1) rfl (by omega) (fun v5871 hv5871 => ?_)
                      refine q_putI (Sh.int hI5869.1 kx_231 rfl) rfl ?_
                      have hI5872 := HI.wI0 hI5869 kx_231 rfl (p := 231) (b := 45) (v := v5871) rfl
                      have hF5873 := Fr.wI (p := 231) (b := 45) (v := v5871) hF5870 rfl
                      refine Ar.fall 235 rfl ?_
                      refine At.enter rfl ?_
                      refine q_iinc (w_p1 (by decide) (Or.inr rfl) (w_p1 (by decide) (Or.inr rfl) (w_p1 (by decide) (Or.inr rfl) (w_p1 (by decide) (Or.inr rfl) (w_p1 (by decide) (Or.inr rfl) (w_p1 (by decide) (Or.inr rfl) e5828)))))) (x5817.toInt + 1) rfl (by omega) (fun v5874 hv5874 => ?_)
                      refine r_goto ?_
                      exact ih5823 (1 - v5874.toInt) _ _ ⟨v5874, by first | rfl | omega, hI5872, hF5873, (w_p1 (by decide) (Or.inr rfl) (w_p1 (by decide) (Or.inr rfl) (w_p1 (by decide) (Or.inr rfl) (w_p1 (by decide) (Or.inr rfl) (w_p1 (by decide) (Or.inr rfl) (w_p1 (by decide) (Or.inr rfl) (w_p1 (by decide) (Or.inr rfl) e5824))))))), (w_p1 (by decide) (Or.inr rfl) (w_p1 (by decide) (Or.inr rfl) (w_p1 (by decide) (Or.inr rfl) (w_p1 (by decide) (Or.inr rfl) (w_p1 (by decide) (Or.inr rfl) (w_p1 (by decide) (Or.inr rfl) (w_p1 (by decide) (Or.inr rfl) e5825))))))), (w_p1 (by decide) (Or.inr rfl) (w_p1 (by decide) (Or.inr rfl) (w_p1 (by decide) (Or.inr rfl) (w_p1 (by decide) (Or.inr rfl) (w_p1 (by decide) (Or.inr rfl) (w_p1 (by decide) (Or.inr rfl) (w_p1 (by decide) (Or.inr rfl) e5826))))))), (w_p1 (by decide) (Or.inr rfl) (w_p1 (by decide) (Or.inr rfl) (w_p1 (by decide) (Or.inr rfl) (w_p1 (by decide) (Or.inr rfl) (w_p1 (by decide) (Or.inr rfl) (w_p1 (by decide) (Or.inr rfl) (w_p1 (by decide) (Or.inr rfl) e5827))))))), (w_e1 _ _ _), by omega⟩ ⟨by omega, by omega⟩
                · have c5850_ : a2.toInt > 1 := en_i_le_f c5850
                  exfalso; omega
              · have c5849_ : a2.toInt > 0 := en_k_le_f c5849
                exfalso; omega
            · have c5842_ : a2.toInt ≥ 2 := en_i_lt_f c5842
              exfalso; omega
          · have c5841_ : a2.toInt ≠ 0 := en_k_eq_f c5841
            exfalso; omega
        · have c5835_ : a2.toInt = 2 := en_i_ne_f c5835
          exfalso; omega
      · have c5833_ : a2.toInt = 2 := en_i_ne_f c5833
        exfalso; omega
