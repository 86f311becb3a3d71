def F_X11_costOf_231 : List (Nat × Nat) := [(231, 27), (231, 30), (231, 31), (231, 32)]
def A_X11_costOf_231 : List Nat := [249]
set_option maxRecDepth 100000 in
set_option maxHeartbeats 4000000 in
theorem T_X11_costOf_231 (d : Nat) {N : Nat} {g0 : List en_E} (hI0 : HI g0) (a1 : Int32) (h_a1 : 0 ≤ a1.toInt ∧ a1.toInt ≤ 7) (hl : a1.toInt < (eA g0 233 1).toInt) : Ev (d + 6) 243 [.ref 231, .int a1] (g0, N) (fun w h' => ∃ g', h' = (g', N) ∧ HI g' ∧ Fr F_X11_costOf_231 A_X11_costOf_231 g0 g' ∧ ∃ r : Int32, w = some (.int r) ∧ True) := by
  have hF0 : Fr F_X11_costOf_231 A_X11_costOf_231 g0 g0 := Fr.rf
  refine Ev.mk rfl rfl ⟨Nat.le_of_ble_eq_true rfl, Or.inr (q_rc hI0.1 kx_231 rfl)⟩ ?_
  show At _ none _ _ (0, [(0, .ref 231), (1, .int a1)], [], (_, _)) _
  refine At.enter rfl ?_
  refine r_aload_n rfl ?_
  refine r_iload_n rfl ?_
  refine r_callV 5 rfl [.ref 231, .int a1] [] (Nat.le_of_ble_eq_true rfl) rfl (T_X11_findWay_231 _ hI0 a1 (by omega) (by rw [eA_c (rfl)]; omega)) ?_
  rintro _ _ ⟨g365, rfl, hI366, hF367, v368, rfl, hr369⟩
  refine At.sti ?_
  have hF370 := Fr.tr hF0 hF367 rfl rfl
  have fw371 : ∀ j : Int, 0 ≤ j → j ≤ v368.toInt → (eA g365 249 j).toInt < (eA g0 233 0).toInt := fun j a b => by have z := hr369.2 j a b; rw [eA_c (rfl)] at z; exact z
  refine At.enter rfl ?_
  refine r_istore_n ([(2, .int v368), (0, .ref 231), (1, .int a1)]) rfl ?_
  refine r_iconst 0 rfl ?_
  refine r_istore_n ([(3, .int 0), (2, .int v368), (0, .ref 231), (1, .int a1)]) rfl ?_
  refine r_iconst 0 rfl ?_
  refine r_istore ([(4, .int 0), (3, .int 0), (2, .int v368), (0, .ref 231), (1, .int a1)]) rfl ?_
  refine Ar.fall 11 rfl ?_
  have z_531 : (0 : Int32).toInt = 0 := rfl
  have z_532 : (0 : Int32).toInt = 0 := rfl
  refine w_loopI (fun n_ l_ g_ => ∃ x517 : Int32, ∃ x518 : Int32, n_ = 12 - x518.toInt ∧ HI g_ ∧ Fr F_X11_costOf_231 A_X11_costOf_231 g0 g_ ∧ en_get 0 l_ = some (.ref 231) ∧ en_get 1 l_ = some (.int a1) ∧ en_get 2 l_ = some (.int v368) ∧ en_get 3 l_ = some (.int x517) ∧ en_get 4 l_ = some (.int x518) ∧ (0 ≤ x518.toInt ∧ x518.toInt ≤ 12)) ?_ (12 - 0) ⟨0, 0, by first | rfl | omega, hI366, hF370, rfl, rfl, rfl, rfl, rfl, by decide⟩
  rintro n523 l522 g519 ⟨x517, x518, hm533, hI520, hF521, e525, e526, e527, e528, e529, r530⟩ ih524
  refine At.enter rfl ?_
  refine r_iload e529 ?_
  refine r_iload_n e527 ?_
  have bv535 := q_bnd x518
  have bv536 := q_bnd v368
  refine r_ics 17 rfl (fun c534 => ?_) (fun c534 => ?_)
  · have c534_ : x518.toInt ≥ v368.toInt := en_i_ge_t c534
    refine At.enter rfl ?_
    refine r_iload_n e527 ?_
    refine r_iconst (-1) rfl ?_
    refine r_ics 43 rfl (fun c537 => ?_) (fun c537 => ?_)
    · have c537_ : v368.toInt ≠ (-1) := en_i_ne_t c537
      refine At.enter rfl ?_
      refine r_iload_n e528 ?_
      refine Ar.fall 48 rfl ?_
      refine At.enter rfl ?_
      refine r_ireti ?_
      exact ⟨_, rfl, hI520, hF521, _, rfl, trivial⟩
    · have c537_ : v368.toInt = (-1) := en_i_ne_f c537
      refine At.enter rfl ?_
      refine r_iconst (-1) rfl ?_
      refine r_goto ?_
      refine At.enter rfl ?_
      refine r_ireti ?_
      exact ⟨_, rfl, hI520, hF521, _, rfl, trivial⟩
  · have c534_ : x518.toInt < v368.toInt := en_i_ge_f c534
    refine At.enter rfl ?_
    refine r_iload_n e528 ?_
    refine r_aload_n e525 ?_
    refine r_iload_n e526 ?_
    refine r_aload_n e525 ?_
    refine q_getR (Sh.ref hI520.1 kx_231 rfl) ?_
    refine r_iload e529 ?_
    obtain ⟨v538, hv538⟩ : ∃ v, eA g519 249 x518.toInt = v := ⟨_, rfl⟩
    have rv538 := RgA.at hI520.2.2.1 (Sh.arr hI520.1 ka_249).2 (p := 249) rfl (j := x518.toInt) (by omega)
    rw [hv538] at rv538
    dsimp only at rv538
    refine q_iald (Sh.arr hI520.1 ka_249) x518.toInt rfl (by omega) v538 hv538 ?_
    refine r_callV 30 rfl [.ref 231, .int a1, .int v538] [.int x517] (Nat.le_of_ble_eq_true rfl) rfl (T_X11_feeOf_231 _ hI520 a1 (by omega) v538 (by omega)) ?_
    rintro _ _ ⟨g539, rfl, hI540, hF541, v542, rfl, hr543⟩
    refine At.sti ?_
    have hF544 := Fr.tr hF521 hF541 rfl rfl
    refine At.enter rfl ?_
    refine q_iaddO (fun v545 _ => ?_)
    refine r_istore_n _ rfl ?_
    refine q_iinc (w_p1 (by decide) (Or.inr rfl) e529) (x518.toInt + 1) rfl (by omega) (fun v546 hv546 => ?_)
    refine r_goto ?_
    have bv547 := q_bnd v545
    exact ih524 (12 - v546.toInt) _ _ ⟨v545, v546, by first | rfl | omega, hI540, hF544, (w_p1 (by decide) (Or.inr rfl) (w_p1 (by decide) (Or.inr rfl) e525)), (w_p1 (by decide) (Or.inr rfl) (w_p1 (by decide) (Or.inr rfl) e526)), (w_p1 (by decide) (Or.inr rfl) (w_p1 (by decide) (Or.inr rfl) e527)), (w_p1 (by decide) (Or.inr rfl) (w_e1 _ _ _)), (w_e1 _ _ _), by omega⟩ ⟨by omega, by omega⟩

def F_X11_cost_231 : List (Nat × Nat) := [(231, 0), (231, 27), (231, 30), (231, 31), (231, 32), (231, 36)]
def A_X11_cost_231 : List Nat := [246, 247, 248, 249]
set_option maxRecDepth 100000 in
set_option maxHeartbeats 4000000 in
theorem T_X11_cost_231 (d : Nat) {N : Nat} {g0 : List en_E} (hI0 : HI g0) (a1 : Int32) : Ev (d + 7) 244 [.ref 231, .int a1] (g0, N) (fun w h' => ∃ g', h' = (g', N) ∧ HI g' ∧ Fr F_X11_cost_231 A_X11_cost_231 g0 g' ∧ ∃ r : Int32, w = some (.int r) ∧ True) := by
  have hF0 : Fr F_X11_cost_231 A_X11_cost_231 g0 g0 := Fr.rf
  refine Ev.mk rfl rfl ⟨Nat.le_of_ble_eq_true rfl, Or.inr (q_rc hI0.1 kx_231 rfl)⟩ ?_
  show At _ none _ _ (0, [(0, .ref 231), (1, .int a1)], [], (_, _)) _
  refine At.enter rfl ?_
  refine r_aload_n rfl ?_
  refine r_iconst 0 rfl ?_
  refine q_putI (Sh.int hI0.1 kx_231 rfl) rfl ?_
  have hI41 := HI.wI0 hI0 kx_231 rfl (p := 231) (b := 0) (v := 0) rfl
  have hF42 := Fr.wI (p := 231) (b := 0) (v := 0) hF0 rfl
  refine r_aload_n rfl ?_
  refine r_iload_n rfl ?_
  refine q_inlV 10 rfl [.ref 231, .int a1] [] (Nat.le_of_ble_eq_true rfl) rfl ?_
  refine Ev.mk rfl rfl ⟨Nat.le_of_ble_eq_true rfl, Or.inr (q_rc hI41.1 kx_231 rfl)⟩ ?_
  show At _ none _ _ (0, [(0, .ref 231), (1, .int a1)], [], (_, _)) _
  refine At.enter rfl ?_
  refine r_iload_n rfl ?_
  refine q_i2l (fun v43 hv43 => ?_)
  refine r_lconst 0 rfl ?_
  refine r_aload_n rfl ?_
  refine q_getR (Sh.ref hI41.1 kx_231 rfl) ?_
  refine r_iconst 1 rfl ?_
  obtain ⟨v44, hv44⟩ : ∃ v, eA g0 233 1 = v := ⟨_, rfl⟩
  have tv44 := congrArg Int32.toInt hv44
  have wv44 := HI.t1 hI0
  rw [hv44] at wv44
  refine q_iald (Sh.arr hI41.1 ka_233) 1 rfl (by decide) v44 ((eA_c (gA_sI)).trans hv44) ?_
  refine q_i2l (fun v45 hv45 => ?_)
  refine r_lconst 1 rfl ?_
  refine q_lsub (v45.toInt - 1) rfl (by omega) (fun v46 hv46 => ?_)
  refine q_inlS 15 rfl [.long v43, .long 0, .long v46] [] (Nat.le_of_ble_eq_true rfl) rfl ?_
  refine Ev.mk rfl rfl ⟨Nat.le_of_ble_eq_true rfl, Or.inl rfl⟩ ?_
  show At _ none _ _ (0, [(0, .long v43), (2, .long 0), (4, .long v46)], [], (_, _)) _
  refine At.enter rfl ?_
  refine r_lload_n rfl ?_
  refine r_lload_n rfl ?_
  refine r_lcmp _ rfl ?_
  refine r_ifs 6 rfl (fun c47 => ?_) (fun c47 => ?_)
  · have c47_ : v43.toInt < 0 := en_j_lt_t c47
    refine At.enter rfl ?_
    refine r_iconst 0 rfl ?_
    refine Ar.fall 18 rfl ?_
    refine At.enter rfl ?_
    refine q_iretz (by decide) ?_
    refine At.enter rfl ?_
    refine q_iretz (by decide) ?_
    refine At.enter rfl ?_
    refine r_iff 13 rfl (by decide) ?_
    refine At.enter rfl ?_
    refine r_iconst (-1) rfl ?_
    refine r_ireti ?_
    exact ⟨_, rfl, hI41, hF42, _, rfl, trivial⟩
  · have c47_ : v43.toInt ≥ 0 := en_j_lt_f c47
    refine At.enter rfl ?_
    refine r_lload_n rfl ?_
    refine r_lload rfl ?_
    refine r_lcmp _ rfl ?_
    refine r_ifs 13 rfl (fun c48 => ?_) (fun c48 => ?_)
    · have c48_ : v43.toInt > v46.toInt := en_j_gt_t c48
      refine At.enter rfl ?_
      refine r_iconst 0 rfl ?_
      refine Ar.fall 18 rfl ?_
      refine At.enter rfl ?_
      refine q_iretz (by decide) ?_
      refine At.enter rfl ?_
      refine q_iretz (by decide) ?_
      refine At.enter rfl ?_
      refine r_iff 13 rfl (by decide) ?_
      refine At.enter rfl ?_
      refine r_iconst (-1) rfl ?_
      refine r_ireti ?_
      exact ⟨_, rfl, hI41, hF42, _, rfl, trivial⟩
    · have c48_ : v43.toInt ≤ v46.toInt := en_j_gt_f c48
      refine At.enter rfl ?_
      refine r_iconst 1 rfl ?_
      refine r_goto ?_
      refine At.enter rfl ?_
      refine q_iretz (by decide) ?_
      refine At.enter rfl ?_
      refine q_iretz (by decide) ?_
      refine At.enter rfl ?_
      refine r_ift (by decide) ?_
      refine At.enter rfl ?_
      refine r_aload_n rfl ?_
      refine r_callV 19 rfl [.ref 231] [] (Nat.le_of_ble_eq_true rfl) rfl (T_X11_asIs_231 _ hI41) ?_
      rintro _ _ ⟨g49, rfl, hI50, hF51, rfl⟩
      refine At.stn ?_
      have hF54 := Fr.tr hF42 hF51 rfl rfl
      refine At.enter rfl ?_
      refine r_aload_n rfl ?_
      refine r_iload_n rfl ?_
      refine r_callV 24 rfl [.ref 231, .int a1] [] (Nat.le_of_ble_eq_true rfl) rfl (T_X11_costOf_231 _ hI50 a1 (by omega) (by rw [eA_c (((hF51.2.1 233 ma_X11_asIs_231_233).trans (gA_sI))), hv44]; omega)) ?_
      rintro _ _ ⟨g55, rfl, hI56, hF57, v58, rfl, hr59⟩
      refine At.sti ?_
      have hF60 := Fr.tr hF54 hF57 rfl rfl
      refine At.enter rfl ?_
      refine r_ireti ?_
      exact ⟨_, rfl, hI56, hF60, _, rfl, trivial⟩

def F_X11_isSent_231 : List (Nat × Nat) := [(231, 27), (231, 30), (231, 31), (231, 32)]
def A_X11_isSent_231 : List Nat := [249]
theorem ma_X11_costOf_231_233 : memA A_X11_costOf_231 233 = false := by decide
set_option maxRecDepth 100000 in
set_option maxHeartbeats 4000000 in
theorem T_X11_isSent_231 (d : Nat) {N : Nat} {g0 : List en_E} (hI0 : HI g0) (a1 : Int32) (h_a1 : 0 ≤ a1.toInt ∧ a1.toInt ≤ 7) (hl : a1.toInt < (eA g0 233 1).toInt) : Ev (d + 7) 245 [.ref 231, .int a1] (g0, N) (fun w h' => ∃ g', h' = (g', N) ∧ HI g' ∧ Fr F_X11_isSent_231 A_X11_isSent_231 g0 g' ∧ ∃ r : Int32, w = some (.int r) ∧ (0 ≤ r.toInt ∧ r.toInt ≤ 1)) := by
  have hF0 : Fr F_X11_isSent_231 A_X11_isSent_231 g0 g0 := Fr.rf
  refine Ev.mk rfl rfl ⟨Nat.le_of_ble_eq_true rfl, Or.inr (q_rc hI0.1 kx_231 rfl)⟩ ?_
  show At _ none _ _ (0, [(0, .ref 231), (1, .int a1)], [], (_, _)) _
  refine At.enter rfl ?_
  refine r_aload_n rfl ?_
  refine r_iload_n rfl ?_
  refine r_callV 5 rfl [.ref 231, .int a1] [] (Nat.le_of_ble_eq_true rfl) rfl (T_X11_costOf_231 _ hI0 a1 (by omega) (by rw [eA_c (rfl)]; omega)) ?_
  rintro _ _ ⟨g29, rfl, hI30, hF31, v32, rfl, hr33⟩
  refine At.sti ?_
  have hF34 := Fr.tr hF0 hF31 rfl rfl
  refine At.enter rfl ?_
  refine r_istore_n ([(2, .int v32), (0, .ref 231), (1, .int a1)]) rfl ?_
  refine r_iload_n rfl ?_
  refine r_iconst (-1) rfl ?_
  refine r_ics 11 rfl (fun c35 => ?_) (fun c35 => ?_)
  · have c35_ : v32.toInt = (-1) := en_i_eq_t c35
    refine At.enter rfl ?_
    refine r_iconst 0 rfl ?_
    refine Ar.fall 26 rfl ?_
    refine At.enter rfl ?_
    refine r_iretz (by decide) ?_
    exact ⟨_, rfl, hI30, hF34, _, rfl, by decide⟩
  · have c35_ : v32.toInt ≠ (-1) := en_i_eq_f c35
    refine At.enter rfl ?_
    refine r_iload_n rfl ?_
    refine r_aload_n rfl ?_
    refine r_iload_n rfl ?_
    refine r_iconst 5 rfl ?_
    refine q_inlV 18 rfl [.ref 231, .int a1, .int 5] [.int v32] (Nat.le_of_ble_eq_true rfl) rfl ?_
    refine Ev.mk rfl rfl ⟨Nat.le_of_ble_eq_true rfl, Or.inr (q_rc hI30.1 kx_231 rfl)⟩ ?_
    show At _ none _ _ (0, [(0, .ref 231), (1, .int a1), (2, .int 5)], [], (_, _)) _
    refine At.enter rfl ?_
    refine r_aload_n rfl ?_
    refine q_getR (Sh.ref hI30.1 kx_231 rfl) ?_
    refine r_bipush 46 rfl ?_
    refine r_bipush 6 rfl ?_
    refine r_iload_n rfl ?_
    refine q_imul (6 * a1.toInt) rfl (by omega) (fun v36 hv36 => ?_)
    refine q_iadd (46 + v36.toInt) rfl (by omega) (fun v37 hv37 => ?_)
    refine r_iload_n rfl ?_
    refine q_iadd (v37.toInt + 5) rfl (by omega) (fun v38 hv38 => ?_)
    obtain ⟨v39, hv39⟩ : ∃ v, eA g0 233 (6 * a1.toInt + 51) = v := ⟨_, rfl⟩
    have wv39 := HI.l5 hI0 (j := (6 * a1.toInt + 51)) (a1.toInt) (by omega) (by omega)
    rw [hv39] at wv39
    refine q_iald (Sh.arr hI30.1 ka_233) (6 * a1.toInt + 51) (by omega) (by omega) v39 ((eA_c (hF31.2.1 233 ma_X11_costOf_231_233)).trans hv39) ?_
    refine q_ireti ?_
    refine At.enter rfl ?_
    have bv41 := q_bnd v32
    have bv42 := q_bnd v39
    refine r_ics 21 rfl (fun c40 => ?_) (fun c40 => ?_)
    · have c40_ : v32.toInt > v39.toInt := en_i_gt_t c40
      refine At.enter rfl ?_
      refine r_iconst 0 rfl ?_
      refine Ar.fall 26 rfl ?_
      refine At.enter rfl ?_
      refine r_iretz (by decide) ?_
      exact ⟨_, rfl, hI30, hF34, _, rfl, by decide⟩
    · have c40_ : v32.toInt ≤ v39.toInt := en_i_gt_f c40
      refine At.enter rfl ?_
      refine r_iconst 1 rfl ?_
      refine r_goto ?_
      refine At.enter rfl ?_
      refine r_iretz (by decide) ?_
      exact ⟨_, rfl, hI30, hF34, _, rfl, by decide⟩

def F_X11_sent_231 : List (Nat × Nat) := [(231, 0), (231, 27), (231, 30), (231, 31), (231, 32), (231, 36)]
def A_X11_sent_231 : List Nat := [246, 247, 248, 249]
set_option maxRecDepth 100000 in
set_option maxHeartbeats 4000000 in
theorem T_X11_sent_231 (d : Nat) {N : Nat} {g0 : List en_E} (hI0 : HI g0) (a1 : Int32) : Ev (d + 8) 246 [.ref 231, .int a1] (g0, N) (fun w h' => ∃ g', h' = (g', N) ∧ HI g' ∧ Fr F_X11_sent_231 A_X11_sent_231 g0 g' ∧ ∃ r : Int32, w = some (.int r) ∧ ((-1) ≤ r.toInt ∧ r.toInt ≤ 1)) := by
  have hF0 : Fr F_X11_sent_231 A_X11_sent_231 g0 g0 := Fr.rf
  refine Ev.mk rfl rfl ⟨Nat.le_of_ble_eq_true rfl, Or.inr (q_rc hI0.1 kx_231 rfl)⟩ ?_
  show At _ none _ _ (0, [(0, .ref 231), (1, .int a1)], [], (_, _)) _
  refine At.enter rfl ?_
  refine r_aload_n rfl ?_
  refine r_iconst 0 rfl ?_
  refine q_putI (Sh.int hI0.1 kx_231 rfl) rfl ?_
  have hI43 := HI.wI0 hI0 kx_231 rfl (p := 231) (b := 0) (v := 0) rfl
  have hF44 := Fr.wI (p := 231) (b := 0) (v := 0) hF0 rfl
  refine r_aload_n rfl ?_
  refine r_iload_n rfl ?_
  refine q_inlV 10 rfl [.ref 231, .int a1] [] (Nat.le_of_ble_eq_true rfl) rfl ?_
  refine Ev.mk rfl rfl ⟨Nat.le_of_ble_eq_true rfl, Or.inr (q_rc hI43.1 kx_231 rfl)⟩ ?_
  show At _ none _ _ (0, [(0, .ref 231), (1, .int a1)], [], (_, _)) _
  refine At.enter rfl ?_
  refine r_iload_n rfl ?_
  refine q_i2l (fun v45 hv45 => ?_)
  refine r_lconst 0 rfl ?_
  refine r_aload_n rfl ?_
  refine q_getR (Sh.ref hI43.1 kx_231 rfl) ?_
  refine r_iconst 1 rfl ?_
  obtain ⟨v46, hv46⟩ : ∃ v, eA g0 233 1 = v := ⟨_, rfl⟩
  have tv46 := congrArg Int32.toInt hv46
  have wv46 := HI.t1 hI0
  rw [hv46] at wv46
  refine q_iald (Sh.arr hI43.1 ka_233) 1 rfl (by decide) v46 ((eA_c (gA_sI)).trans hv46) ?_
  refine q_i2l (fun v47 hv47 => ?_)
  refine r_lconst 1 rfl ?_
  refine q_lsub (v47.toInt - 1) rfl (by omega) (fun v48 hv48 => ?_)
  refine q_inlS 15 rfl [.long v45, .long 0, .long v48] [] (Nat.le_of_ble_eq_true rfl) rfl ?_
  refine Ev.mk rfl rfl ⟨Nat.le_of_ble_eq_true rfl, Or.inl rfl⟩ ?_
  show At _ none _ _ (0, [(0, .long v45), (2, .long 0), (4, .long v48)], [], (_, _)) _
  refine At.enter rfl ?_
  refine r_lload_n rfl ?_
  refine r_lload_n rfl ?_
  refine r_lcmp _ rfl ?_
  refine r_ifs 6 rfl (fun c49 => ?_) (fun c49 => ?_)
  · have c49_ : v45.toInt < 0 := en_j_lt_t c49
    refine At.enter rfl ?_
    refine r_iconst 0 rfl ?_
    refine Ar.fall 18 rfl ?_
    refine At.enter rfl ?_
    refine q_iretz (by decide) ?_
    refine At.enter rfl ?_
    refine q_iretz (by decide) ?_
    refine At.enter rfl ?_
    refine r_iff 13 rfl (by decide) ?_
    refine At.enter rfl ?_
    refine r_iconst (-1) rfl ?_
    refine r_ireti ?_
    exact ⟨_, rfl, hI43, hF44, _, rfl, by decide⟩
  · have c49_ : v45.toInt ≥ 0 := en_j_lt_f c49
    refine At.enter rfl ?_
    refine r_lload_n rfl ?_
    refine r_lload rfl ?_
    refine r_lcmp _ rfl ?_
    refine r_ifs 13 rfl (fun c50 => ?_) (fun c50 => ?_)
    · have c50_ : v45.toInt > v48.toInt := en_j_gt_t c50
      refine At.enter rfl ?_
      refine r_iconst 0 rfl ?_
      refine Ar.fall 18 rfl ?_
      refine At.enter rfl ?_
      refine q_iretz (by decide) ?_
      refine At.enter rfl ?_
      refine q_iretz (by decide) ?_
      refine At.enter rfl ?_
      refine r_iff 13 rfl (by decide) ?_
      refine At.enter rfl ?_
      refine r_iconst (-1) rfl ?_
      refine r_ireti ?_
      exact ⟨_, rfl, hI43, hF44, _, rfl, by decide⟩
    · have c50_ : v45.toInt ≤ v48.toInt := en_j_gt_f c50
      refine At.enter rfl ?_
      refine r_iconst 1 rfl ?_
      refine r_goto ?_
      refine At.enter rfl ?_
      refine q_iretz (by decide) ?_
      refine At.enter rfl ?_
      refine q_iretz (by decide) ?_
      refine At.enter rfl ?_
      refine r_ift (by decide) ?_
      refine At.enter rfl ?_
      refine r_aload_n rfl ?_
      refine r_callV 19 rfl [.ref 231] [] (Nat.le_of_ble_eq_true rfl) rfl (T_X11_asIs_231 _ hI43) ?_
      rintro _ _ ⟨g51, rfl, hI52, hF53, rfl⟩
      refine At.stn ?_
      have hF56 := Fr.tr hF44 hF53 rfl rfl
      refine At.enter rfl ?_
      refine r_aload_n rfl ?_
      refine r_iload_n rfl ?_
      refine r_callV 24 rfl [.ref 231, .int a1] [] (Nat.le_of_ble_eq_true rfl) rfl (T_X11_isSent_231 _ hI52 a1 (by omega) (by rw [eA_c (((hF53.2.1 233 ma_X11_asIs_231_233).trans (gA_sI))), hv46]; omega)) ?_
      rintro _ _ ⟨g57, rfl, hI58, hF59, v60, rfl, hr61⟩
      refine At.sti ?_
      have hF62 := Fr.tr hF56 hF59 rfl rfl
      refine At.enter rfl ?_
      refine r_ifs 27 rfl (fun c63 => ?_) (fun c63 => ?_)
      · have c63_ : v60.toInt = 0 := en_k_eq_t c63
        refine At.enter rfl ?_
        refine r_iconst 0 rfl ?_
        refine Ar.fall 32 rfl ?_
        refine At.enter rfl ?_
        refine r_ireti ?_
        exact ⟨_, rfl, hI58, hF62, _, rfl, by decide⟩
      · have c63_ : v60.toInt ≠ 0 := en_k_eq_f c63
        refine At.enter rfl ?_
        refine r_iconst 1 rfl ?_
        refine r_goto ?_
        refine At.enter rfl ?_
        refine r_ireti ?_
        exact ⟨_, rfl, hI58, hF62, _, rfl, by decide⟩
