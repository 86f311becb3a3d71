def F_X11_costOf_231 : List (Nat × Nat) := [(231, 27), (231, 30), (231, 31), (231, 32)]
def A_X11_costOf_231 : List Nat := [249]
set_option maxRecDepth 100000 in
set_option maxHeartbeats 4000000 in
theorem T_X11_costOf_231 (d : Nat) {N : Nat} {g0 : List en_E} (hI0 : HI g0) (a1 : Int32) (h_a1 : 0 ≤ a1.toInt ∧ a1.toInt ≤ 7) (hl : a1.toInt < (eA g0 233 1).toInt) : Ev (d + 6) 243 [.ref 231, .int a1] (g0, N) (fun w h' => ∃ g', h' = (g', N) ∧ HI g' ∧ Fr F_X11_costOf_231 A_X11_costOf_231 g0 g' ∧ ∃ r : Int32, w = some (.int r) ∧ True) := by
  have hF0 : Fr F_X11_costOf_231 A_X11_costOf_231 g0 g0 := Fr.rf
  refine Ev.mk rfl rfl ⟨Nat.le_of_ble_eq_true rfl, Or.inr (q_rc hI0.1 kx_231 rfl)⟩ ?_
  show At _ none _ _ (0, [(0, .ref 231), (1, .int a1)], [], (_, _)) _
  refine At.enter rfl ?_
  refine r_aload_n rfl ?_
  refine r_iload_n rfl ?_
  refine r_callV 5 rfl [.ref 231, .int a1] [] (Nat.le_of_ble_eq_true rfl) rfl (T_X11_findWay_231 _ hI0 a1 (by omega) (by rw [eA_c (rfl)]; omega)) ?_
  rintro _ _ ⟨g375, rfl, hI376, hF377, v378, rfl, hr379⟩
  refine At.sti ?_
  have hF380 := Fr.tr hF0 hF377 rfl rfl
  obtain ⟨w381, w382, w383, w384⟩ := hr379
  have w385 := And.intro w381 w382
  have fw386 : ∀ j : Int, 0 ≤ j → j ≤ v378.toInt → (eA g375 249 j).toInt < (eA g0 233 0).toInt := fun j a b => by have z := w385.2 j a b; rw [eA_c (rfl)] at z; exact z
  have w387 := WAYF.cg (rfl) w383
  have w388 := itI.cg (rfl) w384
  refine At.enter rfl ?_
  refine r_istore_n ([(2, .int v378), (0, .ref 231), (1, .int a1)]) rfl ?_
  refine r_iconst 0 rfl ?_
  refine r_istore_n ([(3, .int 0), (2, .int v378), (0, .ref 231), (1, .int a1)]) rfl ?_
  refine r_iconst 0 rfl ?_
  refine r_istore ([(4, .int 0), (3, .int 0), (2, .int v378), (0, .ref 231), (1, .int a1)]) rfl ?_
  refine Ar.fall 11 rfl ?_
  have z_548 : (0 : Int32).toInt = 0 := rfl
  have z_549 : (0 : Int32).toInt = 0 := rfl
  refine w_loopI (fun n_ l_ g_ => ∃ x534 : Int32, ∃ x535 : Int32, n_ = 12 - x535.toInt ∧ HI g_ ∧ Fr F_X11_costOf_231 A_X11_costOf_231 g0 g_ ∧ en_get 0 l_ = some (.ref 231) ∧ en_get 1 l_ = some (.int a1) ∧ en_get 2 l_ = some (.int v378) ∧ en_get 3 l_ = some (.int x534) ∧ en_get 4 l_ = some (.int x535) ∧ (0 ≤ x535.toInt ∧ x535.toInt ≤ 12)) ?_ (12 - 0) ⟨0, 0, by first | rfl | omega, hI376, hF380, rfl, rfl, rfl, rfl, rfl, by decide⟩
  rintro n540 l539 g536 ⟨x534, x535, hm550, hI537, hF538, e542, e543, e544, e545, e546, r547⟩ ih541
  refine At.enter rfl ?_
  refine r_iload e546 ?_
  refine r_iload_n e544 ?_
  have bv552 := q_bnd x535
  have bv553 := q_bnd v378
  refine r_ics 17 rfl (fun c551 => ?_) (fun c551 => ?_)
  · have c551_ : x535.toInt ≥ v378.toInt := en_i_ge_t c551
    refine At.enter rfl ?_
    refine r_iload_n e544 ?_
    refine r_iconst (-1) rfl ?_
    refine r_ics 43 rfl (fun c554 => ?_) (fun c554 => ?_)
    · have c554_ : v378.toInt ≠ (-1) := en_i_ne_t c554
      refine At.enter rfl ?_
      refine r_iload_n e545 ?_
      refine Ar.fall 48 rfl ?_
      refine At.enter rfl ?_
      refine r_ireti ?_
      exact ⟨_, rfl, hI537, hF538, _, rfl, trivial⟩
    · have c554_ : v378.toInt = (-1) := en_i_ne_f c554
      refine At.enter rfl ?_
      refine r_iconst (-1) rfl ?_
      refine r_goto ?_
      refine At.enter rfl ?_
      refine r_ireti ?_
      exact ⟨_, rfl, hI537, hF538, _, rfl, trivial⟩
  · have c551_ : x535.toInt < v378.toInt := en_i_ge_f c551
    refine At.enter rfl ?_
    refine r_iload_n e545 ?_
    refine r_aload_n e542 ?_
    refine r_iload_n e543 ?_
    refine r_aload_n e542 ?_
    refine q_getR (Sh.ref hI537.1 kx_231 rfl) ?_
    refine r_iload e546 ?_
    obtain ⟨v555, hv555⟩ : ∃ v, eA g536 249 x535.toInt = v := ⟨_, rfl⟩
    have rv555 := RgA.at hI537.2.2.1 (Sh.arr hI537.1 ka_249).2 (p := 249) rfl (j := x535.toInt) (by omega)
    rw [hv555] at rv555
    dsimp only at rv555
    refine q_iald (Sh.arr hI537.1 ka_249) x535.toInt rfl (by omega) v555 hv555 ?_
    refine r_callV 30 rfl [.ref 231, .int a1, .int v555] [.int x534] (Nat.le_of_ble_eq_true rfl) rfl (T_X11_feeOf_231 _ hI537 a1 (by omega) v555 (by omega)) ?_
    rintro _ _ ⟨g556, rfl, hI557, hF558, v559, rfl, hr560⟩
    refine At.sti ?_
    have hF561 := Fr.tr hF538 hF558 rfl rfl
    refine At.enter rfl ?_
    refine q_iaddO (fun v562 _ => ?_)
    refine r_istore_n _ rfl ?_
    refine q_iinc (w_p1 (by decide) (Or.inr rfl) e546) (x535.toInt + 1) rfl (by omega) (fun v563 hv563 => ?_)
    refine r_goto ?_
    have bv564 := q_bnd v562
    exact ih541 (12 - v563.toInt) _ _ ⟨v562, v563, by first | rfl | omega, hI557, hF561, (w_p1 (by decide) (Or.inr rfl) (w_p1 (by decide) (Or.inr rfl) e542)), (w_p1 (by decide) (Or.inr rfl) (w_p1 (by decide) (Or.inr rfl) e543)), (w_p1 (by decide) (Or.inr rfl) (w_p1 (by decide) (Or.inr rfl) e544)), (w_p1 (by decide) (Or.inr rfl) (w_e1 _ _ _)), (w_e1 _ _ _), by omega⟩ ⟨by omega, by omega⟩

def F_X11_cost_231 : List (Nat × Nat) := [(231, 0), (231, 27), (231, 30), (231, 31), (231, 32), (231, 36)]
def A_X11_cost_231 : List Nat := [246, 247, 248, 249]
set_option maxRecDepth 100000 in
set_option maxHeartbeats 4000000 in
theorem T_X11_cost_231 (d : Nat) {N : Nat} {g0 : List en_E} (hI0 : HI g0) (a1 : Int32) : Ev (d + 7) 244 [.ref 231, .int a1] (g0, N) (fun w h' => ∃ g', h' = (g', N) ∧ HI g' ∧ Fr F_X11_cost_231 A_X11_cost_231 g0 g' ∧ ∃ r : Int32, w = some (.int r) ∧ True) := by
  have hF0 : Fr F_X11_cost_231 A_X11_cost_231 g0 g0 := Fr.rf
  refine Ev.mk rfl rfl ⟨Nat.le_of_ble_eq_true rfl, Or.inr (q_rc hI0.1 kx_231 rfl)⟩ ?_
  show At _ none _ _ (0, [(0, .ref 231), (1, .int a1)], [], (_, _)) _
  refine At.enter rfl ?_
  refine r_aload_n rfl ?_
  refine r_iconst 0 rfl ?_
  refine q_putI (Sh.int hI0.1 kx_231 rfl) rfl ?_
  have hI41 := HI.wI0 hI0 kx_231 rfl (p := 231) (b := 0) (v := 0) rfl
  have hF42 := Fr.wI (p := 231) (b := 0) (v := 0) hF0 rfl
  refine r_aload_n rfl ?_
  refine r_iload_n rfl ?_
  refine q_inlV 10 rfl [.ref 231, .int a1] [] (Nat.le_of_ble_eq_true rfl) rfl ?_
  refine Ev.mk rfl rfl ⟨Nat.le_of_ble_eq_true rfl, Or.inr (q_rc hI41.1 kx_231 rfl)⟩ ?_
  show At _ none _ _ (0, [(0, .ref 231), (1, .int a1)], [], (_, _)) _
  refine At.enter rfl ?_
  refine r_iload_n rfl ?_
  refine q_i2l (fun v43 hv43 => ?_)
  refine r_lconst 0 rfl ?_
  refine r_aload_n rfl ?_
  refine q_getR (Sh.ref hI41.1 kx_231 rfl) ?_
  refine r_iconst 1 rfl ?_
  obtain ⟨v44, hv44⟩ : ∃ v, eA g0 233 1 = v := ⟨_, rfl⟩
  have tv44 := congrArg Int32.toInt hv44
  have wv44 := HI.t1 hI0
  rw [hv44] at wv44
  refine q_iald (Sh.arr hI41.1 ka_233) 1 rfl (by decide) v44 ((eA_c (gA_sI)).trans hv44) ?_
  refine q_i2l (fun v45 hv45 => ?_)
  refine r_lconst 1 rfl ?_
  refine q_lsub (v45.toInt - 1) rfl (by omega) (fun v46 hv46 => ?_)
  refine q_inlS 15 rfl [.long v43, .long 0, .long v46] [] (Nat.le_of_ble_eq_true rfl) rfl ?_
  refine Ev.mk rfl rfl ⟨Nat.le_of_ble_eq_true rfl, Or.inl rfl⟩ ?_
  show At _ none _ _ (0, [(0, .long v43), (2, .long 0), (4, .long v46)], [], (_, _)) _
  refine At.enter rfl ?_
  refine r_lload_n rfl ?_
  refine r_lload_n rfl ?_
  refine r_lcmp _ rfl ?_
  refine r_ifs 6 rfl (fun c47 => ?_) (fun c47 => ?_)
  · have c47_ : v43.toInt < 0 := en_j_lt_t c47
    refine At.enter rfl ?_
    refine r_iconst 0 rfl ?_
    refine Ar.fall 18 rfl ?_
    refine At.enter rfl ?_
    refine q_iretz (by decide) ?_
    refine At.enter rfl ?_
    refine q_iretz (by decide) ?_
    refine At.enter rfl ?_
    refine r_iff 13 rfl (by decide) ?_
    refine At.enter rfl ?_
    refine r_iconst (-1) rfl ?_
    refine r_ireti ?_
    exact ⟨_, rfl, hI41, hF42, _, rfl, trivial⟩
  · have c47_ : v43.toInt ≥ 0 := en_j_lt_f c47
    refine At.enter rfl ?_
    refine r_lload_n rfl ?_
    refine r_lload rfl ?_
    refine r_lcmp _ rfl ?_
    refine r_ifs 13 rfl (fun c48 => ?_) (fun c48 => ?_)
    · have c48_ : v43.toInt > v46.toInt := en_j_gt_t c48
      refine At.enter rfl ?_
      refine r_iconst 0 rfl ?_
      refine Ar.fall 18 rfl ?_
      refine At.enter rfl ?_
      refine q_iretz (by decide) ?_
      refine At.enter rfl ?_
      refine q_iretz (by decide) ?_
      refine At.enter rfl ?_
      refine r_iff 13 rfl (by decide) ?_
      refine At.enter rfl ?_
      refine r_iconst (-1) rfl ?_
      refine r_ireti ?_
      exact ⟨_, rfl, hI41, hF42, _, rfl, trivial⟩
    · have c48_ : v43.toInt ≤ v46.toInt := en_j_gt_f c48
      refine At.enter rfl ?_
      refine r_iconst 1 rfl ?_
      refine r_goto ?_
      refine At.enter rfl ?_
      refine q_iretz (by decide) ?_
      refine At.enter rfl ?_
      refine q_iretz (by decide) ?_
      refine At.enter rfl ?_
      refine r_ift (by decide) ?_
      refine At.enter rfl ?_
      refine r_aload_n rfl ?_
      refine r_callV 19 rfl [.ref 231] [] (Nat.le_of_ble_eq_true rfl) rfl (T_X11_asIs_231 _ hI41) ?_
      rintro _ _ ⟨g49, rfl, hI50, hF51, rfl⟩
      refine At.stn ?_
      have hF54 := Fr.tr hF42 hF51 rfl rfl
      refine At.enter rfl ?_
      refine r_aload_n rfl ?_
      refine r_iload_n rfl ?_
      refine r_callV 24 rfl [.ref 231, .int a1] [] (Nat.le_of_ble_eq_true rfl) rfl (T_X11_costOf_231 _ hI50 a1 (by omega) (by rw [eA_c (((hF51.2.1 233 ma_X11_asIs_231_233).trans (gA_sI))), hv44]; omega)) ?_
      rintro _ _ ⟨g55, rfl, hI56, hF57, v58, rfl, hr59⟩
      refine At.sti ?_
      have hF60 := Fr.tr hF54 hF57 rfl rfl
      refine At.enter rfl ?_
      refine r_ireti ?_
      exact ⟨_, rfl, hI56, hF60, _, rfl, trivial⟩

def F_X11_isSent_231 : List (Nat × Nat) := [(231, 27), (231, 30), (231, 31), (231, 32)]
def A_X11_isSent_231 : List Nat := [249]
theorem ma_X11_costOf_231_233 : memA A_X11_costOf_231 233 = false := by decide
set_option maxRecDepth 100000 in
set_option maxHeartbeats 4000000 in
theorem T_X11_isSent_231 (d : Nat) {N : Nat} {g0 : List en_E} (hI0 : HI g0) (a1 : Int32) (h_a1 : 0 ≤ a1.toInt ∧ a1.toInt ≤ 7) (hl : a1.toInt < (eA g0 233 1).toInt) : Ev (d + 7) 245 [.ref 231, .int a1] (g0, N) (fun w h' => ∃ g', h' = (g', N) ∧ HI g' ∧ Fr F_X11_isSent_231 A_X11_isSent_231 g0 g' ∧ ∃ r : Int32, w = some (.int r) ∧ (0 ≤ r.toInt ∧ r.toInt ≤ 1)) := by
  have hF0 : Fr F_X11_isSent_231 A_X11_isSent_231 g0 g0 := Fr.rf
  refine Ev.mk rfl rfl ⟨Nat.le_of_ble_eq_true rfl, Or.inr (q_rc hI0.1 kx_231 rfl)⟩ ?_
  show At _ none _ _ (0, [(0, .ref 231), (1, .int a1)], [], (_, _)) _
  refine At.enter rfl ?_
  refine r_aload_n rfl ?_
  refine r_iload_n rfl ?_
  refine r_callV 5 rfl [.ref 231, .int a1] [] (Nat.le_of_ble_eq_true rfl) rfl (T_X11_costOf_231 _ hI0 a1 (by omega) (by rw [eA_c (rfl)]; omega)) ?_
  rintro _ _ ⟨g29, rfl, hI30, hF31, v32, rfl, hr33⟩
  refine At.sti ?_
  have hF34 := Fr.tr hF0 hF31 rfl rfl
  refine At.enter rfl ?_
  refine r_istore_n ([(2, .int v32), (0, .ref 231), (1, .int a1)]) rfl ?_
  refine r_iload_n rfl ?_
  refine r_iconst (-1) rfl ?_
  refine r_ics 11 rfl (fun c35 => ?_) (fun c35 => ?_)
  · have c35_ : v32.toInt = (-1) := en_i_eq_t c35
    refine At.enter rfl ?_
    refine r_iconst 0 rfl ?_
    refine Ar.fall 26 rfl ?_
    refine At.enter rfl ?_
    refine r_iretz (by decide) ?_
    exact ⟨_, rfl, hI30, hF34, _, rfl, by decide⟩
  · have c35_ : v32.toInt ≠ (-1) := en_i_eq_f c35
    refine At.enter rfl ?_
    refine r_iload_n rfl ?_
    refine r_aload_n rfl ?_
    refine r_iload_n rfl ?_
    refine r_iconst 5 rfl ?_
    refine q_inlV 18 rfl [.ref 231, .int a1, .int 5] [.int v32] (Nat.le_of_ble_eq_true rfl) rfl ?_
    refine Ev.mk rfl rfl ⟨Nat.le_of_ble_eq_true rfl, Or.inr (q_rc hI30.1 kx_231 rfl)⟩ ?_
    show At _ none _ _ (0, [(0, .ref 231), (1, .int a1), (2, .int 5)], [], (_, _)) _
    refine At.enter rfl ?_
    refine r_aload_n rfl ?_
    refine q_getR (Sh.ref hI30.1 kx_231 rfl) ?_
    refine r_bipush 46 rfl ?_
    refine r_bipush 6 rfl ?_
    refine r_iload_n rfl ?_
    refine q_imul (6 * a1.toInt) rfl (by omega) (fun v36 hv36 => ?_)
    refine q_iadd (46 + v36.toInt) rfl (by omega) (fun v37 hv37 => ?_)
    refine r_iload_n rfl ?_
    refine q_iadd (v37.toInt + 5) rfl (by omega) (fun v38 hv38 => ?_)
    obtain ⟨v39, hv39⟩ : ∃ v, eA g0 233 (6 * a1.toInt + 51) = v := ⟨_, rfl⟩
    have wv39 := HI.l5 hI0 (j := (6 * a1.toInt + 51)) (a1.toInt) (by omega) (by omega)
    rw [hv39] at wv39
    refine q_iald (Sh.arr hI30.1 ka_233) (6 * a1.toInt + 51) (by omega) (by omega) v39 ((eA_c (hF31.2.1 233 ma_X11_costOf_231_233)).trans hv39) ?_
    refine q_ireti ?_
    refine At.enter rfl ?_
    have bv41 := q_bnd v32
    have bv42 := q_bnd v39
    refine r_ics 21 rfl (fun c40 => ?_) (fun c40 => ?_)
    · have c40_ : v32.toInt > v39.toInt := en_i_gt_t c40
      refine At.enter rfl ?_
      refine r_iconst 0 rfl ?_
      refine Ar.fall 26 rfl ?_
      refine At.enter rfl ?_
      refine r_iretz (by decide) ?_
      exact ⟨_, rfl, hI30, hF34, _, rfl, by decide⟩
    · have c40_ : v32.toInt ≤ v39.toInt := en_i_gt_f c40
      refine At.enter rfl ?_
      refine r_iconst 1 rfl ?_
      refine r_goto ?_
      refine At.enter rfl ?_
      refine r_iretz (by decide) ?_
      exact ⟨_, rfl, hI30, hF34, _, rfl, by decide⟩

def F_X11_sent_231 : List (Nat × Nat) := [(231, 0), (231, 27), (231, 30), (231, 31), (231, 32), (231, 36)]
def A_X11_sent_231 : List Nat := [246, 247, 248, 249]
set_option maxRecDepth 100000 in
set_option maxHeartbeats 4000000 in
theorem T_X11_sent_231 (d : Nat) {N : Nat} {g0 : List en_E} (hI0 : HI g0) (a1 : Int32) : Ev (d + 8) 246 [.ref 231, .int a1] (g0, N) (fun w h' => ∃ g', h' = (g', N) ∧ HI g' ∧ Fr F_X11_sent_231 A_X11_sent_231 g0 g' ∧ ∃ r : Int32, w = some (.int r) ∧ ((-1) ≤ r.toInt ∧ r.toInt ≤ 1)) := by
  have hF0 : Fr F_X11_sent_231 A_X11_sent_231 g0 g0 := Fr.rf
  refine Ev.mk rfl rfl ⟨Nat.le_of_ble_eq_true rfl, Or.inr (q_rc hI0.1 kx_231 rfl)⟩ ?_
  show At _ none _ _ (0, [(0, .ref 231), (1, .int a1)], [], (_, _)) _
  refine At.enter rfl ?_
  refine r_aload_n rfl ?_
  refine r_iconst 0 rfl ?_
  refine q_putI (Sh.int hI0.1 kx_231 rfl) rfl ?_
  have hI43 := HI.wI0 hI0 kx_231 rfl (p := 231) (b := 0) (v := 0) rfl
  have hF44 := Fr.wI (p := 231) (b := 0) (v := 0) hF0 rfl
  refine r_aload_n rfl ?_
  refine r_iload_n rfl ?_
  refine q_inlV 10 rfl [.ref 231, .int a1] [] (Nat.le_of_ble_eq_true rfl) rfl ?_
  refine Ev.mk rfl rfl ⟨Nat.le_of_ble_eq_true rfl, Or.inr (q_rc hI43.1 kx_231 rfl)⟩ ?_
  show At _ none _ _ (0, [(0, .ref 231), (1, .int a1)], [], (_, _)) _
  refine At.enter rfl ?_
  refine r_iload_n rfl ?_
  refine q_i2l (fun v45 hv45 => ?_)
  refine r_lconst 0 rfl ?_
  refine r_aload_n rfl ?_
  refine q_getR (Sh.ref hI43.1 kx_231 rfl) ?_
  refine r_iconst 1 rfl ?_
  obtain ⟨v46, hv46⟩ : ∃ v, eA g0 233 1 = v := ⟨_, rfl⟩
  have tv46 := congrArg Int32.toInt hv46
  have wv46 := HI.t1 hI0
  rw [hv46] at wv46
  refine q_iald (Sh.arr hI43.1 ka_233) 1 rfl (by decide) v46 ((eA_c (gA_sI)).trans hv46) ?_
  refine q_i2l (fun v47 hv47 => ?_)
  refine r_lconst 1 rfl ?_
  refine q_lsub (v47.toInt - 1) rfl (by omega) (fun v48 hv48 => ?_)
  refine q_inlS 15 rfl [.long v45, .long 0, .long v48] [] (Nat.le_of_ble_eq_true rfl) rfl ?_
  refine Ev.mk rfl rfl ⟨Nat.le_of_ble_eq_true rfl, Or.inl rfl⟩ ?_
  show At _ none _ _ (0, [(0, .long v45), (2, .long 0), (4, .long v48)], [], (_, _)) _
  refine At.enter rfl ?_
  refine r_lload_n rfl ?_
  refine r_lload_n rfl ?_
  refine r_lcmp _ rfl ?_
  refine r_ifs 6 rfl (fun c49 => ?_) (fun c49 => ?_)
  · have c49_ : v45.toInt < 0 := en_j_lt_t c49
    refine At.enter rfl ?_
    refine r_iconst 0 rfl ?_
    refine Ar.fall 18 rfl ?_
    refine At.enter rfl ?_
    refine q_iretz (by decide) ?_
    refine At.enter rfl ?_
    refine q_iretz (by decide) ?_
    refine At.enter rfl ?_
    refine r_iff 13 rfl (by decide) ?_
    refine At.enter rfl ?_
    refine r_iconst (-1) rfl ?_
    refine r_ireti ?_
    exact ⟨_, rfl, hI43, hF44, _, rfl, by decide⟩
  · have c49_ : v45.toInt ≥ 0 := en_j_lt_f c49
    refine At.enter rfl ?_
    refine r_lload_n rfl ?_
    refine r_lload rfl ?_
    refine r_lcmp _ rfl ?_
    refine r_ifs 13 rfl (fun c50 => ?_) (fun c50 => ?_)
    · have c50_ : v45.toInt > v48.toInt := en_j_gt_t c50
      refine At.enter rfl ?_
      refine r_iconst 0 rfl ?_
      refine Ar.fall 18 rfl ?_
      refine At.enter rfl ?_
      refine q_iretz (by decide) ?_
      refine At.enter rfl ?_
      refine q_iretz (by decide) ?_
      refine At.enter rfl ?_
      refine r_iff 13 rfl (by decide) ?_
      refine At.enter rfl ?_
      refine r_iconst (-1) rfl ?_
      refine r_ireti ?_
      exact ⟨_, rfl, hI43, hF44, _, rfl, by decide⟩
    · have c50_ : v45.toInt ≤ v48.toInt := en_j_gt_f c50
      refine At.enter rfl ?_
      refine r_iconst 1 rfl ?_
      refine r_goto ?_
      refine At.enter rfl ?_
      refine q_iretz (by decide) ?_
      refine At.enter rfl ?_
      refine q_iretz (by decide) ?_
      refine At.enter rfl ?_
      refine r_ift (by decide) ?_
      refine At.enter rfl ?_
      refine r_aload_n rfl ?_
      refine r_callV 19 rfl [.ref 231] [] (Nat.le_of_ble_eq_true rfl) rfl (T_X11_asIs_231 _ hI43) ?_
      rintro _ _ ⟨g51, rfl, hI52, hF53, rfl⟩
      refine At.stn ?_
      have hF56 := Fr.tr hF44 hF53 rfl rfl
      refine At.enter rfl ?_
      refine r_aload_n rfl ?_
      refine r_iload_n rfl ?_
      refine r_callV 24 rfl [.ref 231, .int a1] [] (Nat.le_of_ble_eq_true rfl) rfl (T_X11_isSent_231 _ hI52 a1 (by omega) (by rw [eA_c (((hF53.2.1 233 ma_X11_asIs_231_233).trans (gA_sI))), hv46]; omega)) ?_
      rintro _ _ ⟨g57, rfl, hI58, hF59, v60, rfl, hr61⟩
      refine At.sti ?_
      have hF62 := Fr.tr hF56 hF59 rfl rfl
      refine At.enter rfl ?_
      refine r_ifs 27 rfl (fun c63 => ?_) (fun c63 => ?_)
      · have c63_ : v60.toInt = 0 := en_k_eq_t c63
        refine At.enter rfl ?_
        refine r_iconst 0 rfl ?_
        refine Ar.fall 32 rfl ?_
        refine At.enter rfl ?_
        refine r_ireti ?_
        exact ⟨_, rfl, hI58, hF62, _, rfl, by decide⟩
      · have c63_ : v60.toInt ≠ 0 := en_k_eq_f c63
        refine At.enter rfl ?_
        refine r_iconst 1 rfl ?_
        refine r_goto ?_
        refine At.enter rfl ?_
        refine r_ireti ?_
        exact ⟨_, rfl, hI58, hF62, _, rfl, by decide⟩
