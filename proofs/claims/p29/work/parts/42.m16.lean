def F_X11_costOf_231 : List (Nat × Nat) := [(231, 27), (231, 30), (231, 31), (231, 32)]
def A_X11_costOf_231 : List Nat := [249]
theorem ma_X11_feeOf_231_249 : memA A_X11_feeOf_231 249 = false := by decide
set_option maxRecDepth 100000 in
set_option maxHeartbeats 4000000 in
theorem T_X11_costOf_231 (d : Nat) {N : Nat} {g0 : List en_E} (hI0 : HI g0) (a1 : Int32) (h_a1 : 0 ≤ a1.toInt ∧ a1.toInt ≤ 7) (hl : a1.toInt < (eA g0 233 1).toInt) : Ev (d + 6) 243 [.ref 231, .int a1] (g0, N) (fun w h' => ∃ g', h' = (g', N) ∧ HI g' ∧ Fr F_X11_costOf_231 A_X11_costOf_231 g0 g' ∧ ∃ r : Int32, w = some (.int r) ∧ True ∧ CMP g0 a1.toInt r.toInt) := by
  have hF0 : Fr F_X11_costOf_231 A_X11_costOf_231 g0 g0 := Fr.rf
  refine Ev.mk rfl rfl ⟨Nat.le_of_ble_eq_true rfl, Or.inr (q_rc hI0.1 kx_231 rfl)⟩ ?_
  show At _ none _ _ (0, [(0, .ref 231), (1, .int a1)], [], (_, _)) _
  refine At.enter rfl ?_
  refine r_aload_n rfl ?_
  refine r_iload_n rfl ?_
  refine r_callV 5 rfl [.ref 231, .int a1] [] (Nat.le_of_ble_eq_true rfl) rfl (T_X11_findWay_231 _ hI0 a1 (by omega) (by rw [eA_c (rfl)]; omega)) ?_
  rintro _ _ ⟨g379, rfl, hI380, hF381, v382, rfl, hr383⟩
  refine At.sti ?_
  have hF384 := Fr.tr hF0 hF381 rfl rfl
  obtain ⟨w385, w386, w387, w388⟩ := hr383
  have w389 := And.intro w385 w386
  have fw390 : ∀ j : Int, 0 ≤ j → j ≤ v382.toInt → (eA g379 249 j).toInt < (eA g0 233 0).toInt := fun j a b => by have z := w389.2 j a b; rw [eA_c (rfl)] at z; exact z
  have w391 := WAYF.cg (rfl) w387
  have w392 := itI.cg (rfl) w388
  refine At.enter rfl ?_
  refine r_istore_n ([(2, .int v382), (0, .ref 231), (1, .int a1)]) rfl ?_
  refine r_iconst 0 rfl ?_
  refine r_istore_n ([(3, .int 0), (2, .int v382), (0, .ref 231), (1, .int a1)]) rfl ?_
  refine r_iconst 0 rfl ?_
  refine r_istore ([(4, .int 0), (3, .int 0), (2, .int v382), (0, .ref 231), (1, .int a1)]) rfl ?_
  refine Ar.fall 11 rfl ?_
  have z_554 : (0 : Int32).toInt = 0 := rfl
  have z_555 : (0 : Int32).toInt = 0 := rfl
  refine w_loopI (fun n_ l_ g_ => ∃ x537 : Int32, ∃ x538 : Int32, n_ = 12 - x538.toInt ∧ HI g_ ∧ Fr F_X11_costOf_231 A_X11_costOf_231 g0 g_ ∧ en_get 0 l_ = some (.ref 231) ∧ en_get 1 l_ = some (.int a1) ∧ en_get 2 l_ = some (.int v382) ∧ en_get 3 l_ = some (.int x537) ∧ en_get 4 l_ = some (.int x538) ∧ (0 ≤ x538.toInt ∧ x538.toInt ≤ 12) ∧ (CML g0 (GTM g0 a1.toInt) x538.toInt (eA g0 233 (46 + (6 * a1.toInt + 1))).toInt x537.toInt) ∧ (∀ j : Int, 0 ≤ j → j ≤ v382.toInt → (eA g_ 249 j).toInt = itI (NMq g0) j (eA g0 233 (46 + (6 * a1.toInt + 1))).toInt) ∧ (x538.toInt ≤ v382.toInt ∨ x538.toInt = 0)) ?_ (12 - 0) ⟨0, 0, by first | rfl | omega, hI380, hF384, rfl, rfl, rfl, rfl, rfl, by decide, (CML_z rfl rfl), (fun j a b => w392 j a b), by omega⟩
  rintro n543 l542 g539 ⟨x537, x538, hm556, hI540, hF541, e545, e546, e547, e548, e549, r550, q551, q552, q553⟩ ih544
  refine At.enter rfl ?_
  refine r_iload e549 ?_
  refine r_iload_n e547 ?_
  have bv558 := q_bnd x538
  have bv559 := q_bnd v382
  refine r_ics 17 rfl (fun c557 => ?_) (fun c557 => ?_)
  · have c557_ : x538.toInt ≥ v382.toInt := en_i_ge_t c557
    refine At.enter rfl ?_
    refine r_iload_n e547 ?_
    refine r_iconst (-1) rfl ?_
    refine r_ics 43 rfl (fun c560 => ?_) (fun c560 => ?_)
    · have c560_ : v382.toInt ≠ (-1) := en_i_ne_t c560
      refine At.enter rfl ?_
      refine r_iload_n e548 ?_
      refine Ar.fall 48 rfl ?_
      refine At.enter rfl ?_
      refine r_ireti ?_
      exact ⟨_, rfl, hI540, hF541, _, rfl, trivial, (CMP_mk (n := v382.toInt) w391 q551 (by omega) (by omega) (by first | exact Or.inl ⟨by omega, by omega⟩ | exact Or.inr ⟨by omega, by omega⟩))⟩
    · have c560_ : v382.toInt = (-1) := en_i_ne_f c560
      refine At.enter rfl ?_
      refine r_iconst (-1) rfl ?_
      refine r_goto ?_
      refine At.enter rfl ?_
      refine r_ireti ?_
      have zv561 : ((-1) : Int32).toInt = (-1) := rfl
      exact ⟨_, rfl, hI540, hF541, _, rfl, trivial, (CMP_mk (n := v382.toInt) w391 q551 (by omega) (by omega) (by first | exact Or.inl ⟨by omega, by omega⟩ | exact Or.inr ⟨by omega, by omega⟩))⟩
  · have c557_ : x538.toInt < v382.toInt := en_i_ge_f c557
    refine At.enter rfl ?_
    refine r_iload_n e548 ?_
    refine r_aload_n e545 ?_
    refine r_iload_n e546 ?_
    refine r_aload_n e545 ?_
    refine q_getR (Sh.ref hI540.1 kx_231 rfl) ?_
    refine r_iload e549 ?_
    obtain ⟨v562, hv562⟩ : ∃ v, eA g539 249 x538.toInt = v := ⟨_, rfl⟩
    have rv562 := RgA.at hI540.2.2.1 (Sh.arr hI540.1 ka_249).2 (p := 249) rfl (j := x538.toInt) (by omega)
    rw [hv562] at rv562
    dsimp only at rv562
    refine q_iald (Sh.arr hI540.1 ka_249) x538.toInt rfl (by omega) v562 hv562 ?_
    refine r_callV 30 rfl [.ref 231, .int a1, .int v562] [.int x537] (Nat.le_of_ble_eq_true rfl) rfl (T_X11_feeOf_231 _ hI540 a1 (by omega) v562 (by omega)) ?_
    rintro _ _ ⟨g563, rfl, hI564, hF565, v566, rfl, hr567⟩
    refine At.sti ?_
    have hF568 := Fr.tr hF541 hF565 rfl rfl
    refine At.enter rfl ?_
    refine q_iaddO (fun v569 ov569 => ?_)
    refine r_istore_n _ rfl ?_
    refine q_iinc (w_p1 (by decide) (Or.inr rfl) e549) (x538.toInt + 1) rfl (by omega) (fun v570 hv570 => ?_)
    refine r_goto ?_
    have bv571 := q_bnd v569
    exact ih544 (12 - v570.toInt) _ _ ⟨v569, v570, by first | rfl | omega, hI564, hF568, (w_p1 (by decide) (Or.inr rfl) (w_p1 (by decide) (Or.inr rfl) e545)), (w_p1 (by decide) (Or.inr rfl) (w_p1 (by decide) (Or.inr rfl) e546)), (w_p1 (by decide) (Or.inr rfl) (w_p1 (by decide) (Or.inr rfl) e547)), (w_p1 (by decide) (Or.inr rfl) (w_e1 _ _ _)), (w_e1 _ _ _), by omega, (CML_s q551 hr567.2 (hF541.2.1 233 (by decide)) (hF541.2.1 246 (by decide)) (hF541.2.1 247 (by decide)) (by rw [← hv562]; exact q552 _ (by omega) (by omega)) (by omega) (by omega) (by omega) (by omega) ov569), (fun j a b => (eA_ti ((hF565.2.1 249 ma_X11_feeOf_231_249))).trans (q552 j a b)), by omega⟩ ⟨by omega, by omega⟩

def F_X11_cost_231 : List (Nat × Nat) := [(231, 0), (231, 27), (231, 30), (231, 31), (231, 32), (231, 36)]
def A_X11_cost_231 : List Nat := [246, 247, 248, 249]
set_option maxRecDepth 100000 in
set_option maxHeartbeats 4000000 in
theorem T_X11_cost_231 (d : Nat) {N : Nat} {g0 : List en_E} (hI0 : HI g0) (a1 : Int32) : Ev (d + 7) 244 [.ref 231, .int a1] (g0, N) (fun w h' => ∃ g', h' = (g', N) ∧ HI g' ∧ Fr F_X11_cost_231 A_X11_cost_231 g0 g' ∧ ∃ r : Int32, w = some (.int r) ∧ True ∧ CMR g0 a1.toInt r.toInt) := by
  have hF0 : Fr F_X11_cost_231 A_X11_cost_231 g0 g0 := Fr.rf
  refine Ev.mk rfl rfl ⟨Nat.le_of_ble_eq_true rfl, Or.inr (q_rc hI0.1 kx_231 rfl)⟩ ?_
  show At _ none _ _ (0, [(0, .ref 231), (1, .int a1)], [], (_, _)) _
  refine At.enter rfl ?_
  refine r_aload_n rfl ?_
  refine r_iconst 0 rfl ?_
  refine q_putI (Sh.int hI0.1 kx_231 rfl) rfl ?_
  have hI41 := HI.wI0 hI0 kx_231 rfl (p := 231) (b := 0) (v := 0) rfl
  have hF42 := Fr.wI (p := 231) (b := 0) (v := 0) hF0 rfl
  refine r_aload_n rfl ?_
  refine r_iload_n rfl ?_
  refine q_inlV 10 rfl [.ref 231, .int a1] [] (Nat.le_of_ble_eq_true rfl) rfl ?_
  refine Ev.mk rfl rfl ⟨Nat.le_of_ble_eq_true rfl, Or.inr (q_rc hI41.1 kx_231 rfl)⟩ ?_
  show At _ none _ _ (0, [(0, .ref 231), (1, .int a1)], [], (_, _)) _
  refine At.enter rfl ?_
  refine r_iload_n rfl ?_
  refine q_i2l (fun v43 hv43 => ?_)
  refine r_lconst 0 rfl ?_
  refine r_aload_n rfl ?_
  refine q_getR (Sh.ref hI41.1 kx_231 rfl) ?_
  refine r_iconst 1 rfl ?_
  obtain ⟨v44, hv44⟩ : ∃ v, eA g0 233 1 = v := ⟨_, rfl⟩
  have tv44 := congrArg Int32.toInt hv44
  have wv44 := HI.t1 hI0
  rw [hv44] at wv44
  refine q_iald (Sh.arr hI41.1 ka_233) 1 rfl (by decide) v44 ((eA_c (gA_sI)).trans hv44) ?_
  refine q_i2l (fun v45 hv45 => ?_)
  refine r_lconst 1 rfl ?_
  refine q_lsub (v45.toInt - 1) rfl (by omega) (fun v46 hv46 => ?_)
  refine q_inlS 15 rfl [.long v43, .long 0, .long v46] [] (Nat.le_of_ble_eq_true rfl) rfl ?_
  refine Ev.mk rfl rfl ⟨Nat.le_of_ble_eq_true rfl, Or.inl rfl⟩ ?_
  show At _ none _ _ (0, [(0, .long v43), (2, .long 0), (4, .long v46)], [], (_, _)) _
  refine At.enter rfl ?_
  refine r_lload_n rfl ?_
  refine r_lload_n rfl ?_
  refine r_lcmp _ rfl ?_
  refine r_ifs 6 rfl (fun c47 => ?_) (fun c47 => ?_)
  · have c47_ : v43.toInt < 0 := en_j_lt_t c47
    refine At.enter rfl ?_
    refine r_iconst 0 rfl ?_
    refine Ar.fall 18 rfl ?_
    refine At.enter rfl ?_
    refine q_iretz (by decide) ?_
    refine At.enter rfl ?_
    refine q_iretz (by decide) ?_
    refine At.enter rfl ?_
    refine r_iff 13 rfl (by decide) ?_
    refine At.enter rfl ?_
    refine r_iconst (-1) rfl ?_
    refine r_ireti ?_
    have zv48 : ((-1) : Int32).toInt = (-1) := rfl
    exact ⟨_, rfl, hI41, hF42, _, rfl, trivial, ⟨fun _ => by omega, fun z => by have y := congrArg Int32.toInt hv44; exact absurd z (by omega)⟩⟩
  · have c47_ : v43.toInt ≥ 0 := en_j_lt_f c47
    refine At.enter rfl ?_
    refine r_lload_n rfl ?_
    refine r_lload rfl ?_
    refine r_lcmp _ rfl ?_
    refine r_ifs 13 rfl (fun c49 => ?_) (fun c49 => ?_)
    · have c49_ : v43.toInt > v46.toInt := en_j_gt_t c49
      refine At.enter rfl ?_
      refine r_iconst 0 rfl ?_
      refine Ar.fall 18 rfl ?_
      refine At.enter rfl ?_
      refine q_iretz (by decide) ?_
      refine At.enter rfl ?_
      refine q_iretz (by decide) ?_
      refine At.enter rfl ?_
      refine r_iff 13 rfl (by decide) ?_
      refine At.enter rfl ?_
      refine r_iconst (-1) rfl ?_
      refine r_ireti ?_
      have zv50 : ((-1) : Int32).toInt = (-1) := rfl
      exact ⟨_, rfl, hI41, hF42, _, rfl, trivial, ⟨fun _ => by omega, fun z => by have y := congrArg Int32.toInt hv44; exact absurd z (by omega)⟩⟩
    · have c49_ : v43.toInt ≤ v46.toInt := en_j_gt_f c49
      refine At.enter rfl ?_
      refine r_iconst 1 rfl ?_
      refine r_goto ?_
      refine At.enter rfl ?_
      refine q_iretz (by decide) ?_
      refine At.enter rfl ?_
      refine q_iretz (by decide) ?_
      refine At.enter rfl ?_
      refine r_ift (by decide) ?_
      refine At.enter rfl ?_
      refine r_aload_n rfl ?_
      refine r_callV 19 rfl [.ref 231] [] (Nat.le_of_ble_eq_true rfl) rfl (T_X11_asIs_231 _ hI41) ?_
      rintro _ _ ⟨g51, rfl, hI52, hF53, rfl, hr55⟩
      refine At.stn ?_
      have hF56 := Fr.tr hF42 hF53 rfl rfl
      refine At.enter rfl ?_
      refine r_aload_n rfl ?_
      refine r_iload_n rfl ?_
      refine r_callV 24 rfl [.ref 231, .int a1] [] (Nat.le_of_ble_eq_true rfl) rfl (T_X11_costOf_231 _ hI52 a1 (by omega) (by rw [eA_c (((hF53.2.1 233 ma_X11_asIs_231_233).trans (gA_sI))), hv44]; omega)) ?_
      rintro _ _ ⟨g57, rfl, hI58, hF59, v60, rfl, hr61⟩
      refine At.sti ?_
      have hF62 := Fr.tr hF56 hF59 rfl rfl
      refine At.enter rfl ?_
      refine r_ireti ?_
      exact ⟨_, rfl, hI58, hF62, _, rfl, trivial, ⟨fun z => absurd (show _ from ⟨by have y := congrArg Int32.toInt hv44; omega, by have y := congrArg Int32.toInt hv44; omega⟩) z, fun _ => (CMQ_mk (((hF53.2.1 233 ma_X11_asIs_231_233).trans (gA_sI))) (show ASM g0 g51 from fun s s0 s1 => by have z := hr55 s s0 s1; rw [eA_tq ((gA_sI)), eA_tq ((gA_sI))] at z; exact z) hr61.2)⟩⟩

def F_X11_isSent_231 : List (Nat × Nat) := [(231, 27), (231, 30), (231, 31), (231, 32)]
def A_X11_isSent_231 : List Nat := [249]
theorem ma_X11_costOf_231_233 : memA A_X11_costOf_231 233 = false := by decide
set_option maxRecDepth 100000 in
set_option maxHeartbeats 4000000 in
theorem T_X11_isSent_231 (d : Nat) {N : Nat} {g0 : List en_E} (hI0 : HI g0) (a1 : Int32) (h_a1 : 0 ≤ a1.toInt ∧ a1.toInt ≤ 7) (hl : a1.toInt < (eA g0 233 1).toInt) : Ev (d + 7) 245 [.ref 231, .int a1] (g0, N) (fun w h' => ∃ g', h' = (g', N) ∧ HI g' ∧ Fr F_X11_isSent_231 A_X11_isSent_231 g0 g' ∧ ∃ r : Int32, w = some (.int r) ∧ (0 ≤ r.toInt ∧ r.toInt ≤ 1) ∧ ISM_ g0 a1.toInt r.toInt) := by
  have hF0 : Fr F_X11_isSent_231 A_X11_isSent_231 g0 g0 := Fr.rf
  refine Ev.mk rfl rfl ⟨Nat.le_of_ble_eq_true rfl, Or.inr (q_rc hI0.1 kx_231 rfl)⟩ ?_
  show At _ none _ _ (0, [(0, .ref 231), (1, .int a1)], [], (_, _)) _
  refine At.enter rfl ?_
  refine r_aload_n rfl ?_
  refine r_iload_n rfl ?_
  refine r_callV 5 rfl [.ref 231, .int a1] [] (Nat.le_of_ble_eq_true rfl) rfl (T_X11_costOf_231 _ hI0 a1 (by omega) (by rw [eA_c (rfl)]; omega)) ?_
  rintro _ _ ⟨g29, rfl, hI30, hF31, v32, rfl, hr33⟩
  refine At.sti ?_
  have hF34 := Fr.tr hF0 hF31 rfl rfl
  refine At.enter rfl ?_
  refine r_istore_n ([(2, .int v32), (0, .ref 231), (1, .int a1)]) rfl ?_
  refine r_iload_n rfl ?_
  refine r_iconst (-1) rfl ?_
  refine r_ics 11 rfl (fun c35 => ?_) (fun c35 => ?_)
  · have c35_ : v32.toInt = (-1) := en_i_eq_t c35
    refine At.enter rfl ?_
    refine r_iconst 0 rfl ?_
    refine Ar.fall 26 rfl ?_
    refine At.enter rfl ?_
    refine r_iretz (by decide) ?_
    have zv36 : (0 : Int32).toInt = 0 := rfl
    exact ⟨_, rfl, hI30, hF34, _, rfl, by decide, ⟨v32.toInt, hr33.2, SNV_mk (by first | exact Or.inl ⟨by omega, by omega, by omega⟩ | exact Or.inr ⟨by omega, by omega⟩)⟩⟩
  · have c35_ : v32.toInt ≠ (-1) := en_i_eq_f c35
    refine At.enter rfl ?_
    refine r_iload_n rfl ?_
    refine r_aload_n rfl ?_
    refine r_iload_n rfl ?_
    refine r_iconst 5 rfl ?_
    refine q_inlV 18 rfl [.ref 231, .int a1, .int 5] [.int v32] (Nat.le_of_ble_eq_true rfl) rfl ?_
    refine Ev.mk rfl rfl ⟨Nat.le_of_ble_eq_true rfl, Or.inr (q_rc hI30.1 kx_231 rfl)⟩ ?_
    show At _ none _ _ (0, [(0, .ref 231), (1, .int a1), (2, .int 5)], [], (_, _)) _
    refine At.enter rfl ?_
    refine r_aload_n rfl ?_
    refine q_getR (Sh.ref hI30.1 kx_231 rfl) ?_
    refine r_bipush 46 rfl ?_
    refine r_bipush 6 rfl ?_
    refine r_iload_n rfl ?_
    refine q_imul (6 * a1.toInt) rfl (by omega) (fun v37 hv37 => ?_)
    refine q_iadd (46 + v37.toInt) rfl (by omega) (fun v38 hv38 => ?_)
    refine r_iload_n rfl ?_
    refine q_iadd (v38.toInt + 5) rfl (by omega) (fun v39 hv39 => ?_)
    obtain ⟨v40, hv40⟩ : ∃ v, eA g0 233 (6 * a1.toInt + 51) = v := ⟨_, rfl⟩
    have wv40 := HI.l5 hI0 (j := (6 * a1.toInt + 51)) (a1.toInt) (by omega) (by omega)
    rw [hv40] at wv40
    refine q_iald (Sh.arr hI30.1 ka_233) (6 * a1.toInt + 51) (by omega) (by omega) v40 ((eA_c (hF31.2.1 233 ma_X11_costOf_231_233)).trans hv40) ?_
    refine q_ireti ?_
    refine At.enter rfl ?_
    have bv42 := q_bnd v32
    have bv43 := q_bnd v40
    refine r_ics 21 rfl (fun c41 => ?_) (fun c41 => ?_)
    · have c41_ : v32.toInt > v40.toInt := en_i_gt_t c41
      refine At.enter rfl ?_
      refine r_iconst 0 rfl ?_
      refine Ar.fall 26 rfl ?_
      refine At.enter rfl ?_
      refine r_iretz (by decide) ?_
      have zv44 : (0 : Int32).toInt = 0 := rfl
      exact ⟨_, rfl, hI30, hF34, _, rfl, by decide, ⟨v32.toInt, hr33.2, SNV_mk (by have e : (eA g0 233 (46 + (6 * a1.toInt + 5))).toInt = v40.toInt := (by rw [show 46 + (6 * a1.toInt + 5) = 6 * a1.toInt + 51 from by omega, hv40]); first | exact Or.inl ⟨by omega, by omega, by omega⟩ | exact Or.inr ⟨by omega, by omega⟩)⟩⟩
    · have c41_ : v32.toInt ≤ v40.toInt := en_i_gt_f c41
      refine At.enter rfl ?_
      refine r_iconst 1 rfl ?_
      refine r_goto ?_
      refine At.enter rfl ?_
      refine r_iretz (by decide) ?_
      have zv45 : (1 : Int32).toInt = 1 := rfl
      exact ⟨_, rfl, hI30, hF34, _, rfl, by decide, ⟨v32.toInt, hr33.2, SNV_mk (by have e : (eA g0 233 (46 + (6 * a1.toInt + 5))).toInt = v40.toInt := (by rw [show 46 + (6 * a1.toInt + 5) = 6 * a1.toInt + 51 from by omega, hv40]); first | exact Or.inl ⟨by omega, by omega, by omega⟩ | exact Or.inr ⟨by omega, by omega⟩)⟩⟩

def F_X11_sent_231 : List (Nat × Nat) := [(231, 0), (231, 27), (231, 30), (231, 31), (231, 32), (231, 36)]
def A_X11_sent_231 : List Nat := [246, 247, 248, 249]
set_option maxRecDepth 100000 in
set_option maxHeartbeats 4000000 in
theorem T_X11_sent_231 (d : Nat) {N : Nat} {g0 : List en_E} (hI0 : HI g0) (a1 : Int32) : Ev (d + 8) 246 [.ref 231, .int a1] (g0, N) (fun w h' => ∃ g', h' = (g', N) ∧ HI g' ∧ Fr F_X11_sent_231 A_X11_sent_231 g0 g' ∧ ∃ r : Int32, w = some (.int r) ∧ ((-1) ≤ r.toInt ∧ r.toInt ≤ 1) ∧ SMR g0 a1.toInt r.toInt) := by
  have hF0 : Fr F_X11_sent_231 A_X11_sent_231 g0 g0 := Fr.rf
  refine Ev.mk rfl rfl ⟨Nat.le_of_ble_eq_true rfl, Or.inr (q_rc hI0.1 kx_231 rfl)⟩ ?_
  show At _ none _ _ (0, [(0, .ref 231), (1, .int a1)], [], (_, _)) _
  refine At.enter rfl ?_
  refine r_aload_n rfl ?_
  refine r_iconst 0 rfl ?_
  refine q_putI (Sh.int hI0.1 kx_231 rfl) rfl ?_
  have hI43 := HI.wI0 hI0 kx_231 rfl (p := 231) (b := 0) (v := 0) rfl
  have hF44 := Fr.wI (p := 231) (b := 0) (v := 0) hF0 rfl
  refine r_aload_n rfl ?_
  refine r_iload_n rfl ?_
  refine q_inlV 10 rfl [.ref 231, .int a1] [] (Nat.le_of_ble_eq_true rfl) rfl ?_
  refine Ev.mk rfl rfl ⟨Nat.le_of_ble_eq_true rfl, Or.inr (q_rc hI43.1 kx_231 rfl)⟩ ?_
  show At _ none _ _ (0, [(0, .ref 231), (1, .int a1)], [], (_, _)) _
  refine At.enter rfl ?_
  refine r_iload_n rfl ?_
  refine q_i2l (fun v45 hv45 => ?_)
  refine r_lconst 0 rfl ?_
  refine r_aload_n rfl ?_
  refine q_getR (Sh.ref hI43.1 kx_231 rfl) ?_
  refine r_iconst 1 rfl ?_
  obtain ⟨v46, hv46⟩ : ∃ v, eA g0 233 1 = v := ⟨_, rfl⟩
  have tv46 := congrArg Int32.toInt hv46
  have wv46 := HI.t1 hI0
  rw [hv46] at wv46
  refine q_iald (Sh.arr hI43.1 ka_233) 1 rfl (by decide) v46 ((eA_c (gA_sI)).trans hv46) ?_
  refine q_i2l (fun v47 hv47 => ?_)
  refine r_lconst 1 rfl ?_
  refine q_lsub (v47.toInt - 1) rfl (by omega) (fun v48 hv48 => ?_)
  refine q_inlS 15 rfl [.long v45, .long 0, .long v48] [] (Nat.le_of_ble_eq_true rfl) rfl ?_
  refine Ev.mk rfl rfl ⟨Nat.le_of_ble_eq_true rfl, Or.inl rfl⟩ ?_
  show At _ none _ _ (0, [(0, .long v45), (2, .long 0), (4, .long v48)], [], (_, _)) _
  refine At.enter rfl ?_
  refine r_lload_n rfl ?_
  refine r_lload_n rfl ?_
  refine r_lcmp _ rfl ?_
  refine r_ifs 6 rfl (fun c49 => ?_) (fun c49 => ?_)
  · have c49_ : v45.toInt < 0 := en_j_lt_t c49
    refine At.enter rfl ?_
    refine r_iconst 0 rfl ?_
    refine Ar.fall 18 rfl ?_
    refine At.enter rfl ?_
    refine q_iretz (by decide) ?_
    refine At.enter rfl ?_
    refine q_iretz (by decide) ?_
    refine At.enter rfl ?_
    refine r_iff 13 rfl (by decide) ?_
    refine At.enter rfl ?_
    refine r_iconst (-1) rfl ?_
    refine r_ireti ?_
    have zv50 : ((-1) : Int32).toInt = (-1) := rfl
    exact ⟨_, rfl, hI43, hF44, _, rfl, by decide, ⟨fun _ => by omega, fun z => by have y := congrArg Int32.toInt hv46; exact absurd z (by omega)⟩⟩
  · have c49_ : v45.toInt ≥ 0 := en_j_lt_f c49
    refine At.enter rfl ?_
    refine r_lload_n rfl ?_
    refine r_lload rfl ?_
    refine r_lcmp _ rfl ?_
    refine r_ifs 13 rfl (fun c51 => ?_) (fun c51 => ?_)
    · have c51_ : v45.toInt > v48.toInt := en_j_gt_t c51
      refine At.enter rfl ?_
      refine r_iconst 0 rfl ?_
      refine Ar.fall 18 rfl ?_
      refine At.enter rfl ?_
      refine q_iretz (by decide) ?_
      refine At.enter rfl ?_
      refine q_iretz (by decide) ?_
      refine At.enter rfl ?_
      refine r_iff 13 rfl (by decide) ?_
      refine At.enter rfl ?_
      refine r_iconst (-1) rfl ?_
      refine r_ireti ?_
      have zv52 : ((-1) : Int32).toInt = (-1) := rfl
      exact ⟨_, rfl, hI43, hF44, _, rfl, by decide, ⟨fun _ => by omega, fun z => by have y := congrArg Int32.toInt hv46; exact absurd z (by omega)⟩⟩
    · have c51_ : v45.toInt ≤ v48.toInt := en_j_gt_f c51
      refine At.enter rfl ?_
      refine r_iconst 1 rfl ?_
      refine r_goto ?_
      refine At.enter rfl ?_
      refine q_iretz (by decide) ?_
      refine At.enter rfl ?_
      refine q_iretz (by decide) ?_
      refine At.enter rfl ?_
      refine r_ift (by decide) ?_
      refine At.enter rfl ?_
      refine r_aload_n rfl ?_
      refine r_callV 19 rfl [.ref 231] [] (Nat.le_of_ble_eq_true rfl) rfl (T_X11_asIs_231 _ hI43) ?_
      rintro _ _ ⟨g53, rfl, hI54, hF55, rfl, hr57⟩
      refine At.stn ?_
      have hF58 := Fr.tr hF44 hF55 rfl rfl
      refine At.enter rfl ?_
      refine r_aload_n rfl ?_
      refine r_iload_n rfl ?_
      refine r_callV 24 rfl [.ref 231, .int a1] [] (Nat.le_of_ble_eq_true rfl) rfl (T_X11_isSent_231 _ hI54 a1 (by omega) (by rw [eA_c (((hF55.2.1 233 ma_X11_asIs_231_233).trans (gA_sI))), hv46]; omega)) ?_
      rintro _ _ ⟨g59, rfl, hI60, hF61, v62, rfl, hr63⟩
      refine At.sti ?_
      have hF64 := Fr.tr hF58 hF61 rfl rfl
      refine At.enter rfl ?_
      refine r_ifs 27 rfl (fun c65 => ?_) (fun c65 => ?_)
      · have c65_ : v62.toInt = 0 := en_k_eq_t c65
        refine At.enter rfl ?_
        refine r_iconst 0 rfl ?_
        refine Ar.fall 32 rfl ?_
        refine At.enter rfl ?_
        refine r_ireti ?_
        have zv66 : (0 : Int32).toInt = 0 := rfl
        exact ⟨_, rfl, hI60, hF64, _, rfl, by decide, ⟨fun z => absurd (show _ from ⟨by have y := congrArg Int32.toInt hv46; omega, by have y := congrArg Int32.toInt hv46; omega⟩) z, fun _ => (by obtain ⟨c, c1, c2⟩ := (SMR_mk (((hF55.2.1 233 ma_X11_asIs_231_233).trans (gA_sI))) (show ASM g0 g53 from fun s s0 s1 => by have z := hr57 s s0 s1; rw [eA_tq ((gA_sI)), eA_tq ((gA_sI))] at z; exact z) hr63.2); exact ⟨c, c1, by omega⟩)⟩⟩
      · have c65_ : v62.toInt ≠ 0 := en_k_eq_f c65
        refine At.enter rfl ?_
        refine r_iconst 1 rfl ?_
        refine r_goto ?_
        refine At.enter rfl ?_
        refine r_ireti ?_
        have zv67 : (1 : Int32).toInt = 1 := rfl
        exact ⟨_, rfl, hI60, hF64, _, rfl, by decide, ⟨fun z => absurd (show _ from ⟨by have y := congrArg Int32.toInt hv46; omega, by have y := congrArg Int32.toInt hv46; omega⟩) z, fun _ => (by obtain ⟨c, c1, c2⟩ := (SMR_mk (((hF55.2.1 233 ma_X11_asIs_231_233).trans (gA_sI))) (show ASM g0 g53 from fun s s0 s1 => by have z := hr57 s s0 s1; rw [eA_tq ((gA_sI)), eA_tq ((gA_sI))] at z; exact z) hr63.2); exact ⟨c, c1, by omega⟩)⟩⟩
