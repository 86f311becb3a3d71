def F_X10_feed_0 : List (Nat × Nat) := [(174, 1)]
def A_X10_feed_0 : List Nat := [175]
set_option maxRecDepth 100000 in
set_option maxHeartbeats 4000000 in
theorem T_X10_feed_0 (d : Nat) {N : Nat} {g0 : List en_E} (hI0 : HI g0) (a1 : Int32) (a2 : Int32) (a3 : Int32) (a4 : Int32) (a5 : Int32) : Ev (d + 2) 111 [.ref 0, .int a1, .int a2, .int a3, .int a4, .int a5] (g0, N) (fun w h' => ∃ g', h' = (g', N) ∧ HI g' ∧ Fr F_X10_feed_0 A_X10_feed_0 g0 g' ∧ ∃ r : Int32, w = some (.int r) ∧ ((-1) ≤ r.toInt ∧ r.toInt ≤ 400) ∧ ((380 < (gI g0 174 1).toInt → r.toInt = -1 ∧ (gI g' 174 1).toInt = (gI g0 174 1).toInt) ∧ ((gI g0 174 1).toInt ≤ 380 → r.toInt = (gI g0 174 1).toInt + 20 ∧ (gI g' 174 1).toInt = (gI g0 174 1).toInt + 20))) := by
  have hF0 : Fr F_X10_feed_0 A_X10_feed_0 g0 g0 := Fr.rf
  refine Ev.mk rfl rfl ⟨Nat.le_of_ble_eq_true rfl, Or.inr (q_rc hI0.1 kx_0 rfl)⟩ ?_
  show At _ none _ _ (0, [(0, .ref 0), (1, .int a1), (2, .int a2), (3, .int a3), (4, .int a4), (5, .int a5)], [], (_, _)) _
  refine At.enter rfl ?_
  refine r_aload_n rfl ?_
  refine q_getR (Sh.ref hI0.1 kx_0 rfl) ?_
  obtain ⟨v69, hv69⟩ : ∃ v, gI g0 174 1 = v := ⟨_, rfl⟩
  have rv69 := RgF.at hI0.2.1 (p := 174) (b := 1) rfl
  rw [hv69] at rv69
  dsimp only at rv69
  refine q_getI (Sh.int hI0.1 kx_174 rfl) v69 hv69 ?_
  refine r_bipush 20 rfl ?_
  refine q_iadd (v69.toInt + 20) rfl (by omega) (fun v70 hv70 => ?_)
  refine r_sipush 400 rfl ?_
  refine r_ics 16 rfl (fun c71 => ?_) (fun c71 => ?_)
  · have c71_ : v70.toInt ≤ 400 := en_i_le_t c71
    refine At.enter rfl ?_
    refine r_aload_n rfl ?_
    refine q_getR (Sh.ref hI0.1 kx_0 rfl) ?_
    refine r_iload_n rfl ?_
    refine r_callV 26 rfl [.ref 174, .int a1] [] (Nat.le_of_ble_eq_true rfl) rfl (T_X8_append_174 _ hI0 a1) ?_
    rintro _ _ ⟨g72, rfl, hI73, hF74, rfl⟩
    refine At.stn ?_
    have hF77 := Fr.tr hF0 hF74 rfl rfl
    refine At.enter rfl ?_
    refine r_aload_n rfl ?_
    refine q_getR (Sh.ref hI73.1 kx_0 rfl) ?_
    refine r_iload_n rfl ?_
    refine r_callV 34 rfl [.ref 174, .int a2] [] (Nat.le_of_ble_eq_true rfl) rfl (T_X8_append_174 _ hI73 a2) ?_
    rintro _ _ ⟨g78, rfl, hI79, hF80, rfl⟩
    refine At.stn ?_
    have hF83 := Fr.tr hF77 hF80 rfl rfl
    refine At.enter rfl ?_
    refine r_aload_n rfl ?_
    refine q_getR (Sh.ref hI79.1 kx_0 rfl) ?_
    refine r_iload_n rfl ?_
    refine r_callV 42 rfl [.ref 174, .int a3] [] (Nat.le_of_ble_eq_true rfl) rfl (T_X8_append_174 _ hI79 a3) ?_
    rintro _ _ ⟨g84, rfl, hI85, hF86, rfl⟩
    refine At.stn ?_
    have hF89 := Fr.tr hF83 hF86 rfl rfl
    refine At.enter rfl ?_
    refine r_aload_n rfl ?_
    refine q_getR (Sh.ref hI85.1 kx_0 rfl) ?_
    refine r_iload rfl ?_
    refine r_callV 51 rfl [.ref 174, .int a4] [] (Nat.le_of_ble_eq_true rfl) rfl (T_X8_append_174 _ hI85 a4) ?_
    rintro _ _ ⟨g90, rfl, hI91, hF92, rfl⟩
    refine At.stn ?_
    have hF95 := Fr.tr hF89 hF92 rfl rfl
    refine At.enter rfl ?_
    refine r_aload_n rfl ?_
    refine q_getR (Sh.ref hI91.1 kx_0 rfl) ?_
    refine r_iload rfl ?_
    refine r_callV 60 rfl [.ref 174, .int a5] [] (Nat.le_of_ble_eq_true rfl) rfl (T_X8_append_174 _ hI91 a5) ?_
    rintro _ _ ⟨g96, rfl, hI97, hF98, rfl⟩
    refine At.stn ?_
    have hF101 := Fr.tr hF95 hF98 rfl rfl
    refine At.enter rfl ?_
    refine r_aload_n rfl ?_
    refine q_getR (Sh.ref hI97.1 kx_0 rfl) ?_
    obtain ⟨v102, hv102⟩ : ∃ v, gI g96 174 1 = v := ⟨_, rfl⟩
    have rv102 := RgF.at hI97.2.1 (p := 174) (b := 1) rfl
    rw [hv102] at rv102
    dsimp only at rv102
    refine q_getI (Sh.int hI97.1 kx_174 rfl) v102 hv102 ?_
    refine r_ireti ?_
    have x103 := HI.eqI hI97 (p := 174) (b := 1) (hv102)
    have x104 := HI.eqI hI0 (p := 174) (b := 1) (hv69)
    exact ⟨_, rfl, hI97, hF101, _, rfl, by omega, (by omega)⟩
  · have c71_ : v70.toInt > 400 := en_i_le_f c71
    refine At.enter rfl ?_
    refine r_iconst (-1) rfl ?_
    refine r_ireti ?_
    have zv105 : ((-1) : Int32).toInt = (-1) := rfl
    have x106 := HI.eqI hI0 (p := 174) (b := 1) (hv69)
    have x107 := HI.eqI hI0 (p := 174) (b := 1) (hv69)
    exact ⟨_, rfl, hI0, hF0, _, rfl, by decide, (by omega)⟩

def F_X10_end_0 : List (Nat × Nat) := [(174, 1)]
def A_X10_end_0 : List Nat := []
set_option maxRecDepth 100000 in
set_option maxHeartbeats 4000000 in
theorem T_X10_end_0 (d : Nat) {N : Nat} {g0 : List en_E} (hI0 : HI g0) (a1 : Int32) : Ev (d + 2) 112 [.ref 0, .int a1] (g0, N) (fun w h' => ∃ g', h' = (g', N) ∧ HI g' ∧ Fr F_X10_end_0 A_X10_end_0 g0 g' ∧ ∃ r : Int32, w = some (.int r) ∧ ((-1) ≤ r.toInt ∧ r.toInt ≤ 400) ∧ ((0 ≤ a1.toInt ∧ a1.toInt ≤ (gI g0 174 1).toInt → r.toInt = a1.toInt ∧ (gI g' 174 1).toInt = a1.toInt) ∧ (a1.toInt < 0 ∨ (gI g0 174 1).toInt < a1.toInt → r.toInt = -1 ∧ (gI g' 174 1).toInt = (gI g0 174 1).toInt))) := by
  have hF0 : Fr F_X10_end_0 A_X10_end_0 g0 g0 := Fr.rf
  refine Ev.mk rfl rfl ⟨Nat.le_of_ble_eq_true rfl, Or.inr (q_rc hI0.1 kx_0 rfl)⟩ ?_
  show At _ none _ _ (0, [(0, .ref 0), (1, .int a1)], [], (_, _)) _
  refine At.enter rfl ?_
  refine r_iload_n rfl ?_
  refine r_iconst 0 rfl ?_
  refine r_aload_n rfl ?_
  refine q_getR (Sh.ref hI0.1 kx_0 rfl) ?_
  obtain ⟨v15, hv15⟩ : ∃ v, gI g0 174 1 = v := ⟨_, rfl⟩
  have rv15 := RgF.at hI0.2.1 (p := 174) (b := 1) rfl
  rw [hv15] at rv15
  dsimp only at rv15
  refine q_getI (Sh.int hI0.1 kx_174 rfl) v15 hv15 ?_
  refine q_inlS 12 rfl [.int a1, .int 0, .int v15] [] (Nat.le_of_ble_eq_true rfl) rfl ?_
  refine Ev.mk rfl rfl ⟨Nat.le_of_ble_eq_true rfl, Or.inl rfl⟩ ?_
  show At _ none _ _ (0, [(0, .int a1), (1, .int 0), (2, .int v15)], [], (_, _)) _
  refine At.enter rfl ?_
  refine r_iload_n rfl ?_
  refine r_iload_n rfl ?_
  refine r_ics 5 rfl (fun c16 => ?_) (fun c16 => ?_)
  · have c16_ : a1.toInt < 0 := en_i_lt_t c16
    refine At.enter rfl ?_
    refine r_iconst 0 rfl ?_
    refine Ar.fall 15 rfl ?_
    refine At.enter rfl ?_
    refine q_iretz (by decide) ?_
    refine At.enter rfl ?_
    refine r_iff 15 rfl (by decide) ?_
    refine At.enter rfl ?_
    refine r_iconst (-1) rfl ?_
    refine r_ireti ?_
    have zv17 : ((-1) : Int32).toInt = (-1) := rfl
    have x18 := HI.eqI hI0 (p := 174) (b := 1) (hv15)
    have x19 := HI.eqI hI0 (p := 174) (b := 1) (hv15)
    exact ⟨_, rfl, hI0, hF0, _, rfl, by decide, (by omega)⟩
  · have c16_ : a1.toInt ≥ 0 := en_i_lt_f c16
    refine At.enter rfl ?_
    refine r_iload_n rfl ?_
    refine r_iload_n rfl ?_
    have bv21 := q_bnd a1
    have bv22 := q_bnd v15
    refine r_ics 10 rfl (fun c20 => ?_) (fun c20 => ?_)
    · have c20_ : a1.toInt > v15.toInt := en_i_gt_t c20
      refine At.enter rfl ?_
      refine r_iconst 0 rfl ?_
      refine Ar.fall 15 rfl ?_
      refine At.enter rfl ?_
      refine q_iretz (by decide) ?_
      refine At.enter rfl ?_
      refine r_iff 15 rfl (by decide) ?_
      refine At.enter rfl ?_
      refine r_iconst (-1) rfl ?_
      refine r_ireti ?_
      have zv23 : ((-1) : Int32).toInt = (-1) := rfl
      have x24 := HI.eqI hI0 (p := 174) (b := 1) (hv15)
      have x25 := HI.eqI hI0 (p := 174) (b := 1) (hv15)
      exact ⟨_, rfl, hI0, hF0, _, rfl, by decide, (by omega)⟩
    · have c20_ : a1.toInt ≤ v15.toInt := en_i_gt_f c20
      refine At.enter rfl ?_
      refine r_iconst 1 rfl ?_
      refine r_goto ?_
      refine At.enter rfl ?_
      refine q_iretz (by decide) ?_
      refine At.enter rfl ?_
      refine r_ift (by decide) ?_
      refine At.enter rfl ?_
      refine r_aload_n rfl ?_
      refine q_getR (Sh.ref hI0.1 kx_0 rfl) ?_
      refine r_iload_n rfl ?_
      refine q_putI (Sh.int hI0.1 kx_174 rfl) rfl ?_
      have hI26 := HI.wI1 hI0 kx_174 rfl (p := 174) (b := 1) (v := a1) rfl (by dsimp only; omega)
      have hF27 := Fr.wI (p := 174) (b := 1) (v := a1) hF0 rfl
      refine r_iload_n rfl ?_
      refine r_ireti ?_
      have x28 := HI.eqI hI26 (p := 174) (b := 1) ((gI_sI_eq hI0.1 kx_174 rfl _))
      have x29 := HI.eqI hI0 (p := 174) (b := 1) (hv15)
      exact ⟨_, rfl, hI26, hF27, _, rfl, by omega, (by omega)⟩

def F_X10_row_0 : List (Nat × Nat) := [(0, 14), (0, 16), (0, 17), (1, 4), (174, 1), (220, 2), (222, 2), (223, 5), (223, 10)]
def A_X10_row_0 : List Nat := [5, 230]
set_option maxRecDepth 100000 in
set_option maxHeartbeats 4000000 in
theorem T_X10_row_0 (d : Nat) {N : Nat} {g0 : List en_E} (hI0 : HI g0) : Ev (d + 4) 113 [.ref 0] (g0, N) (fun w h' => ∃ g', h' = (g', N) ∧ HI g' ∧ Fr F_X10_row_0 A_X10_row_0 g0 g' ∧ ∃ r : Int32, w = some (.int r) ∧ True ∧ (gI g' 174 1).toInt = 0) := by
  have hF0 : Fr F_X10_row_0 A_X10_row_0 g0 g0 := Fr.rf
  refine Ev.mk rfl rfl ⟨Nat.le_of_ble_eq_true rfl, Or.inr (q_rc hI0.1 kx_0 rfl)⟩ ?_
  show At _ none _ _ (0, [(0, .ref 0)], [], (_, _)) _
  refine At.enter rfl ?_
  refine r_aload_n rfl ?_
  refine q_getR (Sh.ref hI0.1 kx_0 rfl) ?_
  obtain ⟨v4345, hv4345⟩ : ∃ v, gI g0 174 1 = v := ⟨_, rfl⟩
  have rv4345 := RgF.at hI0.2.1 (p := 174) (b := 1) rfl
  rw [hv4345] at rv4345
  dsimp only at rv4345
  refine q_getI (Sh.int hI0.1 kx_174 rfl) v4345 hv4345 ?_
  refine r_istore_n ([(1, .int v4345), (0, .ref 0)]) rfl ?_
  refine r_iload_n rfl ?_
  refine r_ifs 12 rfl (fun c4346 => ?_) (fun c4346 => ?_)
  · have c4346_ : v4345.toInt ≠ 0 := en_k_ne_t c4346
    refine At.enter rfl ?_
    refine r_iconst 0 rfl ?_
    refine r_istore_n ([(2, .int 0), (1, .int v4345), (0, .ref 0)]) rfl ?_
    refine r_iconst 0 rfl ?_
    refine r_istore_n ([(3, .int 0), (2, .int 0), (1, .int v4345), (0, .ref 0)]) rfl ?_
    refine r_iconst 0 rfl ?_
    refine r_istore ([(4, .int 0), (3, .int 0), (2, .int 0), (1, .int v4345), (0, .ref 0)]) rfl ?_
    refine Ar.fall 26 rfl ?_
    have z_6420 : (0 : Int32).toInt = 0 := rfl
    have z_6421 : (0 : Int32).toInt = 0 := rfl
    have z_6422 : (0 : Int32).toInt = 0 := rfl
    refine w_loopI (fun n_ l_ g_ => ∃ x6405 : Int32, ∃ x6406 : Int32, ∃ x6407 : Int32, n_ = 405 - x6407.toInt ∧ HI g_ ∧ Fr F_X10_row_0 A_X10_row_0 g0 g_ ∧ en_get 0 l_ = some (.ref 0) ∧ en_get 1 l_ = some (.int v4345) ∧ en_get 2 l_ = some (.int x6405) ∧ en_get 3 l_ = some (.int x6406) ∧ en_get 4 l_ = some (.int x6407) ∧ (0 ≤ x6407.toInt ∧ x6407.toInt ≤ 405)) ?_ (405 - 0) ⟨0, 0, 0, by first | rfl | omega, hI0, hF0, rfl, rfl, rfl, rfl, rfl, by decide⟩
    rintro n6412 l6411 g6408 ⟨x6405, x6406, x6407, hm6423, hI6409, hF6410, e6414, e6415, e6416, e6417, e6418, r6419⟩ ih6413
    refine At.enter rfl ?_
    refine r_iload e6418 ?_
    refine r_iload_n e6415 ?_
    have bv6425 := q_bnd x6407
    have bv6426 := q_bnd v4345
    refine r_ics 32 rfl (fun c6424 => ?_) (fun c6424 => ?_)
    · have c6424_ : x6407.toInt ≥ v4345.toInt := en_i_ge_t c6424
      refine At.enter rfl ?_
      refine r_aload_n e6414 ?_
      refine q_getR (Sh.ref hI6409.1 kx_0 rfl) ?_
      refine r_iconst 0 rfl ?_
      refine q_putI (Sh.int hI6409.1 kx_174 rfl) rfl ?_
      have hI6427 := HI.wI1 hI6409 kx_174 rfl (p := 174) (b := 1) (v := 0) rfl (by decide)
      have hF6428 := Fr.wI (p := 174) (b := 1) (v := 0) hF6410 rfl
      refine r_aload_n e6414 ?_
      refine r_iload_n e6417 ?_
      refine q_putI (Sh.int hI6427.1 kx_0 rfl) rfl ?_
      have hI6429 := HI.wI0 hI6427 kx_0 rfl (p := 0) (b := 16) (v := x6406) rfl
      have hF6430 := Fr.wI (p := 0) (b := 16) (v := x6406) hF6428 rfl
      refine r_aload_n e6414 ?_
      refine r_callV 82 rfl [.ref 0] [] (Nat.le_of_ble_eq_true rfl) rfl (T_X10_changed_0 _ hI6429) ?_
      rintro _ _ ⟨g6431, rfl, hI6432, hF6433, rfl⟩
      refine At.stn ?_
      have hF6436 := Fr.tr hF6430 hF6433 rfl rfl
      refine At.enter rfl ?_
      refine r_aload_n e6414 ?_
      refine r_iload_n e6416 ?_
      refine q_inlV 87 rfl [.ref 0, .int x6405] [] (Nat.le_of_ble_eq_true rfl) rfl ?_
      refine Ev.mk rfl rfl ⟨Nat.le_of_ble_eq_true rfl, Or.inr (q_rc hI6432.1 kx_0 rfl)⟩ ?_
      show At _ none _ _ (0, [(0, .ref 0), (1, .int x6405)], [], (_, _)) _
      refine At.enter rfl ?_
      refine r_aload_n rfl ?_
      refine r_iconst 0 rfl ?_
      refine q_putI (Sh.int hI6432.1 kx_0 rfl) rfl ?_
      have hI6437 := HI.wI0 hI6432 kx_0 rfl (p := 0) (b := 17) (v := 0) rfl
      have hF6438 := Fr.wI (p := 0) (b := 17) (v := 0) hF6436 rfl
      refine r_iload_n rfl ?_
      refine q_ireti ?_
      refine At.enter rfl ?_
      refine r_ireti ?_
      obtain ⟨v6439, hv6439⟩ : ∃ v, gI g0 231 8 = v := ⟨_, rfl⟩
      have rv6439 := RgF.at hI0.2.1 (p := 231) (b := 8) rfl
      rw [hv6439] at rv6439
      dsimp only at rv6439
      have tv6439 := congrArg Int32.toInt hv6439
      have x6440 := HI.eqI hI6437 (p := 231) (b := 8) ((((gI_sI_ne (by decide)).trans ((hF6433.1 231 8 (by decide)).trans ((gI_sI_ne (by decide)).trans ((gI_sI_ne (by decide)).trans (hF6410.1 231 8 (by decide)))))).trans hv6439))
      obtain ⟨v6441, hv6441⟩ : ∃ v, eA g0 233 0 = v := ⟨_, rfl⟩
      have tv6441 := congrArg Int32.toInt hv6441
      have wv6441 := HI.t0 hI0
      rw [hv6441] at wv6441
      have tv6441 := congrArg Int32.toInt hv6441
      have x6442 := HI.eqA hI6437 (p := 233) (j := 0) ((((eA_c gA_sI).trans ((eA_c (hF6433.2.1 233 (by decide))).trans ((eA_c gA_sI).trans ((eA_c gA_sI).trans (eA_c (hF6410.2.1 233 (by decide))))))).trans hv6441))
      obtain ⟨v6443, hv6443⟩ : ∃ v, eA g0 233 4 = v := ⟨_, rfl⟩
      have wv6443 := HI.t4 hI0
      rw [hv6443] at wv6443
      have tv6443 := congrArg Int32.toInt hv6443
      have x6444 := HI.eqA hI6437 (p := 233) (j := 4) ((((eA_c gA_sI).trans ((eA_c (hF6433.2.1 233 (by decide))).trans ((eA_c gA_sI).trans ((eA_c gA_sI).trans (eA_c (hF6410.2.1 233 (by decide))))))).trans hv6443))
      obtain ⟨v6445, hv6445⟩ : ∃ v, eA g0 233 5 = v := ⟨_, rfl⟩
      have wv6445 := HI.t5 hI0
      rw [hv6445] at wv6445
      have tv6445 := congrArg Int32.toInt hv6445
      have x6446 := HI.eqA hI6437 (p := 233) (j := 5) ((((eA_c gA_sI).trans ((eA_c (hF6433.2.1 233 (by decide))).trans ((eA_c gA_sI).trans ((eA_c gA_sI).trans (eA_c (hF6410.2.1 233 (by decide))))))).trans hv6445))
      obtain ⟨v6447, hv6447⟩ : ∃ v, eA g0 233 6 = v := ⟨_, rfl⟩
      have wv6447 := HI.t6 hI0
      rw [hv6447] at wv6447
      have tv6447 := congrArg Int32.toInt hv6447
      have x6448 := HI.eqA hI6437 (p := 233) (j := 6) ((((eA_c gA_sI).trans ((eA_c (hF6433.2.1 233 (by decide))).trans ((eA_c gA_sI).trans ((eA_c gA_sI).trans (eA_c (hF6410.2.1 233 (by decide))))))).trans hv6447))
      have x6449 := HI.eqA hI0 (p := 233) (j := 0) (hv6441)
      have x6450 := HI.eqA hI0 (p := 233) (j := 4) (hv6443)
      have x6451 := HI.eqA hI0 (p := 233) (j := 5) (hv6445)
      have x6452 := HI.eqA hI0 (p := 233) (j := 6) (hv6447)
      exact ⟨_, rfl, hI6437, hF6438, _, rfl, trivial, ⟨by omega, by omega, by omega, by omega, by omega⟩⟩
    · have c6424_ : x6407.toInt < v4345.toInt := en_i_ge_f c6424
      refine At.enter rfl ?_
      refine r_iload e6418 ?_
      refine r_bipush 6 rfl ?_
      refine q_iadd (x6407.toInt + 6) rfl (by omega) (fun v6453 hv6453 => ?_)
      refine r_iload_n e6415 ?_
      have bv6455 := q_bnd v6453
      refine r_ics 41 rfl (fun c6454 => ?_) (fun c6454 => ?_)
      · have c6454_ : v6453.toInt > v4345.toInt := en_i_gt_t c6454
        refine At.enter rfl ?_
        refine q_iincO e6417 (fun v6456 _ => ?_)
        refine Ar.fall 59 rfl ?_
        refine At.enter rfl ?_
        refine q_iinc (w_p1 (by decide) (Or.inr rfl) e6418) (x6407.toInt + 6) rfl (by omega) (fun v6457 hv6457 => ?_)
        refine r_goto ?_
        have bv6458 := q_bnd x6405
        have bv6459 := q_bnd v6456
        exact ih6413 (405 - v6457.toInt) _ _ ⟨x6405, v6456, v6457, by first | rfl | omega, hI6409, hF6410, (w_p1 (by decide) (Or.inr rfl) (w_p1 (by decide) (Or.inr rfl) e6414)), (w_p1 (by decide) (Or.inr rfl) (w_p1 (by decide) (Or.inr rfl) e6415)), (w_p1 (by decide) (Or.inr rfl) (w_p1 (by decide) (Or.inr rfl) e6416)), (w_p1 (by decide) (Or.inr rfl) (w_e1 _ _ _)), (w_e1 _ _ _), by omega⟩ ⟨by omega, by omega⟩
      · have c6454_ : v6453.toInt ≤ v4345.toInt := en_i_gt_f c6454
        refine At.enter rfl ?_
        refine r_aload_n e6414 ?_
        refine r_iload e6418 ?_
        refine q_inlV 47 rfl [.ref 0, .int x6407] [] (Nat.le_of_ble_eq_true rfl) rfl ?_
        refine Ev.mk rfl rfl ⟨Nat.le_of_ble_eq_true rfl, Or.inr (q_rc hI6409.1 kx_0 rfl)⟩ ?_
        show At _ none _ _ (0, [(0, .ref 0), (1, .int x6407)], [], (_, _)) _
        refine At.enter rfl ?_
        refine r_aload_n rfl ?_
        refine q_getR (Sh.ref hI6409.1 kx_0 rfl) ?_
        refine r_iload_n rfl ?_
        refine r_iconst 0 rfl ?_
        refine q_iadd (x6407.toInt + 0) rfl (by omega) (fun v6460 hv6460 => ?_)
        refine r_callV 10 rfl [.ref 174, .int v6460] [] (Nat.le_of_ble_eq_true rfl) rfl (T_X8_at_174 _ hI6409 v6460) ?_
        rintro _ _ ⟨g6461, rfl, hI6462, hF6463, v6464, rfl, hr6465⟩
        refine At.sti ?_
        have hF6466 := Fr.tr hF6410 hF6463 rfl rfl
        obtain ⟨v6467, hv6467⟩ : ∃ v, gI g6408 174 1 = v := ⟨_, rfl⟩
        have rv6467 := RgF.at hI6409.2.1 (p := 174) (b := 1) rfl
        rw [hv6467] at rv6467
        dsimp only at rv6467
        have tv6467 := congrArg Int32.toInt hv6467
        have x6468 := HI.eqI hI6409 (p := 174) (b := 1) (hv6467)
        refine At.enter rfl ?_
        refine r_istore_n ([(2, .int v6464), (0, .ref 0), (1, .int x6407)]) rfl ?_
        refine r_aload_n rfl ?_
        refine q_getR (Sh.ref hI6462.1 kx_0 rfl) ?_
        refine r_iload_n rfl ?_
        refine r_iconst 1 rfl ?_
        refine q_iadd (x6407.toInt + 1) rfl (by omega) (fun v6469 hv6469 => ?_)
        refine r_callV 21 rfl [.ref 174, .int v6469] [] (Nat.le_of_ble_eq_true rfl) rfl (T_X8_at_174 _ hI6462 v6469) ?_
        rintro _ _ ⟨g6470, rfl, hI6471, hF6472, v6473, rfl, hr6474⟩
        refine At.sti ?_
        have hF6475 := Fr.tr hF6466 hF6472 rfl rfl
        have x6476 := HI.eqI hI6462 (p := 174) (b := 1) (((hF6463.1 174 1 (by decide)).trans hv6467))
        refine At.enter rfl ?_
        refine r_istore_n ([(3, .int v6473), (2, .int v6464), (0, .ref 0), (1, .int x6407)]) rfl ?_
        refine r_aload_n rfl ?_
        refine q_getR (Sh.ref hI6471.1 kx_0 rfl) ?_
        refine r_iload_n rfl ?_
        refine r_iconst 2 rfl ?_
        refine q_iadd (x6407.toInt + 2) rfl (by omega) (fun v6477 hv6477 => ?_)
        refine r_callV 32 rfl [.ref 174, .int v6477] [] (Nat.le_of_ble_eq_true rfl) rfl (T_X8_at_174 _ hI6471 v6477) ?_
        rintro _ _ ⟨g6478, rfl, hI6479, hF6480, v6481, rfl, hr6482⟩
        refine At.sti ?_
        have hF6483 := Fr.tr hF6475 hF6480 rfl rfl
        have x6484 := HI.eqI hI6471 (p := 174) (b := 1) ((((hF6472.1 174 1 (by decide)).trans (hF6463.1 174 1 (by decide))).trans hv6467))
        refine At.enter rfl ?_
        refine r_istore ([(4, .int v6481), (3, .int v6473), (2, .int v6464), (0, .ref 0), (1, .int x6407)]) rfl ?_
        refine r_aload_n rfl ?_
        refine q_getR (Sh.ref hI6479.1 kx_0 rfl) ?_
        refine r_iload_n rfl ?_
        refine r_iconst 3 rfl ?_
        refine q_iadd (x6407.toInt + 3) rfl (by omega) (fun v6485 hv6485 => ?_)
        refine r_callV 44 rfl [.ref 174, .int v6485] [] (Nat.le_of_ble_eq_true rfl) rfl (T_X8_at_174 _ hI6479 v6485) ?_
        rintro _ _ ⟨g6486, rfl, hI6487, hF6488, v6489, rfl, hr6490⟩
        refine At.sti ?_
        have hF6491 := Fr.tr hF6483 hF6488 rfl rfl
        have x6492 := HI.eqI hI6479 (p := 174) (b := 1) ((((hF6480.1 174 1 (by decide)).trans ((hF6472.1 174 1 (by decide)).trans (hF6463.1 174 1 (by decide)))).trans hv6467))
        refine At.enter rfl ?_
        refine r_istore ([(5, .int v6489), (4, .int v6481), (3, .int v6473), (2, .int v6464), (0, .ref 0), (1, .int x6407)]) rfl ?_
        refine r_aload_n rfl ?_
        refine q_getR (Sh.ref hI6487.1 kx_0 rfl) ?_
        refine r_iload_n rfl ?_
        refine r_iconst 4 rfl ?_
        refine q_iadd (x6407.toInt + 4) rfl (by omega) (fun v6493 hv6493 => ?_)
        refine r_callV 56 rfl [.ref 174, .int v6493] [] (Nat.le_of_ble_eq_true rfl) rfl (T_X8_at_174 _ hI6487 v6493) ?_
        rintro _ _ ⟨g6494, rfl, hI6495, hF6496, v6497, rfl, hr6498⟩
        refine At.sti ?_
        have hF6499 := Fr.tr hF6491 hF6496 rfl rfl
        have x6500 := HI.eqI hI6487 (p := 174) (b := 1) ((((hF6488.1 174 1 (by decide)).trans ((hF6480.1 174 1 (by decide)).trans ((hF6472.1 174 1 (by decide)).trans (hF6463.1 174 1 (by decide))))).trans hv6467))
        refine At.enter rfl ?_
        refine r_istore ([(6, .int v6497), (5, .int v6489), (4, .int v6481), (3, .int v6473), (2, .int v6464), (0, .ref 0), (1, .int x6407)]) rfl ?_
        refine r_aload_n rfl ?_
        refine q_getR (Sh.ref hI6495.1 kx_0 rfl) ?_
        refine r_iload_n rfl ?_
        refine r_iconst 5 rfl ?_
        refine q_iadd (x6407.toInt + 5) rfl (by omega) (fun v6501 hv6501 => ?_)
        refine r_callV 68 rfl [.ref 174, .int v6501] [] (Nat.le_of_ble_eq_true rfl) rfl (T_X8_at_174 _ hI6495 v6501) ?_
        rintro _ _ ⟨g6502, rfl, hI6503, hF6504, v6505, rfl, hr6506⟩
        refine At.sti ?_
        have hF6507 := Fr.tr hF6499 hF6504 rfl rfl
        have x6508 := HI.eqI hI6495 (p := 174) (b := 1) ((((hF6496.1 174 1 (by decide)).trans ((hF6488.1 174 1 (by decide)).trans ((hF6480.1 174 1 (by decide)).trans ((hF6472.1 174 1 (by decide)).trans (hF6463.1 174 1 (by decide)))))).trans hv6467))
        refine At.enter rfl ?_
        refine r_istore ([(7, .int v6505), (6, .int v6497), (5, .int v6489), (4, .int v6481), (3, .int v6473), (2, .int v6464), (0, .ref 0), (1, .int x6407)]) rfl ?_
        refine r_aload_n rfl ?_
        refine r_iload_n rfl ?_
        refine r_iload_n rfl ?_
        refine r_iload rfl ?_
        refine r_iload rfl ?_
        refine r_iload rfl ?_
        refine r_iload rfl ?_
        refine r_callV 84 rfl [.ref 0, .int v6464, .int v6473, .int v6481, .int v6489, .int v6497, .int v6505] [] (Nat.le_of_ble_eq_true rfl) rfl (T_X10_whyNoLoad_0 _ hI6503 v6464 v6473 v6481 v6489 v6497 v6505) ?_
        rintro _ _ ⟨g6509, rfl, hI6510, hF6511, v6512, rfl, hr6513⟩
        refine At.sti ?_
        have hF6514 := Fr.tr hF6507 hF6511 rfl rfl
        refine At.enter rfl ?_
        refine r_ifs 87 rfl (fun c6515 => ?_) (fun c6515 => ?_)
        · have c6515_ : v6512.toInt = 0 := en_k_eq_t c6515
          refine At.enter rfl ?_
          refine r_aload_n rfl ?_
          refine q_getR (Sh.ref hI6510.1 kx_0 rfl) ?_
          refine r_iload_n rfl ?_
          refine r_iload_n rfl ?_
          refine r_iload rfl ?_
          refine r_iload rfl ?_
          refine r_iload rfl ?_
          refine r_iload rfl ?_
          refine r_callV 106 rfl [.ref 1, .int v6464, .int v6473, .int v6481, .int v6489, .int v6497, .int v6505] [] (Nat.le_of_ble_eq_true rfl) rfl (T_X0_addLoad_1 _ hI6510 v6464 v6473 v6481 v6489 v6497 v6505) ?_
          rintro _ _ ⟨g6516, rfl, hI6517, hF6518, v6519, rfl, hr6520⟩
          refine At.sti ?_
          have hF6521 := Fr.tr hF6514 hF6518 rfl rfl
          refine At.enter rfl ?_
          refine r_pop rfl ?_
          refine r_iconst 1 rfl ?_
          refine q_iretz (by decide) ?_
          refine At.enter rfl ?_
          refine r_iff 50 rfl (by decide) ?_
          refine At.enter rfl ?_
          refine q_iincO e6416 (fun v6522 _ => ?_)
          refine r_goto ?_
          refine At.enter rfl ?_
          refine q_iinc (w_p1 (by decide) (Or.inr rfl) e6418) (x6407.toInt + 6) rfl (by omega) (fun v6523 hv6523 => ?_)
          refine r_goto ?_
          have bv6524 := q_bnd v6522
          have bv6525 := q_bnd x6406
          exact ih6413 (405 - v6523.toInt) _ _ ⟨v6522, x6406, v6523, by first | rfl | omega, hI6517, hF6521, (w_p1 (by decide) (Or.inr rfl) (w_p1 (by decide) (Or.inr rfl) e6414)), (w_p1 (by decide) (Or.inr rfl) (w_p1 (by decide) (Or.inr rfl) e6415)), (w_p1 (by decide) (Or.inr rfl) (w_e1 _ _ _)), (w_p1 (by decide) (Or.inr rfl) (w_p1 (by decide) (Or.inr rfl) e6417)), (w_e1 _ _ _), by omega⟩ ⟨by omega, by omega⟩
        · have c6515_ : v6512.toInt ≠ 0 := en_k_eq_f c6515
          refine At.enter rfl ?_
          refine r_iconst 0 rfl ?_
          refine q_iretz (by decide) ?_
          refine At.enter rfl ?_
          refine r_ift (by decide) ?_
          refine At.enter rfl ?_
          refine q_iincO e6417 (fun v6526 _ => ?_)
          refine Ar.fall 59 rfl ?_
          refine At.enter rfl ?_
          refine q_iinc (w_p1 (by decide) (Or.inr rfl) e6418) (x6407.toInt + 6) rfl (by omega) (fun v6527 hv6527 => ?_)
          refine r_goto ?_
          have bv6528 := q_bnd x6405
          have bv6529 := q_bnd v6526
          exact ih6413 (405 - v6527.toInt) _ _ ⟨x6405, v6526, v6527, by first | rfl | omega, hI6510, hF6514, (w_p1 (by decide) (Or.inr rfl) (w_p1 (by decide) (Or.inr rfl) e6414)), (w_p1 (by decide) (Or.inr rfl) (w_p1 (by decide) (Or.inr rfl) e6415)), (w_p1 (by decide) (Or.inr rfl) (w_p1 (by decide) (Or.inr rfl) e6416)), (w_p1 (by decide) (Or.inr rfl) (w_e1 _ _ _)), (w_e1 _ _ _), by omega⟩ ⟨by omega, by omega⟩
  · have c4346_ : v4345.toInt = 0 := en_k_ne_f c4346
    refine At.enter rfl ?_
    refine r_aload_n rfl ?_
    refine r_bipush (-6) rfl ?_
    refine r_callV 18 rfl [.ref 0, .int (-6)] [] (Nat.le_of_ble_eq_true rfl) rfl (T_X10_refused_0 _ hI0 (-6) (by decide)) ?_
    rintro _ _ ⟨g6530, rfl, hI6531, hF6532, v6533, rfl, hr6534⟩
    refine At.sti ?_
    have hF6535 := Fr.tr hF0 hF6532 rfl rfl
    have zv6536 : ((-6) : Int32).toInt = (-6) := rfl
    refine At.enter rfl ?_
    refine r_ireti ?_
    obtain ⟨v6537, hv6537⟩ : ∃ v, gI g0 231 8 = v := ⟨_, rfl⟩
    have rv6537 := RgF.at hI0.2.1 (p := 231) (b := 8) rfl
    rw [hv6537] at rv6537
    dsimp only at rv6537
    have tv6537 := congrArg Int32.toInt hv6537
    have x6538 := HI.eqI hI6531 (p := 231) (b := 8) (((hF6532.1 231 8 (by decide)).trans hv6537))
    obtain ⟨v6539, hv6539⟩ : ∃ v, eA g0 233 0 = v := ⟨_, rfl⟩
    have tv6539 := congrArg Int32.toInt hv6539
    have wv6539 := HI.t0 hI0
    rw [hv6539] at wv6539
    have tv6539 := congrArg Int32.toInt hv6539
    have x6540 := HI.eqA hI6531 (p := 233) (j := 0) (((eA_c (hF6532.2.1 233 (by decide))).trans hv6539))
    obtain ⟨v6541, hv6541⟩ : ∃ v, eA g0 233 4 = v := ⟨_, rfl⟩
    have wv6541 := HI.t4 hI0
    rw [hv6541] at wv6541
    have tv6541 := congrArg Int32.toInt hv6541
    have x6542 := HI.eqA hI6531 (p := 233) (j := 4) (((eA_c (hF6532.2.1 233 (by decide))).trans hv6541))
    obtain ⟨v6543, hv6543⟩ : ∃ v, eA g0 233 5 = v := ⟨_, rfl⟩
    have wv6543 := HI.t5 hI0
    rw [hv6543] at wv6543
    have tv6543 := congrArg Int32.toInt hv6543
    have x6544 := HI.eqA hI6531 (p := 233) (j := 5) (((eA_c (hF6532.2.1 233 (by decide))).trans hv6543))
    obtain ⟨v6545, hv6545⟩ : ∃ v, eA g0 233 6 = v := ⟨_, rfl⟩
    have wv6545 := HI.t6 hI0
    rw [hv6545] at wv6545
    have tv6545 := congrArg Int32.toInt hv6545
    have x6546 := HI.eqA hI6531 (p := 233) (j := 6) (((eA_c (hF6532.2.1 233 (by decide))).trans hv6545))
    have x6547 := HI.eqA hI0 (p := 233) (j := 0) (hv6539)
    have x6548 := HI.eqA hI0 (p := 233) (j := 4) (hv6541)
    have x6549 := HI.eqA hI0 (p := 233) (j := 5) (hv6543)
    have x6550 := HI.eqA hI0 (p := 233) (j := 6) (hv6545)
    exact ⟨_, rfl, hI6531, hF6535, _, rfl, trivial, ⟨by omega, by omega, by omega, by omega, by omega⟩⟩

def F_X10_dropped_0 : List (Nat × Nat) := []
def A_X10_dropped_0 : List Nat := []
set_option maxRecDepth 100000 in
set_option maxHeartbeats 4000000 in
theorem T_X10_dropped_0 (d : Nat) {N : Nat} {g0 : List en_E} (hI0 : HI g0) : Ev (d + 1) 114 [.ref 0] (g0, N) (fun w h' => ∃ g', h' = (g', N) ∧ HI g' ∧ Fr F_X10_dropped_0 A_X10_dropped_0 g0 g' ∧ ∃ r : Int32, w = some (.int r) ∧ True) := by
  have hF0 : Fr F_X10_dropped_0 A_X10_dropped_0 g0 g0 := Fr.rf
  refine Ev.mk rfl rfl ⟨Nat.le_of_ble_eq_true rfl, Or.inr (q_rc hI0.1 kx_0 rfl)⟩ ?_
  show At _ none _ _ (0, [(0, .ref 0)], [], (_, _)) _
  refine At.enter rfl ?_
  refine r_aload_n rfl ?_
  obtain ⟨v3, hv3⟩ : ∃ v, gI g0 0 16 = v := ⟨_, rfl⟩
  refine q_getI (Sh.int hI0.1 kx_0 rfl) v3 hv3 ?_
  refine r_ireti ?_
  exact ⟨_, rfl, hI0, hF0, _, rfl, trivial⟩

def F_X10_fault_0 : List (Nat × Nat) := []
def A_X10_fault_0 : List Nat := []
set_option maxRecDepth 100000 in
set_option maxHeartbeats 4000000 in
theorem T_X10_fault_0 (d : Nat) {N : Nat} {g0 : List en_E} (hI0 : HI g0) : Ev (d + 1) 116 [.ref 0] (g0, N) (fun w h' => ∃ g', h' = (g', N) ∧ HI g' ∧ Fr F_X10_fault_0 A_X10_fault_0 g0 g' ∧ ∃ r : Int32, w = some (.int r) ∧ True) := by
  have hF0 : Fr F_X10_fault_0 A_X10_fault_0 g0 g0 := Fr.rf
  refine Ev.mk rfl rfl ⟨Nat.le_of_ble_eq_true rfl, Or.inr (q_rc hI0.1 kx_0 rfl)⟩ ?_
  show At _ none _ _ (0, [(0, .ref 0)], [], (_, _)) _
  refine At.enter rfl ?_
  refine r_aload_n rfl ?_
  refine q_getR (Sh.ref hI0.1 kx_0 rfl) ?_
  obtain ⟨v3, hv3⟩ : ∃ v, gI g0 176 2 = v := ⟨_, rfl⟩
  refine q_getI (Sh.int hI0.1 kx_176 rfl) v3 hv3 ?_
  refine r_ireti ?_
  exact ⟨_, rfl, hI0, hF0, _, rfl, trivial⟩

def F_X10_force_0 : List (Nat × Nat) := [(0, 14), (0, 17), (1, 9), (220, 2), (222, 2), (223, 5), (223, 10)]
def A_X10_force_0 : List Nat := [230]
set_option maxRecDepth 100000 in
set_option maxHeartbeats 4000000 in
theorem T_X10_force_0 (d : Nat) {N : Nat} {g0 : List en_E} (hI0 : HI g0) (a1 : Int32) : Ev (d + 3) 117 [.ref 0, .int a1] (g0, N) (fun w h' => ∃ g', h' = (g', N) ∧ HI g' ∧ Fr F_X10_force_0 A_X10_force_0 g0 g' ∧ ∃ r : Int32, w = some (.int r) ∧ True) := by
  have hF0 : Fr F_X10_force_0 A_X10_force_0 g0 g0 := Fr.rf
  refine Ev.mk rfl rfl ⟨Nat.le_of_ble_eq_true rfl, Or.inr (q_rc hI0.1 kx_0 rfl)⟩ ?_
  show At _ none _ _ (0, [(0, .ref 0), (1, .int a1)], [], (_, _)) _
  refine At.enter rfl ?_
  refine r_iload_n rfl ?_
  refine r_iconst (-1) rfl ?_
  refine r_ics 5 rfl (fun c87 => ?_) (fun c87 => ?_)
  · have c87_ : a1.toInt = (-1) := en_i_eq_t c87
    refine At.enter rfl ?_
    refine r_aload_n rfl ?_
    refine q_getR (Sh.ref hI0.1 kx_0 rfl) ?_
    obtain ⟨v88, hv88⟩ : ∃ v, gI g0 1 9 = v := ⟨_, rfl⟩
    refine q_getI (Sh.int hI0.1 kx_1 rfl) v88 hv88 ?_
    refine r_istore_n ([(2, .int v88), (0, .ref 0), (1, .int a1)]) rfl ?_
    refine r_aload_n rfl ?_
    refine q_getR (Sh.ref hI0.1 kx_0 rfl) ?_
    refine r_iload_n rfl ?_
    refine q_putI (Sh.int hI0.1 kx_1 rfl) rfl ?_
    have hI89 := HI.wI0 hI0 kx_1 rfl (p := 1) (b := 9) (v := a1) rfl
    have hF90 := Fr.wI (p := 1) (b := 9) (v := a1) hF0 rfl
    refine r_aload_n rfl ?_
    refine r_callV 49 rfl [.ref 0] [] (Nat.le_of_ble_eq_true rfl) rfl (T_X10_changed_0 _ hI89) ?_
    rintro _ _ ⟨g91, rfl, hI92, hF93, rfl⟩
    refine At.stn ?_
    have hF96 := Fr.tr hF90 hF93 rfl rfl
    refine At.enter rfl ?_
    refine r_aload_n rfl ?_
    refine r_iload_n rfl ?_
    refine q_inlV 54 rfl [.ref 0, .int v88] [] (Nat.le_of_ble_eq_true rfl) rfl ?_
    refine Ev.mk rfl rfl ⟨Nat.le_of_ble_eq_true rfl, Or.inr (q_rc hI92.1 kx_0 rfl)⟩ ?_
    show At _ none _ _ (0, [(0, .ref 0), (1, .int v88)], [], (_, _)) _
    refine At.enter rfl ?_
    refine r_aload_n rfl ?_
    refine r_iconst 0 rfl ?_
    refine q_putI (Sh.int hI92.1 kx_0 rfl) rfl ?_
    have hI97 := HI.wI0 hI92 kx_0 rfl (p := 0) (b := 17) (v := 0) rfl
    have hF98 := Fr.wI (p := 0) (b := 17) (v := 0) hF96 rfl
    refine r_iload_n rfl ?_
    refine q_ireti ?_
    refine At.enter rfl ?_
    refine r_ireti ?_
    exact ⟨_, rfl, hI97, hF98, _, rfl, trivial⟩
  · have c87_ : a1.toInt ≠ (-1) := en_i_eq_f c87
    refine At.enter rfl ?_
    refine r_iload_n rfl ?_
    refine r_iconst 0 rfl ?_
    refine r_aload_n rfl ?_
    refine q_getR (Sh.ref hI0.1 kx_0 rfl) ?_
    obtain ⟨v99, hv99⟩ : ∃ v, gI g0 1 6 = v := ⟨_, rfl⟩
    have rv99 := RgF.at hI0.2.1 (p := 1) (b := 6) rfl
    rw [hv99] at rv99
    dsimp only at rv99
    refine q_getI (Sh.int hI0.1 kx_1 rfl) v99 hv99 ?_
    refine r_iconst 1 rfl ?_
    refine q_isub (v99.toInt - 1) rfl (by omega) (fun v100 hv100 => ?_)
    refine q_inlS 19 rfl [.int a1, .int 0, .int v100] [] (Nat.le_of_ble_eq_true rfl) rfl ?_
    refine Ev.mk rfl rfl ⟨Nat.le_of_ble_eq_true rfl, Or.inl rfl⟩ ?_
    show At _ none _ _ (0, [(0, .int a1), (1, .int 0), (2, .int v100)], [], (_, _)) _
    refine At.enter rfl ?_
    refine r_iload_n rfl ?_
    refine r_iload_n rfl ?_
    refine r_ics 5 rfl (fun c101 => ?_) (fun c101 => ?_)
    · have c101_ : a1.toInt < 0 := en_i_lt_t c101
      refine At.enter rfl ?_
      refine r_iconst 0 rfl ?_
      refine Ar.fall 15 rfl ?_
      refine At.enter rfl ?_
      refine q_iretz (by decide) ?_
      refine At.enter rfl ?_
      refine r_iff 22 rfl (by decide) ?_
      refine At.enter rfl ?_
      refine r_aload_n rfl ?_
      refine r_bipush (-2) rfl ?_
      refine r_callV 28 rfl [.ref 0, .int (-2)] [] (Nat.le_of_ble_eq_true rfl) rfl (T_X10_refused_0 _ hI0 (-2) (by decide)) ?_
      rintro _ _ ⟨g102, rfl, hI103, hF104, v105, rfl, hr106⟩
      refine At.sti ?_
      have hF107 := Fr.tr hF0 hF104 rfl rfl
      have zv108 : ((-2) : Int32).toInt = (-2) := rfl
      refine At.enter rfl ?_
      refine r_ireti ?_
      exact ⟨_, rfl, hI103, hF107, _, rfl, trivial⟩
    · have c101_ : a1.toInt ≥ 0 := en_i_lt_f c101
      refine At.enter rfl ?_
      refine r_iload_n rfl ?_
      refine r_iload_n rfl ?_
      have bv110 := q_bnd a1
      have bv111 := q_bnd v100
      refine r_ics 10 rfl (fun c109 => ?_) (fun c109 => ?_)
      · have c109_ : a1.toInt > v100.toInt := en_i_gt_t c109
        refine At.enter rfl ?_
        refine r_iconst 0 rfl ?_
        refine Ar.fall 15 rfl ?_
        refine At.enter rfl ?_
        refine q_iretz (by decide) ?_
        refine At.enter rfl ?_
        refine r_iff 22 rfl (by decide) ?_
        refine At.enter rfl ?_
        refine r_aload_n rfl ?_
        refine r_bipush (-2) rfl ?_
        refine r_callV 28 rfl [.ref 0, .int (-2)] [] (Nat.le_of_ble_eq_true rfl) rfl (T_X10_refused_0 _ hI0 (-2) (by decide)) ?_
        rintro _ _ ⟨g112, rfl, hI113, hF114, v115, rfl, hr116⟩
        refine At.sti ?_
        have hF117 := Fr.tr hF0 hF114 rfl rfl
        have zv118 : ((-2) : Int32).toInt = (-2) := rfl
        refine At.enter rfl ?_
        refine r_ireti ?_
        exact ⟨_, rfl, hI113, hF117, _, rfl, trivial⟩
      · have c109_ : a1.toInt ≤ v100.toInt := en_i_gt_f c109
        refine At.enter rfl ?_
        refine r_iconst 1 rfl ?_
        refine r_goto ?_
        refine At.enter rfl ?_
        refine q_iretz (by decide) ?_
        refine At.enter rfl ?_
        refine r_ift (by decide) ?_
        refine At.enter rfl ?_
        refine r_aload_n rfl ?_
        refine q_getR (Sh.ref hI0.1 kx_0 rfl) ?_
        obtain ⟨v119, hv119⟩ : ∃ v, gI g0 1 9 = v := ⟨_, rfl⟩
        refine q_getI (Sh.int hI0.1 kx_1 rfl) v119 hv119 ?_
        refine r_istore_n ([(2, .int v119), (0, .ref 0), (1, .int a1)]) rfl ?_
        refine r_aload_n rfl ?_
        refine q_getR (Sh.ref hI0.1 kx_0 rfl) ?_
        refine r_iload_n rfl ?_
        refine q_putI (Sh.int hI0.1 kx_1 rfl) rfl ?_
        have hI120 := HI.wI0 hI0 kx_1 rfl (p := 1) (b := 9) (v := a1) rfl
        have hF121 := Fr.wI (p := 1) (b := 9) (v := a1) hF0 rfl
        refine r_aload_n rfl ?_
        refine r_callV 49 rfl [.ref 0] [] (Nat.le_of_ble_eq_true rfl) rfl (T_X10_changed_0 _ hI120) ?_
        rintro _ _ ⟨g122, rfl, hI123, hF124, rfl⟩
        refine At.stn ?_
        have hF127 := Fr.tr hF121 hF124 rfl rfl
        refine At.enter rfl ?_
        refine r_aload_n rfl ?_
        refine r_iload_n rfl ?_
        refine q_inlV 54 rfl [.ref 0, .int v119] [] (Nat.le_of_ble_eq_true rfl) rfl ?_
        refine Ev.mk rfl rfl ⟨Nat.le_of_ble_eq_true rfl, Or.inr (q_rc hI123.1 kx_0 rfl)⟩ ?_
        show At _ none _ _ (0, [(0, .ref 0), (1, .int v119)], [], (_, _)) _
        refine At.enter rfl ?_
        refine r_aload_n rfl ?_
        refine r_iconst 0 rfl ?_
        refine q_putI (Sh.int hI123.1 kx_0 rfl) rfl ?_
        have hI128 := HI.wI0 hI123 kx_0 rfl (p := 0) (b := 17) (v := 0) rfl
        have hF129 := Fr.wI (p := 0) (b := 17) (v := 0) hF127 rfl
        refine r_iload_n rfl ?_
        refine q_ireti ?_
        refine At.enter rfl ?_
        refine r_ireti ?_
        exact ⟨_, rfl, hI128, hF129, _, rfl, trivial⟩

def F_X10_way_0 : List (Nat × Nat) := []
def A_X10_way_0 : List Nat := []
set_option maxRecDepth 100000 in
set_option maxHeartbeats 4000000 in
theorem T_X10_way_0 (d : Nat) {N : Nat} {g0 : List en_E} (hI0 : HI g0) (a1 : Int32) (a2 : Int32) : Ev (d + 5) 118 [.ref 0, .int a1, .int a2] (g0, N) (fun w h' => ∃ g', h' = (g', N) ∧ HI g' ∧ Fr F_X10_way_0 A_X10_way_0 g0 g' ∧ ∃ r : Int32, w = some (.int r) ∧ True) := by
  have hF0 : Fr F_X10_way_0 A_X10_way_0 g0 g0 := Fr.rf
  refine Ev.mk rfl rfl ⟨Nat.le_of_ble_eq_true rfl, Or.inr (q_rc hI0.1 kx_0 rfl)⟩ ?_
  show At _ none _ _ (0, [(0, .ref 0), (1, .int a1), (2, .int a2)], [], (_, _)) _
  refine At.enter rfl ?_
  refine r_aload_n rfl ?_
  refine q_getR (Sh.ref hI0.1 kx_0 rfl) ?_
  refine r_iload_n rfl ?_
  refine q_inlV 8 rfl [.ref 1, .int a1] [] (Nat.le_of_ble_eq_true rfl) rfl ?_
  refine Ev.mk rfl rfl ⟨Nat.le_of_ble_eq_true rfl, Or.inr (q_rc hI0.1 kx_1 rfl)⟩ ?_
  show At _ none _ _ (0, [(0, .ref 1), (1, .int a1)], [], (_, _)) _
  refine At.enter rfl ?_
  refine r_iload_n rfl ?_
  refine r_ifs 4 rfl (fun c37 => ?_) (fun c37 => ?_)
  · have c37_ : a1.toInt < 0 := en_k_lt_t c37
    refine At.enter rfl ?_
    refine r_iconst 0 rfl ?_
    refine Ar.fall 17 rfl ?_
    refine At.enter rfl ?_
    refine q_iretz (by decide) ?_
    refine At.enter rfl ?_
    refine r_iff 11 rfl (by decide) ?_
    refine At.enter rfl ?_
    refine r_iconst (-1) rfl ?_
    refine r_ireti ?_
    exact ⟨_, rfl, hI0, hF0, _, rfl, trivial⟩
  · have c37_ : a1.toInt ≥ 0 := en_k_lt_f c37
    refine At.enter rfl ?_
    refine r_iload_n rfl ?_
    refine r_aload_n rfl ?_
    obtain ⟨v38, hv38⟩ : ∃ v, gI g0 1 4 = v := ⟨_, rfl⟩
    have rv38 := RgF.at hI0.2.1 (p := 1) (b := 4) rfl
    rw [hv38] at rv38
    dsimp only at rv38
    refine q_getI (Sh.int hI0.1 kx_1 rfl) v38 hv38 ?_
    have bv40 := q_bnd a1
    have bv41 := q_bnd v38
    refine r_ics 12 rfl (fun c39 => ?_) (fun c39 => ?_)
    · have c39_ : a1.toInt ≥ v38.toInt := en_i_ge_t c39
      refine At.enter rfl ?_
      refine r_iconst 0 rfl ?_
      refine Ar.fall 17 rfl ?_
      refine At.enter rfl ?_
      refine q_iretz (by decide) ?_
      refine At.enter rfl ?_
      refine r_iff 11 rfl (by decide) ?_
      refine At.enter rfl ?_
      refine r_iconst (-1) rfl ?_
      refine r_ireti ?_
      exact ⟨_, rfl, hI0, hF0, _, rfl, trivial⟩
    · have c39_ : a1.toInt < v38.toInt := en_i_ge_f c39
      refine At.enter rfl ?_
      refine r_iconst 1 rfl ?_
      refine r_goto ?_
      refine At.enter rfl ?_
      refine q_iretz (by decide) ?_
      refine At.enter rfl ?_
      refine r_ift (by decide) ?_
      refine At.enter rfl ?_
      refine r_iload_n rfl ?_
      refine r_iconst (-1) rfl ?_
      refine r_ics 18 rfl (fun c42 => ?_) (fun c42 => ?_)
      · have c42_ : a2.toInt ≠ (-1) := en_i_ne_t c42
        refine At.enter rfl ?_
        refine r_aload_n rfl ?_
        refine q_getR (Sh.ref hI0.1 kx_0 rfl) ?_
        refine r_iload_n rfl ?_
        refine r_iload_n rfl ?_
        refine r_callV 38 rfl [.ref 184, .int a1, .int a2] [] (Nat.le_of_ble_eq_true rfl) rfl (T_X9_standOf_184 _ hI0 a1 a2) ?_
        rintro _ _ ⟨g43, rfl, hI44, hF45, v46, rfl, hr47⟩
        refine At.sti ?_
        have hF48 := Fr.tr hF0 hF45 rfl rfl
        refine At.enter rfl ?_
        refine r_ireti ?_
        exact ⟨_, rfl, hI44, hF48, _, rfl, trivial⟩
      · have c42_ : a2.toInt = (-1) := en_i_ne_f c42
        refine At.enter rfl ?_
        refine r_aload_n rfl ?_
        refine q_getR (Sh.ref hI0.1 kx_0 rfl) ?_
        refine r_iload_n rfl ?_
        refine r_callV 26 rfl [.ref 1, .int a1] [] (Nat.le_of_ble_eq_true rfl) rfl (T_X0_handsOf_1 _ hI0 a1) ?_
        rintro _ _ ⟨g49, rfl, hI50, hF51, v52, rfl, hr53⟩
        refine At.sti ?_
        have hF54 := Fr.tr hF0 hF51 rfl rfl
        refine At.enter rfl ?_
        refine r_goto ?_
        refine At.enter rfl ?_
        refine r_ireti ?_
        exact ⟨_, rfl, hI50, hF54, _, rfl, trivial⟩

def F_X10_enter_0 : List (Nat × Nat) := []
def A_X10_enter_0 : List Nat := []
set_option maxRecDepth 100000 in
set_option maxHeartbeats 4000000 in
theorem T_X10_enter_0 (d : Nat) {N : Nat} {g0 : List en_E} (hI0 : HI g0) (a1 : Int32) (a2 : Int32) : Ev (d + 4) 119 [.ref 0, .int a1, .int a2] (g0, N) (fun w h' => ∃ g', h' = (g', N) ∧ HI g' ∧ Fr F_X10_enter_0 A_X10_enter_0 g0 g' ∧ ∃ r : Int32, w = some (.int r) ∧ True) := by
  have hF0 : Fr F_X10_enter_0 A_X10_enter_0 g0 g0 := Fr.rf
  refine Ev.mk rfl rfl ⟨Nat.le_of_ble_eq_true rfl, Or.inr (q_rc hI0.1 kx_0 rfl)⟩ ?_
  show At _ none _ _ (0, [(0, .ref 0), (1, .int a1), (2, .int a2)], [], (_, _)) _
  refine At.enter rfl ?_
  refine r_aload_n rfl ?_
  refine q_getR (Sh.ref hI0.1 kx_0 rfl) ?_
  refine r_iload_n rfl ?_
  refine q_inlV 8 rfl [.ref 1, .int a1] [] (Nat.le_of_ble_eq_true rfl) rfl ?_
  refine Ev.mk rfl rfl ⟨Nat.le_of_ble_eq_true rfl, Or.inr (q_rc hI0.1 kx_1 rfl)⟩ ?_
  show At _ none _ _ (0, [(0, .ref 1), (1, .int a1)], [], (_, _)) _
  refine At.enter rfl ?_
  refine r_iload_n rfl ?_
  refine r_ifs 4 rfl (fun c29 => ?_) (fun c29 => ?_)
  · have c29_ : a1.toInt < 0 := en_k_lt_t c29
    refine At.enter rfl ?_
    refine r_iconst 0 rfl ?_
    refine Ar.fall 17 rfl ?_
    refine At.enter rfl ?_
    refine q_iretz (by decide) ?_
    refine At.enter rfl ?_
    refine r_ift (by decide) ?_
    refine At.enter rfl ?_
    refine r_iconst (-1) rfl ?_
    refine Ar.fall 38 rfl ?_
    refine At.enter rfl ?_
    refine r_ireti ?_
    exact ⟨_, rfl, hI0, hF0, _, rfl, trivial⟩
  · have c29_ : a1.toInt ≥ 0 := en_k_lt_f c29
    refine At.enter rfl ?_
    refine r_iload_n rfl ?_
    refine r_aload_n rfl ?_
    obtain ⟨v30, hv30⟩ : ∃ v, gI g0 1 0 = v := ⟨_, rfl⟩
    have rv30 := RgF.at hI0.2.1 (p := 1) (b := 0) rfl
    rw [hv30] at rv30
    dsimp only at rv30
    refine q_getI (Sh.int hI0.1 kx_1 rfl) v30 hv30 ?_
    have bv32 := q_bnd a1
    have bv33 := q_bnd v30
    refine r_ics 12 rfl (fun c31 => ?_) (fun c31 => ?_)
    · have c31_ : a1.toInt ≥ v30.toInt := en_i_ge_t c31
      refine At.enter rfl ?_
      refine r_iconst 0 rfl ?_
      refine Ar.fall 17 rfl ?_
      refine At.enter rfl ?_
      refine q_iretz (by decide) ?_
      refine At.enter rfl ?_
      refine r_ift (by decide) ?_
      refine At.enter rfl ?_
      refine r_iconst (-1) rfl ?_
      refine Ar.fall 38 rfl ?_
      refine At.enter rfl ?_
      refine r_ireti ?_
      exact ⟨_, rfl, hI0, hF0, _, rfl, trivial⟩
    · have c31_ : a1.toInt < v30.toInt := en_i_ge_f c31
      refine At.enter rfl ?_
      refine r_iconst 1 rfl ?_
      refine r_goto ?_
      refine At.enter rfl ?_
      refine q_iretz (by decide) ?_
      refine At.enter rfl ?_
      refine r_iff 11 rfl (by decide) ?_
      refine At.enter rfl ?_
      refine r_iload_n rfl ?_
      refine r_aload_n rfl ?_
      refine q_getR (Sh.ref hI0.1 kx_0 rfl) ?_
      refine q_getI (Sh.int hI0.1 kx_1 rfl) v30 hv30 ?_
      refine q_inlS 22 rfl [.int a2, .int v30] [] (Nat.le_of_ble_eq_true rfl) rfl ?_
      refine Ev.mk rfl rfl ⟨Nat.le_of_ble_eq_true rfl, Or.inl rfl⟩ ?_
      show At _ none _ _ (0, [(0, .int a2), (1, .int v30)], [], (_, _)) _
      refine At.enter rfl ?_
      refine r_iload_n rfl ?_
      refine r_ifs 4 rfl (fun c34 => ?_) (fun c34 => ?_)
      · have c34_ : a2.toInt < 0 := en_k_lt_t c34
        refine At.enter rfl ?_
        refine r_iconst 0 rfl ?_
        refine Ar.fall 15 rfl ?_
        refine At.enter rfl ?_
        refine q_iretz (by decide) ?_
        refine At.enter rfl ?_
        refine r_ift (by decide) ?_
        refine At.enter rfl ?_
        refine r_iconst (-1) rfl ?_
        refine Ar.fall 38 rfl ?_
        refine At.enter rfl ?_
        refine r_ireti ?_
        exact ⟨_, rfl, hI0, hF0, _, rfl, trivial⟩
      · have c34_ : a2.toInt ≥ 0 := en_k_lt_f c34
        refine At.enter rfl ?_
        refine r_iload_n rfl ?_
        refine r_iload_n rfl ?_
        refine q_ishrO (fun v35 hv35 => ?_)
        refine r_ifs 10 rfl (fun c36 => ?_) (fun c36 => ?_)
        · have c36_ : v35.toInt ≠ 0 := en_k_ne_t c36
          refine At.enter rfl ?_
          refine r_iconst 0 rfl ?_
          refine Ar.fall 15 rfl ?_
          refine At.enter rfl ?_
          refine q_iretz (by decide) ?_
          refine At.enter rfl ?_
          refine r_ift (by decide) ?_
          refine At.enter rfl ?_
          refine r_iconst (-1) rfl ?_
          refine Ar.fall 38 rfl ?_
          refine At.enter rfl ?_
          refine r_ireti ?_
          exact ⟨_, rfl, hI0, hF0, _, rfl, trivial⟩
        · have c36_ : v35.toInt = 0 := en_k_ne_f c36
          refine At.enter rfl ?_
          refine r_iconst 1 rfl ?_
          refine r_goto ?_
          refine At.enter rfl ?_
          refine q_iretz (by decide) ?_
          refine At.enter rfl ?_
          refine r_iff 25 rfl (by decide) ?_
          refine At.enter rfl ?_
          refine r_aload_n rfl ?_
          refine q_getR (Sh.ref hI0.1 kx_0 rfl) ?_
          refine r_iload_n rfl ?_
          refine r_iload_n rfl ?_
          refine r_callV 34 rfl [.ref 184, .int a1, .int a2] [] (Nat.le_of_ble_eq_true rfl) rfl (T_X9_comersTo_184 _ hI0 a1 a2) ?_
          rintro _ _ ⟨g37, rfl, hI38, hF39, v40, rfl, hr41⟩
          refine At.sti ?_
          have hF42 := Fr.tr hF0 hF39 rfl rfl
          refine At.enter rfl ?_
          refine r_goto ?_
          refine At.enter rfl ?_
          refine r_ireti ?_
          exact ⟨_, rfl, hI38, hF42, _, rfl, trivial⟩

def F_X10_day_0 : List (Nat × Nat) := [(0, 14), (185, 3), (188, 16), (188, 18)]
def A_X10_day_0 : List Nat := [189, 190, 191, 192, 193, 194, 195, 196, 197, 198, 199, 200, 202, 203]
set_option maxRecDepth 100000 in
set_option maxHeartbeats 4000000 in
theorem T_X10_day_0 (d : Nat) {N : Nat} {g0 : List en_E} (hI0 : HI g0) (a1 : Int32) (a2 : Int32) : Ev (d + 7) 120 [.ref 0, .int a1, .int a2] (g0, N) (fun w h' => ∃ g', h' = (g', N) ∧ HI g' ∧ Fr F_X10_day_0 A_X10_day_0 g0 g' ∧ ∃ r : Int32, w = some (.int r) ∧ True) := by
  have hF0 : Fr F_X10_day_0 A_X10_day_0 g0 g0 := Fr.rf
  refine Ev.mk rfl rfl ⟨Nat.le_of_ble_eq_true rfl, Or.inr (q_rc hI0.1 kx_0 rfl)⟩ ?_
  show At _ none _ _ (0, [(0, .ref 0), (1, .int a1), (2, .int a2)], [], (_, _)) _
  refine At.enter rfl ?_
  refine r_aload_n rfl ?_
  refine q_getR (Sh.ref hI0.1 kx_0 rfl) ?_
  refine r_iload_n rfl ?_
  refine q_inlV 8 rfl [.ref 1, .int a1] [] (Nat.le_of_ble_eq_true rfl) rfl ?_
  refine Ev.mk rfl rfl ⟨Nat.le_of_ble_eq_true rfl, Or.inr (q_rc hI0.1 kx_1 rfl)⟩ ?_
  show At _ none _ _ (0, [(0, .ref 1), (1, .int a1)], [], (_, _)) _
  refine At.enter rfl ?_
  refine r_iload_n rfl ?_
  refine r_ifs 4 rfl (fun c83 => ?_) (fun c83 => ?_)
  · have c83_ : a1.toInt < 0 := en_k_lt_t c83
    refine At.enter rfl ?_
    refine r_iconst 0 rfl ?_
    refine Ar.fall 17 rfl ?_
    refine At.enter rfl ?_
    refine q_iretz (by decide) ?_
    refine At.enter rfl ?_
    refine r_iff 11 rfl (by decide) ?_
    refine At.enter rfl ?_
    refine r_iconst (-1) rfl ?_
    refine r_ireti ?_
    exact ⟨_, rfl, hI0, hF0, _, rfl, trivial⟩
  · have c83_ : a1.toInt ≥ 0 := en_k_lt_f c83
    refine At.enter rfl ?_
    refine r_iload_n rfl ?_
    refine r_aload_n rfl ?_
    obtain ⟨v84, hv84⟩ : ∃ v, gI g0 1 4 = v := ⟨_, rfl⟩
    have rv84 := RgF.at hI0.2.1 (p := 1) (b := 4) rfl
    rw [hv84] at rv84
    dsimp only at rv84
    refine q_getI (Sh.int hI0.1 kx_1 rfl) v84 hv84 ?_
    have bv86 := q_bnd a1
    have bv87 := q_bnd v84
    refine r_ics 12 rfl (fun c85 => ?_) (fun c85 => ?_)
    · have c85_ : a1.toInt ≥ v84.toInt := en_i_ge_t c85
      refine At.enter rfl ?_
      refine r_iconst 0 rfl ?_
      refine Ar.fall 17 rfl ?_
      refine At.enter rfl ?_
      refine q_iretz (by decide) ?_
      refine At.enter rfl ?_
      refine r_iff 11 rfl (by decide) ?_
      refine At.enter rfl ?_
      refine r_iconst (-1) rfl ?_
      refine r_ireti ?_
      exact ⟨_, rfl, hI0, hF0, _, rfl, trivial⟩
    · have c85_ : a1.toInt < v84.toInt := en_i_ge_f c85
      refine At.enter rfl ?_
      refine r_iconst 1 rfl ?_
      refine r_goto ?_
      refine At.enter rfl ?_
      refine q_iretz (by decide) ?_
      refine At.enter rfl ?_
      refine r_ift (by decide) ?_
      refine At.enter rfl ?_
      refine r_aload_n rfl ?_
      refine q_inlV 17 rfl [.ref 0] [] (Nat.le_of_ble_eq_true rfl) rfl ?_
      refine Ev.mk rfl rfl ⟨Nat.le_of_ble_eq_true rfl, Or.inr (q_rc hI0.1 kx_0 rfl)⟩ ?_
      show At _ none _ _ (0, [(0, .ref 0)], [], (_, _)) _
      refine At.enter rfl ?_
      refine r_aload_n rfl ?_
      obtain ⟨v88, hv88⟩ : ∃ v, gI g0 0 14 = v := ⟨_, rfl⟩
      refine q_getI (Sh.int hI0.1 kx_0 rfl) v88 hv88 ?_
      refine r_ifs 7 rfl (fun c89 => ?_) (fun c89 => ?_)
      · have c89_ : v88.toInt ≠ 0 := en_k_ne_t c89
        refine At.enter rfl ?_
        refine r_aload_n rfl ?_
        refine q_getR (Sh.ref hI0.1 kx_0 rfl) ?_
        refine q_aret ?_
        refine At.enter rfl ?_
        refine r_astore_n ([(3, .ref 188), (0, .ref 0), (1, .int a1), (2, .int a2)]) rfl ?_
        refine r_aload_n rfl ?_
        refine q_getR (Sh.ref hI0.1 kx_188 rfl) ?_
        refine r_iload_n rfl ?_
        obtain ⟨v90, hv90⟩ : ∃ v, eA g0 196 a1.toInt = v := ⟨_, rfl⟩
        refine q_iald (Sh.arr hI0.1 ka_196) a1.toInt rfl (by omega) v90 hv90 ?_
        refine r_istore ([(4, .int v90), (3, .ref 188), (0, .ref 0), (1, .int a1), (2, .int a2)]) rfl ?_
        refine r_iload_n rfl ?_
        by_cases c91_0 : a2.toInt = 0
        · refine r_tsw 56 (by rw [c91_0]; rfl) ?_
          refine At.enter rfl ?_
          refine r_iload rfl ?_
          refine r_ireti ?_
          exact ⟨_, rfl, hI0, hF0, _, rfl, trivial⟩
        by_cases c91_1 : a2.toInt = 1
        · refine r_tsw 59 (by rw [c91_1]; rfl) ?_
          refine At.enter rfl ?_
          refine r_iload rfl ?_
          refine r_iconst (-1) rfl ?_
          refine r_ics 65 rfl (fun c92 => ?_) (fun c92 => ?_)
          · have c92_ : v90.toInt ≠ (-1) := en_i_ne_t c92
            refine At.enter rfl ?_
            refine r_iconst 0 rfl ?_
            refine r_iload rfl ?_
            refine r_aload_n rfl ?_
            refine q_getR (Sh.ref hI0.1 kx_0 rfl) ?_
            obtain ⟨v93, hv93⟩ : ∃ v, gI g0 1 10 = v := ⟨_, rfl⟩
            refine q_getI (Sh.int hI0.1 kx_1 rfl) v93 hv93 ?_
            refine q_isubO (fun v94 _ => ?_)
            refine q_mmax rfl (Nat.le_of_ble_eq_true rfl) (fun v95 hv95 => ?_)
            have zv96 : (0 : Int32).toInt = 0 := rfl
            refine Ar.fall 83 rfl ?_
            refine At.enter rfl ?_
            refine r_ireti ?_
            exact ⟨_, rfl, hI0, hF0, _, rfl, trivial⟩
          · have c92_ : v90.toInt = (-1) := en_i_ne_f c92
            refine At.enter rfl ?_
            refine r_iconst (-1) rfl ?_
            refine r_goto ?_
            refine At.enter rfl ?_
            refine r_ireti ?_
            exact ⟨_, rfl, hI0, hF0, _, rfl, trivial⟩
        by_cases c91_2 : a2.toInt = 2
        · refine r_tsw 84 (by rw [c91_2]; rfl) ?_
          refine At.enter rfl ?_
          refine r_aload_n rfl ?_
          refine q_getR (Sh.ref hI0.1 kx_188 rfl) ?_
          refine r_iload_n rfl ?_
          obtain ⟨v97, hv97⟩ : ∃ v, eA g0 195 a1.toInt = v := ⟨_, rfl⟩
          refine q_iald (Sh.arr hI0.1 ka_195) a1.toInt rfl (by omega) v97 hv97 ?_
          refine r_ireti ?_
          exact ⟨_, rfl, hI0, hF0, _, rfl, trivial⟩
        by_cases c91_3 : a2.toInt = 3
        · refine r_tsw 91 (by rw [c91_3]; rfl) ?_
          refine At.enter rfl ?_
          refine r_aload_n rfl ?_
          refine q_getR (Sh.ref hI0.1 kx_188 rfl) ?_
          refine r_iload_n rfl ?_
          obtain ⟨v98, hv98⟩ : ∃ v, eA g0 197 a1.toInt = v := ⟨_, rfl⟩
          refine q_iald (Sh.arr hI0.1 ka_197) a1.toInt rfl (by omega) v98 hv98 ?_
          refine r_ireti ?_
          exact ⟨_, rfl, hI0, hF0, _, rfl, trivial⟩
        have c99 : a2.toInt < 0 ∨ 3 < a2.toInt := by omega
        refine r_tsw 98 (by unfold en_sw; rw [if_pos c99]; rfl) ?_
        refine At.enter rfl ?_
        refine r_iconst (-1) rfl ?_
        refine r_ireti ?_
        exact ⟨_, rfl, hI0, hF0, _, rfl, trivial⟩
      · have c89_ : v88.toInt = 0 := en_k_ne_f c89
        refine At.enter rfl ?_
        refine r_aload_n rfl ?_
        refine q_getR (Sh.ref hI0.1 kx_0 rfl) ?_
        refine r_iconst 0 rfl ?_
        refine r_callV 15 rfl [.ref 188, .int 0] [] (Nat.le_of_ble_eq_true rfl) rfl (T_X1_layOut_188 _ hI0 0) ?_
        rintro _ _ ⟨g100, rfl, hI101, hF102, rfl⟩
        refine At.stn ?_
        have hF105 := Fr.tr hF0 hF102 rfl rfl
        refine At.enter rfl ?_
        refine r_aload_n rfl ?_
        refine q_getR (Sh.ref hI101.1 kx_0 rfl) ?_
        refine r_callV 22 rfl [.ref 188] [] (Nat.le_of_ble_eq_true rfl) rfl (T_X1_runWhole_188 _ hI101) ?_
        rintro _ _ ⟨g106, rfl, hI107, hF108, rfl⟩
        refine At.stn ?_
        have hF111 := Fr.tr hF105 hF108 rfl rfl
        refine At.enter rfl ?_
        refine r_aload_n rfl ?_
        refine r_iconst 1 rfl ?_
        refine q_putI (Sh.int hI107.1 kx_0 rfl) rfl ?_
        have hI112 := HI.wI0 hI107 kx_0 rfl (p := 0) (b := 14) (v := 1) rfl
        have hF113 := Fr.wI (p := 0) (b := 14) (v := 1) hF111 rfl
        refine Ar.fall 27 rfl ?_
        refine At.enter rfl ?_
        refine r_aload_n rfl ?_
        refine q_getR (Sh.ref hI112.1 kx_0 rfl) ?_
        refine q_aret ?_
        refine At.enter rfl ?_
        refine r_astore_n ([(3, .ref 188), (0, .ref 0), (1, .int a1), (2, .int a2)]) rfl ?_
        refine r_aload_n rfl ?_
        refine q_getR (Sh.ref hI112.1 kx_188 rfl) ?_
        refine r_iload_n rfl ?_
        obtain ⟨v114, hv114⟩ : ∃ v, eA g106 196 a1.toInt = v := ⟨_, rfl⟩
        refine q_iald (Sh.arr hI112.1 ka_196) a1.toInt rfl (by omega) v114 ((eA_c (gA_sI)).trans hv114) ?_
        refine r_istore ([(4, .int v114), (3, .ref 188), (0, .ref 0), (1, .int a1), (2, .int a2)]) rfl ?_
        refine r_iload_n rfl ?_
        by_cases c115_0 : a2.toInt = 0
        · refine r_tsw 56 (by rw [c115_0]; rfl) ?_
          refine At.enter rfl ?_
          refine r_iload rfl ?_
          refine r_ireti ?_
          exact ⟨_, rfl, hI112, hF113, _, rfl, trivial⟩
        by_cases c115_1 : a2.toInt = 1
        · refine r_tsw 59 (by rw [c115_1]; rfl) ?_
          refine At.enter rfl ?_
          refine r_iload rfl ?_
          refine r_iconst (-1) rfl ?_
          refine r_ics 65 rfl (fun c116 => ?_) (fun c116 => ?_)
          · have c116_ : v114.toInt ≠ (-1) := en_i_ne_t c116
            refine At.enter rfl ?_
            refine r_iconst 0 rfl ?_
            refine r_iload rfl ?_
            refine r_aload_n rfl ?_
            refine q_getR (Sh.ref hI112.1 kx_0 rfl) ?_
            obtain ⟨v117, hv117⟩ : ∃ v, gI g0 1 10 = v := ⟨_, rfl⟩
            refine q_getI (Sh.int hI112.1 kx_1 rfl) v117 (((gI_sI_ne (by decide)).trans ((hF108.1 1 10 (by decide)).trans (hF102.1 1 10 (by decide)))).trans hv117) ?_
            refine q_isubO (fun v118 _ => ?_)
            refine q_mmax rfl (Nat.le_of_ble_eq_true rfl) (fun v119 hv119 => ?_)
            have zv120 : (0 : Int32).toInt = 0 := rfl
            refine Ar.fall 83 rfl ?_
            refine At.enter rfl ?_
            refine r_ireti ?_
            exact ⟨_, rfl, hI112, hF113, _, rfl, trivial⟩
          · have c116_ : v114.toInt = (-1) := en_i_ne_f c116
            refine At.enter rfl ?_
            refine r_iconst (-1) rfl ?_
            refine r_goto ?_
            refine At.enter rfl ?_
            refine r_ireti ?_
            exact ⟨_, rfl, hI112, hF113, _, rfl, trivial⟩
        by_cases c115_2 : a2.toInt = 2
        · refine r_tsw 84 (by rw [c115_2]; rfl) ?_
          refine At.enter rfl ?_
          refine r_aload_n rfl ?_
          refine q_getR (Sh.ref hI112.1 kx_188 rfl) ?_
          refine r_iload_n rfl ?_
          obtain ⟨v121, hv121⟩ : ∃ v, eA g106 195 a1.toInt = v := ⟨_, rfl⟩
          refine q_iald (Sh.arr hI112.1 ka_195) a1.toInt rfl (by omega) v121 ((eA_c (gA_sI)).trans hv121) ?_
          refine r_ireti ?_
          exact ⟨_, rfl, hI112, hF113, _, rfl, trivial⟩
        by_cases c115_3 : a2.toInt = 3
        · refine r_tsw 91 (by rw [c115_3]; rfl) ?_
          refine At.enter rfl ?_
          refine r_aload_n rfl ?_
          refine q_getR (Sh.ref hI112.1 kx_188 rfl) ?_
          refine r_iload_n rfl ?_
          obtain ⟨v122, hv122⟩ : ∃ v, eA g106 197 a1.toInt = v := ⟨_, rfl⟩
          refine q_iald (Sh.arr hI112.1 ka_197) a1.toInt rfl (by omega) v122 ((eA_c (gA_sI)).trans hv122) ?_
          refine r_ireti ?_
          exact ⟨_, rfl, hI112, hF113, _, rfl, trivial⟩
        have c123 : a2.toInt < 0 ∨ 3 < a2.toInt := by omega
        refine r_tsw 98 (by unfold en_sw; rw [if_pos c123]; rfl) ?_
        refine At.enter rfl ?_
        refine r_iconst (-1) rfl ?_
        refine r_ireti ?_
        exact ⟨_, rfl, hI112, hF113, _, rfl, trivial⟩

def F_X10_where_0 : List (Nat × Nat) := [(0, 14), (185, 3), (188, 16), (188, 18)]
def A_X10_where_0 : List Nat := [189, 190, 191, 192, 193, 194, 195, 196, 197, 198, 199, 200, 202, 203]
set_option maxRecDepth 100000 in
set_option maxHeartbeats 4000000 in
theorem T_X10_where_0 (d : Nat) {N : Nat} {g0 : List en_E} (hI0 : HI g0) (a1 : Int32) (a2 : Int32) : Ev (d + 7) 121 [.ref 0, .int a1, .int a2] (g0, N) (fun w h' => ∃ g', h' = (g', N) ∧ HI g' ∧ Fr F_X10_where_0 A_X10_where_0 g0 g' ∧ ∃ r : Int32, w = some (.int r) ∧ True) := by
  have hF0 : Fr F_X10_where_0 A_X10_where_0 g0 g0 := Fr.rf
  refine Ev.mk rfl rfl ⟨Nat.le_of_ble_eq_true rfl, Or.inr (q_rc hI0.1 kx_0 rfl)⟩ ?_
  show At _ none _ _ (0, [(0, .ref 0), (1, .int a1), (2, .int a2)], [], (_, _)) _
  refine At.enter rfl ?_
  refine r_aload_n rfl ?_
  refine q_getR (Sh.ref hI0.1 kx_0 rfl) ?_
  refine r_iload_n rfl ?_
  refine q_inlV 8 rfl [.ref 1, .int a1] [] (Nat.le_of_ble_eq_true rfl) rfl ?_
  refine Ev.mk rfl rfl ⟨Nat.le_of_ble_eq_true rfl, Or.inr (q_rc hI0.1 kx_1 rfl)⟩ ?_
  show At _ none _ _ (0, [(0, .ref 1), (1, .int a1)], [], (_, _)) _
  refine At.enter rfl ?_
  refine r_iload_n rfl ?_
  refine r_ifs 4 rfl (fun c59 => ?_) (fun c59 => ?_)
  · have c59_ : a1.toInt < 0 := en_k_lt_t c59
    refine At.enter rfl ?_
    refine r_iconst 0 rfl ?_
    refine Ar.fall 17 rfl ?_
    refine At.enter rfl ?_
    refine q_iretz (by decide) ?_
    refine At.enter rfl ?_
    refine r_ift (by decide) ?_
    refine At.enter rfl ?_
    refine r_iconst (-1) rfl ?_
    refine Ar.fall 34 rfl ?_
    refine At.enter rfl ?_
    refine r_ireti ?_
    exact ⟨_, rfl, hI0, hF0, _, rfl, trivial⟩
  · have c59_ : a1.toInt ≥ 0 := en_k_lt_f c59
    refine At.enter rfl ?_
    refine r_iload_n rfl ?_
    refine r_aload_n rfl ?_
    obtain ⟨v60, hv60⟩ : ∃ v, gI g0 1 4 = v := ⟨_, rfl⟩
    have rv60 := RgF.at hI0.2.1 (p := 1) (b := 4) rfl
    rw [hv60] at rv60
    dsimp only at rv60
    refine q_getI (Sh.int hI0.1 kx_1 rfl) v60 hv60 ?_
    have bv62 := q_bnd a1
    have bv63 := q_bnd v60
    refine r_ics 12 rfl (fun c61 => ?_) (fun c61 => ?_)
    · have c61_ : a1.toInt ≥ v60.toInt := en_i_ge_t c61
      refine At.enter rfl ?_
      refine r_iconst 0 rfl ?_
      refine Ar.fall 17 rfl ?_
      refine At.enter rfl ?_
      refine q_iretz (by decide) ?_
      refine At.enter rfl ?_
      refine r_ift (by decide) ?_
      refine At.enter rfl ?_
      refine r_iconst (-1) rfl ?_
      refine Ar.fall 34 rfl ?_
      refine At.enter rfl ?_
      refine r_ireti ?_
      exact ⟨_, rfl, hI0, hF0, _, rfl, trivial⟩
    · have c61_ : a1.toInt < v60.toInt := en_i_ge_f c61
      refine At.enter rfl ?_
      refine r_iconst 1 rfl ?_
      refine r_goto ?_
      refine At.enter rfl ?_
      refine q_iretz (by decide) ?_
      refine At.enter rfl ?_
      refine r_iff 11 rfl (by decide) ?_
      refine At.enter rfl ?_
      refine r_iload_n rfl ?_
      refine r_iconst 0 rfl ?_
      refine r_bipush 99 rfl ?_
      refine q_inlS 18 rfl [.int a2, .int 0, .int 99] [] (Nat.le_of_ble_eq_true rfl) rfl ?_
      refine Ev.mk rfl rfl ⟨Nat.le_of_ble_eq_true rfl, Or.inl rfl⟩ ?_
      show At _ none _ _ (0, [(0, .int a2), (1, .int 0), (2, .int 99)], [], (_, _)) _
      refine At.enter rfl ?_
      refine r_iload_n rfl ?_
      refine r_iload_n rfl ?_
      refine r_ics 5 rfl (fun c64 => ?_) (fun c64 => ?_)
      · have c64_ : a2.toInt < 0 := en_i_lt_t c64
        refine At.enter rfl ?_
        refine r_iconst 0 rfl ?_
        refine Ar.fall 15 rfl ?_
        refine At.enter rfl ?_
        refine q_iretz (by decide) ?_
        refine At.enter rfl ?_
        refine r_ift (by decide) ?_
        refine At.enter rfl ?_
        refine r_iconst (-1) rfl ?_
        refine Ar.fall 34 rfl ?_
        refine At.enter rfl ?_
        refine r_ireti ?_
        exact ⟨_, rfl, hI0, hF0, _, rfl, trivial⟩
      · have c64_ : a2.toInt ≥ 0 := en_i_lt_f c64
        refine At.enter rfl ?_
        refine r_iload_n rfl ?_
        refine r_iload_n rfl ?_
        refine r_ics 10 rfl (fun c65 => ?_) (fun c65 => ?_)
        · have c65_ : a2.toInt > 99 := en_i_gt_t c65
          refine At.enter rfl ?_
          refine r_iconst 0 rfl ?_
          refine Ar.fall 15 rfl ?_
          refine At.enter rfl ?_
          refine q_iretz (by decide) ?_
          refine At.enter rfl ?_
          refine r_ift (by decide) ?_
          refine At.enter rfl ?_
          refine r_iconst (-1) rfl ?_
          refine Ar.fall 34 rfl ?_
          refine At.enter rfl ?_
          refine r_ireti ?_
          exact ⟨_, rfl, hI0, hF0, _, rfl, trivial⟩
        · have c65_ : a2.toInt ≤ 99 := en_i_gt_f c65
          refine At.enter rfl ?_
          refine r_iconst 1 rfl ?_
          refine r_goto ?_
          refine At.enter rfl ?_
          refine q_iretz (by decide) ?_
          refine At.enter rfl ?_
          refine r_iff 21 rfl (by decide) ?_
          refine At.enter rfl ?_
          refine r_aload_n rfl ?_
          refine q_inlV 25 rfl [.ref 0] [] (Nat.le_of_ble_eq_true rfl) rfl ?_
          refine Ev.mk rfl rfl ⟨Nat.le_of_ble_eq_true rfl, Or.inr (q_rc hI0.1 kx_0 rfl)⟩ ?_
          show At _ none _ _ (0, [(0, .ref 0)], [], (_, _)) _
          refine At.enter rfl ?_
          refine r_aload_n rfl ?_
          obtain ⟨v66, hv66⟩ : ∃ v, gI g0 0 14 = v := ⟨_, rfl⟩
          refine q_getI (Sh.int hI0.1 kx_0 rfl) v66 hv66 ?_
          refine r_ifs 7 rfl (fun c67 => ?_) (fun c67 => ?_)
          · have c67_ : v66.toInt ≠ 0 := en_k_ne_t c67
            refine At.enter rfl ?_
            refine r_aload_n rfl ?_
            refine q_getR (Sh.ref hI0.1 kx_0 rfl) ?_
            refine q_aret ?_
            refine At.enter rfl ?_
            refine r_iload_n rfl ?_
            refine r_iload_n rfl ?_
            refine q_inlV 30 rfl [.ref 188, .int a1, .int a2] [] (Nat.le_of_ble_eq_true rfl) rfl ?_
            refine Ev.mk rfl rfl ⟨Nat.le_of_ble_eq_true rfl, Or.inr (q_rc hI0.1 kx_188 rfl)⟩ ?_
            show At _ none _ _ (0, [(0, .ref 188), (1, .int a1), (2, .int a2)], [], (_, _)) _
            refine At.enter rfl ?_
            refine r_aload_n rfl ?_
            refine q_getR (Sh.ref hI0.1 kx_188 rfl) ?_
            refine r_iload_n rfl ?_
            refine r_bipush 8 rfl ?_
            refine q_imul (a2.toInt * 8) rfl (by omega) (fun v68 hv68 => ?_)
            refine r_iload_n rfl ?_
            refine q_iadd (v68.toInt + a1.toInt) rfl (by omega) (fun v69 hv69 => ?_)
            obtain ⟨v70, hv70⟩ : ∃ v, eA g0 203 (8 * a2.toInt + a1.toInt) = v := ⟨_, rfl⟩
            refine q_iald (Sh.arr hI0.1 ka_203) (8 * a2.toInt + a1.toInt) (by omega) (by omega) v70 hv70 ?_
            refine q_ireti ?_
            refine At.enter rfl ?_
            refine r_goto ?_
            refine At.enter rfl ?_
            refine r_ireti ?_
            exact ⟨_, rfl, hI0, hF0, _, rfl, trivial⟩
          · have c67_ : v66.toInt = 0 := en_k_ne_f c67
            refine At.enter rfl ?_
            refine r_aload_n rfl ?_
            refine q_getR (Sh.ref hI0.1 kx_0 rfl) ?_
            refine r_iconst 0 rfl ?_
            refine r_callV 15 rfl [.ref 188, .int 0] [] (Nat.le_of_ble_eq_true rfl) rfl (T_X1_layOut_188 _ hI0 0) ?_
            rintro _ _ ⟨g71, rfl, hI72, hF73, rfl⟩
            refine At.stn ?_
            have hF76 := Fr.tr hF0 hF73 rfl rfl
            refine At.enter rfl ?_
            refine r_aload_n rfl ?_
            refine q_getR (Sh.ref hI72.1 kx_0 rfl) ?_
            refine r_callV 22 rfl [.ref 188] [] (Nat.le_of_ble_eq_true rfl) rfl (T_X1_runWhole_188 _ hI72) ?_
            rintro _ _ ⟨g77, rfl, hI78, hF79, rfl⟩
            refine At.stn ?_
            have hF82 := Fr.tr hF76 hF79 rfl rfl
            refine At.enter rfl ?_
            refine r_aload_n rfl ?_
            refine r_iconst 1 rfl ?_
            refine q_putI (Sh.int hI78.1 kx_0 rfl) rfl ?_
            have hI83 := HI.wI0 hI78 kx_0 rfl (p := 0) (b := 14) (v := 1) rfl
            have hF84 := Fr.wI (p := 0) (b := 14) (v := 1) hF82 rfl
            refine Ar.fall 27 rfl ?_
            refine At.enter rfl ?_
            refine r_aload_n rfl ?_
            refine q_getR (Sh.ref hI83.1 kx_0 rfl) ?_
            refine q_aret ?_
            refine At.enter rfl ?_
            refine r_iload_n rfl ?_
            refine r_iload_n rfl ?_
            refine q_inlV 30 rfl [.ref 188, .int a1, .int a2] [] (Nat.le_of_ble_eq_true rfl) rfl ?_
            refine Ev.mk rfl rfl ⟨Nat.le_of_ble_eq_true rfl, Or.inr (q_rc hI83.1 kx_188 rfl)⟩ ?_
            show At _ none _ _ (0, [(0, .ref 188), (1, .int a1), (2, .int a2)], [], (_, _)) _
            refine At.enter rfl ?_
            refine r_aload_n rfl ?_
            refine q_getR (Sh.ref hI83.1 kx_188 rfl) ?_
            refine r_iload_n rfl ?_
            refine r_bipush 8 rfl ?_
            refine q_imul (a2.toInt * 8) rfl (by omega) (fun v85 hv85 => ?_)
            refine r_iload_n rfl ?_
            refine q_iadd (v85.toInt + a1.toInt) rfl (by omega) (fun v86 hv86 => ?_)
            obtain ⟨v87, hv87⟩ : ∃ v, eA g77 203 (8 * a2.toInt + a1.toInt) = v := ⟨_, rfl⟩
            refine q_iald (Sh.arr hI83.1 ka_203) (8 * a2.toInt + a1.toInt) (by omega) (by omega) v87 ((eA_c (gA_sI)).trans hv87) ?_
            refine q_ireti ?_
            refine At.enter rfl ?_
            refine r_goto ?_
            refine At.enter rfl ?_
            refine r_ireti ?_
            exact ⟨_, rfl, hI83, hF84, _, rfl, trivial⟩

def F_X10_held_0 : List (Nat × Nat) := [(0, 14), (185, 3), (188, 16), (188, 18)]
def A_X10_held_0 : List Nat := [189, 190, 191, 192, 193, 194, 195, 196, 197, 198, 199, 200, 202, 203]
set_option maxRecDepth 100000 in
set_option maxHeartbeats 4000000 in
theorem T_X10_held_0 (d : Nat) {N : Nat} {g0 : List en_E} (hI0 : HI g0) (a1 : Int32) (a2 : Int32) (a3 : Int32) : Ev (d + 7) 122 [.ref 0, .int a1, .int a2, .int a3] (g0, N) (fun w h' => ∃ g', h' = (g', N) ∧ HI g' ∧ Fr F_X10_held_0 A_X10_held_0 g0 g' ∧ ∃ r : Int32, w = some (.int r) ∧ True) := by
  have hF0 : Fr F_X10_held_0 A_X10_held_0 g0 g0 := Fr.rf
  refine Ev.mk rfl rfl ⟨Nat.le_of_ble_eq_true rfl, Or.inr (q_rc hI0.1 kx_0 rfl)⟩ ?_
  show At _ none _ _ (0, [(0, .ref 0), (1, .int a1), (2, .int a2), (3, .int a3)], [], (_, _)) _
  refine At.enter rfl ?_
  refine r_aload_n rfl ?_
  refine q_getR (Sh.ref hI0.1 kx_0 rfl) ?_
  refine r_iload_n rfl ?_
  refine q_inlV 8 rfl [.ref 1, .int a1] [] (Nat.le_of_ble_eq_true rfl) rfl ?_
  refine Ev.mk rfl rfl ⟨Nat.le_of_ble_eq_true rfl, Or.inr (q_rc hI0.1 kx_1 rfl)⟩ ?_
  show At _ none _ _ (0, [(0, .ref 1), (1, .int a1)], [], (_, _)) _
  refine At.enter rfl ?_
  refine r_iload_n rfl ?_
  refine r_ifs 4 rfl (fun c855 => ?_) (fun c855 => ?_)
  · have c855_ : a1.toInt < 0 := en_k_lt_t c855
    refine At.enter rfl ?_
    refine r_iconst 0 rfl ?_
    refine Ar.fall 17 rfl ?_
    refine At.enter rfl ?_
    refine q_iretz (by decide) ?_
    refine At.enter rfl ?_
    refine r_ift (by decide) ?_
    refine At.enter rfl ?_
    refine r_iconst (-1) rfl ?_
    refine r_ireti ?_
    exact ⟨_, rfl, hI0, hF0, _, rfl, trivial⟩
  · have c855_ : a1.toInt ≥ 0 := en_k_lt_f c855
    refine At.enter rfl ?_
    refine r_iload_n rfl ?_
    refine r_aload_n rfl ?_
    obtain ⟨v856, hv856⟩ : ∃ v, gI g0 1 0 = v := ⟨_, rfl⟩
    have rv856 := RgF.at hI0.2.1 (p := 1) (b := 0) rfl
    rw [hv856] at rv856
    dsimp only at rv856
    refine q_getI (Sh.int hI0.1 kx_1 rfl) v856 hv856 ?_
    have bv858 := q_bnd a1
    have bv859 := q_bnd v856
    refine r_ics 12 rfl (fun c857 => ?_) (fun c857 => ?_)
    · have c857_ : a1.toInt ≥ v856.toInt := en_i_ge_t c857
      refine At.enter rfl ?_
      refine r_iconst 0 rfl ?_
      refine Ar.fall 17 rfl ?_
      refine At.enter rfl ?_
      refine q_iretz (by decide) ?_
      refine At.enter rfl ?_
      refine r_ift (by decide) ?_
      refine At.enter rfl ?_
      refine r_iconst (-1) rfl ?_
      refine r_ireti ?_
      exact ⟨_, rfl, hI0, hF0, _, rfl, trivial⟩
    · have c857_ : a1.toInt < v856.toInt := en_i_ge_f c857
      refine At.enter rfl ?_
      refine r_iconst 1 rfl ?_
      refine r_goto ?_
      refine At.enter rfl ?_
      refine q_iretz (by decide) ?_
      refine At.enter rfl ?_
      refine r_iff 11 rfl (by decide) ?_
      refine At.enter rfl ?_
      refine r_iload_n rfl ?_
      refine r_iconst 0 rfl ?_
      refine r_bipush 99 rfl ?_
      refine q_inlS 18 rfl [.int a2, .int 0, .int 99] [] (Nat.le_of_ble_eq_true rfl) rfl ?_
      refine Ev.mk rfl rfl ⟨Nat.le_of_ble_eq_true rfl, Or.inl rfl⟩ ?_
      show At _ none _ _ (0, [(0, .int a2), (1, .int 0), (2, .int 99)], [], (_, _)) _
      refine At.enter rfl ?_
      refine r_iload_n rfl ?_
      refine r_iload_n rfl ?_
      refine r_ics 5 rfl (fun c860 => ?_) (fun c860 => ?_)
      · have c860_ : a2.toInt < 0 := en_i_lt_t c860
        refine At.enter rfl ?_
        refine r_iconst 0 rfl ?_
        refine Ar.fall 15 rfl ?_
        refine At.enter rfl ?_
        refine q_iretz (by decide) ?_
        refine At.enter rfl ?_
        refine r_ift (by decide) ?_
        refine At.enter rfl ?_
        refine r_iconst (-1) rfl ?_
        refine r_ireti ?_
        exact ⟨_, rfl, hI0, hF0, _, rfl, trivial⟩
      · have c860_ : a2.toInt ≥ 0 := en_i_lt_f c860
        refine At.enter rfl ?_
        refine r_iload_n rfl ?_
        refine r_iload_n rfl ?_
        refine r_ics 10 rfl (fun c861 => ?_) (fun c861 => ?_)
        · have c861_ : a2.toInt > 99 := en_i_gt_t c861
          refine At.enter rfl ?_
          refine r_iconst 0 rfl ?_
          refine Ar.fall 15 rfl ?_
          refine At.enter rfl ?_
          refine q_iretz (by decide) ?_
          refine At.enter rfl ?_
          refine r_ift (by decide) ?_
          refine At.enter rfl ?_
          refine r_iconst (-1) rfl ?_
          refine r_ireti ?_
          exact ⟨_, rfl, hI0, hF0, _, rfl, trivial⟩
        · have c861_ : a2.toInt ≤ 99 := en_i_gt_f c861
          refine At.enter rfl ?_
          refine r_iconst 1 rfl ?_
          refine r_goto ?_
          refine At.enter rfl ?_
          refine q_iretz (by decide) ?_
          refine At.enter rfl ?_
          refine r_iff 21 rfl (by decide) ?_
          refine At.enter rfl ?_
          refine r_iload_n rfl ?_
          refine r_iconst 0 rfl ?_
          refine r_iconst 1 rfl ?_
          refine q_inlS 27 rfl [.int a3, .int 0, .int 1] [] (Nat.le_of_ble_eq_true rfl) rfl ?_
          refine Ev.mk rfl rfl ⟨Nat.le_of_ble_eq_true rfl, Or.inl rfl⟩ ?_
          show At _ none _ _ (0, [(0, .int a3), (1, .int 0), (2, .int 1)], [], (_, _)) _
          refine At.enter rfl ?_
          refine r_iload_n rfl ?_
          refine r_iload_n rfl ?_
          refine r_ics 5 rfl (fun c862 => ?_) (fun c862 => ?_)
          · have c862_ : a3.toInt < 0 := en_i_lt_t c862
            refine At.enter rfl ?_
            refine r_iconst 0 rfl ?_
            refine Ar.fall 15 rfl ?_
            refine At.enter rfl ?_
            refine q_iretz (by decide) ?_
            refine At.enter rfl ?_
            refine r_iff 30 rfl (by decide) ?_
            refine At.enter rfl ?_
            refine r_iconst (-1) rfl ?_
            refine r_ireti ?_
            exact ⟨_, rfl, hI0, hF0, _, rfl, trivial⟩
          · have c862_ : a3.toInt ≥ 0 := en_i_lt_f c862
            refine At.enter rfl ?_
            refine r_iload_n rfl ?_
            refine r_iload_n rfl ?_
            refine r_ics 10 rfl (fun c863 => ?_) (fun c863 => ?_)
            · have c863_ : a3.toInt > 1 := en_i_gt_t c863
              refine At.enter rfl ?_
              refine r_iconst 0 rfl ?_
              refine Ar.fall 15 rfl ?_
              refine At.enter rfl ?_
              refine q_iretz (by decide) ?_
              refine At.enter rfl ?_
              refine r_iff 30 rfl (by decide) ?_
              refine At.enter rfl ?_
              refine r_iconst (-1) rfl ?_
              refine r_ireti ?_
              exact ⟨_, rfl, hI0, hF0, _, rfl, trivial⟩
            · have c863_ : a3.toInt ≤ 1 := en_i_gt_f c863
              refine At.enter rfl ?_
              refine r_iconst 1 rfl ?_
              refine r_goto ?_
              refine At.enter rfl ?_
              refine q_iretz (by decide) ?_
              refine At.enter rfl ?_
              refine r_ift (by decide) ?_
              refine At.enter rfl ?_
              refine r_aload_n rfl ?_
              refine q_inlV 36 rfl [.ref 0] [] (Nat.le_of_ble_eq_true rfl) rfl ?_
              refine Ev.mk rfl rfl ⟨Nat.le_of_ble_eq_true rfl, Or.inr (q_rc hI0.1 kx_0 rfl)⟩ ?_
              show At _ none _ _ (0, [(0, .ref 0)], [], (_, _)) _
              refine At.enter rfl ?_
              refine r_aload_n rfl ?_
              obtain ⟨v864, hv864⟩ : ∃ v, gI g0 0 14 = v := ⟨_, rfl⟩
              refine q_getI (Sh.int hI0.1 kx_0 rfl) v864 hv864 ?_
              refine r_ifs 7 rfl (fun c865 => ?_) (fun c865 => ?_)
              · have c865_ : v864.toInt ≠ 0 := en_k_ne_t c865
                refine At.enter rfl ?_
                refine r_aload_n rfl ?_
                refine q_getR (Sh.ref hI0.1 kx_0 rfl) ?_
                refine q_aret ?_
                refine At.enter rfl ?_
                refine r_astore ([(4, .ref 188), (0, .ref 0), (1, .int a1), (2, .int a2), (3, .int a3)]) rfl ?_
                refine r_iconst 0 rfl ?_
                refine r_istore ([(5, .int 0), (4, .ref 188), (0, .ref 0), (1, .int a1), (2, .int a2), (3, .int a3)]) rfl ?_
                refine r_iconst 0 rfl ?_
                refine r_istore ([(6, .int 0), (5, .int 0), (4, .ref 188), (0, .ref 0), (1, .int a1), (2, .int a2), (3, .int a3)]) rfl ?_
                refine Ar.fall 44 rfl ?_
                have z_1044 : (0 : Int32).toInt = 0 := rfl
                have z_1045 : (0 : Int32).toInt = 0 := rfl
                refine w_loopI (fun n_ l_ g_ => ∃ x1028 : Int32, ∃ x1029 : Int32, n_ = 8 - x1029.toInt ∧ HI g_ ∧ Fr F_X10_held_0 A_X10_held_0 g0 g_ ∧ en_get 0 l_ = some (.ref 0) ∧ en_get 1 l_ = some (.int a1) ∧ en_get 2 l_ = some (.int a2) ∧ en_get 3 l_ = some (.int a3) ∧ en_get 4 l_ = some (.ref 188) ∧ en_get 5 l_ = some (.int x1028) ∧ en_get 6 l_ = some (.int x1029) ∧ (0 ≤ x1029.toInt ∧ x1029.toInt ≤ 8)) ?_ (8 - 0) ⟨0, 0, by first | rfl | omega, hI0, hF0, rfl, rfl, rfl, rfl, rfl, rfl, rfl, by decide⟩
                rintro n1034 l1033 g1030 ⟨x1028, x1029, hm1046, hI1031, hF1032, e1036, e1037, e1038, e1039, e1040, e1041, e1042, r1043⟩ ih1035
                refine At.enter rfl ?_
                refine r_iload e1042 ?_
                refine r_aload_n e1036 ?_
                refine q_getR (Sh.ref hI1031.1 kx_0 rfl) ?_
                obtain ⟨v1047, hv1047⟩ : ∃ v, gI g0 1 4 = v := ⟨_, rfl⟩
                have rv1047 := RgF.at hI0.2.1 (p := 1) (b := 4) rfl
                rw [hv1047] at rv1047
                dsimp only at rv1047
                refine q_getI (Sh.int hI1031.1 kx_1 rfl) v1047 ((hF1032.1 1 4 (by decide)).trans hv1047) ?_
                have bv1049 := q_bnd x1029
                have bv1050 := q_bnd v1047
                refine r_ics 56 rfl (fun c1048 => ?_) (fun c1048 => ?_)
                · have c1048_ : x1029.toInt ≥ v1047.toInt := en_i_ge_t c1048
                  refine At.enter rfl ?_
                  refine r_iload e1041 ?_
                  refine r_ireti ?_
                  exact ⟨_, rfl, hI1031, hF1032, _, rfl, trivial⟩
                · have c1048_ : x1029.toInt < v1047.toInt := en_i_ge_f c1048
                  refine At.enter rfl ?_
                  refine r_aload e1040 ?_
                  refine r_iload e1042 ?_
                  refine r_iload_n e1038 ?_
                  refine q_inlV 64 rfl [.ref 188, .int x1029, .int a2] [] (Nat.le_of_ble_eq_true rfl) rfl ?_
                  refine Ev.mk rfl rfl ⟨Nat.le_of_ble_eq_true rfl, Or.inr (q_rc hI1031.1 kx_188 rfl)⟩ ?_
                  show At _ none _ _ (0, [(0, .ref 188), (1, .int x1029), (2, .int a2)], [], (_, _)) _
                  refine At.enter rfl ?_
                  refine r_aload_n rfl ?_
                  refine q_getR (Sh.ref hI1031.1 kx_188 rfl) ?_
                  refine r_iload_n rfl ?_
                  refine r_bipush 8 rfl ?_
                  refine q_imul (a2.toInt * 8) rfl (by omega) (fun v1051 hv1051 => ?_)
                  refine r_iload_n rfl ?_
                  refine q_iadd (v1051.toInt + x1029.toInt) rfl (by omega) (fun v1052 hv1052 => ?_)
                  obtain ⟨v1053, hv1053⟩ : ∃ v, eA g1030 203 (8 * a2.toInt + x1029.toInt) = v := ⟨_, rfl⟩
                  refine q_iald (Sh.arr hI1031.1 ka_203) (8 * a2.toInt + x1029.toInt) (by omega) (by omega) v1053 hv1053 ?_
                  refine q_ireti ?_
                  refine At.enter rfl ?_
                  refine r_iload_n e1037 ?_
                  refine r_ics 68 rfl (fun c1054 => ?_) (fun c1054 => ?_)
                  · have c1054_ : v1053.toInt ≠ a1.toInt := en_i_ne_t c1054
                    refine At.enter rfl ?_
                    refine q_iinc e1042 (x1029.toInt + 1) rfl (by omega) (fun v1055 hv1055 => ?_)
                    refine r_goto ?_
                    have bv1056 := q_bnd x1028
                    exact ih1035 (8 - v1055.toInt) _ _ ⟨x1028, v1055, by first | rfl | omega, hI1031, hF1032, (w_p1 (by decide) (Or.inr rfl) e1036), (w_p1 (by decide) (Or.inr rfl) e1037), (w_p1 (by decide) (Or.inr rfl) e1038), (w_p1 (by decide) (Or.inr rfl) e1039), (w_p1 (by decide) (Or.inr rfl) e1040), (w_p1 (by decide) (Or.inr rfl) e1041), (w_e1 _ _ _), by omega⟩ ⟨by omega, by omega⟩
                  · have c1054_ : v1053.toInt = a1.toInt := en_i_ne_f c1054
                    refine At.enter rfl ?_
                    refine r_iload e1041 ?_
                    refine r_iload_n e1039 ?_
                    refine r_ifs 74 rfl (fun c1057 => ?_) (fun c1057 => ?_)
                    · have c1057_ : a3.toInt ≠ 0 := en_k_ne_t c1057
                      refine At.enter rfl ?_
                      refine r_aload_n e1036 ?_
                      refine q_getR (Sh.ref hI1031.1 kx_0 rfl) ?_
                      refine r_iload e1042 ?_
                      refine r_iconst 0 rfl ?_
                      refine r_callV 88 rfl [.ref 1, .int x1029, .int 0] [.int x1028] (Nat.le_of_ble_eq_true rfl) rfl (T_X0_about_1 _ hI1031 x1029 0) ?_
                      rintro _ _ ⟨g1058, rfl, hI1059, hF1060, v1061, rfl, hr1062⟩
                      refine At.sti ?_
                      have hF1063 := Fr.tr hF1032 hF1060 rfl rfl
                      refine At.enter rfl ?_
                      refine q_iaddO (fun v1064 _ => ?_)
                      refine r_istore _ rfl ?_
                      refine Ar.fall 91 rfl ?_
                      refine At.enter rfl ?_
                      refine q_iinc (w_p1 (by decide) (Or.inr rfl) e1042) (x1029.toInt + 1) rfl (by omega) (fun v1065 hv1065 => ?_)
                      refine r_goto ?_
                      have bv1066 := q_bnd v1064
                      exact ih1035 (8 - v1065.toInt) _ _ ⟨v1064, v1065, by first | rfl | omega, hI1059, hF1063, (w_p1 (by decide) (Or.inr rfl) (w_p1 (by decide) (Or.inr rfl) e1036)), (w_p1 (by decide) (Or.inr rfl) (w_p1 (by decide) (Or.inr rfl) e1037)), (w_p1 (by decide) (Or.inr rfl) (w_p1 (by decide) (Or.inr rfl) e1038)), (w_p1 (by decide) (Or.inr rfl) (w_p1 (by decide) (Or.inr rfl) e1039)), (w_p1 (by decide) (Or.inr rfl) (w_p1 (by decide) (Or.inr rfl) e1040)), (w_p1 (by decide) (Or.inr rfl) (w_e1 _ _ _)), (w_e1 _ _ _), by omega⟩ ⟨by omega, by omega⟩
                    · have c1057_ : a3.toInt = 0 := en_k_ne_f c1057
                      refine At.enter rfl ?_
                      refine r_iconst 1 rfl ?_
                      refine r_goto ?_
                      refine At.enter rfl ?_
                      refine q_iaddO (fun v1067 _ => ?_)
                      refine r_istore _ rfl ?_
                      refine Ar.fall 91 rfl ?_
                      refine At.enter rfl ?_
                      refine q_iinc (w_p1 (by decide) (Or.inr rfl) e1042) (x1029.toInt + 1) rfl (by omega) (fun v1068 hv1068 => ?_)
                      refine r_goto ?_
                      have bv1069 := q_bnd v1067
                      exact ih1035 (8 - v1068.toInt) _ _ ⟨v1067, v1068, by first | rfl | omega, hI1031, hF1032, (w_p1 (by decide) (Or.inr rfl) (w_p1 (by decide) (Or.inr rfl) e1036)), (w_p1 (by decide) (Or.inr rfl) (w_p1 (by decide) (Or.inr rfl) e1037)), (w_p1 (by decide) (Or.inr rfl) (w_p1 (by decide) (Or.inr rfl) e1038)), (w_p1 (by decide) (Or.inr rfl) (w_p1 (by decide) (Or.inr rfl) e1039)), (w_p1 (by decide) (Or.inr rfl) (w_p1 (by decide) (Or.inr rfl) e1040)), (w_p1 (by decide) (Or.inr rfl) (w_e1 _ _ _)), (w_e1 _ _ _), by omega⟩ ⟨by omega, by omega⟩
              · have c865_ : v864.toInt = 0 := en_k_ne_f c865
                refine At.enter rfl ?_
                refine r_aload_n rfl ?_
                refine q_getR (Sh.ref hI0.1 kx_0 rfl) ?_
                refine r_iconst 0 rfl ?_
                refine r_callV 15 rfl [.ref 188, .int 0] [] (Nat.le_of_ble_eq_true rfl) rfl (T_X1_layOut_188 _ hI0 0) ?_
                rintro _ _ ⟨g1070, rfl, hI1071, hF1072, rfl⟩
                refine At.stn ?_
                have hF1075 := Fr.tr hF0 hF1072 rfl rfl
                refine At.enter rfl ?_
                refine r_aload_n rfl ?_
                refine q_getR (Sh.ref hI1071.1 kx_0 rfl) ?_
                refine r_callV 22 rfl [.ref 188] [] (Nat.le_of_ble_eq_true rfl) rfl (T_X1_runWhole_188 _ hI1071) ?_
                rintro _ _ ⟨g1076, rfl, hI1077, hF1078, rfl⟩
                refine At.stn ?_
                have hF1081 := Fr.tr hF1075 hF1078 rfl rfl
                refine At.enter rfl ?_
                refine r_aload_n rfl ?_
                refine r_iconst 1 rfl ?_
                refine q_putI (Sh.int hI1077.1 kx_0 rfl) rfl ?_
                have hI1082 := HI.wI0 hI1077 kx_0 rfl (p := 0) (b := 14) (v := 1) rfl
                have hF1083 := Fr.wI (p := 0) (b := 14) (v := 1) hF1081 rfl
                refine Ar.fall 27 rfl ?_
                refine At.enter rfl ?_
                refine r_aload_n rfl ?_
                refine q_getR (Sh.ref hI1082.1 kx_0 rfl) ?_
                refine q_aret ?_
                refine At.enter rfl ?_
                refine r_astore ([(4, .ref 188), (0, .ref 0), (1, .int a1), (2, .int a2), (3, .int a3)]) rfl ?_
                refine r_iconst 0 rfl ?_
                refine r_istore ([(5, .int 0), (4, .ref 188), (0, .ref 0), (1, .int a1), (2, .int a2), (3, .int a3)]) rfl ?_
                refine r_iconst 0 rfl ?_
                refine r_istore ([(6, .int 0), (5, .int 0), (4, .ref 188), (0, .ref 0), (1, .int a1), (2, .int a2), (3, .int a3)]) rfl ?_
                refine Ar.fall 44 rfl ?_
                have z_1262 : (0 : Int32).toInt = 0 := rfl
                have z_1263 : (0 : Int32).toInt = 0 := rfl
                refine w_loopI (fun n_ l_ g_ => ∃ x1246 : Int32, ∃ x1247 : Int32, n_ = 8 - x1247.toInt ∧ HI g_ ∧ Fr F_X10_held_0 A_X10_held_0 g0 g_ ∧ en_get 0 l_ = some (.ref 0) ∧ en_get 1 l_ = some (.int a1) ∧ en_get 2 l_ = some (.int a2) ∧ en_get 3 l_ = some (.int a3) ∧ en_get 4 l_ = some (.ref 188) ∧ en_get 5 l_ = some (.int x1246) ∧ en_get 6 l_ = some (.int x1247) ∧ (0 ≤ x1247.toInt ∧ x1247.toInt ≤ 8)) ?_ (8 - 0) ⟨0, 0, by first | rfl | omega, hI1082, hF1083, rfl, rfl, rfl, rfl, rfl, rfl, rfl, by decide⟩
                rintro n1252 l1251 g1248 ⟨x1246, x1247, hm1264, hI1249, hF1250, e1254, e1255, e1256, e1257, e1258, e1259, e1260, r1261⟩ ih1253
                refine At.enter rfl ?_
                refine r_iload e1260 ?_
                refine r_aload_n e1254 ?_
                refine q_getR (Sh.ref hI1249.1 kx_0 rfl) ?_
                obtain ⟨v1265, hv1265⟩ : ∃ v, gI g0 1 4 = v := ⟨_, rfl⟩
                have rv1265 := RgF.at hI0.2.1 (p := 1) (b := 4) rfl
                rw [hv1265] at rv1265
                dsimp only at rv1265
                refine q_getI (Sh.int hI1249.1 kx_1 rfl) v1265 ((hF1250.1 1 4 (by decide)).trans hv1265) ?_
                have bv1267 := q_bnd x1247
                have bv1268 := q_bnd v1265
                refine r_ics 56 rfl (fun c1266 => ?_) (fun c1266 => ?_)
                · have c1266_ : x1247.toInt ≥ v1265.toInt := en_i_ge_t c1266
                  refine At.enter rfl ?_
                  refine r_iload e1259 ?_
                  refine r_ireti ?_
                  exact ⟨_, rfl, hI1249, hF1250, _, rfl, trivial⟩
                · have c1266_ : x1247.toInt < v1265.toInt := en_i_ge_f c1266
                  refine At.enter rfl ?_
                  refine r_aload e1258 ?_
                  refine r_iload e1260 ?_
                  refine r_iload_n e1256 ?_
                  refine q_inlV 64 rfl [.ref 188, .int x1247, .int a2] [] (Nat.le_of_ble_eq_true rfl) rfl ?_
                  refine Ev.mk rfl rfl ⟨Nat.le_of_ble_eq_true rfl, Or.inr (q_rc hI1249.1 kx_188 rfl)⟩ ?_
                  show At _ none _ _ (0, [(0, .ref 188), (1, .int x1247), (2, .int a2)], [], (_, _)) _
                  refine At.enter rfl ?_
                  refine r_aload_n rfl ?_
                  refine q_getR (Sh.ref hI1249.1 kx_188 rfl) ?_
                  refine r_iload_n rfl ?_
                  refine r_bipush 8 rfl ?_
                  refine q_imul (a2.toInt * 8) rfl (by omega) (fun v1269 hv1269 => ?_)
                  refine r_iload_n rfl ?_
                  refine q_iadd (v1269.toInt + x1247.toInt) rfl (by omega) (fun v1270 hv1270 => ?_)
                  obtain ⟨v1271, hv1271⟩ : ∃ v, eA g1248 203 (8 * a2.toInt + x1247.toInt) = v := ⟨_, rfl⟩
                  refine q_iald (Sh.arr hI1249.1 ka_203) (8 * a2.toInt + x1247.toInt) (by omega) (by omega) v1271 hv1271 ?_
                  refine q_ireti ?_
                  refine At.enter rfl ?_
                  refine r_iload_n e1255 ?_
                  refine r_ics 68 rfl (fun c1272 => ?_) (fun c1272 => ?_)
                  · have c1272_ : v1271.toInt ≠ a1.toInt := en_i_ne_t c1272
                    refine At.enter rfl ?_
                    refine q_iinc e1260 (x1247.toInt + 1) rfl (by omega) (fun v1273 hv1273 => ?_)
                    refine r_goto ?_
                    have bv1274 := q_bnd x1246
                    exact ih1253 (8 - v1273.toInt) _ _ ⟨x1246, v1273, by first | rfl | omega, hI1249, hF1250, (w_p1 (by decide) (Or.inr rfl) e1254), (w_p1 (by decide) (Or.inr rfl) e1255), (w_p1 (by decide) (Or.inr rfl) e1256), (w_p1 (by decide) (Or.inr rfl) e1257), (w_p1 (by decide) (Or.inr rfl) e1258), (w_p1 (by decide) (Or.inr rfl) e1259), (w_e1 _ _ _), by omega⟩ ⟨by omega, by omega⟩
                  · have c1272_ : v1271.toInt = a1.toInt := en_i_ne_f c1272
                    refine At.enter rfl ?_
                    refine r_iload e1259 ?_
                    refine r_iload_n e1257 ?_
                    refine r_ifs 74 rfl (fun c1275 => ?_) (fun c1275 => ?_)
                    · have c1275_ : a3.toInt ≠ 0 := en_k_ne_t c1275
                      refine At.enter rfl ?_
                      refine r_aload_n e1254 ?_
                      refine q_getR (Sh.ref hI1249.1 kx_0 rfl) ?_
                      refine r_iload e1260 ?_
                      refine r_iconst 0 rfl ?_
                      refine r_callV 88 rfl [.ref 1, .int x1247, .int 0] [.int x1246] (Nat.le_of_ble_eq_true rfl) rfl (T_X0_about_1 _ hI1249 x1247 0) ?_
                      rintro _ _ ⟨g1276, rfl, hI1277, hF1278, v1279, rfl, hr1280⟩
                      refine At.sti ?_
                      have hF1281 := Fr.tr hF1250 hF1278 rfl rfl
                      refine At.enter rfl ?_
                      refine q_iaddO (fun v1282 _ => ?_)
                      refine r_istore _ rfl ?_
                      refine Ar.fall 91 rfl ?_
                      refine At.enter rfl ?_
                      refine q_iinc (w_p1 (by decide) (Or.inr rfl) e1260) (x1247.toInt + 1) rfl (by omega) (fun v1283 hv1283 => ?_)
                      refine r_goto ?_
                      have bv1284 := q_bnd v1282
                      exact ih1253 (8 - v1283.toInt) _ _ ⟨v1282, v1283, by first | rfl | omega, hI1277, hF1281, (w_p1 (by decide) (Or.inr rfl) (w_p1 (by decide) (Or.inr rfl) e1254)), (w_p1 (by decide) (Or.inr rfl) (w_p1 (by decide) (Or.inr rfl) e1255)), (w_p1 (by decide) (Or.inr rfl) (w_p1 (by decide) (Or.inr rfl) e1256)), (w_p1 (by decide) (Or.inr rfl) (w_p1 (by decide) (Or.inr rfl) e1257)), (w_p1 (by decide) (Or.inr rfl) (w_p1 (by decide) (Or.inr rfl) e1258)), (w_p1 (by decide) (Or.inr rfl) (w_e1 _ _ _)), (w_e1 _ _ _), by omega⟩ ⟨by omega, by omega⟩
                    · have c1275_ : a3.toInt = 0 := en_k_ne_f c1275
                      refine At.enter rfl ?_
                      refine r_iconst 1 rfl ?_
                      refine r_goto ?_
                      refine At.enter rfl ?_
                      refine q_iaddO (fun v1285 _ => ?_)
                      refine r_istore _ rfl ?_
                      refine Ar.fall 91 rfl ?_
                      refine At.enter rfl ?_
                      refine q_iinc (w_p1 (by decide) (Or.inr rfl) e1260) (x1247.toInt + 1) rfl (by omega) (fun v1286 hv1286 => ?_)
                      refine r_goto ?_
                      have bv1287 := q_bnd v1285
                      exact ih1253 (8 - v1286.toInt) _ _ ⟨v1285, v1286, by first | rfl | omega, hI1249, hF1250, (w_p1 (by decide) (Or.inr rfl) (w_p1 (by decide) (Or.inr rfl) e1254)), (w_p1 (by decide) (Or.inr rfl) (w_p1 (by decide) (Or.inr rfl) e1255)), (w_p1 (by decide) (Or.inr rfl) (w_p1 (by decide) (Or.inr rfl) e1256)), (w_p1 (by decide) (Or.inr rfl) (w_p1 (by decide) (Or.inr rfl) e1257)), (w_p1 (by decide) (Or.inr rfl) (w_p1 (by decide) (Or.inr rfl) e1258)), (w_p1 (by decide) (Or.inr rfl) (w_e1 _ _ _)), (w_e1 _ _ _), by omega⟩ ⟨by omega, by omega⟩

def F_X10_choke_0 : List (Nat × Nat) := [(0, 14), (185, 3), (188, 16), (188, 18)]
def A_X10_choke_0 : List Nat := [189, 190, 191, 192, 193, 194, 195, 196, 197, 198, 199, 200, 202, 203]
set_option maxRecDepth 100000 in
set_option maxHeartbeats 4000000 in
theorem T_X10_choke_0 (d : Nat) {N : Nat} {g0 : List en_E} (hI0 : HI g0) : Ev (d + 7) 123 [.ref 0] (g0, N) (fun w h' => ∃ g', h' = (g', N) ∧ HI g' ∧ Fr F_X10_choke_0 A_X10_choke_0 g0 g' ∧ ∃ r : Int32, w = some (.int r) ∧ True) := by
  have hF0 : Fr F_X10_choke_0 A_X10_choke_0 g0 g0 := Fr.rf
  refine Ev.mk rfl rfl ⟨Nat.le_of_ble_eq_true rfl, Or.inr (q_rc hI0.1 kx_0 rfl)⟩ ?_
  show At _ none _ _ (0, [(0, .ref 0)], [], (_, _)) _
  refine At.enter rfl ?_
  refine r_aload_n rfl ?_
  refine q_inlV 4 rfl [.ref 0] [] (Nat.le_of_ble_eq_true rfl) rfl ?_
  refine Ev.mk rfl rfl ⟨Nat.le_of_ble_eq_true rfl, Or.inr (q_rc hI0.1 kx_0 rfl)⟩ ?_
  show At _ none _ _ (0, [(0, .ref 0)], [], (_, _)) _
  refine At.enter rfl ?_
  refine r_aload_n rfl ?_
  obtain ⟨v57, hv57⟩ : ∃ v, gI g0 0 14 = v := ⟨_, rfl⟩
  refine q_getI (Sh.int hI0.1 kx_0 rfl) v57 hv57 ?_
  refine r_ifs 7 rfl (fun c58 => ?_) (fun c58 => ?_)
  · have c58_ : v57.toInt ≠ 0 := en_k_ne_t c58
    refine At.enter rfl ?_
    refine r_aload_n rfl ?_
    refine q_getR (Sh.ref hI0.1 kx_0 rfl) ?_
    refine q_aret ?_
    refine At.enter rfl ?_
    refine r_callV 7 rfl [.ref 188] [] (Nat.le_of_ble_eq_true rfl) rfl (T_X1_chokingRound_188 _ hI0) ?_
    rintro _ _ ⟨g59, rfl, hI60, hF61, v62, rfl, hr63⟩
    refine At.sti ?_
    have hF64 := Fr.tr hF0 hF61 rfl rfl
    refine At.enter rfl ?_
    refine r_ireti ?_
    exact ⟨_, rfl, hI60, hF64, _, rfl, trivial⟩
  · have c58_ : v57.toInt = 0 := en_k_ne_f c58
    refine At.enter rfl ?_
    refine r_aload_n rfl ?_
    refine q_getR (Sh.ref hI0.1 kx_0 rfl) ?_
    refine r_iconst 0 rfl ?_
    refine r_callV 15 rfl [.ref 188, .int 0] [] (Nat.le_of_ble_eq_true rfl) rfl (T_X1_layOut_188 _ hI0 0) ?_
    rintro _ _ ⟨g65, rfl, hI66, hF67, rfl⟩
    refine At.stn ?_
    have hF70 := Fr.tr hF0 hF67 rfl rfl
    refine At.enter rfl ?_
    refine r_aload_n rfl ?_
    refine q_getR (Sh.ref hI66.1 kx_0 rfl) ?_
    refine r_callV 22 rfl [.ref 188] [] (Nat.le_of_ble_eq_true rfl) rfl (T_X1_runWhole_188 _ hI66) ?_
    rintro _ _ ⟨g71, rfl, hI72, hF73, rfl⟩
    refine At.stn ?_
    have hF76 := Fr.tr hF70 hF73 rfl rfl
    refine At.enter rfl ?_
    refine r_aload_n rfl ?_
    refine r_iconst 1 rfl ?_
    refine q_putI (Sh.int hI72.1 kx_0 rfl) rfl ?_
    have hI77 := HI.wI0 hI72 kx_0 rfl (p := 0) (b := 14) (v := 1) rfl
    have hF78 := Fr.wI (p := 0) (b := 14) (v := 1) hF76 rfl
    refine Ar.fall 27 rfl ?_
    refine At.enter rfl ?_
    refine r_aload_n rfl ?_
    refine q_getR (Sh.ref hI77.1 kx_0 rfl) ?_
    refine q_aret ?_
    refine At.enter rfl ?_
    refine r_callV 7 rfl [.ref 188] [] (Nat.le_of_ble_eq_true rfl) rfl (T_X1_chokingRound_188 _ hI77) ?_
    rintro _ _ ⟨g79, rfl, hI80, hF81, v82, rfl, hr83⟩
    refine At.sti ?_
    have hF84 := Fr.tr hF78 hF81 rfl rfl
    refine At.enter rfl ?_
    refine r_ireti ?_
    exact ⟨_, rfl, hI80, hF84, _, rfl, trivial⟩

def F_X10_swaps_0 : List (Nat × Nat) := [(185, 3), (204, 16), (204, 18), (220, 2), (220, 3), (220, 4)]
def A_X10_swaps_0 : List Nat := [205, 206, 207, 208, 209, 210, 211, 212, 213, 214, 215, 216, 218, 221]
set_option maxRecDepth 100000 in
set_option maxHeartbeats 4000000 in
theorem T_X10_swaps_0 (d : Nat) {N : Nat} {g0 : List en_E} (hI0 : HI g0) (a1 : Int32) (a2 : Int32) : Ev (d + 8) 124 [.ref 0, .int a1, .int a2] (g0, N) (fun w h' => ∃ g', h' = (g', N) ∧ HI g' ∧ Fr F_X10_swaps_0 A_X10_swaps_0 g0 g' ∧ ∃ r : Int32, w = some (.int r) ∧ True) := by
  have hF0 : Fr F_X10_swaps_0 A_X10_swaps_0 g0 g0 := Fr.rf
  refine Ev.mk rfl rfl ⟨Nat.le_of_ble_eq_true rfl, Or.inr (q_rc hI0.1 kx_0 rfl)⟩ ?_
  show At _ none _ _ (0, [(0, .ref 0), (1, .int a1), (2, .int a2)], [], (_, _)) _
  refine At.enter rfl ?_
  refine r_iload_n rfl ?_
  refine r_aload_n rfl ?_
  refine q_getR (Sh.ref hI0.1 kx_0 rfl) ?_
  obtain ⟨v21, hv21⟩ : ∃ v, gI g0 1 4 = v := ⟨_, rfl⟩
  have rv21 := RgF.at hI0.2.1 (p := 1) (b := 4) rfl
  rw [hv21] at rv21
  dsimp only at rv21
  refine q_getI (Sh.int hI0.1 kx_1 rfl) v21 hv21 ?_
  refine q_inlS 11 rfl [.int a1, .int v21] [] (Nat.le_of_ble_eq_true rfl) rfl ?_
  refine Ev.mk rfl rfl ⟨Nat.le_of_ble_eq_true rfl, Or.inl rfl⟩ ?_
  show At _ none _ _ (0, [(0, .int a1), (1, .int v21)], [], (_, _)) _
  refine At.enter rfl ?_
  refine r_iload_n rfl ?_
  refine r_ifs 4 rfl (fun c22 => ?_) (fun c22 => ?_)
  · have c22_ : a1.toInt < 0 := en_k_lt_t c22
    refine At.enter rfl ?_
    refine r_iconst 0 rfl ?_
    refine Ar.fall 15 rfl ?_
    refine At.enter rfl ?_
    refine q_iretz (by decide) ?_
    refine At.enter rfl ?_
    refine r_ift (by decide) ?_
    refine At.enter rfl ?_
    refine r_iconst (-1) rfl ?_
    refine Ar.fall 27 rfl ?_
    refine At.enter rfl ?_
    refine r_ireti ?_
    exact ⟨_, rfl, hI0, hF0, _, rfl, trivial⟩
  · have c22_ : a1.toInt ≥ 0 := en_k_lt_f c22
    refine At.enter rfl ?_
    refine r_iload_n rfl ?_
    refine r_iload_n rfl ?_
    refine q_ishrO (fun v23 hv23 => ?_)
    refine r_ifs 10 rfl (fun c24 => ?_) (fun c24 => ?_)
    · have c24_ : v23.toInt ≠ 0 := en_k_ne_t c24
      refine At.enter rfl ?_
      refine r_iconst 0 rfl ?_
      refine Ar.fall 15 rfl ?_
      refine At.enter rfl ?_
      refine q_iretz (by decide) ?_
      refine At.enter rfl ?_
      refine r_ift (by decide) ?_
      refine At.enter rfl ?_
      refine r_iconst (-1) rfl ?_
      refine Ar.fall 27 rfl ?_
      refine At.enter rfl ?_
      refine r_ireti ?_
      exact ⟨_, rfl, hI0, hF0, _, rfl, trivial⟩
    · have c24_ : v23.toInt = 0 := en_k_ne_f c24
      refine At.enter rfl ?_
      refine r_iconst 1 rfl ?_
      refine r_goto ?_
      refine At.enter rfl ?_
      refine q_iretz (by decide) ?_
      refine At.enter rfl ?_
      refine r_iff 14 rfl (by decide) ?_
      refine At.enter rfl ?_
      refine r_aload_n rfl ?_
      refine q_getR (Sh.ref hI0.1 kx_0 rfl) ?_
      refine r_iload_n rfl ?_
      refine r_iload_n rfl ?_
      refine r_callV 23 rfl [.ref 220, .int a1, .int a2] [] (Nat.le_of_ble_eq_true rfl) rfl (T_X7_told_220 _ hI0 a1 a2) ?_
      rintro _ _ ⟨g25, rfl, hI26, hF27, v28, rfl, hr29⟩
      refine At.sti ?_
      have hF30 := Fr.tr hF0 hF27 rfl rfl
      refine At.enter rfl ?_
      refine r_goto ?_
      refine At.enter rfl ?_
      refine r_ireti ?_
      exact ⟨_, rfl, hI26, hF30, _, rfl, trivial⟩

def F_X10_swap_0 : List (Nat × Nat) := [(0, 14), (0, 17), (220, 2), (222, 2), (223, 5), (223, 10)]
def A_X10_swap_0 : List Nat := [3, 4, 230]
set_option maxRecDepth 100000 in
set_option maxHeartbeats 4000000 in
theorem T_X10_swap_0 (d : Nat) {N : Nat} {g0 : List en_E} (hI0 : HI g0) (a1 : Int32) (a2 : Int32) : Ev (d + 3) 125 [.ref 0, .int a1, .int a2] (g0, N) (fun w h' => ∃ g', h' = (g', N) ∧ HI g' ∧ Fr F_X10_swap_0 A_X10_swap_0 g0 g' ∧ ∃ r : Int32, w = some (.int r) ∧ ((-3) ≤ r.toInt ∧ r.toInt ≤ 0) ∧ ((¬ (0 ≤ a1.toInt ∧ a1.toInt < (gI g0 1 0).toInt ∧ 0 ≤ a2.toInt ∧ a2.toInt < (gI g0 1 0).toInt) → r.toInt = -2) ∧ ((0 ≤ a1.toInt ∧ a1.toInt < (gI g0 1 0).toInt ∧ 0 ≤ a2.toInt ∧ a2.toInt < (gI g0 1 0).toInt) ∧ a1.toInt = a2.toInt → r.toInt = -3) ∧ ((0 ≤ a1.toInt ∧ a1.toInt < (gI g0 1 0).toInt ∧ 0 ≤ a2.toInt ∧ a2.toInt < (gI g0 1 0).toInt) ∧ a1.toInt ≠ a2.toInt → r.toInt = 0))) := by
  have hF0 : Fr F_X10_swap_0 A_X10_swap_0 g0 g0 := Fr.rf
  refine Ev.mk rfl rfl ⟨Nat.le_of_ble_eq_true rfl, Or.inr (q_rc hI0.1 kx_0 rfl)⟩ ?_
  show At _ none _ _ (0, [(0, .ref 0), (1, .int a1), (2, .int a2)], [], (_, _)) _
  refine At.enter rfl ?_
  refine r_aload_n rfl ?_
  refine q_getR (Sh.ref hI0.1 kx_0 rfl) ?_
  refine r_iload_n rfl ?_
  refine q_inlV 8 rfl [.ref 1, .int a1] [] (Nat.le_of_ble_eq_true rfl) rfl ?_
  refine Ev.mk rfl rfl ⟨Nat.le_of_ble_eq_true rfl, Or.inr (q_rc hI0.1 kx_1 rfl)⟩ ?_
  show At _ none _ _ (0, [(0, .ref 1), (1, .int a1)], [], (_, _)) _
  refine At.enter rfl ?_
  refine r_iload_n rfl ?_
  refine r_ifs 4 rfl (fun c129 => ?_) (fun c129 => ?_)
  · have c129_ : a1.toInt < 0 := en_k_lt_t c129
    refine At.enter rfl ?_
    refine r_iconst 0 rfl ?_
    refine Ar.fall 17 rfl ?_
    refine At.enter rfl ?_
    refine q_iretz (by decide) ?_
    refine At.enter rfl ?_
    refine r_ift (by decide) ?_
    refine At.enter rfl ?_
    refine r_aload_n rfl ?_
    refine r_bipush (-2) rfl ?_
    refine r_callV 28 rfl [.ref 0, .int (-2)] [] (Nat.le_of_ble_eq_true rfl) rfl (T_X10_refused_0 _ hI0 (-2) (by decide)) ?_
    rintro _ _ ⟨g130, rfl, hI131, hF132, v133, rfl, hr134⟩
    refine At.sti ?_
    have hF135 := Fr.tr hF0 hF132 rfl rfl
    have zv136 : ((-2) : Int32).toInt = (-2) := rfl
    refine At.enter rfl ?_
    refine r_ireti ?_
    obtain ⟨v137, hv137⟩ : ∃ v, eA g0 233 0 = v := ⟨_, rfl⟩
    have tv137 := congrArg Int32.toInt hv137
    have wv137 := HI.t0 hI0
    rw [hv137] at wv137
    have tv137 := congrArg Int32.toInt hv137
    have x138 := HI.eqA hI131 (p := 233) (j := 0) (((eA_c (hF132.2.1 233 (by decide))).trans hv137))
    obtain ⟨v139, hv139⟩ : ∃ v, eA g0 233 4 = v := ⟨_, rfl⟩
    have wv139 := HI.t4 hI0
    rw [hv139] at wv139
    have tv139 := congrArg Int32.toInt hv139
    have x140 := HI.eqA hI131 (p := 233) (j := 4) (((eA_c (hF132.2.1 233 (by decide))).trans hv139))
    obtain ⟨v141, hv141⟩ : ∃ v, eA g0 233 5 = v := ⟨_, rfl⟩
    have wv141 := HI.t5 hI0
    rw [hv141] at wv141
    have tv141 := congrArg Int32.toInt hv141
    have x142 := HI.eqA hI131 (p := 233) (j := 5) (((eA_c (hF132.2.1 233 (by decide))).trans hv141))
    obtain ⟨v143, hv143⟩ : ∃ v, eA g0 233 6 = v := ⟨_, rfl⟩
    have wv143 := HI.t6 hI0
    rw [hv143] at wv143
    have tv143 := congrArg Int32.toInt hv143
    have x144 := HI.eqA hI131 (p := 233) (j := 6) (((eA_c (hF132.2.1 233 (by decide))).trans hv143))
    have x145 := HI.eqA hI0 (p := 233) (j := 0) (hv137)
    have x146 := HI.eqA hI0 (p := 233) (j := 0) (hv137)
    have x147 := HI.eqA hI0 (p := 233) (j := 4) (hv139)
    have x148 := HI.eqA hI0 (p := 233) (j := 5) (hv141)
    have x149 := HI.eqA hI0 (p := 233) (j := 6) (hv143)
    exact ⟨_, rfl, hI131, hF135, _, rfl, by omega, ⟨by omega, by omega, by omega, by omega, by omega⟩⟩
  · have c129_ : a1.toInt ≥ 0 := en_k_lt_f c129
    refine At.enter rfl ?_
    refine r_iload_n rfl ?_
    refine r_aload_n rfl ?_
    obtain ⟨v150, hv150⟩ : ∃ v, gI g0 1 0 = v := ⟨_, rfl⟩
    have rv150 := RgF.at hI0.2.1 (p := 1) (b := 0) rfl
    rw [hv150] at rv150
    dsimp only at rv150
    refine q_getI (Sh.int hI0.1 kx_1 rfl) v150 hv150 ?_
    have bv152 := q_bnd a1
    have bv153 := q_bnd v150
    refine r_ics 12 rfl (fun c151 => ?_) (fun c151 => ?_)
    · have c151_ : a1.toInt ≥ v150.toInt := en_i_ge_t c151
      refine At.enter rfl ?_
      refine r_iconst 0 rfl ?_
      refine Ar.fall 17 rfl ?_
      refine At.enter rfl ?_
      refine q_iretz (by decide) ?_
      refine At.enter rfl ?_
      refine r_ift (by decide) ?_
      refine At.enter rfl ?_
      refine r_aload_n rfl ?_
      refine r_bipush (-2) rfl ?_
      refine r_callV 28 rfl [.ref 0, .int (-2)] [] (Nat.le_of_ble_eq_true rfl) rfl (T_X10_refused_0 _ hI0 (-2) (by decide)) ?_
      rintro _ _ ⟨g154, rfl, hI155, hF156, v157, rfl, hr158⟩
      refine At.sti ?_
      have hF159 := Fr.tr hF0 hF156 rfl rfl
      have zv160 : ((-2) : Int32).toInt = (-2) := rfl
      refine At.enter rfl ?_
      refine r_ireti ?_
      obtain ⟨v161, hv161⟩ : ∃ v, eA g0 233 0 = v := ⟨_, rfl⟩
      have tv161 := congrArg Int32.toInt hv161
      have wv161 := HI.t0 hI0
      rw [hv161] at wv161
      have tv161 := congrArg Int32.toInt hv161
      have x162 := HI.eqA hI155 (p := 233) (j := 0) (((eA_c (hF156.2.1 233 (by decide))).trans hv161))
      obtain ⟨v163, hv163⟩ : ∃ v, eA g0 233 4 = v := ⟨_, rfl⟩
      have wv163 := HI.t4 hI0
      rw [hv163] at wv163
      have tv163 := congrArg Int32.toInt hv163
      have x164 := HI.eqA hI155 (p := 233) (j := 4) (((eA_c (hF156.2.1 233 (by decide))).trans hv163))
      obtain ⟨v165, hv165⟩ : ∃ v, eA g0 233 5 = v := ⟨_, rfl⟩
      have wv165 := HI.t5 hI0
      rw [hv165] at wv165
      have tv165 := congrArg Int32.toInt hv165
      have x166 := HI.eqA hI155 (p := 233) (j := 5) (((eA_c (hF156.2.1 233 (by decide))).trans hv165))
      obtain ⟨v167, hv167⟩ : ∃ v, eA g0 233 6 = v := ⟨_, rfl⟩
      have wv167 := HI.t6 hI0
      rw [hv167] at wv167
      have tv167 := congrArg Int32.toInt hv167
      have x168 := HI.eqA hI155 (p := 233) (j := 6) (((eA_c (hF156.2.1 233 (by decide))).trans hv167))
      have x169 := HI.eqA hI0 (p := 233) (j := 0) (hv161)
      have x170 := HI.eqA hI0 (p := 233) (j := 0) (hv161)
      have x171 := HI.eqA hI0 (p := 233) (j := 4) (hv163)
      have x172 := HI.eqA hI0 (p := 233) (j := 5) (hv165)
      have x173 := HI.eqA hI0 (p := 233) (j := 6) (hv167)
      exact ⟨_, rfl, hI155, hF159, _, rfl, by omega, ⟨by omega, by omega, by omega, by omega, by omega⟩⟩
    · have c151_ : a1.toInt < v150.toInt := en_i_ge_f c151
      refine At.enter rfl ?_
      refine r_iconst 1 rfl ?_
      refine r_goto ?_
      refine At.enter rfl ?_
      refine q_iretz (by decide) ?_
      refine At.enter rfl ?_
      refine r_iff 11 rfl (by decide) ?_
      refine At.enter rfl ?_
      refine r_aload_n rfl ?_
      refine q_getR (Sh.ref hI0.1 kx_0 rfl) ?_
      refine r_iload_n rfl ?_
      refine q_inlV 19 rfl [.ref 1, .int a2] [] (Nat.le_of_ble_eq_true rfl) rfl ?_
      refine Ev.mk rfl rfl ⟨Nat.le_of_ble_eq_true rfl, Or.inr (q_rc hI0.1 kx_1 rfl)⟩ ?_
      show At _ none _ _ (0, [(0, .ref 1), (1, .int a2)], [], (_, _)) _
      refine At.enter rfl ?_
      refine r_iload_n rfl ?_
      refine r_ifs 4 rfl (fun c174 => ?_) (fun c174 => ?_)
      · have c174_ : a2.toInt < 0 := en_k_lt_t c174
        refine At.enter rfl ?_
        refine r_iconst 0 rfl ?_
        refine Ar.fall 17 rfl ?_
        refine At.enter rfl ?_
        refine q_iretz (by decide) ?_
        refine At.enter rfl ?_
        refine r_iff 22 rfl (by decide) ?_
        refine At.enter rfl ?_
        refine r_aload_n rfl ?_
        refine r_bipush (-2) rfl ?_
        refine r_callV 28 rfl [.ref 0, .int (-2)] [] (Nat.le_of_ble_eq_true rfl) rfl (T_X10_refused_0 _ hI0 (-2) (by decide)) ?_
        rintro _ _ ⟨g175, rfl, hI176, hF177, v178, rfl, hr179⟩
        refine At.sti ?_
        have hF180 := Fr.tr hF0 hF177 rfl rfl
        have zv181 : ((-2) : Int32).toInt = (-2) := rfl
        refine At.enter rfl ?_
        refine r_ireti ?_
        obtain ⟨v182, hv182⟩ : ∃ v, eA g0 233 0 = v := ⟨_, rfl⟩
        have tv182 := congrArg Int32.toInt hv182
        have wv182 := HI.t0 hI0
        rw [hv182] at wv182
        have tv182 := congrArg Int32.toInt hv182
        have x183 := HI.eqA hI176 (p := 233) (j := 0) (((eA_c (hF177.2.1 233 (by decide))).trans hv182))
        obtain ⟨v184, hv184⟩ : ∃ v, eA g0 233 4 = v := ⟨_, rfl⟩
        have wv184 := HI.t4 hI0
        rw [hv184] at wv184
        have tv184 := congrArg Int32.toInt hv184
        have x185 := HI.eqA hI176 (p := 233) (j := 4) (((eA_c (hF177.2.1 233 (by decide))).trans hv184))
        obtain ⟨v186, hv186⟩ : ∃ v, eA g0 233 5 = v := ⟨_, rfl⟩
        have wv186 := HI.t5 hI0
        rw [hv186] at wv186
        have tv186 := congrArg Int32.toInt hv186
        have x187 := HI.eqA hI176 (p := 233) (j := 5) (((eA_c (hF177.2.1 233 (by decide))).trans hv186))
        obtain ⟨v188, hv188⟩ : ∃ v, eA g0 233 6 = v := ⟨_, rfl⟩
        have wv188 := HI.t6 hI0
        rw [hv188] at wv188
        have tv188 := congrArg Int32.toInt hv188
        have x189 := HI.eqA hI176 (p := 233) (j := 6) (((eA_c (hF177.2.1 233 (by decide))).trans hv188))
        have x190 := HI.eqA hI0 (p := 233) (j := 0) (hv182)
        have x191 := HI.eqA hI0 (p := 233) (j := 0) (hv182)
        have x192 := HI.eqA hI0 (p := 233) (j := 4) (hv184)
        have x193 := HI.eqA hI0 (p := 233) (j := 5) (hv186)
        have x194 := HI.eqA hI0 (p := 233) (j := 6) (hv188)
        exact ⟨_, rfl, hI176, hF180, _, rfl, by omega, ⟨by omega, by omega, by omega, by omega, by omega⟩⟩
      · have c174_ : a2.toInt ≥ 0 := en_k_lt_f c174
        refine At.enter rfl ?_
        refine r_iload_n rfl ?_
        refine r_aload_n rfl ?_
        refine q_getI (Sh.int hI0.1 kx_1 rfl) v150 hv150 ?_
        have bv196 := q_bnd a2
        refine r_ics 12 rfl (fun c195 => ?_) (fun c195 => ?_)
        · have c195_ : a2.toInt ≥ v150.toInt := en_i_ge_t c195
          refine At.enter rfl ?_
          refine r_iconst 0 rfl ?_
          refine Ar.fall 17 rfl ?_
          refine At.enter rfl ?_
          refine q_iretz (by decide) ?_
          refine At.enter rfl ?_
          refine r_iff 22 rfl (by decide) ?_
          refine At.enter rfl ?_
          refine r_aload_n rfl ?_
          refine r_bipush (-2) rfl ?_
          refine r_callV 28 rfl [.ref 0, .int (-2)] [] (Nat.le_of_ble_eq_true rfl) rfl (T_X10_refused_0 _ hI0 (-2) (by decide)) ?_
          rintro _ _ ⟨g197, rfl, hI198, hF199, v200, rfl, hr201⟩
          refine At.sti ?_
          have hF202 := Fr.tr hF0 hF199 rfl rfl
          have zv203 : ((-2) : Int32).toInt = (-2) := rfl
          refine At.enter rfl ?_
          refine r_ireti ?_
          obtain ⟨v204, hv204⟩ : ∃ v, eA g0 233 0 = v := ⟨_, rfl⟩
          have tv204 := congrArg Int32.toInt hv204
          have wv204 := HI.t0 hI0
          rw [hv204] at wv204
          have tv204 := congrArg Int32.toInt hv204
          have x205 := HI.eqA hI198 (p := 233) (j := 0) (((eA_c (hF199.2.1 233 (by decide))).trans hv204))
          obtain ⟨v206, hv206⟩ : ∃ v, eA g0 233 4 = v := ⟨_, rfl⟩
          have wv206 := HI.t4 hI0
          rw [hv206] at wv206
          have tv206 := congrArg Int32.toInt hv206
          have x207 := HI.eqA hI198 (p := 233) (j := 4) (((eA_c (hF199.2.1 233 (by decide))).trans hv206))
          obtain ⟨v208, hv208⟩ : ∃ v, eA g0 233 5 = v := ⟨_, rfl⟩
          have wv208 := HI.t5 hI0
          rw [hv208] at wv208
          have tv208 := congrArg Int32.toInt hv208
          have x209 := HI.eqA hI198 (p := 233) (j := 5) (((eA_c (hF199.2.1 233 (by decide))).trans hv208))
          obtain ⟨v210, hv210⟩ : ∃ v, eA g0 233 6 = v := ⟨_, rfl⟩
          have wv210 := HI.t6 hI0
          rw [hv210] at wv210
          have tv210 := congrArg Int32.toInt hv210
          have x211 := HI.eqA hI198 (p := 233) (j := 6) (((eA_c (hF199.2.1 233 (by decide))).trans hv210))
          have x212 := HI.eqA hI0 (p := 233) (j := 0) (hv204)
          have x213 := HI.eqA hI0 (p := 233) (j := 0) (hv204)
          have x214 := HI.eqA hI0 (p := 233) (j := 4) (hv206)
          have x215 := HI.eqA hI0 (p := 233) (j := 5) (hv208)
          have x216 := HI.eqA hI0 (p := 233) (j := 6) (hv210)
          exact ⟨_, rfl, hI198, hF202, _, rfl, by omega, ⟨by omega, by omega, by omega, by omega, by omega⟩⟩
        · have c195_ : a2.toInt < v150.toInt := en_i_ge_f c195
          refine At.enter rfl ?_
          refine r_iconst 1 rfl ?_
          refine r_goto ?_
          refine At.enter rfl ?_
          refine q_iretz (by decide) ?_
          refine At.enter rfl ?_
          refine r_ift (by decide) ?_
          refine At.enter rfl ?_
          refine r_iload_n rfl ?_
          refine r_iload_n rfl ?_
          refine r_ics 34 rfl (fun c217 => ?_) (fun c217 => ?_)
          · have c217_ : a1.toInt ≠ a2.toInt := en_i_ne_t c217
            refine At.enter rfl ?_
            refine r_aload_n rfl ?_
            refine q_getR (Sh.ref hI0.1 kx_0 rfl) ?_
            refine q_getR (Sh.ref hI0.1 kx_1 rfl) ?_
            refine r_iload_n rfl ?_
            refine r_iload_n rfl ?_
            refine q_inlS 53 rfl [.ref 3, .int a1, .int a2] [] (Nat.le_of_ble_eq_true rfl) rfl ?_
            refine Ev.mk rfl rfl ⟨Nat.le_of_ble_eq_true rfl, Or.inl rfl⟩ ?_
            show At _ none _ _ (0, [(0, .ref 3), (1, .int a1), (2, .int a2)], [], (_, _)) _
            refine At.enter rfl ?_
            refine r_aload_n rfl ?_
            refine r_iload_n rfl ?_
            obtain ⟨v218, hv218⟩ : ∃ v, eA g0 3 a1.toInt = v := ⟨_, rfl⟩
            refine q_iald (Sh.arr hI0.1 ka_3) a1.toInt rfl (by omega) v218 hv218 ?_
            refine r_istore_n ([(3, .int v218), (0, .ref 3), (1, .int a1), (2, .int a2)]) rfl ?_
            refine r_aload_n rfl ?_
            refine r_iload_n rfl ?_
            refine r_aload_n rfl ?_
            refine r_iload_n rfl ?_
            obtain ⟨v219, hv219⟩ : ∃ v, eA g0 3 a2.toInt = v := ⟨_, rfl⟩
            refine q_iald (Sh.arr hI0.1 ka_3) a2.toInt rfl (by omega) v219 hv219 ?_
            refine q_iast (Sh.arr hI0.1 ka_3) (a1.toInt) rfl (by omega) ?_
            have hI220 := HI.wA0 hI0 ka_3 (p := 3) rfl rfl (a1.toInt) (v219)
            have hF221 := Fr.wA (p := 3) (j := a1.toInt) (v := v219) hF0 rfl
            refine r_aload_n rfl ?_
            refine r_iload_n rfl ?_
            refine r_iload_n rfl ?_
            refine q_iast (Sh.arr hI220.1 ka_3) (a2.toInt) rfl (by omega) ?_
            have hI222 := HI.wA0 hI220 ka_3 (p := 3) rfl rfl (a2.toInt) (v218)
            have hF223 := Fr.wA (p := 3) (j := a2.toInt) (v := v218) hF221 rfl
            refine q_vret ?_
            refine At.enter rfl ?_
            refine r_aload_n rfl ?_
            refine q_getR (Sh.ref hI222.1 kx_0 rfl) ?_
            refine q_getR (Sh.ref hI222.1 kx_1 rfl) ?_
            refine r_iload_n rfl ?_
            refine r_iload_n rfl ?_
            refine q_inlS 65 rfl [.ref 4, .int a1, .int a2] [] (Nat.le_of_ble_eq_true rfl) rfl ?_
            refine Ev.mk rfl rfl ⟨Nat.le_of_ble_eq_true rfl, Or.inl rfl⟩ ?_
            show At _ none _ _ (0, [(0, .ref 4), (1, .int a1), (2, .int a2)], [], (_, _)) _
            refine At.enter rfl ?_
            refine r_aload_n rfl ?_
            refine r_iload_n rfl ?_
            obtain ⟨v224, hv224⟩ : ∃ v, eA g0 4 a1.toInt = v := ⟨_, rfl⟩
            refine q_iald (Sh.arr hI222.1 ka_4) a1.toInt rfl (by omega) v224 ((eA_c ((gA_sA_ne (by decide)).trans (gA_sA_ne (by decide)))).trans hv224) ?_
            refine r_istore_n ([(3, .int v224), (0, .ref 4), (1, .int a1), (2, .int a2)]) rfl ?_
            refine r_aload_n rfl ?_
            refine r_iload_n rfl ?_
            refine r_aload_n rfl ?_
            refine r_iload_n rfl ?_
            obtain ⟨v225, hv225⟩ : ∃ v, eA g0 4 a2.toInt = v := ⟨_, rfl⟩
            refine q_iald (Sh.arr hI222.1 ka_4) a2.toInt rfl (by omega) v225 ((eA_c ((gA_sA_ne (by decide)).trans (gA_sA_ne (by decide)))).trans hv225) ?_
            refine q_iast (Sh.arr hI222.1 ka_4) (a1.toInt) rfl (by omega) ?_
            have hI226 := HI.wA0 hI222 ka_4 (p := 4) rfl rfl (a1.toInt) (v225)
            have hF227 := Fr.wA (p := 4) (j := a1.toInt) (v := v225) hF223 rfl
            refine r_aload_n rfl ?_
            refine r_iload_n rfl ?_
            refine r_iload_n rfl ?_
            refine q_iast (Sh.arr hI226.1 ka_4) (a2.toInt) rfl (by omega) ?_
            have hI228 := HI.wA0 hI226 ka_4 (p := 4) rfl rfl (a2.toInt) (v224)
            have hF229 := Fr.wA (p := 4) (j := a2.toInt) (v := v224) hF227 rfl
            refine q_vret ?_
            refine At.enter rfl ?_
            refine r_aload_n rfl ?_
            refine r_callV 69 rfl [.ref 0] [] (Nat.le_of_ble_eq_true rfl) rfl (T_X10_changed_0 _ hI228) ?_
            rintro _ _ ⟨g230, rfl, hI231, hF232, rfl⟩
            refine At.stn ?_
            have hF235 := Fr.tr hF229 hF232 rfl rfl
            refine At.enter rfl ?_
            refine r_aload_n rfl ?_
            refine r_iconst 0 rfl ?_
            refine q_inlV 74 rfl [.ref 0, .int 0] [] (Nat.le_of_ble_eq_true rfl) rfl ?_
            refine Ev.mk rfl rfl ⟨Nat.le_of_ble_eq_true rfl, Or.inr (q_rc hI231.1 kx_0 rfl)⟩ ?_
            show At _ none _ _ (0, [(0, .ref 0), (1, .int 0)], [], (_, _)) _
            refine At.enter rfl ?_
            refine r_aload_n rfl ?_
            refine r_iconst 0 rfl ?_
            refine q_putI (Sh.int hI231.1 kx_0 rfl) rfl ?_
            have hI236 := HI.wI0 hI231 kx_0 rfl (p := 0) (b := 17) (v := 0) rfl
            have hF237 := Fr.wI (p := 0) (b := 17) (v := 0) hF235 rfl
            refine r_iload_n rfl ?_
            refine q_ireti ?_
            refine At.enter rfl ?_
            refine r_ireti ?_
            have zv238 : (0 : Int32).toInt = 0 := rfl
            obtain ⟨v239, hv239⟩ : ∃ v, eA g0 233 0 = v := ⟨_, rfl⟩
            have tv239 := congrArg Int32.toInt hv239
            have wv239 := HI.t0 hI0
            rw [hv239] at wv239
            have tv239 := congrArg Int32.toInt hv239
            have x240 := HI.eqA hI236 (p := 233) (j := 0) ((((eA_c gA_sI).trans ((eA_c (hF232.2.1 233 (by decide))).trans ((eA_c (gA_sA_ne (by decide))).trans ((eA_c (gA_sA_ne (by decide))).trans ((eA_c (gA_sA_ne (by decide))).trans (eA_c (gA_sA_ne (by decide)))))))).trans hv239))
            obtain ⟨v241, hv241⟩ : ∃ v, eA g0 233 4 = v := ⟨_, rfl⟩
            have wv241 := HI.t4 hI0
            rw [hv241] at wv241
            have tv241 := congrArg Int32.toInt hv241
            have x242 := HI.eqA hI236 (p := 233) (j := 4) ((((eA_c gA_sI).trans ((eA_c (hF232.2.1 233 (by decide))).trans ((eA_c (gA_sA_ne (by decide))).trans ((eA_c (gA_sA_ne (by decide))).trans ((eA_c (gA_sA_ne (by decide))).trans (eA_c (gA_sA_ne (by decide)))))))).trans hv241))
            obtain ⟨v243, hv243⟩ : ∃ v, eA g0 233 5 = v := ⟨_, rfl⟩
            have wv243 := HI.t5 hI0
            rw [hv243] at wv243
            have tv243 := congrArg Int32.toInt hv243
            have x244 := HI.eqA hI236 (p := 233) (j := 5) ((((eA_c gA_sI).trans ((eA_c (hF232.2.1 233 (by decide))).trans ((eA_c (gA_sA_ne (by decide))).trans ((eA_c (gA_sA_ne (by decide))).trans ((eA_c (gA_sA_ne (by decide))).trans (eA_c (gA_sA_ne (by decide)))))))).trans hv243))
            obtain ⟨v245, hv245⟩ : ∃ v, eA g0 233 6 = v := ⟨_, rfl⟩
            have wv245 := HI.t6 hI0
            rw [hv245] at wv245
            have tv245 := congrArg Int32.toInt hv245
            have x246 := HI.eqA hI236 (p := 233) (j := 6) ((((eA_c gA_sI).trans ((eA_c (hF232.2.1 233 (by decide))).trans ((eA_c (gA_sA_ne (by decide))).trans ((eA_c (gA_sA_ne (by decide))).trans ((eA_c (gA_sA_ne (by decide))).trans (eA_c (gA_sA_ne (by decide)))))))).trans hv245))
            have x247 := HI.eqA hI0 (p := 233) (j := 0) (hv239)
            have x248 := HI.eqA hI0 (p := 233) (j := 0) (hv239)
            have x249 := HI.eqA hI0 (p := 233) (j := 4) (hv241)
            have x250 := HI.eqA hI0 (p := 233) (j := 5) (hv243)
            have x251 := HI.eqA hI0 (p := 233) (j := 6) (hv245)
            exact ⟨_, rfl, hI236, hF237, _, rfl, by decide, ⟨by omega, by omega, by omega, by omega, by omega⟩⟩
          · have c217_ : a1.toInt = a2.toInt := en_i_ne_f c217
            refine At.enter rfl ?_
            refine r_aload_n rfl ?_
            refine r_bipush (-3) rfl ?_
            refine r_callV 40 rfl [.ref 0, .int (-3)] [] (Nat.le_of_ble_eq_true rfl) rfl (T_X10_refused_0 _ hI0 (-3) (by decide)) ?_
            rintro _ _ ⟨g252, rfl, hI253, hF254, v255, rfl, hr256⟩
            refine At.sti ?_
            have hF257 := Fr.tr hF0 hF254 rfl rfl
            have zv258 : ((-3) : Int32).toInt = (-3) := rfl
            refine At.enter rfl ?_
            refine r_ireti ?_
            obtain ⟨v259, hv259⟩ : ∃ v, eA g0 233 0 = v := ⟨_, rfl⟩
            have tv259 := congrArg Int32.toInt hv259
            have wv259 := HI.t0 hI0
            rw [hv259] at wv259
            have tv259 := congrArg Int32.toInt hv259
            have x260 := HI.eqA hI253 (p := 233) (j := 0) (((eA_c (hF254.2.1 233 (by decide))).trans hv259))
            obtain ⟨v261, hv261⟩ : ∃ v, eA g0 233 4 = v := ⟨_, rfl⟩
            have wv261 := HI.t4 hI0
            rw [hv261] at wv261
            have tv261 := congrArg Int32.toInt hv261
            have x262 := HI.eqA hI253 (p := 233) (j := 4) (((eA_c (hF254.2.1 233 (by decide))).trans hv261))
            obtain ⟨v263, hv263⟩ : ∃ v, eA g0 233 5 = v := ⟨_, rfl⟩
            have wv263 := HI.t5 hI0
            rw [hv263] at wv263
            have tv263 := congrArg Int32.toInt hv263
            have x264 := HI.eqA hI253 (p := 233) (j := 5) (((eA_c (hF254.2.1 233 (by decide))).trans hv263))
            obtain ⟨v265, hv265⟩ : ∃ v, eA g0 233 6 = v := ⟨_, rfl⟩
            have wv265 := HI.t6 hI0
            rw [hv265] at wv265
            have tv265 := congrArg Int32.toInt hv265
            have x266 := HI.eqA hI253 (p := 233) (j := 6) (((eA_c (hF254.2.1 233 (by decide))).trans hv265))
            have x267 := HI.eqA hI0 (p := 233) (j := 0) (hv259)
            have x268 := HI.eqA hI0 (p := 233) (j := 0) (hv259)
            have x269 := HI.eqA hI0 (p := 233) (j := 4) (hv261)
            have x270 := HI.eqA hI0 (p := 233) (j := 5) (hv263)
            have x271 := HI.eqA hI0 (p := 233) (j := 6) (hv265)
            exact ⟨_, rfl, hI253, hF257, _, rfl, by omega, ⟨by omega, by omega, by omega, by omega, by omega⟩⟩

def F_X10_home_0 : List (Nat × Nat) := [(185, 3), (204, 16), (204, 18), (222, 2), (222, 3), (222, 4), (222, 5)]
def A_X10_home_0 : List Nat := [205, 206, 207, 208, 209, 210, 211, 212, 213, 214, 215, 216, 218]
set_option maxRecDepth 100000 in
set_option maxHeartbeats 4000000 in
theorem T_X10_home_0 (d : Nat) {N : Nat} {g0 : List en_E} (hI0 : HI g0) (a1 : Int32) : Ev (d + 8) 126 [.ref 0, .int a1] (g0, N) (fun w h' => ∃ g', h' = (g', N) ∧ HI g' ∧ Fr F_X10_home_0 A_X10_home_0 g0 g' ∧ ∃ r : Int32, w = some (.int r) ∧ True) := by
  have hF0 : Fr F_X10_home_0 A_X10_home_0 g0 g0 := Fr.rf
  refine Ev.mk rfl rfl ⟨Nat.le_of_ble_eq_true rfl, Or.inr (q_rc hI0.1 kx_0 rfl)⟩ ?_
  show At _ none _ _ (0, [(0, .ref 0), (1, .int a1)], [], (_, _)) _
  refine At.enter rfl ?_
  refine r_iload_n rfl ?_
  refine r_iconst 0 rfl ?_
  refine r_iconst 2 rfl ?_
  refine q_inlS 6 rfl [.int a1, .int 0, .int 2] [] (Nat.le_of_ble_eq_true rfl) rfl ?_
  refine Ev.mk rfl rfl ⟨Nat.le_of_ble_eq_true rfl, Or.inl rfl⟩ ?_
  show At _ none _ _ (0, [(0, .int a1), (1, .int 0), (2, .int 2)], [], (_, _)) _
  refine At.enter rfl ?_
  refine r_iload_n rfl ?_
  refine r_iload_n rfl ?_
  refine r_ics 5 rfl (fun c17 => ?_) (fun c17 => ?_)
  · have c17_ : a1.toInt < 0 := en_i_lt_t c17
    refine At.enter rfl ?_
    refine r_iconst 0 rfl ?_
    refine Ar.fall 15 rfl ?_
    refine At.enter rfl ?_
    refine q_iretz (by decide) ?_
    refine At.enter rfl ?_
    refine r_ift (by decide) ?_
    refine At.enter rfl ?_
    refine r_iconst (-1) rfl ?_
    refine Ar.fall 21 rfl ?_
    refine At.enter rfl ?_
    refine r_ireti ?_
    exact ⟨_, rfl, hI0, hF0, _, rfl, trivial⟩
  · have c17_ : a1.toInt ≥ 0 := en_i_lt_f c17
    refine At.enter rfl ?_
    refine r_iload_n rfl ?_
    refine r_iload_n rfl ?_
    refine r_ics 10 rfl (fun c18 => ?_) (fun c18 => ?_)
    · have c18_ : a1.toInt > 2 := en_i_gt_t c18
      refine At.enter rfl ?_
      refine r_iconst 0 rfl ?_
      refine Ar.fall 15 rfl ?_
      refine At.enter rfl ?_
      refine q_iretz (by decide) ?_
      refine At.enter rfl ?_
      refine r_ift (by decide) ?_
      refine At.enter rfl ?_
      refine r_iconst (-1) rfl ?_
      refine Ar.fall 21 rfl ?_
      refine At.enter rfl ?_
      refine r_ireti ?_
      exact ⟨_, rfl, hI0, hF0, _, rfl, trivial⟩
    · have c18_ : a1.toInt ≤ 2 := en_i_gt_f c18
      refine At.enter rfl ?_
      refine r_iconst 1 rfl ?_
      refine r_goto ?_
      refine At.enter rfl ?_
      refine q_iretz (by decide) ?_
      refine At.enter rfl ?_
      refine r_iff 9 rfl (by decide) ?_
      refine At.enter rfl ?_
      refine r_aload_n rfl ?_
      refine q_getR (Sh.ref hI0.1 kx_0 rfl) ?_
      refine r_iload_n rfl ?_
      refine r_callV 17 rfl [.ref 222, .int a1] [] (Nat.le_of_ble_eq_true rfl) rfl (T_X6_told_222 _ hI0 a1) ?_
      rintro _ _ ⟨g19, rfl, hI20, hF21, v22, rfl, hr23⟩
      refine At.sti ?_
      have hF24 := Fr.tr hF0 hF21 rfl rfl
      refine At.enter rfl ?_
      refine r_goto ?_
      refine At.enter rfl ?_
      refine r_ireti ?_
      exact ⟨_, rfl, hI20, hF24, _, rfl, trivial⟩

def F_X10_cost_0 : List (Nat × Nat) := [(185, 3), (223, 5), (223, 6)]
def A_X10_cost_0 : List Nat := [224, 226]
set_option maxRecDepth 100000 in
set_option maxHeartbeats 4000000 in
theorem T_X10_cost_0 (d : Nat) {N : Nat} {g0 : List en_E} (hI0 : HI g0) (a1 : Int32) : Ev (d + 7) 127 [.ref 0, .int a1] (g0, N) (fun w h' => ∃ g', h' = (g', N) ∧ HI g' ∧ Fr F_X10_cost_0 A_X10_cost_0 g0 g' ∧ ∃ r : Int32, w = some (.int r) ∧ True) := by
  have hF0 : Fr F_X10_cost_0 A_X10_cost_0 g0 g0 := Fr.rf
  refine Ev.mk rfl rfl ⟨Nat.le_of_ble_eq_true rfl, Or.inr (q_rc hI0.1 kx_0 rfl)⟩ ?_
  show At _ none _ _ (0, [(0, .ref 0), (1, .int a1)], [], (_, _)) _
  refine At.enter rfl ?_
  refine r_aload_n rfl ?_
  refine q_getR (Sh.ref hI0.1 kx_0 rfl) ?_
  refine r_iload_n rfl ?_
  refine q_inlV 8 rfl [.ref 1, .int a1] [] (Nat.le_of_ble_eq_true rfl) rfl ?_
  refine Ev.mk rfl rfl ⟨Nat.le_of_ble_eq_true rfl, Or.inr (q_rc hI0.1 kx_1 rfl)⟩ ?_
  show At _ none _ _ (0, [(0, .ref 1), (1, .int a1)], [], (_, _)) _
  refine At.enter rfl ?_
  refine r_iload_n rfl ?_
  refine r_ifs 4 rfl (fun c23 => ?_) (fun c23 => ?_)
  · have c23_ : a1.toInt < 0 := en_k_lt_t c23
    refine At.enter rfl ?_
    refine r_iconst 0 rfl ?_
    refine Ar.fall 17 rfl ?_
    refine At.enter rfl ?_
    refine q_iretz (by decide) ?_
    refine At.enter rfl ?_
    refine r_ift (by decide) ?_
    refine At.enter rfl ?_
    refine r_iconst (-1) rfl ?_
    refine Ar.fall 23 rfl ?_
    refine At.enter rfl ?_
    refine r_ireti ?_
    exact ⟨_, rfl, hI0, hF0, _, rfl, trivial⟩
  · have c23_ : a1.toInt ≥ 0 := en_k_lt_f c23
    refine At.enter rfl ?_
    refine r_iload_n rfl ?_
    refine r_aload_n rfl ?_
    obtain ⟨v24, hv24⟩ : ∃ v, gI g0 1 4 = v := ⟨_, rfl⟩
    have rv24 := RgF.at hI0.2.1 (p := 1) (b := 4) rfl
    rw [hv24] at rv24
    dsimp only at rv24
    refine q_getI (Sh.int hI0.1 kx_1 rfl) v24 hv24 ?_
    have bv26 := q_bnd a1
    have bv27 := q_bnd v24
    refine r_ics 12 rfl (fun c25 => ?_) (fun c25 => ?_)
    · have c25_ : a1.toInt ≥ v24.toInt := en_i_ge_t c25
      refine At.enter rfl ?_
      refine r_iconst 0 rfl ?_
      refine Ar.fall 17 rfl ?_
      refine At.enter rfl ?_
      refine q_iretz (by decide) ?_
      refine At.enter rfl ?_
      refine r_ift (by decide) ?_
      refine At.enter rfl ?_
      refine r_iconst (-1) rfl ?_
      refine Ar.fall 23 rfl ?_
      refine At.enter rfl ?_
      refine r_ireti ?_
      exact ⟨_, rfl, hI0, hF0, _, rfl, trivial⟩
    · have c25_ : a1.toInt < v24.toInt := en_i_ge_f c25
      refine At.enter rfl ?_
      refine r_iconst 1 rfl ?_
      refine r_goto ?_
      refine At.enter rfl ?_
      refine q_iretz (by decide) ?_
      refine At.enter rfl ?_
      refine r_iff 11 rfl (by decide) ?_
      refine At.enter rfl ?_
      refine r_aload_n rfl ?_
      refine q_getR (Sh.ref hI0.1 kx_0 rfl) ?_
      refine r_iload_n rfl ?_
      refine r_callV 19 rfl [.ref 223, .int a1] [] (Nat.le_of_ble_eq_true rfl) rfl (T_X2_costOf_223 _ hI0 a1) ?_
      rintro _ _ ⟨g28, rfl, hI29, hF30, v31, rfl, hr32⟩
      refine At.sti ?_
      have hF33 := Fr.tr hF0 hF30 rfl rfl
      refine At.enter rfl ?_
      refine r_goto ?_
      refine At.enter rfl ?_
      refine r_ireti ?_
      exact ⟨_, rfl, hI29, hF33, _, rfl, trivial⟩

def F_X10_sent_0 : List (Nat × Nat) := [(185, 3), (223, 5), (223, 6)]
def A_X10_sent_0 : List Nat := [224, 226]
set_option maxRecDepth 100000 in
set_option maxHeartbeats 4000000 in
theorem T_X10_sent_0 (d : Nat) {N : Nat} {g0 : List en_E} (hI0 : HI g0) (a1 : Int32) : Ev (d + 7) 128 [.ref 0, .int a1] (g0, N) (fun w h' => ∃ g', h' = (g', N) ∧ HI g' ∧ Fr F_X10_sent_0 A_X10_sent_0 g0 g' ∧ ∃ r : Int32, w = some (.int r) ∧ ((-1) ≤ r.toInt ∧ r.toInt ≤ 1)) := by
  have hF0 : Fr F_X10_sent_0 A_X10_sent_0 g0 g0 := Fr.rf
  refine Ev.mk rfl rfl ⟨Nat.le_of_ble_eq_true rfl, Or.inr (q_rc hI0.1 kx_0 rfl)⟩ ?_
  show At _ none _ _ (0, [(0, .ref 0), (1, .int a1)], [], (_, _)) _
  refine At.enter rfl ?_
  refine r_aload_n rfl ?_
  refine q_getR (Sh.ref hI0.1 kx_0 rfl) ?_
  refine r_iload_n rfl ?_
  refine q_inlV 8 rfl [.ref 1, .int a1] [] (Nat.le_of_ble_eq_true rfl) rfl ?_
  refine Ev.mk rfl rfl ⟨Nat.le_of_ble_eq_true rfl, Or.inr (q_rc hI0.1 kx_1 rfl)⟩ ?_
  show At _ none _ _ (0, [(0, .ref 1), (1, .int a1)], [], (_, _)) _
  refine At.enter rfl ?_
  refine r_iload_n rfl ?_
  refine r_ifs 4 rfl (fun c43 => ?_) (fun c43 => ?_)
  · have c43_ : a1.toInt < 0 := en_k_lt_t c43
    refine At.enter rfl ?_
    refine r_iconst 0 rfl ?_
    refine Ar.fall 17 rfl ?_
    refine At.enter rfl ?_
    refine q_iretz (by decide) ?_
    refine At.enter rfl ?_
    refine r_iff 11 rfl (by decide) ?_
    refine At.enter rfl ?_
    refine r_iconst (-1) rfl ?_
    refine r_ireti ?_
    exact ⟨_, rfl, hI0, hF0, _, rfl, by decide⟩
  · have c43_ : a1.toInt ≥ 0 := en_k_lt_f c43
    refine At.enter rfl ?_
    refine r_iload_n rfl ?_
    refine r_aload_n rfl ?_
    obtain ⟨v44, hv44⟩ : ∃ v, gI g0 1 4 = v := ⟨_, rfl⟩
    have rv44 := RgF.at hI0.2.1 (p := 1) (b := 4) rfl
    rw [hv44] at rv44
    dsimp only at rv44
    refine q_getI (Sh.int hI0.1 kx_1 rfl) v44 hv44 ?_
    have bv46 := q_bnd a1
    have bv47 := q_bnd v44
    refine r_ics 12 rfl (fun c45 => ?_) (fun c45 => ?_)
    · have c45_ : a1.toInt ≥ v44.toInt := en_i_ge_t c45
      refine At.enter rfl ?_
      refine r_iconst 0 rfl ?_
      refine Ar.fall 17 rfl ?_
      refine At.enter rfl ?_
      refine q_iretz (by decide) ?_
      refine At.enter rfl ?_
      refine r_iff 11 rfl (by decide) ?_
      refine At.enter rfl ?_
      refine r_iconst (-1) rfl ?_
      refine r_ireti ?_
      exact ⟨_, rfl, hI0, hF0, _, rfl, by decide⟩
    · have c45_ : a1.toInt < v44.toInt := en_i_ge_f c45
      refine At.enter rfl ?_
      refine r_iconst 1 rfl ?_
      refine r_goto ?_
      refine At.enter rfl ?_
      refine q_iretz (by decide) ?_
      refine At.enter rfl ?_
      refine r_ift (by decide) ?_
      refine At.enter rfl ?_
      refine r_aload_n rfl ?_
      refine q_getR (Sh.ref hI0.1 kx_0 rfl) ?_
      refine r_iload_n rfl ?_
      refine r_callV 21 rfl [.ref 223, .int a1] [] (Nat.le_of_ble_eq_true rfl) rfl (T_X2_costOf_223 _ hI0 a1) ?_
      rintro _ _ ⟨g48, rfl, hI49, hF50, v51, rfl, hr52⟩
      refine At.sti ?_
      have hF53 := Fr.tr hF0 hF50 rfl rfl
      refine At.enter rfl ?_
      refine r_istore_n ([(2, .int v51), (0, .ref 0), (1, .int a1)]) rfl ?_
      refine r_iload_n rfl ?_
      refine r_iconst (-1) rfl ?_
      refine r_ics 27 rfl (fun c54 => ?_) (fun c54 => ?_)
      · have c54_ : v51.toInt = (-1) := en_i_eq_t c54
        refine At.enter rfl ?_
        refine r_iconst 0 rfl ?_
        refine Ar.fall 45 rfl ?_
        refine At.enter rfl ?_
        refine r_ireti ?_
        exact ⟨_, rfl, hI49, hF53, _, rfl, by decide⟩
      · have c54_ : v51.toInt ≠ (-1) := en_i_eq_f c54
        refine At.enter rfl ?_
        refine r_iload_n rfl ?_
        refine r_aload_n rfl ?_
        refine q_getR (Sh.ref hI49.1 kx_0 rfl) ?_
        refine r_iload_n rfl ?_
        refine r_iconst 5 rfl ?_
        refine r_callV 37 rfl [.ref 1, .int a1, .int 5] [.int v51] (Nat.le_of_ble_eq_true rfl) rfl (T_X0_about_1 _ hI49 a1 5) ?_
        rintro _ _ ⟨g55, rfl, hI56, hF57, v58, rfl, hr59⟩
        refine At.sti ?_
        have hF60 := Fr.tr hF53 hF57 rfl rfl
        refine At.enter rfl ?_
        have bv62 := q_bnd v51
        have bv63 := q_bnd v58
        refine r_ics 40 rfl (fun c61 => ?_) (fun c61 => ?_)
        · have c61_ : v51.toInt > v58.toInt := en_i_gt_t c61
          refine At.enter rfl ?_
          refine r_iconst 0 rfl ?_
          refine Ar.fall 45 rfl ?_
          refine At.enter rfl ?_
          refine r_ireti ?_
          exact ⟨_, rfl, hI56, hF60, _, rfl, by decide⟩
        · have c61_ : v51.toInt ≤ v58.toInt := en_i_gt_f c61
          refine At.enter rfl ?_
          refine r_iconst 1 rfl ?_
          refine r_goto ?_
          refine At.enter rfl ?_
          refine r_ireti ?_
          exact ⟨_, rfl, hI56, hF60, _, rfl, by decide⟩
