def F_X11_nextOf0_231 : List (Nat × Nat) := []
def A_X11_nextOf0_231 : List Nat := []
set_option maxRecDepth 100000 in
set_option maxHeartbeats 4000000 in
theorem T_X11_nextOf0_231 (d : Nat) {N : Nat} {g0 : List en_E} (hI0 : HI g0) (a1 : Int32) (h_a1 : 0 ≤ a1.toInt ∧ a1.toInt ≤ 11) : Ev (d + 3) 174 [.ref 231, .int a1, .int 0] (g0, N) (fun w h' => ∃ g', h' = (g', N) ∧ HI g' ∧ Fr F_X11_nextOf0_231 A_X11_nextOf0_231 g0 g' ∧ ∃ r : Int32, w = some (.int r) ∧ ((-1) ≤ r.toInt ∧ r.toInt ≤ 11) ∧ ((r.toInt = -1 ∨ r.toInt < (eA g0 233 0).toInt) ∧ r.toInt = NMo g0 a1.toInt)) := by
  have hF0 : Fr F_X11_nextOf0_231 A_X11_nextOf0_231 g0 g0 := Fr.rf
  refine Ev.mk rfl rfl ⟨Nat.le_of_ble_eq_true rfl, Or.inr (q_rc hI0.1 kx_231 rfl)⟩ ?_
  show At _ none _ _ (0, [(0, .ref 231), (1, .int a1), (2, .int 0)], [], (_, _)) _
  refine At.enter rfl ?_
  refine r_aload_n rfl ?_
  refine r_iload_n rfl ?_
  refine r_iconst 0 rfl ?_
  refine q_inlV 6 rfl [.ref 231, .int a1, .int 0] [] (Nat.le_of_ble_eq_true rfl) rfl ?_
  refine Ev.mk rfl rfl ⟨Nat.le_of_ble_eq_true rfl, Or.inr (q_rc hI0.1 kx_231 rfl)⟩ ?_
  show At _ none _ _ (0, [(0, .ref 231), (1, .int a1), (2, .int 0)], [], (_, _)) _
  refine At.enter rfl ?_
  refine r_aload_n rfl ?_
  refine q_getR (Sh.ref hI0.1 kx_231 rfl) ?_
  refine r_bipush 10 rfl ?_
  refine r_iconst 3 rfl ?_
  refine r_iload_n rfl ?_
  refine q_imul (3 * a1.toInt) rfl (by omega) (fun v81 hv81 => ?_)
  refine q_iadd (10 + v81.toInt) rfl (by omega) (fun v82 hv82 => ?_)
  refine r_iload_n rfl ?_
  refine q_iadd (v82.toInt + 0) rfl (by omega) (fun v83 hv83 => ?_)
  obtain ⟨v84, hv84⟩ : ∃ v, eA g0 233 (3 * a1.toInt + 10) = v := ⟨_, rfl⟩
  have wv84 := HI.s0 hI0 (j := (3 * a1.toInt + 10)) (a1.toInt) (by omega) (by omega)
  rw [hv84] at wv84
  refine q_iald (Sh.arr hI0.1 ka_233) (3 * a1.toInt + 10) (by omega) (by omega) v84 hv84 ?_
  refine q_ireti ?_
  refine At.enter rfl ?_
  refine r_istore_n ([(3, .int v84), (0, .ref 231), (1, .int a1), (2, .int 0)]) rfl ?_
  refine r_iconst 0 rfl ?_
  refine r_istore ([(4, .int 0), (3, .int v84), (0, .ref 231), (1, .int a1), (2, .int 0)]) rfl ?_
  refine Ar.fall 10 rfl ?_
  have z_111 : (0 : Int32).toInt = 0 := rfl
  have y112 := (eA_ix (g := g0) (p := 233) (show 10 + 3 * a1.toInt = (3 * a1.toInt + 10) from by omega)).trans (congrArg Int32.toInt hv84)
  refine w_loopI (fun n_ l_ g_ => ∃ x95 : Int32, ∃ x96 : Int32, n_ = 0 ∧ HI g_ ∧ Fr F_X11_nextOf0_231 A_X11_nextOf0_231 g0 g_ ∧ en_get 0 l_ = some (.ref 231) ∧ en_get 1 l_ = some (.int a1) ∧ en_get 2 l_ = some (.int 0) ∧ en_get 3 l_ = some (.int x95) ∧ en_get 4 l_ = some (.int x96) ∧ ((-1) ≤ x95.toInt ∧ x95.toInt ≤ 11) ∧ (0 ≤ x96.toInt ∧ x96.toInt ≤ 0) ∧ (x95.toInt = (eA g0 233 (10 + 3 * a1.toInt)).toInt)) ?_ (0) ⟨v84, 0, by first | rfl | omega, hI0, hF0, rfl, rfl, rfl, rfl, rfl, by omega, by decide, by omega⟩
  rintro n101 l100 g97 ⟨x95, x96, hm113, hI98, hF99, e103, e104, e105, e106, e107, r108, r109, q110⟩ ih102
  refine At.enter rfl ?_
  refine r_iload e107 ?_
  refine r_bipush 13 rfl ?_
  refine r_ics 17 rfl (fun c114 => ?_) (fun c114 => ?_)
  · have c114_ : x96.toInt ≥ 13 := en_i_ge_t c114
    exfalso; omega
  · have c114_ : x96.toInt < 13 := en_i_ge_f c114
    refine At.enter rfl ?_
    refine r_aload_n e103 ?_
    refine r_iload_n e106 ?_
    refine q_inlV 22 rfl [.ref 231, .int x95] [] (Nat.le_of_ble_eq_true rfl) rfl ?_
    refine Ev.mk rfl rfl ⟨Nat.le_of_ble_eq_true rfl, Or.inr (q_rc hI98.1 kx_231 rfl)⟩ ?_
    show At _ none _ _ (0, [(0, .ref 231), (1, .int x95)], [], (_, _)) _
    refine At.enter rfl ?_
    refine r_iload_n rfl ?_
    refine q_i2l (fun v115 hv115 => ?_)
    refine r_lconst 0 rfl ?_
    refine r_aload_n rfl ?_
    refine q_getR (Sh.ref hI98.1 kx_231 rfl) ?_
    refine r_iconst 0 rfl ?_
    obtain ⟨v116, hv116⟩ : ∃ v, eA g0 233 0 = v := ⟨_, rfl⟩
    have tv116 := congrArg Int32.toInt hv116
    have wv116 := HI.t0 hI0
    rw [hv116] at wv116
    refine q_iald (Sh.arr hI98.1 ka_233) 0 rfl (by decide) v116 ((eA_c (hF99.2.1 233 (by decide))).trans hv116) ?_
    refine q_i2l (fun v117 hv117 => ?_)
    refine r_lconst 1 rfl ?_
    refine q_lsub (v117.toInt - 1) rfl (by omega) (fun v118 hv118 => ?_)
    refine q_inlS 15 rfl [.long v115, .long 0, .long v118] [] (Nat.le_of_ble_eq_true rfl) rfl ?_
    refine Ev.mk rfl rfl ⟨Nat.le_of_ble_eq_true rfl, Or.inl rfl⟩ ?_
    show At _ none _ _ (0, [(0, .long v115), (2, .long 0), (4, .long v118)], [], (_, _)) _
    refine At.enter rfl ?_
    refine r_lload_n rfl ?_
    refine r_lload_n rfl ?_
    refine r_lcmp _ rfl ?_
    refine r_ifs 6 rfl (fun c119 => ?_) (fun c119 => ?_)
    · have c119_ : v115.toInt < 0 := en_j_lt_t c119
      refine At.enter rfl ?_
      refine r_iconst 0 rfl ?_
      refine Ar.fall 18 rfl ?_
      refine At.enter rfl ?_
      refine q_iretz (by decide) ?_
      refine At.enter rfl ?_
      refine q_iretz (by decide) ?_
      refine At.enter rfl ?_
      refine r_ift (by decide) ?_
      refine At.enter rfl ?_
      refine r_iconst (-1) rfl ?_
      refine r_ireti ?_
      have x120 := HI.eqA hI0 (p := 233) (j := 0) (hv116)
      have zv121 : ((-1) : Int32).toInt = (-1) := rfl
      have y122 := (eA_ix (g := g0) (p := 233) (show 10 + 3 * a1.toInt = (3 * a1.toInt + 10) from by omega)).trans (congrArg Int32.toInt hv84)
      have y123 := congrArg Int32.toInt hv116
      exact ⟨_, rfl, hI98, hF99, _, rfl, by decide, ⟨(Or.inl rfl), (by first | (have e := NMo.yes (g := g0) (s := a1.toInt) (by omega); omega) | (have e := NMo.no (g := g0) (s := a1.toInt) (by omega); omega))⟩⟩
    · have c119_ : v115.toInt ≥ 0 := en_j_lt_f c119
      refine At.enter rfl ?_
      refine r_lload_n rfl ?_
      refine r_lload rfl ?_
      refine r_lcmp _ rfl ?_
      refine r_ifs 13 rfl (fun c124 => ?_) (fun c124 => ?_)
      · have c124_ : v115.toInt > v118.toInt := en_j_gt_t c124
        refine At.enter rfl ?_
        refine r_iconst 0 rfl ?_
        refine Ar.fall 18 rfl ?_
        refine At.enter rfl ?_
        refine q_iretz (by decide) ?_
        refine At.enter rfl ?_
        refine q_iretz (by decide) ?_
        refine At.enter rfl ?_
        refine r_ift (by decide) ?_
        refine At.enter rfl ?_
        refine r_iconst (-1) rfl ?_
        refine r_ireti ?_
        have x125 := HI.eqA hI0 (p := 233) (j := 0) (hv116)
        have zv126 : ((-1) : Int32).toInt = (-1) := rfl
        have y127 := (eA_ix (g := g0) (p := 233) (show 10 + 3 * a1.toInt = (3 * a1.toInt + 10) from by omega)).trans (congrArg Int32.toInt hv84)
        have y128 := congrArg Int32.toInt hv116
        exact ⟨_, rfl, hI98, hF99, _, rfl, by decide, ⟨(Or.inl rfl), (by first | (have e := NMo.yes (g := g0) (s := a1.toInt) (by omega); omega) | (have e := NMo.no (g := g0) (s := a1.toInt) (by omega); omega))⟩⟩
      · have c124_ : v115.toInt ≤ v118.toInt := en_j_gt_f c124
        refine At.enter rfl ?_
        refine r_iconst 1 rfl ?_
        refine r_goto ?_
        refine At.enter rfl ?_
        refine q_iretz (by decide) ?_
        refine At.enter rfl ?_
        refine q_iretz (by decide) ?_
        refine At.enter rfl ?_
        refine r_iff 25 rfl (by decide) ?_
        refine At.enter rfl ?_
        refine r_iload_n e105 ?_
        refine r_iload_n e106 ?_
        refine q_inlS 30 rfl [.int 0, .int x95] [] (Nat.le_of_ble_eq_true rfl) rfl ?_
        refine Ev.mk rfl rfl ⟨Nat.le_of_ble_eq_true rfl, Or.inl rfl⟩ ?_
        show At _ none _ _ (0, [(0, .int 0), (1, .int x95)], [], (_, _)) _
        refine At.enter rfl ?_
        refine r_iload_n rfl ?_
        refine r_iload_n rfl ?_
        refine r_ishr 0 (q_0shr _) ?_
        refine r_iconst 1 rfl ?_
        refine r_iand 0 (by decide) ?_
        refine r_iconst 1 rfl ?_
        refine r_ict (by decide) ?_
        refine At.enter rfl ?_
        refine r_iconst 0 rfl ?_
        refine Ar.fall 14 rfl ?_
        refine At.enter rfl ?_
        refine q_iretz (by decide) ?_
        refine At.enter rfl ?_
        refine r_iff 33 rfl (by decide) ?_
        refine At.enter rfl ?_
        refine r_iload_n e106 ?_
        refine r_ireti ?_
        have x129 := HI.eqA hI0 (p := 233) (j := 0) (hv116)
        have y130 := (eA_ix (g := g0) (p := 233) (show 10 + 3 * a1.toInt = (3 * a1.toInt + 10) from by omega)).trans (congrArg Int32.toInt hv84)
        have y131 := congrArg Int32.toInt hv116
        exact ⟨_, rfl, hI98, hF99, _, rfl, by omega, ⟨(by omega), (by first | (have e := NMo.yes (g := g0) (s := a1.toInt) (by omega); omega) | (have e := NMo.no (g := g0) (s := a1.toInt) (by omega); omega))⟩⟩

def F_X11_of_231 : List (Nat × Nat) := [(231, 0)]
def A_X11_of_231 : List Nat := []
set_option maxRecDepth 100000 in
set_option maxHeartbeats 4000000 in
theorem T_X11_of_231 (d : Nat) {N : Nat} {g0 : List en_E} (hI0 : HI g0) (a1 : Int32) (a2 : Int32) : Ev (d + 4) 175 [.ref 231, .int a1, .int a2] (g0, N) (fun w h' => ∃ g', h' = (g', N) ∧ HI g' ∧ Fr F_X11_of_231 A_X11_of_231 g0 g' ∧ ∃ r : Int32, w = some (.int r) ∧ True ∧ ((¬ (0 ≤ a1.toInt ∧ a1.toInt < (eA g0 233 0).toInt) ∨ a2.toInt < 0 ∨ 3 < a2.toInt → r.toInt = -1) ∧ (0 ≤ a1.toInt ∧ a1.toInt < (eA g0 233 0).toInt ∧ a2.toInt = 3 → r.toInt = NM g0 a1.toInt) ∧ (0 ≤ a1.toInt ∧ a1.toInt < (eA g0 233 0).toInt ∧ 0 ≤ a2.toInt ∧ a2.toInt ≤ 2 → r.toInt = (eA g0 233 (10 + 3 * a1.toInt + a2.toInt)).toInt))) := by
  have hF0 : Fr F_X11_of_231 A_X11_of_231 g0 g0 := Fr.rf
  refine Ev.mk rfl rfl ⟨Nat.le_of_ble_eq_true rfl, Or.inr (q_rc hI0.1 kx_231 rfl)⟩ ?_
  show At _ none _ _ (0, [(0, .ref 231), (1, .int a1), (2, .int a2)], [], (_, _)) _
  refine At.enter rfl ?_
  refine r_aload_n rfl ?_
  refine r_iconst 0 rfl ?_
  refine q_putI (Sh.int hI0.1 kx_231 rfl) rfl ?_
  have hI47 := HI.wI0 hI0 kx_231 rfl (p := 231) (b := 0) (v := 0) rfl
  have hF48 := Fr.wI (p := 231) (b := 0) (v := 0) hF0 rfl
  refine r_aload_n rfl ?_
  refine r_iload_n rfl ?_
  refine q_inlV 10 rfl [.ref 231, .int a1] [] (Nat.le_of_ble_eq_true rfl) rfl ?_
  refine Ev.mk rfl rfl ⟨Nat.le_of_ble_eq_true rfl, Or.inr (q_rc hI47.1 kx_231 rfl)⟩ ?_
  show At _ none _ _ (0, [(0, .ref 231), (1, .int a1)], [], (_, _)) _
  refine At.enter rfl ?_
  refine r_iload_n rfl ?_
  refine q_i2l (fun v49 hv49 => ?_)
  refine r_lconst 0 rfl ?_
  refine r_aload_n rfl ?_
  refine q_getR (Sh.ref hI47.1 kx_231 rfl) ?_
  refine r_iconst 0 rfl ?_
  obtain ⟨v50, hv50⟩ : ∃ v, eA g0 233 0 = v := ⟨_, rfl⟩
  have tv50 := congrArg Int32.toInt hv50
  have wv50 := HI.t0 hI0
  rw [hv50] at wv50
  refine q_iald (Sh.arr hI47.1 ka_233) 0 rfl (by decide) v50 ((eA_c (gA_sI)).trans hv50) ?_
  refine q_i2l (fun v51 hv51 => ?_)
  refine r_lconst 1 rfl ?_
  refine q_lsub (v51.toInt - 1) rfl (by omega) (fun v52 hv52 => ?_)
  refine q_inlS 15 rfl [.long v49, .long 0, .long v52] [] (Nat.le_of_ble_eq_true rfl) rfl ?_
  refine Ev.mk rfl rfl ⟨Nat.le_of_ble_eq_true rfl, Or.inl rfl⟩ ?_
  show At _ none _ _ (0, [(0, .long v49), (2, .long 0), (4, .long v52)], [], (_, _)) _
  refine At.enter rfl ?_
  refine r_lload_n rfl ?_
  refine r_lload_n rfl ?_
  refine r_lcmp _ rfl ?_
  refine r_ifs 6 rfl (fun c53 => ?_) (fun c53 => ?_)
  · have c53_ : v49.toInt < 0 := en_j_lt_t c53
    refine At.enter rfl ?_
    refine r_iconst 0 rfl ?_
    refine Ar.fall 18 rfl ?_
    refine At.enter rfl ?_
    refine q_iretz (by decide) ?_
    refine At.enter rfl ?_
    refine q_iretz (by decide) ?_
    refine At.enter rfl ?_
    refine r_ift (by decide) ?_
    refine At.enter rfl ?_
    refine r_iconst (-1) rfl ?_
    refine r_ireti ?_
    have zv54 : ((-1) : Int32).toInt = (-1) := rfl
    have x55 := HI.eqA hI0 (p := 233) (j := 0) (hv50)
    have y56 := congrArg Int32.toInt hv50
    have nme : 0 ≤ a1.toInt → a1.toInt < (eA g0 233 0).toInt → _ := fun h0 h1 => NMo.eq (g := g0) (s := a1.toInt) ⟨h0, h1⟩
    exact ⟨_, rfl, hI47, hF48, _, rfl, trivial, ⟨by omega, by omega, by omega⟩⟩
  · have c53_ : v49.toInt ≥ 0 := en_j_lt_f c53
    refine At.enter rfl ?_
    refine r_lload_n rfl ?_
    refine r_lload rfl ?_
    refine r_lcmp _ rfl ?_
    refine r_ifs 13 rfl (fun c57 => ?_) (fun c57 => ?_)
    · have c57_ : v49.toInt > v52.toInt := en_j_gt_t c57
      refine At.enter rfl ?_
      refine r_iconst 0 rfl ?_
      refine Ar.fall 18 rfl ?_
      refine At.enter rfl ?_
      refine q_iretz (by decide) ?_
      refine At.enter rfl ?_
      refine q_iretz (by decide) ?_
      refine At.enter rfl ?_
      refine r_ift (by decide) ?_
      refine At.enter rfl ?_
      refine r_iconst (-1) rfl ?_
      refine r_ireti ?_
      have zv58 : ((-1) : Int32).toInt = (-1) := rfl
      have x59 := HI.eqA hI0 (p := 233) (j := 0) (hv50)
      have y60 := congrArg Int32.toInt hv50
      have nme : 0 ≤ a1.toInt → a1.toInt < (eA g0 233 0).toInt → _ := fun h0 h1 => NMo.eq (g := g0) (s := a1.toInt) ⟨h0, h1⟩
      exact ⟨_, rfl, hI47, hF48, _, rfl, trivial, ⟨by omega, by omega, by omega⟩⟩
    · have c57_ : v49.toInt ≤ v52.toInt := en_j_gt_f c57
      refine At.enter rfl ?_
      refine r_iconst 1 rfl ?_
      refine r_goto ?_
      refine At.enter rfl ?_
      refine q_iretz (by decide) ?_
      refine At.enter rfl ?_
      refine q_iretz (by decide) ?_
      refine At.enter rfl ?_
      refine r_iff 13 rfl (by decide) ?_
      refine At.enter rfl ?_
      refine r_iload_n rfl ?_
      refine q_i2l (fun v61 hv61 => ?_)
      refine r_lconst 0 rfl ?_
      refine r_ldc2 3 rfl ?_
      refine q_inlS 22 rfl [.long v61, .long 0, .long 3] [] (Nat.le_of_ble_eq_true rfl) rfl ?_
      refine Ev.mk rfl rfl ⟨Nat.le_of_ble_eq_true rfl, Or.inl rfl⟩ ?_
      show At _ none _ _ (0, [(0, .long v61), (2, .long 0), (4, .long 3)], [], (_, _)) _
      refine At.enter rfl ?_
      refine r_lload_n rfl ?_
      refine r_lload_n rfl ?_
      refine r_lcmp _ rfl ?_
      refine r_ifs 6 rfl (fun c62 => ?_) (fun c62 => ?_)
      · have c62_ : v61.toInt < 0 := en_j_lt_t c62
        refine At.enter rfl ?_
        refine r_iconst 0 rfl ?_
        refine Ar.fall 18 rfl ?_
        refine At.enter rfl ?_
        refine q_iretz (by decide) ?_
        refine At.enter rfl ?_
        refine r_iff 25 rfl (by decide) ?_
        refine At.enter rfl ?_
        refine r_iconst (-1) rfl ?_
        refine r_ireti ?_
        have zv63 : ((-1) : Int32).toInt = (-1) := rfl
        have x64 := HI.eqA hI0 (p := 233) (j := 0) (hv50)
        have y65 := congrArg Int32.toInt hv50
        have nme : 0 ≤ a1.toInt → a1.toInt < (eA g0 233 0).toInt → _ := fun h0 h1 => NMo.eq (g := g0) (s := a1.toInt) ⟨h0, h1⟩
        exact ⟨_, rfl, hI47, hF48, _, rfl, trivial, ⟨by omega, by omega, by omega⟩⟩
      · have c62_ : v61.toInt ≥ 0 := en_j_lt_f c62
        refine At.enter rfl ?_
        refine r_lload_n rfl ?_
        refine r_lload rfl ?_
        refine r_lcmp _ rfl ?_
        refine r_ifs 13 rfl (fun c66 => ?_) (fun c66 => ?_)
        · have c66_ : v61.toInt > 3 := en_j_gt_t c66
          refine At.enter rfl ?_
          refine r_iconst 0 rfl ?_
          refine Ar.fall 18 rfl ?_
          refine At.enter rfl ?_
          refine q_iretz (by decide) ?_
          refine At.enter rfl ?_
          refine r_iff 25 rfl (by decide) ?_
          refine At.enter rfl ?_
          refine r_iconst (-1) rfl ?_
          refine r_ireti ?_
          have zv67 : ((-1) : Int32).toInt = (-1) := rfl
          have x68 := HI.eqA hI0 (p := 233) (j := 0) (hv50)
          have y69 := congrArg Int32.toInt hv50
          have nme : 0 ≤ a1.toInt → a1.toInt < (eA g0 233 0).toInt → _ := fun h0 h1 => NMo.eq (g := g0) (s := a1.toInt) ⟨h0, h1⟩
          exact ⟨_, rfl, hI47, hF48, _, rfl, trivial, ⟨by omega, by omega, by omega⟩⟩
        · have c66_ : v61.toInt ≤ 3 := en_j_gt_f c66
          refine At.enter rfl ?_
          refine r_iconst 1 rfl ?_
          refine r_goto ?_
          refine At.enter rfl ?_
          refine q_iretz (by decide) ?_
          refine At.enter rfl ?_
          refine r_ift (by decide) ?_
          refine At.enter rfl ?_
          refine r_iload_n rfl ?_
          refine r_iconst 3 rfl ?_
          refine r_ics 32 rfl (fun c70 => ?_) (fun c70 => ?_)
          · have c70_ : a2.toInt ≠ 3 := en_i_ne_t c70
            refine At.enter rfl ?_
            refine r_aload_n rfl ?_
            refine r_iload_n rfl ?_
            refine r_iload_n rfl ?_
            refine q_inlV 47 rfl [.ref 231, .int a1, .int a2] [] (Nat.le_of_ble_eq_true rfl) rfl ?_
            refine Ev.mk rfl rfl ⟨Nat.le_of_ble_eq_true rfl, Or.inr (q_rc hI47.1 kx_231 rfl)⟩ ?_
            show At _ none _ _ (0, [(0, .ref 231), (1, .int a1), (2, .int a2)], [], (_, _)) _
            refine At.enter rfl ?_
            refine r_aload_n rfl ?_
            refine q_getR (Sh.ref hI47.1 kx_231 rfl) ?_
            refine r_bipush 10 rfl ?_
            refine r_iconst 3 rfl ?_
            refine r_iload_n rfl ?_
            refine q_imul (3 * a1.toInt) rfl (by omega) (fun v71 hv71 => ?_)
            refine q_iadd (10 + v71.toInt) rfl (by omega) (fun v72 hv72 => ?_)
            refine r_iload_n rfl ?_
            refine q_iadd (v72.toInt + a2.toInt) rfl (by omega) (fun v73 hv73 => ?_)
            obtain ⟨v74, hv74⟩ : ∃ v, eA g0 233 (3 * a1.toInt + a2.toInt + 10) = v := ⟨_, rfl⟩
            refine q_iald (Sh.arr hI47.1 ka_233) (3 * a1.toInt + a2.toInt + 10) (by omega) (by omega) v74 ((eA_c (gA_sI)).trans hv74) ?_
            refine q_ireti ?_
            refine At.enter rfl ?_
            refine r_ireti ?_
            have x75 := HI.eqA hI0 (p := 233) (j := 0) (hv50)
            have y76 := congrArg Int32.toInt hv50
            have y77 := (eA_ix (g := g0) (p := 233) (show 10 + 3 * a1.toInt + a2.toInt = (3 * a1.toInt + a2.toInt + 10) from by omega)).trans (congrArg Int32.toInt hv74)
            have nme : 0 ≤ a1.toInt → a1.toInt < (eA g0 233 0).toInt → _ := fun h0 h1 => NMo.eq (g := g0) (s := a1.toInt) ⟨h0, h1⟩
            exact ⟨_, rfl, hI47, hF48, _, rfl, trivial, ⟨by omega, by omega, by omega⟩⟩
          · have c70_ : a2.toInt = 3 := en_i_ne_f c70
            refine At.enter rfl ?_
            refine r_aload_n rfl ?_
            refine r_iload_n rfl ?_
            refine r_iconst 0 rfl ?_
            refine r_callV 38 rfl [.ref 231, .int a1, .int 0] [] (Nat.le_of_ble_eq_true rfl) rfl (T_X11_nextOf0_231 _ hI47 a1 (by omega)) ?_
            rintro _ _ ⟨g78, rfl, hI79, hF80, v81, rfl, hr82⟩
            refine At.sti ?_
            have hF83 := Fr.tr hF48 hF80 rfl rfl
            have zv84 : (0 : Int32).toInt = 0 := rfl
            rw [eA_c ((gA_sI))] at hr82
            rw [NMo.c ((gA_sI))] at hr82
            refine At.enter rfl ?_
            refine r_goto ?_
            refine At.enter rfl ?_
            refine r_ireti ?_
            have x85 := HI.eqA hI0 (p := 233) (j := 0) (hv50)
            have y86 := congrArg Int32.toInt hv50
            have nme : 0 ≤ a1.toInt → a1.toInt < (eA g0 233 0).toInt → _ := fun h0 h1 => NMo.eq (g := g0) (s := a1.toInt) ⟨h0, h1⟩
            exact ⟨_, rfl, hI79, hF83, _, rfl, trivial, ⟨by omega, by omega, by omega⟩⟩
