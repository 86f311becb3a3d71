def F_X2_costOf_223 : List (Nat × Nat) := [(185, 3), (223, 5), (223, 6)]
def A_X2_costOf_223 : List Nat := [224, 226]
set_option maxRecDepth 100000 in
set_option maxHeartbeats 4000000 in
theorem T_X2_costOf_223 (d : Nat) {N : Nat} {g0 : List en_E} (hI0 : HI g0) (a1 : Int32) : Ev (d + 6) 39 [.ref 223, .int a1] (g0, N) (fun w h' => ∃ g', h' = (g', N) ∧ HI g' ∧ Fr F_X2_costOf_223 A_X2_costOf_223 g0 g' ∧ ∃ r : Int32, w = some (.int r) ∧ True ∧ CSP g0 g' a1.toInt r.toInt) := by
  have hF0 : Fr F_X2_costOf_223 A_X2_costOf_223 g0 g0 := Fr.rf
  refine Ev.mk rfl rfl ⟨Nat.le_of_ble_eq_true rfl, Or.inr (q_rc hI0.1 kx_223 rfl)⟩ ?_
  show At _ none _ _ (0, [(0, .ref 223), (1, .int a1)], [], (_, _)) _
  refine At.enter rfl ?_
  refine r_aload_n rfl ?_
  refine r_callV 4 rfl [.ref 223] [] (Nat.le_of_ble_eq_true rfl) rfl (T_X2_begin_223 _ hI0) ?_
  rintro _ _ ⟨g27, rfl, hI28, hF29, rfl, hr31⟩
  refine At.stn ?_
  have hF32 := Fr.tr hF0 hF29 rfl rfl
  refine At.enter rfl ?_
  refine r_aload_n rfl ?_
  refine r_iload_n rfl ?_
  refine r_iconst (-1) rfl ?_
  refine r_callV 10 rfl [.ref 223, .int a1, .int (-1)] [] (Nat.le_of_ble_eq_true rfl) rfl (T_X2_costBeside_223 _ hI28 a1 (-1)) ?_
  rintro _ _ ⟨g33, rfl, hI34, hF35, v36, rfl, hr37⟩
  refine At.sti ?_
  have hF38 := Fr.tr hF32 hF35 rfl rfl
  have zv39 : ((-1) : Int32).toInt = (-1) := rfl
  refine At.enter rfl ?_
  refine r_ireti ?_
  exact ⟨_, rfl, hI34, hF38, _, rfl, trivial, (CSP_mk hr31 (show CBP _ _ a1.toInt (-1) _ from hr37.2))⟩

def F_X2_incomeOf_223 : List (Nat × Nat) := [(185, 3), (223, 5), (223, 6), (223, 7), (223, 8), (223, 9)]
def A_X2_incomeOf_223 : List Nat := [224, 225, 226]
set_option maxRecDepth 100000 in
set_option maxHeartbeats 4000000 in
theorem T_X2_incomeOf_223 (d : Nat) {N : Nat} {g0 : List en_E} (hI0 : HI g0) (a1 : Int32) (h_a1 : 0 ≤ a1.toInt ∧ a1.toInt ≤ 11) : Ev (d + 7) 40 [.ref 223, .int a1] (g0, N) (fun w h' => ∃ g', h' = (g', N) ∧ HI g' ∧ Fr F_X2_incomeOf_223 A_X2_incomeOf_223 g0 g' ∧ ∃ r : Int32, w = some (.int r) ∧ True ∧ IOP g0 g' a1.toInt r.toInt) := by
  have hF0 : Fr F_X2_incomeOf_223 A_X2_incomeOf_223 g0 g0 := Fr.rf
  refine Ev.mk rfl rfl ⟨Nat.le_of_ble_eq_true rfl, Or.inr (q_rc hI0.1 kx_223 rfl)⟩ ?_
  show At _ none _ _ (0, [(0, .ref 223), (1, .int a1)], [], (_, _)) _
  refine At.enter rfl ?_
  refine r_aload_n rfl ?_
  refine r_callV 4 rfl [.ref 223] [] (Nat.le_of_ble_eq_true rfl) rfl (T_X2_begin_223 _ hI0) ?_
  rintro _ _ ⟨g27, rfl, hI28, hF29, rfl, hr31⟩
  refine At.stn ?_
  have hF32 := Fr.tr hF0 hF29 rfl rfl
  refine At.enter rfl ?_
  refine r_aload_n rfl ?_
  refine r_iload_n rfl ?_
  refine r_callV 9 rfl [.ref 223, .int a1] [] (Nat.le_of_ble_eq_true rfl) rfl (T_X2_seekAnswer_223 _ hI28 a1 (by omega)) ?_
  rintro _ _ ⟨g33, rfl, hI34, hF35, rfl, hr37⟩
  refine At.stn ?_
  have hF38 := Fr.tr hF32 hF35 rfl rfl
  refine At.enter rfl ?_
  refine r_aload_n rfl ?_
  obtain ⟨v39, hv39⟩ : ∃ v, gI g33 223 9 = v := ⟨_, rfl⟩
  refine q_getI (Sh.int hI34.1 kx_223 rfl) v39 hv39 ?_
  refine r_ireti ?_
  exact ⟨_, rfl, hI34, hF38, _, rfl, trivial, (IOP_mk (SOP_mk hr31 hr37) (congrArg Int32.toInt hv39))⟩

def F_X2_answerOf_223 : List (Nat × Nat) := [(185, 3), (223, 5), (223, 6), (223, 7), (223, 8), (223, 9)]
def A_X2_answerOf_223 : List Nat := [224, 225, 226]
set_option maxRecDepth 100000 in
set_option maxHeartbeats 4000000 in
theorem T_X2_answerOf_223 (d : Nat) {N : Nat} {g0 : List en_E} (hI0 : HI g0) (a1 : Int32) (h_a1 : 0 ≤ a1.toInt ∧ a1.toInt ≤ 11) (a2 : Int32) : Ev (d + 7) 41 [.ref 223, .int a1, .int a2] (g0, N) (fun w h' => ∃ g', h' = (g', N) ∧ HI g' ∧ Fr F_X2_answerOf_223 A_X2_answerOf_223 g0 g' ∧ ∃ r : Int32, w = some (.int r) ∧ True ∧ AOP g0 g' a1.toInt a2.toInt r.toInt) := by
  have hF0 : Fr F_X2_answerOf_223 A_X2_answerOf_223 g0 g0 := Fr.rf
  refine Ev.mk rfl rfl ⟨Nat.le_of_ble_eq_true rfl, Or.inr (q_rc hI0.1 kx_223 rfl)⟩ ?_
  show At _ none _ _ (0, [(0, .ref 223), (1, .int a1), (2, .int a2)], [], (_, _)) _
  refine At.enter rfl ?_
  refine r_aload_n rfl ?_
  refine r_callV 4 rfl [.ref 223] [] (Nat.le_of_ble_eq_true rfl) rfl (T_X2_begin_223 _ hI0) ?_
  rintro _ _ ⟨g31, rfl, hI32, hF33, rfl, hr35⟩
  refine At.stn ?_
  have hF36 := Fr.tr hF0 hF33 rfl rfl
  refine At.enter rfl ?_
  refine r_aload_n rfl ?_
  refine r_iload_n rfl ?_
  refine r_callV 9 rfl [.ref 223, .int a1] [] (Nat.le_of_ble_eq_true rfl) rfl (T_X2_seekAnswer_223 _ hI32 a1 (by omega)) ?_
  rintro _ _ ⟨g37, rfl, hI38, hF39, rfl, hr41⟩
  refine At.stn ?_
  have hF42 := Fr.tr hF36 hF39 rfl rfl
  refine At.enter rfl ?_
  refine r_iload_n rfl ?_
  refine r_ifs 13 rfl (fun c43 => ?_) (fun c43 => ?_)
  · have c43_ : a2.toInt ≠ 0 := en_k_ne_t c43
    refine At.enter rfl ?_
    refine r_aload_n rfl ?_
    obtain ⟨v44, hv44⟩ : ∃ v, gI g37 223 8 = v := ⟨_, rfl⟩
    refine q_getI (Sh.int hI38.1 kx_223 rfl) v44 hv44 ?_
    refine Ar.fall 24 rfl ?_
    refine At.enter rfl ?_
    refine r_ireti ?_
    exact ⟨_, rfl, hI38, hF42, _, rfl, trivial, (AOP_mk (SOP_mk hr35 hr41) (Or.inr ⟨by omega, congrArg Int32.toInt hv44⟩))⟩
  · have c43_ : a2.toInt = 0 := en_k_ne_f c43
    refine At.enter rfl ?_
    refine r_aload_n rfl ?_
    obtain ⟨v45, hv45⟩ : ∃ v, gI g37 223 7 = v := ⟨_, rfl⟩
    refine q_getI (Sh.int hI38.1 kx_223 rfl) v45 hv45 ?_
    refine r_goto ?_
    refine At.enter rfl ?_
    refine r_ireti ?_
    exact ⟨_, rfl, hI38, hF42, _, rfl, trivial, (AOP_mk (SOP_mk hr35 hr41) (Or.inl ⟨by omega, congrArg Int32.toInt hv45⟩))⟩

def F_X2_settled_223 : List (Nat × Nat) := []
def A_X2_settled_223 : List Nat := []
set_option maxRecDepth 100000 in
set_option maxHeartbeats 4000000 in
theorem T_X2_settled_223 (d : Nat) {N : Nat} {g0 : List en_E} (hI0 : HI g0) (a1 : Int32) : Ev (d + 2) 44 [.ref 223, .int a1] (g0, N) (fun w h' => ∃ g', h' = (g', N) ∧ HI g' ∧ Fr F_X2_settled_223 A_X2_settled_223 g0 g' ∧ ∃ r : Int32, w = some (.int r) ∧ True ∧ SEDP g0 a1.toInt r.toInt) := by
  have hF0 : Fr F_X2_settled_223 A_X2_settled_223 g0 g0 := Fr.rf
  refine Ev.mk rfl rfl ⟨Nat.le_of_ble_eq_true rfl, Or.inr (q_rc hI0.1 kx_223 rfl)⟩ ?_
  show At _ none _ _ (0, [(0, .ref 223), (1, .int a1)], [], (_, _)) _
  refine At.enter rfl ?_
  refine r_aload_n rfl ?_
  refine q_getR (Sh.ref hI0.1 kx_223 rfl) ?_
  refine r_iload_n rfl ?_
  refine q_inlV 8 rfl [.ref 1, .int a1] [] (Nat.le_of_ble_eq_true rfl) rfl ?_
  refine Ev.mk rfl rfl ⟨Nat.le_of_ble_eq_true rfl, Or.inr (q_rc hI0.1 kx_1 rfl)⟩ ?_
  show At _ none _ _ (0, [(0, .ref 1), (1, .int a1)], [], (_, _)) _
  refine At.enter rfl ?_
  refine r_iload_n rfl ?_
  refine r_ifs 4 rfl (fun c17 => ?_) (fun c17 => ?_)
  · have c17_ : a1.toInt < 0 := en_k_lt_t c17
    refine At.enter rfl ?_
    refine r_iconst 0 rfl ?_
    refine Ar.fall 17 rfl ?_
    refine At.enter rfl ?_
    refine q_iretz (by decide) ?_
    refine At.enter rfl ?_
    refine r_ift (by decide) ?_
    refine At.enter rfl ?_
    refine r_aload_n rfl ?_
    obtain ⟨v18, hv18⟩ : ∃ v, gI g0 223 11 = v := ⟨_, rfl⟩
    refine q_getI (Sh.int hI0.1 kx_223 rfl) v18 hv18 ?_
    refine Ar.fall 24 rfl ?_
    refine At.enter rfl ?_
    refine r_ireti ?_
    exact ⟨_, rfl, hI0, hF0, _, rfl, trivial, ⟨fun z => False.elim (by have z1 := z.1; have z2 := z.2; clear z; omega), fun _ => (congrArg Int32.toInt hv18).symm⟩⟩
  · have c17_ : a1.toInt ≥ 0 := en_k_lt_f c17
    refine At.enter rfl ?_
    refine r_iload_n rfl ?_
    refine r_aload_n rfl ?_
    obtain ⟨v19, hv19⟩ : ∃ v, gI g0 1 0 = v := ⟨_, rfl⟩
    have rv19 := RgF.at hI0.2.1 (p := 1) (b := 0) rfl
    rw [hv19] at rv19
    dsimp only at rv19
    refine q_getI (Sh.int hI0.1 kx_1 rfl) v19 hv19 ?_
    have bv21 := q_bnd a1
    have bv22 := q_bnd v19
    refine r_ics 12 rfl (fun c20 => ?_) (fun c20 => ?_)
    · have c20_ : a1.toInt ≥ v19.toInt := en_i_ge_t c20
      refine At.enter rfl ?_
      refine r_iconst 0 rfl ?_
      refine Ar.fall 17 rfl ?_
      refine At.enter rfl ?_
      refine q_iretz (by decide) ?_
      refine At.enter rfl ?_
      refine r_ift (by decide) ?_
      refine At.enter rfl ?_
      refine r_aload_n rfl ?_
      obtain ⟨v23, hv23⟩ : ∃ v, gI g0 223 11 = v := ⟨_, rfl⟩
      refine q_getI (Sh.int hI0.1 kx_223 rfl) v23 hv23 ?_
      refine Ar.fall 24 rfl ?_
      refine At.enter rfl ?_
      refine r_ireti ?_
      exact ⟨_, rfl, hI0, hF0, _, rfl, trivial, ⟨fun z => False.elim (by have z1 := z.1; have z2 := z.2; clear z; have y := congrArg Int32.toInt hv19; omega), fun _ => (congrArg Int32.toInt hv23).symm⟩⟩
    · have c20_ : a1.toInt < v19.toInt := en_i_ge_f c20
      refine At.enter rfl ?_
      refine r_iconst 1 rfl ?_
      refine r_goto ?_
      refine At.enter rfl ?_
      refine q_iretz (by decide) ?_
      refine At.enter rfl ?_
      refine r_iff 11 rfl (by decide) ?_
      refine At.enter rfl ?_
      refine r_aload_n rfl ?_
      refine q_getR (Sh.ref hI0.1 kx_223 rfl) ?_
      refine r_iload_n rfl ?_
      obtain ⟨v24, hv24⟩ : ∃ v, eA g0 227 a1.toInt = v := ⟨_, rfl⟩
      refine q_iald (Sh.arr hI0.1 ka_227) a1.toInt rfl (by omega) v24 hv24 ?_
      refine r_goto ?_
      refine At.enter rfl ?_
      refine r_ireti ?_
      exact ⟨_, rfl, hI0, hF0, _, rfl, trivial, ⟨fun _ => (congrArg Int32.toInt hv24).symm, fun z => absurd (show _ from ⟨by have y := congrArg Int32.toInt hv19; omega, by have y := congrArg Int32.toInt hv19; omega⟩) z⟩⟩

def F_X10_refused_0 : List (Nat × Nat) := [(0, 17)]
def A_X10_refused_0 : List Nat := [230]
set_option maxRecDepth 100000 in
set_option maxHeartbeats 4000000 in
theorem T_X10_refused_0 (d : Nat) {N : Nat} {g0 : List en_E} (hI0 : HI g0) (a1 : Int32) (h_a1 : (-6) ≤ a1.toInt ∧ a1.toInt ≤ 0) : Ev (d + 2) 144 [.ref 0, .int a1] (g0, N) (fun w h' => ∃ g', h' = (g', N) ∧ HI g' ∧ Fr F_X10_refused_0 A_X10_refused_0 g0 g' ∧ ∃ r : Int32, w = some (.int r) ∧ ((-6) ≤ r.toInt ∧ r.toInt ≤ 0) ∧ (r.toInt = a1.toInt)) := by
  have hF0 : Fr F_X10_refused_0 A_X10_refused_0 g0 g0 := Fr.rf
  refine Ev.mk rfl rfl ⟨Nat.le_of_ble_eq_true rfl, Or.inr (q_rc hI0.1 kx_0 rfl)⟩ ?_
  show At _ none _ _ (0, [(0, .ref 0), (1, .int a1)], [], (_, _)) _
  refine At.enter rfl ?_
  refine r_aload_n rfl ?_
  refine r_iload_n rfl ?_
  refine q_putI (Sh.int hI0.1 kx_0 rfl) rfl ?_
  have hI21 := HI.wI0 hI0 kx_0 rfl (p := 0) (b := 17) (v := a1) rfl
  have hF22 := Fr.wI (p := 0) (b := 17) (v := a1) hF0 rfl
  refine r_iload_n rfl ?_
  refine q_ineg (-a1.toInt) rfl (by omega) (fun v23 hv23 => ?_)
  refine r_iconst 0 rfl ?_
  refine r_bipush 6 rfl ?_
  refine q_inlS 13 rfl [.int v23, .int 0, .int 6] [] (Nat.le_of_ble_eq_true rfl) rfl ?_
  refine Ev.mk rfl rfl ⟨Nat.le_of_ble_eq_true rfl, Or.inl rfl⟩ ?_
  show At _ none _ _ (0, [(0, .int v23), (1, .int 0), (2, .int 6)], [], (_, _)) _
  refine At.enter rfl ?_
  refine r_iload_n rfl ?_
  refine r_iload_n rfl ?_
  refine r_ics 5 rfl (fun c24 => ?_) (fun c24 => ?_)
  · have c24_ : v23.toInt < 0 := en_i_lt_t c24
    exfalso; omega
  · have c24_ : v23.toInt ≥ 0 := en_i_lt_f c24
    refine At.enter rfl ?_
    refine r_iload_n rfl ?_
    refine r_iload_n rfl ?_
    refine r_ics 10 rfl (fun c25 => ?_) (fun c25 => ?_)
    · have c25_ : v23.toInt > 6 := en_i_gt_t c25
      exfalso; omega
    · have c25_ : v23.toInt ≤ 6 := en_i_gt_f c25
      refine At.enter rfl ?_
      refine r_iconst 1 rfl ?_
      refine r_goto ?_
      refine At.enter rfl ?_
      refine q_iretz (by decide) ?_
      refine At.enter rfl ?_
      refine r_iff 16 rfl (by decide) ?_
      refine At.enter rfl ?_
      refine r_aload_n rfl ?_
      refine q_getR (Sh.ref hI21.1 kx_0 rfl) ?_
      refine r_iload_n rfl ?_
      refine q_ineg (-a1.toInt) rfl (by omega) (fun v26 hv26 => ?_)
      refine r_dup2 ⟨rfl, rfl⟩ ?_
      obtain ⟨v27, hv27⟩ : ∃ v, eA g0 230 ((-1) * a1.toInt) = v := ⟨_, rfl⟩
      refine q_iald (Sh.arr hI21.1 ka_230) ((-1) * a1.toInt) (by omega) (by omega) v27 ((eA_c (gA_sI)).trans hv27) ?_
      refine r_iconst 1 rfl ?_
      refine q_iaddO (fun v28 _ => ?_)
      refine q_iast (Sh.arr hI21.1 ka_230) (((-1) * a1.toInt)) (by omega) (by omega) ?_
      have hI29 := HI.wA0 hI21 ka_230 (p := 230) rfl rfl (((-1) * a1.toInt)) (v28)
      have hF30 := Fr.wA (p := 230) (j := ((-1) * a1.toInt)) (v := v28) hF22 rfl
      refine Ar.fall 27 rfl ?_
      refine At.enter rfl ?_
      refine r_iload_n rfl ?_
      refine r_ireti ?_
      exact ⟨_, rfl, hI29, hF30, _, rfl, by omega, (by omega)⟩

def F_X10_changed_0 : List (Nat × Nat) := [(0, 14), (220, 2), (222, 2), (223, 5), (223, 10)]
def A_X10_changed_0 : List Nat := []
set_option maxRecDepth 100000 in
set_option maxHeartbeats 4000000 in
theorem T_X10_changed_0 (d : Nat) {N : Nat} {g0 : List en_E} (hI0 : HI g0) : Ev (d + 2) 146 [.ref 0] (g0, N) (fun w h' => ∃ g', h' = (g', N) ∧ HI g' ∧ Fr F_X10_changed_0 A_X10_changed_0 g0 g' ∧ w = none ∧ ((gI g' 223 5).toInt = 0 ∧ (gI g' 223 10).toInt = 0)) := by
  have hF0 : Fr F_X10_changed_0 A_X10_changed_0 g0 g0 := Fr.rf
  refine Ev.mk rfl rfl ⟨Nat.le_of_ble_eq_true rfl, Or.inr (q_rc hI0.1 kx_0 rfl)⟩ ?_
  show At _ none _ _ (0, [(0, .ref 0)], [], (_, _)) _
  refine At.enter rfl ?_
  refine r_aload_n rfl ?_
  refine r_iconst 0 rfl ?_
  refine q_putI (Sh.int hI0.1 kx_0 rfl) rfl ?_
  have hI21 := HI.wI0 hI0 kx_0 rfl (p := 0) (b := 14) (v := 0) rfl
  have hF22 := Fr.wI (p := 0) (b := 14) (v := 0) hF0 rfl
  refine r_aload_n rfl ?_
  refine q_getR (Sh.ref hI21.1 kx_0 rfl) ?_
  refine q_inlV 12 rfl [.ref 220] [] (Nat.le_of_ble_eq_true rfl) rfl ?_
  refine Ev.mk rfl rfl ⟨Nat.le_of_ble_eq_true rfl, Or.inr (q_rc hI21.1 kx_220 rfl)⟩ ?_
  show At _ none _ _ (0, [(0, .ref 220)], [], (_, _)) _
  refine At.enter rfl ?_
  refine r_aload_n rfl ?_
  refine r_iconst (-1) rfl ?_
  refine q_putI (Sh.int hI21.1 kx_220 rfl) rfl ?_
  have hI23 := HI.wI0 hI21 kx_220 rfl (p := 220) (b := 2) (v := (-1)) rfl
  have hF24 := Fr.wI (p := 220) (b := 2) (v := (-1)) hF22 rfl
  refine q_vret ?_
  refine At.enter rfl ?_
  refine r_aload_n rfl ?_
  refine q_getR (Sh.ref hI23.1 kx_0 rfl) ?_
  refine q_inlV 19 rfl [.ref 222] [] (Nat.le_of_ble_eq_true rfl) rfl ?_
  refine Ev.mk rfl rfl ⟨Nat.le_of_ble_eq_true rfl, Or.inr (q_rc hI23.1 kx_222 rfl)⟩ ?_
  show At _ none _ _ (0, [(0, .ref 222)], [], (_, _)) _
  refine At.enter rfl ?_
  refine r_aload_n rfl ?_
  refine r_iconst 0 rfl ?_
  refine q_putI (Sh.int hI23.1 kx_222 rfl) rfl ?_
  have hI25 := HI.wI0 hI23 kx_222 rfl (p := 222) (b := 2) (v := 0) rfl
  have hF26 := Fr.wI (p := 222) (b := 2) (v := 0) hF24 rfl
  refine q_vret ?_
  refine At.enter rfl ?_
  refine r_aload_n rfl ?_
  refine q_getR (Sh.ref hI25.1 kx_0 rfl) ?_
  refine q_inlV 26 rfl [.ref 223] [] (Nat.le_of_ble_eq_true rfl) rfl ?_
  refine Ev.mk rfl rfl ⟨Nat.le_of_ble_eq_true rfl, Or.inr (q_rc hI25.1 kx_223 rfl)⟩ ?_
  show At _ none _ _ (0, [(0, .ref 223)], [], (_, _)) _
  refine At.enter rfl ?_
  refine r_aload_n rfl ?_
  refine r_iconst 0 rfl ?_
  refine q_putI (Sh.int hI25.1 kx_223 rfl) rfl ?_
  have hI27 := HI.wI0 hI25 kx_223 rfl (p := 223) (b := 5) (v := 0) rfl
  have hF28 := Fr.wI (p := 223) (b := 5) (v := 0) hF26 rfl
  refine r_aload_n rfl ?_
  refine r_iconst 0 rfl ?_
  refine q_putI (Sh.int hI27.1 kx_223 rfl) rfl ?_
  have hI29 := HI.wI0 hI27 kx_223 rfl (p := 223) (b := 10) (v := 0) rfl
  have hF30 := Fr.wI (p := 223) (b := 10) (v := 0) hF28 rfl
  refine q_vret ?_
  refine At.enter rfl ?_
  refine r_vret ?_
  exact ⟨_, rfl, hI29, hF30, rfl, ⟨((congrArg Int32.toInt (((gI_sI_ne (by decide)).trans (gI_sI_eq hI25.1 kx_223 rfl _)))).trans rfl), ((congrArg Int32.toInt ((gI_sI_eq hI27.1 kx_223 rfl _))).trans rfl)⟩⟩

def F_X10_whyNoLoad_0 : List (Nat × Nat) := []
def A_X10_whyNoLoad_0 : List Nat := []
set_option maxRecDepth 100000 in
set_option maxHeartbeats 4000000 in
theorem T_X10_whyNoLoad_0 (d : Nat) {N : Nat} {g0 : List en_E} (hI0 : HI g0) (a1 : Int32) (a2 : Int32) (a3 : Int32) (a4 : Int32) (a5 : Int32) (a6 : Int32) : Ev (d + 2) 149 [.ref 0, .int a1, .int a2, .int a3, .int a4, .int a5, .int a6] (g0, N) (fun w h' => ∃ g', h' = (g', N) ∧ HI g' ∧ Fr F_X10_whyNoLoad_0 A_X10_whyNoLoad_0 g0 g' ∧ ∃ r : Int32, w = some (.int r) ∧ ((-5) ≤ r.toInt ∧ r.toInt ≤ 0) ∧ (WNL (gI g0 1 0).toInt (gI g0 1 4).toInt a1.toInt a2.toInt a3.toInt a4.toInt a5.toInt a6.toInt r.toInt)) := by
  have hF0 : Fr F_X10_whyNoLoad_0 A_X10_whyNoLoad_0 g0 g0 := Fr.rf
  refine Ev.mk rfl rfl ⟨Nat.le_of_ble_eq_true rfl, Or.inr (q_rc hI0.1 kx_0 rfl)⟩ ?_
  show At _ none _ _ (0, [(0, .ref 0), (1, .int a1), (2, .int a2), (3, .int a3), (4, .int a4), (5, .int a5), (6, .int a6)], [], (_, _)) _
  refine At.enter rfl ?_
  refine r_iload_n rfl ?_
  refine r_iconst 1 rfl ?_
  refine r_bipush 9 rfl ?_
  refine q_inlS 7 rfl [.int a1, .int 1, .int 9] [] (Nat.le_of_ble_eq_true rfl) rfl ?_
  refine Ev.mk rfl rfl ⟨Nat.le_of_ble_eq_true rfl, Or.inl rfl⟩ ?_
  show At _ none _ _ (0, [(0, .int a1), (1, .int 1), (2, .int 9)], [], (_, _)) _
  refine At.enter rfl ?_
  refine r_iload_n rfl ?_
  refine r_iload_n rfl ?_
  refine r_ics 5 rfl (fun c37 => ?_) (fun c37 => ?_)
  · have c37_ : a1.toInt < 1 := en_i_lt_t c37
    refine At.enter rfl ?_
    refine r_iconst 0 rfl ?_
    refine Ar.fall 15 rfl ?_
    refine At.enter rfl ?_
    refine q_iretz (by decide) ?_
    refine At.enter rfl ?_
    refine r_ift (by decide) ?_
    refine At.enter rfl ?_
    refine r_iconst (-1) rfl ?_
    refine r_ireti ?_
    have zv38 : ((-1) : Int32).toInt = (-1) := rfl
    obtain ⟨v39, hv39⟩ : ∃ v, gI g0 1 0 = v := ⟨_, rfl⟩
    have rv39 := RgF.at hI0.2.1 (p := 1) (b := 0) rfl
    rw [hv39] at rv39
    dsimp only at rv39
    have tv39 := congrArg Int32.toInt hv39
    obtain ⟨v41, hv41⟩ : ∃ v, gI g0 1 4 = v := ⟨_, rfl⟩
    have rv41 := RgF.at hI0.2.1 (p := 1) (b := 4) rfl
    rw [hv41] at rv41
    dsimp only at rv41
    have tv41 := congrArg Int32.toInt hv41
    exact ⟨_, rfl, hI0, hF0, _, rfl, by decide, ⟨by omega, by omega, by omega, by omega⟩⟩
  · have c37_ : a1.toInt ≥ 1 := en_i_lt_f c37
    refine At.enter rfl ?_
    refine r_iload_n rfl ?_
    refine r_iload_n rfl ?_
    refine r_ics 10 rfl (fun c43 => ?_) (fun c43 => ?_)
    · have c43_ : a1.toInt > 9 := en_i_gt_t c43
      refine At.enter rfl ?_
      refine r_iconst 0 rfl ?_
      refine Ar.fall 15 rfl ?_
      refine At.enter rfl ?_
      refine q_iretz (by decide) ?_
      refine At.enter rfl ?_
      refine r_ift (by decide) ?_
      refine At.enter rfl ?_
      refine r_iconst (-1) rfl ?_
      refine r_ireti ?_
      have zv44 : ((-1) : Int32).toInt = (-1) := rfl
      obtain ⟨v45, hv45⟩ : ∃ v, gI g0 1 0 = v := ⟨_, rfl⟩
      have rv45 := RgF.at hI0.2.1 (p := 1) (b := 0) rfl
      rw [hv45] at rv45
      dsimp only at rv45
      have tv45 := congrArg Int32.toInt hv45
      obtain ⟨v47, hv47⟩ : ∃ v, gI g0 1 4 = v := ⟨_, rfl⟩
      have rv47 := RgF.at hI0.2.1 (p := 1) (b := 4) rfl
      rw [hv47] at rv47
      dsimp only at rv47
      have tv47 := congrArg Int32.toInt hv47
      exact ⟨_, rfl, hI0, hF0, _, rfl, by decide, ⟨by omega, by omega, by omega, by omega⟩⟩
    · have c43_ : a1.toInt ≤ 9 := en_i_gt_f c43
      refine At.enter rfl ?_
      refine r_iconst 1 rfl ?_
      refine r_goto ?_
      refine At.enter rfl ?_
      refine q_iretz (by decide) ?_
      refine At.enter rfl ?_
      refine r_iff 10 rfl (by decide) ?_
      refine At.enter rfl ?_
      refine r_iload rfl ?_
      refine r_iconst 0 rfl ?_
      refine r_bipush 99 rfl ?_
      refine q_inlS 18 rfl [.int a4, .int 0, .int 99] [] (Nat.le_of_ble_eq_true rfl) rfl ?_
      refine Ev.mk rfl rfl ⟨Nat.le_of_ble_eq_true rfl, Or.inl rfl⟩ ?_
      show At _ none _ _ (0, [(0, .int a4), (1, .int 0), (2, .int 99)], [], (_, _)) _
      refine At.enter rfl ?_
      refine r_iload_n rfl ?_
      refine r_iload_n rfl ?_
      refine r_ics 5 rfl (fun c49 => ?_) (fun c49 => ?_)
      · have c49_ : a4.toInt < 0 := en_i_lt_t c49
        refine At.enter rfl ?_
        refine r_iconst 0 rfl ?_
        refine Ar.fall 15 rfl ?_
        refine At.enter rfl ?_
        refine q_iretz (by decide) ?_
        refine At.enter rfl ?_
        refine r_ift (by decide) ?_
        refine At.enter rfl ?_
        refine r_iconst (-1) rfl ?_
        refine r_ireti ?_
        have zv50 : ((-1) : Int32).toInt = (-1) := rfl
        obtain ⟨v51, hv51⟩ : ∃ v, gI g0 1 0 = v := ⟨_, rfl⟩
        have rv51 := RgF.at hI0.2.1 (p := 1) (b := 0) rfl
        rw [hv51] at rv51
        dsimp only at rv51
        have tv51 := congrArg Int32.toInt hv51
        obtain ⟨v53, hv53⟩ : ∃ v, gI g0 1 4 = v := ⟨_, rfl⟩
        have rv53 := RgF.at hI0.2.1 (p := 1) (b := 4) rfl
        rw [hv53] at rv53
        dsimp only at rv53
        have tv53 := congrArg Int32.toInt hv53
        exact ⟨_, rfl, hI0, hF0, _, rfl, by decide, ⟨by omega, by omega, by omega, by omega⟩⟩
      · have c49_ : a4.toInt ≥ 0 := en_i_lt_f c49
        refine At.enter rfl ?_
        refine r_iload_n rfl ?_
        refine r_iload_n rfl ?_
        refine r_ics 10 rfl (fun c55 => ?_) (fun c55 => ?_)
        · have c55_ : a4.toInt > 99 := en_i_gt_t c55
          refine At.enter rfl ?_
          refine r_iconst 0 rfl ?_
          refine Ar.fall 15 rfl ?_
          refine At.enter rfl ?_
          refine q_iretz (by decide) ?_
          refine At.enter rfl ?_
          refine r_ift (by decide) ?_
          refine At.enter rfl ?_
          refine r_iconst (-1) rfl ?_
          refine r_ireti ?_
          have zv56 : ((-1) : Int32).toInt = (-1) := rfl
          obtain ⟨v57, hv57⟩ : ∃ v, gI g0 1 0 = v := ⟨_, rfl⟩
          have rv57 := RgF.at hI0.2.1 (p := 1) (b := 0) rfl
          rw [hv57] at rv57
          dsimp only at rv57
          have tv57 := congrArg Int32.toInt hv57
          obtain ⟨v59, hv59⟩ : ∃ v, gI g0 1 4 = v := ⟨_, rfl⟩
          have rv59 := RgF.at hI0.2.1 (p := 1) (b := 4) rfl
          rw [hv59] at rv59
          dsimp only at rv59
          have tv59 := congrArg Int32.toInt hv59
          exact ⟨_, rfl, hI0, hF0, _, rfl, by decide, ⟨by omega, by omega, by omega, by omega⟩⟩
        · have c55_ : a4.toInt ≤ 99 := en_i_gt_f c55
          refine At.enter rfl ?_
          refine r_iconst 1 rfl ?_
          refine r_goto ?_
          refine At.enter rfl ?_
          refine q_iretz (by decide) ?_
          refine At.enter rfl ?_
          refine r_iff 21 rfl (by decide) ?_
          refine At.enter rfl ?_
          refine r_iload rfl ?_
          refine r_iconst 0 rfl ?_
          refine r_bipush 9 rfl ?_
          refine q_inlS 29 rfl [.int a5, .int 0, .int 9] [] (Nat.le_of_ble_eq_true rfl) rfl ?_
          refine Ev.mk rfl rfl ⟨Nat.le_of_ble_eq_true rfl, Or.inl rfl⟩ ?_
          show At _ none _ _ (0, [(0, .int a5), (1, .int 0), (2, .int 9)], [], (_, _)) _
          refine At.enter rfl ?_
          refine r_iload_n rfl ?_
          refine r_iload_n rfl ?_
          refine r_ics 5 rfl (fun c61 => ?_) (fun c61 => ?_)
          · have c61_ : a5.toInt < 0 := en_i_lt_t c61
            refine At.enter rfl ?_
            refine r_iconst 0 rfl ?_
            refine Ar.fall 15 rfl ?_
            refine At.enter rfl ?_
            refine q_iretz (by decide) ?_
            refine At.enter rfl ?_
            refine r_ift (by decide) ?_
            refine At.enter rfl ?_
            refine r_iconst (-1) rfl ?_
            refine r_ireti ?_
            have zv62 : ((-1) : Int32).toInt = (-1) := rfl
            obtain ⟨v63, hv63⟩ : ∃ v, gI g0 1 0 = v := ⟨_, rfl⟩
            have rv63 := RgF.at hI0.2.1 (p := 1) (b := 0) rfl
            rw [hv63] at rv63
            dsimp only at rv63
            have tv63 := congrArg Int32.toInt hv63
            obtain ⟨v65, hv65⟩ : ∃ v, gI g0 1 4 = v := ⟨_, rfl⟩
            have rv65 := RgF.at hI0.2.1 (p := 1) (b := 4) rfl
            rw [hv65] at rv65
            dsimp only at rv65
            have tv65 := congrArg Int32.toInt hv65
            exact ⟨_, rfl, hI0, hF0, _, rfl, by decide, ⟨by omega, by omega, by omega, by omega⟩⟩
          · have c61_ : a5.toInt ≥ 0 := en_i_lt_f c61
            refine At.enter rfl ?_
            refine r_iload_n rfl ?_
            refine r_iload_n rfl ?_
            refine r_ics 10 rfl (fun c67 => ?_) (fun c67 => ?_)
            · have c67_ : a5.toInt > 9 := en_i_gt_t c67
              refine At.enter rfl ?_
              refine r_iconst 0 rfl ?_
              refine Ar.fall 15 rfl ?_
              refine At.enter rfl ?_
              refine q_iretz (by decide) ?_
              refine At.enter rfl ?_
              refine r_ift (by decide) ?_
              refine At.enter rfl ?_
              refine r_iconst (-1) rfl ?_
              refine r_ireti ?_
              have zv68 : ((-1) : Int32).toInt = (-1) := rfl
              obtain ⟨v69, hv69⟩ : ∃ v, gI g0 1 0 = v := ⟨_, rfl⟩
              have rv69 := RgF.at hI0.2.1 (p := 1) (b := 0) rfl
              rw [hv69] at rv69
              dsimp only at rv69
              have tv69 := congrArg Int32.toInt hv69
              obtain ⟨v71, hv71⟩ : ∃ v, gI g0 1 4 = v := ⟨_, rfl⟩
              have rv71 := RgF.at hI0.2.1 (p := 1) (b := 4) rfl
              rw [hv71] at rv71
              dsimp only at rv71
              have tv71 := congrArg Int32.toInt hv71
              exact ⟨_, rfl, hI0, hF0, _, rfl, by decide, ⟨by omega, by omega, by omega, by omega⟩⟩
            · have c67_ : a5.toInt ≤ 9 := en_i_gt_f c67
              refine At.enter rfl ?_
              refine r_iconst 1 rfl ?_
              refine r_goto ?_
              refine At.enter rfl ?_
              refine q_iretz (by decide) ?_
              refine At.enter rfl ?_
              refine r_iff 32 rfl (by decide) ?_
              refine At.enter rfl ?_
              refine r_iload rfl ?_
              refine r_iconst 0 rfl ?_
              refine r_sipush 9999 rfl ?_
              refine q_inlS 41 rfl [.int a6, .int 0, .int 9999] [] (Nat.le_of_ble_eq_true rfl) rfl ?_
              refine Ev.mk rfl rfl ⟨Nat.le_of_ble_eq_true rfl, Or.inl rfl⟩ ?_
              show At _ none _ _ (0, [(0, .int a6), (1, .int 0), (2, .int 9999)], [], (_, _)) _
              refine At.enter rfl ?_
              refine r_iload_n rfl ?_
              refine r_iload_n rfl ?_
              refine r_ics 5 rfl (fun c73 => ?_) (fun c73 => ?_)
              · have c73_ : a6.toInt < 0 := en_i_lt_t c73
                refine At.enter rfl ?_
                refine r_iconst 0 rfl ?_
                refine Ar.fall 15 rfl ?_
                refine At.enter rfl ?_
                refine q_iretz (by decide) ?_
                refine At.enter rfl ?_
                refine r_iff 44 rfl (by decide) ?_
                refine At.enter rfl ?_
                refine r_iconst (-1) rfl ?_
                refine r_ireti ?_
                have zv74 : ((-1) : Int32).toInt = (-1) := rfl
                obtain ⟨v75, hv75⟩ : ∃ v, gI g0 1 0 = v := ⟨_, rfl⟩
                have rv75 := RgF.at hI0.2.1 (p := 1) (b := 0) rfl
                rw [hv75] at rv75
                dsimp only at rv75
                have tv75 := congrArg Int32.toInt hv75
                obtain ⟨v77, hv77⟩ : ∃ v, gI g0 1 4 = v := ⟨_, rfl⟩
                have rv77 := RgF.at hI0.2.1 (p := 1) (b := 4) rfl
                rw [hv77] at rv77
                dsimp only at rv77
                have tv77 := congrArg Int32.toInt hv77
                exact ⟨_, rfl, hI0, hF0, _, rfl, by decide, ⟨by omega, by omega, by omega, by omega⟩⟩
              · have c73_ : a6.toInt ≥ 0 := en_i_lt_f c73
                refine At.enter rfl ?_
                refine r_iload_n rfl ?_
                refine r_iload_n rfl ?_
                refine r_ics 10 rfl (fun c79 => ?_) (fun c79 => ?_)
                · have c79_ : a6.toInt > 9999 := en_i_gt_t c79
                  refine At.enter rfl ?_
                  refine r_iconst 0 rfl ?_
                  refine Ar.fall 15 rfl ?_
                  refine At.enter rfl ?_
                  refine q_iretz (by decide) ?_
                  refine At.enter rfl ?_
                  refine r_iff 44 rfl (by decide) ?_
                  refine At.enter rfl ?_
                  refine r_iconst (-1) rfl ?_
                  refine r_ireti ?_
                  have zv80 : ((-1) : Int32).toInt = (-1) := rfl
                  obtain ⟨v81, hv81⟩ : ∃ v, gI g0 1 0 = v := ⟨_, rfl⟩
                  have rv81 := RgF.at hI0.2.1 (p := 1) (b := 0) rfl
                  rw [hv81] at rv81
                  dsimp only at rv81
                  have tv81 := congrArg Int32.toInt hv81
                  obtain ⟨v83, hv83⟩ : ∃ v, gI g0 1 4 = v := ⟨_, rfl⟩
                  have rv83 := RgF.at hI0.2.1 (p := 1) (b := 4) rfl
                  rw [hv83] at rv83
                  dsimp only at rv83
                  have tv83 := congrArg Int32.toInt hv83
                  exact ⟨_, rfl, hI0, hF0, _, rfl, by decide, ⟨by omega, by omega, by omega, by omega⟩⟩
                · have c79_ : a6.toInt ≤ 9999 := en_i_gt_f c79
                  refine At.enter rfl ?_
                  refine r_iconst 1 rfl ?_
                  refine r_goto ?_
                  refine At.enter rfl ?_
                  refine q_iretz (by decide) ?_
                  refine At.enter rfl ?_
                  refine r_ift (by decide) ?_
                  refine At.enter rfl ?_
                  refine r_aload_n rfl ?_
                  refine q_getR (Sh.ref hI0.1 kx_0 rfl) ?_
                  refine r_iload_n rfl ?_
                  refine q_inlV 54 rfl [.ref 1, .int a2] [] (Nat.le_of_ble_eq_true rfl) rfl ?_
                  refine Ev.mk rfl rfl ⟨Nat.le_of_ble_eq_true rfl, Or.inr (q_rc hI0.1 kx_1 rfl)⟩ ?_
                  show At _ none _ _ (0, [(0, .ref 1), (1, .int a2)], [], (_, _)) _
                  refine At.enter rfl ?_
                  refine r_iload_n rfl ?_
                  refine r_ifs 4 rfl (fun c85 => ?_) (fun c85 => ?_)
                  · have c85_ : a2.toInt < 0 := en_k_lt_t c85
                    refine At.enter rfl ?_
                    refine r_iconst 0 rfl ?_
                    refine Ar.fall 17 rfl ?_
                    refine At.enter rfl ?_
                    refine q_iretz (by decide) ?_
                    refine At.enter rfl ?_
                    refine r_ift (by decide) ?_
                    refine At.enter rfl ?_
                    refine r_bipush (-2) rfl ?_
                    refine r_ireti ?_
                    have zv86 : ((-2) : Int32).toInt = (-2) := rfl
                    obtain ⟨v87, hv87⟩ : ∃ v, gI g0 1 0 = v := ⟨_, rfl⟩
                    have rv87 := RgF.at hI0.2.1 (p := 1) (b := 0) rfl
                    rw [hv87] at rv87
                    dsimp only at rv87
                    have tv87 := congrArg Int32.toInt hv87
                    obtain ⟨v89, hv89⟩ : ∃ v, gI g0 1 4 = v := ⟨_, rfl⟩
                    have rv89 := RgF.at hI0.2.1 (p := 1) (b := 4) rfl
                    rw [hv89] at rv89
                    dsimp only at rv89
                    have tv89 := congrArg Int32.toInt hv89
                    exact ⟨_, rfl, hI0, hF0, _, rfl, by decide, ⟨by omega, by omega, by omega, by omega⟩⟩
                  · have c85_ : a2.toInt ≥ 0 := en_k_lt_f c85
                    refine At.enter rfl ?_
                    refine r_iload_n rfl ?_
                    refine r_aload_n rfl ?_
                    obtain ⟨v91, hv91⟩ : ∃ v, gI g0 1 0 = v := ⟨_, rfl⟩
                    have rv91 := RgF.at hI0.2.1 (p := 1) (b := 0) rfl
                    rw [hv91] at rv91
                    dsimp only at rv91
                    refine q_getI (Sh.int hI0.1 kx_1 rfl) v91 hv91 ?_
                    have bv93 := q_bnd a2
                    have bv94 := q_bnd v91
                    refine r_ics 12 rfl (fun c92 => ?_) (fun c92 => ?_)
                    · have c92_ : a2.toInt ≥ v91.toInt := en_i_ge_t c92
                      refine At.enter rfl ?_
                      refine r_iconst 0 rfl ?_
                      refine Ar.fall 17 rfl ?_
                      refine At.enter rfl ?_
                      refine q_iretz (by decide) ?_
                      refine At.enter rfl ?_
                      refine r_ift (by decide) ?_
                      refine At.enter rfl ?_
                      refine r_bipush (-2) rfl ?_
                      refine r_ireti ?_
                      have zv95 : ((-2) : Int32).toInt = (-2) := rfl
                      have x96 := HI.eqI hI0 (p := 1) (b := 0) (hv91)
                      obtain ⟨v97, hv97⟩ : ∃ v, gI g0 1 4 = v := ⟨_, rfl⟩
                      have rv97 := RgF.at hI0.2.1 (p := 1) (b := 4) rfl
                      rw [hv97] at rv97
                      dsimp only at rv97
                      have tv97 := congrArg Int32.toInt hv97
                      exact ⟨_, rfl, hI0, hF0, _, rfl, by decide, ⟨by omega, by omega, by omega, by omega⟩⟩
                    · have c92_ : a2.toInt < v91.toInt := en_i_ge_f c92
                      refine At.enter rfl ?_
                      refine r_iconst 1 rfl ?_
                      refine r_goto ?_
                      refine At.enter rfl ?_
                      refine q_iretz (by decide) ?_
                      refine At.enter rfl ?_
                      refine r_iff 57 rfl (by decide) ?_
                      refine At.enter rfl ?_
                      refine r_aload_n rfl ?_
                      refine q_getR (Sh.ref hI0.1 kx_0 rfl) ?_
                      refine r_iload_n rfl ?_
                      refine q_inlV 65 rfl [.ref 1, .int a3] [] (Nat.le_of_ble_eq_true rfl) rfl ?_
                      refine Ev.mk rfl rfl ⟨Nat.le_of_ble_eq_true rfl, Or.inr (q_rc hI0.1 kx_1 rfl)⟩ ?_
                      show At _ none _ _ (0, [(0, .ref 1), (1, .int a3)], [], (_, _)) _
                      refine At.enter rfl ?_
                      refine r_iload_n rfl ?_
                      refine r_ifs 4 rfl (fun c99 => ?_) (fun c99 => ?_)
                      · have c99_ : a3.toInt < 0 := en_k_lt_t c99
                        refine At.enter rfl ?_
                        refine r_iconst 0 rfl ?_
                        refine Ar.fall 17 rfl ?_
                        refine At.enter rfl ?_
                        refine q_iretz (by decide) ?_
                        refine At.enter rfl ?_
                        refine r_iff 68 rfl (by decide) ?_
                        refine At.enter rfl ?_
                        refine r_bipush (-2) rfl ?_
                        refine r_ireti ?_
                        have zv100 : ((-2) : Int32).toInt = (-2) := rfl
                        have x101 := HI.eqI hI0 (p := 1) (b := 0) (hv91)
                        obtain ⟨v102, hv102⟩ : ∃ v, gI g0 1 4 = v := ⟨_, rfl⟩
                        have rv102 := RgF.at hI0.2.1 (p := 1) (b := 4) rfl
                        rw [hv102] at rv102
                        dsimp only at rv102
                        have tv102 := congrArg Int32.toInt hv102
                        exact ⟨_, rfl, hI0, hF0, _, rfl, by decide, ⟨by omega, by omega, by omega, by omega⟩⟩
                      · have c99_ : a3.toInt ≥ 0 := en_k_lt_f c99
                        refine At.enter rfl ?_
                        refine r_iload_n rfl ?_
                        refine r_aload_n rfl ?_
                        refine q_getI (Sh.int hI0.1 kx_1 rfl) v91 hv91 ?_
                        have bv105 := q_bnd a3
                        refine r_ics 12 rfl (fun c104 => ?_) (fun c104 => ?_)
                        · have c104_ : a3.toInt ≥ v91.toInt := en_i_ge_t c104
                          refine At.enter rfl ?_
                          refine r_iconst 0 rfl ?_
                          refine Ar.fall 17 rfl ?_
                          refine At.enter rfl ?_
                          refine q_iretz (by decide) ?_
                          refine At.enter rfl ?_
                          refine r_iff 68 rfl (by decide) ?_
                          refine At.enter rfl ?_
                          refine r_bipush (-2) rfl ?_
                          refine r_ireti ?_
                          have zv106 : ((-2) : Int32).toInt = (-2) := rfl
                          have x107 := HI.eqI hI0 (p := 1) (b := 0) (hv91)
                          obtain ⟨v108, hv108⟩ : ∃ v, gI g0 1 4 = v := ⟨_, rfl⟩
                          have rv108 := RgF.at hI0.2.1 (p := 1) (b := 4) rfl
                          rw [hv108] at rv108
                          dsimp only at rv108
                          have tv108 := congrArg Int32.toInt hv108
                          exact ⟨_, rfl, hI0, hF0, _, rfl, by decide, ⟨by omega, by omega, by omega, by omega⟩⟩
                        · have c104_ : a3.toInt < v91.toInt := en_i_ge_f c104
                          refine At.enter rfl ?_
                          refine r_iconst 1 rfl ?_
                          refine r_goto ?_
                          refine At.enter rfl ?_
                          refine q_iretz (by decide) ?_
                          refine At.enter rfl ?_
                          refine r_ift (by decide) ?_
                          refine At.enter rfl ?_
                          refine r_aload_n rfl ?_
                          refine q_getR (Sh.ref hI0.1 kx_0 rfl) ?_
                          obtain ⟨v110, hv110⟩ : ∃ v, gI g0 1 4 = v := ⟨_, rfl⟩
                          have rv110 := RgF.at hI0.2.1 (p := 1) (b := 4) rfl
                          rw [hv110] at rv110
                          dsimp only at rv110
                          refine q_getI (Sh.int hI0.1 kx_1 rfl) v110 hv110 ?_
                          refine r_bipush 8 rfl ?_
                          refine r_ics 83 rfl (fun c111 => ?_) (fun c111 => ?_)
                          · have c111_ : v110.toInt < 8 := en_i_lt_t c111
                            refine At.enter rfl ?_
                            refine r_iconst 0 rfl ?_
                            refine Ar.fall 89 rfl ?_
                            refine At.enter rfl ?_
                            refine r_ireti ?_
                            have zv112 : (0 : Int32).toInt = 0 := rfl
                            have x113 := HI.eqI hI0 (p := 1) (b := 0) (hv91)
                            have x114 := HI.eqI hI0 (p := 1) (b := 4) (hv110)
                            exact ⟨_, rfl, hI0, hF0, _, rfl, by decide, ⟨by omega, by omega, by omega, by omega⟩⟩
                          · have c111_ : v110.toInt ≥ 8 := en_i_lt_f c111
                            refine At.enter rfl ?_
                            refine r_bipush (-5) rfl ?_
                            refine r_goto ?_
                            refine At.enter rfl ?_
                            refine r_ireti ?_
                            have zv115 : ((-5) : Int32).toInt = (-5) := rfl
                            have x116 := HI.eqI hI0 (p := 1) (b := 0) (hv91)
                            have x117 := HI.eqI hI0 (p := 1) (b := 4) (hv110)
                            exact ⟨_, rfl, hI0, hF0, _, rfl, by decide, ⟨by omega, by omega, by omega, by omega⟩⟩
