def F_X2_costOf_223 : List (Nat × Nat) := [(185, 3), (223, 5), (223, 6)]
def A_X2_costOf_223 : List Nat := [224, 226]
set_option maxRecDepth 100000 in
set_option maxHeartbeats 4000000 in
theorem T_X2_costOf_223 (d : Nat) {N : Nat} {g0 : List en_E} (hI0 : HI g0) (a1 : Int32) : Ev (d + 6) 39 [.ref 223, .int a1] (g0, N) (fun w h' => ∃ g', h' = (g', N) ∧ HI g' ∧ Fr F_X2_costOf_223 A_X2_costOf_223 g0 g' ∧ ∃ r : Int32, w = some (.int r) ∧ True) := by
  have hF0 : Fr F_X2_costOf_223 A_X2_costOf_223 g0 g0 := Fr.rf
  refine Ev.mk rfl rfl ⟨Nat.le_of_ble_eq_true rfl, Or.inr (q_rc hI0.1 kx_223 rfl)⟩ ?_
  show At _ none _ _ (0, [(0, .ref 223), (1, .int a1)], [], (_, _)) _
  refine At.enter rfl ?_
  refine r_aload_n rfl ?_
  refine r_callV 4 rfl [.ref 223] [] (Nat.le_of_ble_eq_true rfl) rfl (T_X2_begin_223 _ hI0) ?_
  rintro _ _ ⟨g25, rfl, hI26, hF27, rfl⟩
  refine At.stn ?_
  have hF30 := Fr.tr hF0 hF27 rfl rfl
  refine At.enter rfl ?_
  refine r_aload_n rfl ?_
  refine r_iload_n rfl ?_
  refine r_iconst (-1) rfl ?_
  refine r_callV 10 rfl [.ref 223, .int a1, .int (-1)] [] (Nat.le_of_ble_eq_true rfl) rfl (T_X2_costBeside_223 _ hI26 a1 (-1)) ?_
  rintro _ _ ⟨g31, rfl, hI32, hF33, v34, rfl, hr35⟩
  refine At.sti ?_
  have hF36 := Fr.tr hF30 hF33 rfl rfl
  refine At.enter rfl ?_
  refine r_ireti ?_
  exact ⟨_, rfl, hI32, hF36, _, rfl, trivial⟩

def F_X2_incomeOf_223 : List (Nat × Nat) := [(185, 3), (223, 5), (223, 6), (223, 7), (223, 8), (223, 9)]
def A_X2_incomeOf_223 : List Nat := [224, 225, 226]
set_option maxRecDepth 100000 in
set_option maxHeartbeats 4000000 in
theorem T_X2_incomeOf_223 (d : Nat) {N : Nat} {g0 : List en_E} (hI0 : HI g0) (a1 : Int32) (h_a1 : 0 ≤ a1.toInt ∧ a1.toInt ≤ 11) : Ev (d + 7) 40 [.ref 223, .int a1] (g0, N) (fun w h' => ∃ g', h' = (g', N) ∧ HI g' ∧ Fr F_X2_incomeOf_223 A_X2_incomeOf_223 g0 g' ∧ ∃ r : Int32, w = some (.int r) ∧ True) := by
  have hF0 : Fr F_X2_incomeOf_223 A_X2_incomeOf_223 g0 g0 := Fr.rf
  refine Ev.mk rfl rfl ⟨Nat.le_of_ble_eq_true rfl, Or.inr (q_rc hI0.1 kx_223 rfl)⟩ ?_
  show At _ none _ _ (0, [(0, .ref 223), (1, .int a1)], [], (_, _)) _
  refine At.enter rfl ?_
  refine r_aload_n rfl ?_
  refine r_callV 4 rfl [.ref 223] [] (Nat.le_of_ble_eq_true rfl) rfl (T_X2_begin_223 _ hI0) ?_
  rintro _ _ ⟨g27, rfl, hI28, hF29, rfl⟩
  refine At.stn ?_
  have hF32 := Fr.tr hF0 hF29 rfl rfl
  refine At.enter rfl ?_
  refine r_aload_n rfl ?_
  refine r_iload_n rfl ?_
  refine r_callV 9 rfl [.ref 223, .int a1] [] (Nat.le_of_ble_eq_true rfl) rfl (T_X2_seekAnswer_223 _ hI28 a1 (by omega)) ?_
  rintro _ _ ⟨g33, rfl, hI34, hF35, rfl⟩
  refine At.stn ?_
  have hF38 := Fr.tr hF32 hF35 rfl rfl
  refine At.enter rfl ?_
  refine r_aload_n rfl ?_
  obtain ⟨v39, hv39⟩ : ∃ v, gI g33 223 9 = v := ⟨_, rfl⟩
  refine q_getI (Sh.int hI34.1 kx_223 rfl) v39 hv39 ?_
  refine r_ireti ?_
  exact ⟨_, rfl, hI34, hF38, _, rfl, trivial⟩

def F_X2_answerOf_223 : List (Nat × Nat) := [(185, 3), (223, 5), (223, 6), (223, 7), (223, 8), (223, 9)]
def A_X2_answerOf_223 : List Nat := [224, 225, 226]
set_option maxRecDepth 100000 in
set_option maxHeartbeats 4000000 in
theorem T_X2_answerOf_223 (d : Nat) {N : Nat} {g0 : List en_E} (hI0 : HI g0) (a1 : Int32) (h_a1 : 0 ≤ a1.toInt ∧ a1.toInt ≤ 11) (a2 : Int32) : Ev (d + 7) 41 [.ref 223, .int a1, .int a2] (g0, N) (fun w h' => ∃ g', h' = (g', N) ∧ HI g' ∧ Fr F_X2_answerOf_223 A_X2_answerOf_223 g0 g' ∧ ∃ r : Int32, w = some (.int r) ∧ True) := by
  have hF0 : Fr F_X2_answerOf_223 A_X2_answerOf_223 g0 g0 := Fr.rf
  refine Ev.mk rfl rfl ⟨Nat.le_of_ble_eq_true rfl, Or.inr (q_rc hI0.1 kx_223 rfl)⟩ ?_
  show At _ none _ _ (0, [(0, .ref 223), (1, .int a1), (2, .int a2)], [], (_, _)) _
  refine At.enter rfl ?_
  refine r_aload_n rfl ?_
  refine r_callV 4 rfl [.ref 223] [] (Nat.le_of_ble_eq_true rfl) rfl (T_X2_begin_223 _ hI0) ?_
  rintro _ _ ⟨g31, rfl, hI32, hF33, rfl⟩
  refine At.stn ?_
  have hF36 := Fr.tr hF0 hF33 rfl rfl
  refine At.enter rfl ?_
  refine r_aload_n rfl ?_
  refine r_iload_n rfl ?_
  refine r_callV 9 rfl [.ref 223, .int a1] [] (Nat.le_of_ble_eq_true rfl) rfl (T_X2_seekAnswer_223 _ hI32 a1 (by omega)) ?_
  rintro _ _ ⟨g37, rfl, hI38, hF39, rfl⟩
  refine At.stn ?_
  have hF42 := Fr.tr hF36 hF39 rfl rfl
  refine At.enter rfl ?_
  refine r_iload_n rfl ?_
  refine r_ifs 13 rfl (fun c43 => ?_) (fun c43 => ?_)
  · have c43_ : a2.toInt ≠ 0 := en_k_ne_t c43
    refine At.enter rfl ?_
    refine r_aload_n rfl ?_
    obtain ⟨v44, hv44⟩ : ∃ v, gI g37 223 8 = v := ⟨_, rfl⟩
    refine q_getI (Sh.int hI38.1 kx_223 rfl) v44 hv44 ?_
    refine Ar.fall 24 rfl ?_
    refine At.enter rfl ?_
    refine r_ireti ?_
    exact ⟨_, rfl, hI38, hF42, _, rfl, trivial⟩
  · have c43_ : a2.toInt = 0 := en_k_ne_f c43
    refine At.enter rfl ?_
    refine r_aload_n rfl ?_
    obtain ⟨v45, hv45⟩ : ∃ v, gI g37 223 7 = v := ⟨_, rfl⟩
    refine q_getI (Sh.int hI38.1 kx_223 rfl) v45 hv45 ?_
    refine r_goto ?_
    refine At.enter rfl ?_
    refine r_ireti ?_
    exact ⟨_, rfl, hI38, hF42, _, rfl, trivial⟩

def F_X2_settled_223 : List (Nat × Nat) := []
def A_X2_settled_223 : List Nat := []
set_option maxRecDepth 100000 in
set_option maxHeartbeats 4000000 in
theorem T_X2_settled_223 (d : Nat) {N : Nat} {g0 : List en_E} (hI0 : HI g0) (a1 : Int32) : Ev (d + 2) 44 [.ref 223, .int a1] (g0, N) (fun w h' => ∃ g', h' = (g', N) ∧ HI g' ∧ Fr F_X2_settled_223 A_X2_settled_223 g0 g' ∧ ∃ r : Int32, w = some (.int r) ∧ True) := by
  have hF0 : Fr F_X2_settled_223 A_X2_settled_223 g0 g0 := Fr.rf
  refine Ev.mk rfl rfl ⟨Nat.le_of_ble_eq_true rfl, Or.inr (q_rc hI0.1 kx_223 rfl)⟩ ?_
  show At _ none _ _ (0, [(0, .ref 223), (1, .int a1)], [], (_, _)) _
  refine At.enter rfl ?_
  refine r_aload_n rfl ?_
  refine q_getR (Sh.ref hI0.1 kx_223 rfl) ?_
  refine r_iload_n rfl ?_
  refine q_inlV 8 rfl [.ref 1, .int a1] [] (Nat.le_of_ble_eq_true rfl) rfl ?_
  refine Ev.mk rfl rfl ⟨Nat.le_of_ble_eq_true rfl, Or.inr (q_rc hI0.1 kx_1 rfl)⟩ ?_
  show At _ none _ _ (0, [(0, .ref 1), (1, .int a1)], [], (_, _)) _
  refine At.enter rfl ?_
  refine r_iload_n rfl ?_
  refine r_ifs 4 rfl (fun c17 => ?_) (fun c17 => ?_)
  · have c17_ : a1.toInt < 0 := en_k_lt_t c17
    refine At.enter rfl ?_
    refine r_iconst 0 rfl ?_
    refine Ar.fall 17 rfl ?_
    refine At.enter rfl ?_
    refine q_iretz (by decide) ?_
    refine At.enter rfl ?_
    refine r_ift (by decide) ?_
    refine At.enter rfl ?_
    refine r_aload_n rfl ?_
    obtain ⟨v18, hv18⟩ : ∃ v, gI g0 223 11 = v := ⟨_, rfl⟩
    refine q_getI (Sh.int hI0.1 kx_223 rfl) v18 hv18 ?_
    refine Ar.fall 24 rfl ?_
    refine At.enter rfl ?_
    refine r_ireti ?_
    exact ⟨_, rfl, hI0, hF0, _, rfl, trivial⟩
  · have c17_ : a1.toInt ≥ 0 := en_k_lt_f c17
    refine At.enter rfl ?_
    refine r_iload_n rfl ?_
    refine r_aload_n rfl ?_
    obtain ⟨v19, hv19⟩ : ∃ v, gI g0 1 0 = v := ⟨_, rfl⟩
    have rv19 := RgF.at hI0.2.1 (p := 1) (b := 0) rfl
    rw [hv19] at rv19
    dsimp only at rv19
    refine q_getI (Sh.int hI0.1 kx_1 rfl) v19 hv19 ?_
    have bv21 := q_bnd a1
    have bv22 := q_bnd v19
    refine r_ics 12 rfl (fun c20 => ?_) (fun c20 => ?_)
    · have c20_ : a1.toInt ≥ v19.toInt := en_i_ge_t c20
      refine At.enter rfl ?_
      refine r_iconst 0 rfl ?_
      refine Ar.fall 17 rfl ?_
      refine At.enter rfl ?_
      refine q_iretz (by decide) ?_
      refine At.enter rfl ?_
      refine r_ift (by decide) ?_
      refine At.enter rfl ?_
      refine r_aload_n rfl ?_
      obtain ⟨v23, hv23⟩ : ∃ v, gI g0 223 11 = v := ⟨_, rfl⟩
      refine q_getI (Sh.int hI0.1 kx_223 rfl) v23 hv23 ?_
      refine Ar.fall 24 rfl ?_
      refine At.enter rfl ?_
      refine r_ireti ?_
      exact ⟨_, rfl, hI0, hF0, _, rfl, trivial⟩
    · have c20_ : a1.toInt < v19.toInt := en_i_ge_f c20
      refine At.enter rfl ?_
      refine r_iconst 1 rfl ?_
      refine r_goto ?_
      refine At.enter rfl ?_
      refine q_iretz (by decide) ?_
      refine At.enter rfl ?_
      refine r_iff 11 rfl (by decide) ?_
      refine At.enter rfl ?_
      refine r_aload_n rfl ?_
      refine q_getR (Sh.ref hI0.1 kx_223 rfl) ?_
      refine r_iload_n rfl ?_
      obtain ⟨v24, hv24⟩ : ∃ v, eA g0 227 a1.toInt = v := ⟨_, rfl⟩
      refine q_iald (Sh.arr hI0.1 ka_227) a1.toInt rfl (by omega) v24 hv24 ?_
      refine r_goto ?_
      refine At.enter rfl ?_
      refine r_ireti ?_
      exact ⟨_, rfl, hI0, hF0, _, rfl, trivial⟩

def F_X10_refused_0 : List (Nat × Nat) := [(0, 17)]
def A_X10_refused_0 : List Nat := [230]
set_option maxRecDepth 100000 in
set_option maxHeartbeats 4000000 in
theorem T_X10_refused_0 (d : Nat) {N : Nat} {g0 : List en_E} (hI0 : HI g0) (a1 : Int32) (h_a1 : (-6) ≤ a1.toInt ∧ a1.toInt ≤ 0) : Ev (d + 2) 144 [.ref 0, .int a1] (g0, N) (fun w h' => ∃ g', h' = (g', N) ∧ HI g' ∧ Fr F_X10_refused_0 A_X10_refused_0 g0 g' ∧ ∃ r : Int32, w = some (.int r) ∧ ((-6) ≤ r.toInt ∧ r.toInt ≤ 0) ∧ (r.toInt = a1.toInt)) := by
  have hF0 : Fr F_X10_refused_0 A_X10_refused_0 g0 g0 := Fr.rf
  refine Ev.mk rfl rfl ⟨Nat.le_of_ble_eq_true rfl, Or.inr (q_rc hI0.1 kx_0 rfl)⟩ ?_
  show At _ none _ _ (0, [(0, .ref 0), (1, .int a1)], [], (_, _)) _
  refine At.enter rfl ?_
  refine r_aload_n rfl ?_
  refine r_iload_n rfl ?_
  refine q_putI (Sh.int hI0.1 kx_0 rfl) rfl ?_
  have hI21 := HI.wI0 hI0 kx_0 rfl (p := 0) (b := 17) (v := a1) rfl
  have hF22 := Fr.wI (p := 0) (b := 17) (v := a1) hF0 rfl
  refine r_iload_n rfl ?_
  refine q_ineg (-a1.toInt) rfl (by omega) (fun v23 hv23 => ?_)
  refine r_iconst 0 rfl ?_
  refine r_bipush 6 rfl ?_
  refine q_inlS 13 rfl [.int v23, .int 0, .int 6] [] (Nat.le_of_ble_eq_true rfl) rfl ?_
  refine Ev.mk rfl rfl ⟨Nat.le_of_ble_eq_true rfl, Or.inl rfl⟩ ?_
  show At _ none _ _ (0, [(0, .int v23), (1, .int 0), (2, .int 6)], [], (_, _)) _
  refine At.enter rfl ?_
  refine r_iload_n rfl ?_
  refine r_iload_n rfl ?_
  refine r_ics 5 rfl (fun c24 => ?_) (fun c24 => ?_)
  · have c24_ : v23.toInt < 0 := en_i_lt_t c24
    exfalso; omega
  · have c24_ : v23.toInt ≥ 0 := en_i_lt_f c24
    refine At.enter rfl ?_
    refine r_iload_n rfl ?_
    refine r_iload_n rfl ?_
    refine r_ics 10 rfl (fun c25 => ?_) (fun c25 => ?_)
    · have c25_ : v23.toInt > 6 := en_i_gt_t c25
      exfalso; omega
    · have c25_ : v23.toInt ≤ 6 := en_i_gt_f c25
      refine At.enter rfl ?_
      refine r_iconst 1 rfl ?_
      refine r_goto ?_
      refine At.enter rfl ?_
      refine q_iretz (by decide) ?_
      refine At.enter rfl ?_
      refine r_iff 16 rfl (by decide) ?_
      refine At.enter rfl ?_
      refine r_aload_n rfl ?_
      refine q_getR (Sh.ref hI21.1 kx_0 rfl) ?_
      refine r_iload_n rfl ?_
      refine q_ineg (-a1.toInt) rfl (by omega) (fun v26 hv26 => ?_)
      refine r_dup2 ⟨rfl, rfl⟩ ?_
      obtain ⟨v27, hv27⟩ : ∃ v, eA g0 230 ((-1) * a1.toInt) = v := ⟨_, rfl⟩
      refine q_iald (Sh.arr hI21.1 ka_230) ((-1) * a1.toInt) (by omega) (by omega) v27 ((eA_c (gA_sI)).trans hv27) ?_
      refine r_iconst 1 rfl ?_
      refine q_iaddO (fun v28 _ => ?_)
      refine q_iast (Sh.arr hI21.1 ka_230) (((-1) * a1.toInt)) (by omega) (by omega) ?_
      have hI29 := HI.wA0 hI21 ka_230 (p := 230) rfl rfl (((-1) * a1.toInt)) (v28)
      have hF30 := Fr.wA (p := 230) (j := ((-1) * a1.toInt)) (v := v28) hF22 rfl
      refine Ar.fall 27 rfl ?_
      refine At.enter rfl ?_
      refine r_iload_n rfl ?_
      refine r_ireti ?_
      exact ⟨_, rfl, hI29, hF30, _, rfl, by omega, (by omega)⟩

def F_X10_changed_0 : List (Nat × Nat) := [(0, 14), (220, 2), (222, 2), (223, 5), (223, 10)]
def A_X10_changed_0 : List Nat := []
set_option maxRecDepth 100000 in
set_option maxHeartbeats 4000000 in
theorem T_X10_changed_0 (d : Nat) {N : Nat} {g0 : List en_E} (hI0 : HI g0) : Ev (d + 2) 146 [.ref 0] (g0, N) (fun w h' => ∃ g', h' = (g', N) ∧ HI g' ∧ Fr F_X10_changed_0 A_X10_changed_0 g0 g' ∧ w = none) := by
  have hF0 : Fr F_X10_changed_0 A_X10_changed_0 g0 g0 := Fr.rf
  refine Ev.mk rfl rfl ⟨Nat.le_of_ble_eq_true rfl, Or.inr (q_rc hI0.1 kx_0 rfl)⟩ ?_
  show At _ none _ _ (0, [(0, .ref 0)], [], (_, _)) _
  refine At.enter rfl ?_
  refine r_aload_n rfl ?_
  refine r_iconst 0 rfl ?_
  refine q_putI (Sh.int hI0.1 kx_0 rfl) rfl ?_
  have hI21 := HI.wI0 hI0 kx_0 rfl (p := 0) (b := 14) (v := 0) rfl
  have hF22 := Fr.wI (p := 0) (b := 14) (v := 0) hF0 rfl
  refine r_aload_n rfl ?_
  refine q_getR (Sh.ref hI21.1 kx_0 rfl) ?_
  refine q_inlV 12 rfl [.ref 220] [] (Nat.le_of_ble_eq_true rfl) rfl ?_
  refine Ev.mk rfl rfl ⟨Nat.le_of_ble_eq_true rfl, Or.inr (q_rc hI21.1 kx_220 rfl)⟩ ?_
  show At _ none _ _ (0, [(0, .ref 220)], [], (_, _)) _
  refine At.enter rfl ?_
  refine r_aload_n rfl ?_
  refine r_iconst (-1) rfl ?_
  refine q_putI (Sh.int hI21.1 kx_220 rfl) rfl ?_
  have hI23 := HI.wI0 hI21 kx_220 rfl (p := 220) (b := 2) (v := (-1)) rfl
  have hF24 := Fr.wI (p := 220) (b := 2) (v := (-1)) hF22 rfl
  refine q_vret ?_
  refine At.enter rfl ?_
  refine r_aload_n rfl ?_
  refine q_getR (Sh.ref hI23.1 kx_0 rfl) ?_
  refine q_inlV 19 rfl [.ref 222] [] (Nat.le_of_ble_eq_true rfl) rfl ?_
  refine Ev.mk rfl rfl ⟨Nat.le_of_ble_eq_true rfl, Or.inr (q_rc hI23.1 kx_222 rfl)⟩ ?_
  show At _ none _ _ (0, [(0, .ref 222)], [], (_, _)) _
  refine At.enter rfl ?_
  refine r_aload_n rfl ?_
  refine r_iconst 0 rfl ?_
  refine q_putI (Sh.int hI23.1 kx_222 rfl) rfl ?_
  have hI25 := HI.wI0 hI23 kx_222 rfl (p := 222) (b := 2) (v := 0) rfl
  have hF26 := Fr.wI (p := 222) (b := 2) (v := 0) hF24 rfl
  refine q_vret ?_
  refine At.enter rfl ?_
  refine r_aload_n rfl ?_
  refine q_getR (Sh.ref hI25.1 kx_0 rfl) ?_
  refine q_inlV 26 rfl [.ref 223] [] (Nat.le_of_ble_eq_true rfl) rfl ?_
  refine Ev.mk rfl rfl ⟨Nat.le_of_ble_eq_true rfl, Or.inr (q_rc hI25.1 kx_223 rfl)⟩ ?_
  show At _ none _ _ (0, [(0, .ref 223)], [], (_, _)) _
  refine At.enter rfl ?_
  refine r_aload_n rfl ?_
  refine r_iconst 0 rfl ?_
  refine q_putI (Sh.int hI25.1 kx_223 rfl) rfl ?_
  have hI27 := HI.wI0 hI25 kx_223 rfl (p := 223) (b := 5) (v := 0) rfl
  have hF28 := Fr.wI (p := 223) (b := 5) (v := 0) hF26 rfl
  refine r_aload_n rfl ?_
  refine r_iconst 0 rfl ?_
  refine q_putI (Sh.int hI27.1 kx_223 rfl) rfl ?_
  have hI29 := HI.wI0 hI27 kx_223 rfl (p := 223) (b := 10) (v := 0) rfl
  have hF30 := Fr.wI (p := 223) (b := 10) (v := 0) hF28 rfl
  refine q_vret ?_
  refine At.enter rfl ?_
  refine r_vret ?_
  exact ⟨_, rfl, hI29, hF30, rfl⟩

def F_X10_whyNoLoad_0 : List (Nat × Nat) := []
def A_X10_whyNoLoad_0 : List Nat := []
set_option maxRecDepth 100000 in
set_option maxHeartbeats 4000000 in
theorem T_X10_whyNoLoad_0 (d : Nat) {N : Nat} {g0 : List en_E} (hI0 : HI g0) (a1 : Int32) (a2 : Int32) (a3 : Int32) (a4 : Int32) (a5 : Int32) (a6 : Int32) : Ev (d + 2) 149 [.ref 0, .int a1, .int a2, .int a3, .int a4, .int a5, .int a6] (g0, N) (fun w h' => ∃ g', h' = (g', N) ∧ HI g' ∧ Fr F_X10_whyNoLoad_0 A_X10_whyNoLoad_0 g0 g' ∧ ∃ r : Int32, w = some (.int r) ∧ ((-5) ≤ r.toInt ∧ r.toInt ≤ 0) ∧ (WNL (gI g0 1 0).toInt (gI g0 1 4).toInt a1.toInt a2.toInt a3.toInt a4.toInt a5.toInt a6.toInt r.toInt)) := by
  have hF0 : Fr F_X10_whyNoLoad_0 A_X10_whyNoLoad_0 g0 g0 := Fr.rf
  refine Ev.mk rfl rfl ⟨Nat.le_of_ble_eq_true rfl, Or.inr (q_rc hI0.1 kx_0 rfl)⟩ ?_
  show At _ none _ _ (0, [(0, .ref 0), (1, .int a1), (2, .int a2), (3, .int a3), (4, .int a4), (5, .int a5), (6, .int a6)], [], (_, _)) _
  refine At.enter rfl ?_
  refine r_iload_n rfl ?_
  refine r_iconst 1 rfl ?_
  refine r_bipush 9 rfl ?_
  refine q_inlS 7 rfl [.int a1, .int 1, .int 9] [] (Nat.le_of_ble_eq_true rfl) rfl ?_
  refine Ev.mk rfl rfl ⟨Nat.le_of_ble_eq_true rfl, Or.inl rfl⟩ ?_
  show At _ none _ _ (0, [(0, .int a1), (1, .int 1), (2, .int 9)], [], (_, _)) _
  refine At.enter rfl ?_
  refine r_iload_n rfl ?_
  refine r_iload_n rfl ?_
  refine r_ics 5 rfl (fun c37 => ?_) (fun c37 => ?_)
  · have c37_ : a1.toInt < 1 := en_i_lt_t c37
    refine At.enter rfl ?_
    refine r_iconst 0 rfl ?_
    refine Ar.fall 15 rfl ?_
    refine At.enter rfl ?_
    refine q_iretz (by decide) ?_
    refine At.enter rfl ?_
    refine r_ift (by decide) ?_
    refine At.enter rfl ?_
    refine r_iconst (-1) rfl ?_
    refine r_ireti ?_
    have zv38 : ((-1) : Int32).toInt = (-1) := rfl
    obtain ⟨v39, hv39⟩ : ∃ v, gI g0 1 0 = v := ⟨_, rfl⟩
    have rv39 := RgF.at hI0.2.1 (p := 1) (b := 0) rfl
    rw [hv39] at rv39
    dsimp only at rv39
    have tv39 := congrArg Int32.toInt hv39
    have x40 := HI.eqI hI0 (p := 1) (b := 0) (hv39)
    obtain ⟨v41, hv41⟩ : ∃ v, gI g0 1 4 = v := ⟨_, rfl⟩
    have rv41 := RgF.at hI0.2.1 (p := 1) (b := 4) rfl
    rw [hv41] at rv41
    dsimp only at rv41
    have tv41 := congrArg Int32.toInt hv41
    have x42 := HI.eqI hI0 (p := 1) (b := 4) (hv41)
    exact ⟨_, rfl, hI0, hF0, _, rfl, by decide, ⟨by omega, by omega, by omega, by omega⟩⟩
  · have c37_ : a1.toInt ≥ 1 := en_i_lt_f c37
    refine At.enter rfl ?_
    refine r_iload_n rfl ?_
    refine r_iload_n rfl ?_
    refine r_ics 10 rfl (fun c43 => ?_) (fun c43 => ?_)
    · have c43_ : a1.toInt > 9 := en_i_gt_t c43
      refine At.enter rfl ?_
      refine r_iconst 0 rfl ?_
      refine Ar.fall 15 rfl ?_
      refine At.enter rfl ?_
      refine q_iretz (by decide) ?_
      refine At.enter rfl ?_
      refine r_ift (by decide) ?_
      refine At.enter rfl ?_
      refine r_iconst (-1) rfl ?_
      refine r_ireti ?_
      have zv44 : ((-1) : Int32).toInt = (-1) := rfl
      obtain ⟨v45, hv45⟩ : ∃ v, gI g0 1 0 = v := ⟨_, rfl⟩
      have rv45 := RgF.at hI0.2.1 (p := 1) (b := 0) rfl
      rw [hv45] at rv45
      dsimp only at rv45
      have tv45 := congrArg Int32.toInt hv45
      have x46 := HI.eqI hI0 (p := 1) (b := 0) (hv45)
      obtain ⟨v47, hv47⟩ : ∃ v, gI g0 1 4 = v := ⟨_, rfl⟩
      have rv47 := RgF.at hI0.2.1 (p := 1) (b := 4) rfl
      rw [hv47] at rv47
      dsimp only at rv47
      have tv47 := congrArg Int32.toInt hv47
      have x48 := HI.eqI hI0 (p := 1) (b := 4) (hv47)
      exact ⟨_, rfl, hI0, hF0, _, rfl, by decide, ⟨by omega, by omega, by omega, by omega⟩⟩
    · have c43_ : a1.toInt ≤ 9 := en_i_gt_f c43
      refine At.enter rfl ?_
      refine r_iconst 1 rfl ?_
      refine r_goto ?_
      refine At.enter rfl ?_
      refine q_iretz (by decide) ?_
      refine At.enter rfl ?_
      refine r_iff 10 rfl (by decide) ?_
      refine At.enter rfl ?_
      refine r_iload rfl ?_
      refine r_iconst 0 rfl ?_
      refine r_bipush 99 rfl ?_
      refine q_inlS 18 rfl [.int a4, .int 0, .int 99] [] (Nat.le_of_ble_eq_true rfl) rfl ?_
      refine Ev.mk rfl rfl ⟨Nat.le_of_ble_eq_true rfl, Or.inl rfl⟩ ?_
      show At _ none _ _ (0, [(0, .int a4), (1, .int 0), (2, .int 99)], [], (_, _)) _
      refine At.enter rfl ?_
      refine r_iload_n rfl ?_
      refine r_iload_n rfl ?_
      refine r_ics 5 rfl (fun c49 => ?_) (fun c49 => ?_)
      · have c49_ : a4.toInt < 0 := en_i_lt_t c49
        refine At.enter rfl ?_
        refine r_iconst 0 rfl ?_
        refine Ar.fall 15 rfl ?_
        refine At.enter rfl ?_
        refine q_iretz (by decide) ?_
        refine At.enter rfl ?_
        refine r_ift (by decide) ?_
        refine At.enter rfl ?_
        refine r_iconst (-1) rfl ?_
        refine r_ireti ?_
        have zv50 : ((-1) : Int32).toInt = (-1) := rfl
        obtain ⟨v51, hv51⟩ : ∃ v, gI g0 1 0 = v := ⟨_, rfl⟩
        have rv51 := RgF.at hI0.2.1 (p := 1) (b := 0) rfl
        rw [hv51] at rv51
        dsimp only at rv51
        have tv51 := congrArg Int32.toInt hv51
        have x52 := HI.eqI hI0 (p := 1) (b := 0) (hv51)
        obtain ⟨v53, hv53⟩ : ∃ v, gI g0 1 4 = v := ⟨_, rfl⟩
        have rv53 := RgF.at hI0.2.1 (p := 1) (b := 4) rfl
        rw [hv53] at rv53
        dsimp only at rv53
        have tv53 := congrArg Int32.toInt hv53
        have x54 := HI.eqI hI0 (p := 1) (b := 4) (hv53)
        exact ⟨_, rfl, hI0, hF0, _, rfl, by decide, ⟨by omega, by omega, by omega, by omega⟩⟩
      · have c49_ : a4.toInt ≥ 0 := en_i_lt_f c49
        refine At.enter rfl ?_
        refine r_iload_n rfl ?_
        refine r_iload_n rfl ?_
        refine r_ics 10 rfl (fun c55 => ?_) (fun c55 => ?_)
        · have c55_ : a4.toInt > 99 := en_i_gt_t c55
          refine At.enter rfl ?_
          refine r_iconst 0 rfl ?_
          refine Ar.fall 15 rfl ?_
          refine At.enter rfl ?_
          refine q_iretz (by decide) ?_
          refine At.enter rfl ?_
          refine r_ift (by decide) ?_
          refine At.enter rfl ?_
          refine r_iconst (-1) rfl ?_
          refine r_ireti ?_
          have zv56 : ((-1) : Int32).toInt = (-1) := rfl
          obtain ⟨v57, hv57⟩ : ∃ v, gI g0 1 0 = v := ⟨_, rfl⟩
          have rv57 := RgF.at hI0.2.1 (p := 1) (b := 0) rfl
          rw [hv57] at rv57
          dsimp only at rv57
          have tv57 := congrArg Int32.toInt hv57
          have x58 := HI.eqI hI0 (p := 1) (b := 0) (hv57)
          obtain ⟨v59, hv59⟩ : ∃ v, gI g0 1 4 = v := ⟨_, rfl⟩
          have rv59 := RgF.at hI0.2.1 (p := 1) (b := 4) rfl
          rw [hv59] at rv59
          dsimp only at rv59
          have tv59 := congrArg Int32.toInt hv59
          have x60 := HI.eqI hI0 (p := 1) (b := 4) (hv59)
          exact ⟨_, rfl, hI0, hF0, _, rfl, by decide, ⟨by omega, by omega, by omega, by omega⟩⟩
        · have c55_ : a4.toInt ≤ 99 := en_i_gt_f c55
          refine At.enter rfl ?_
          refine r_iconst 1 rfl ?_
          refine r_goto ?_
          refine At.enter rfl ?_
          refine q_iretz (by decide) ?_
          refine At.enter rfl ?_
          refine r_iff 21 rfl (by decide) ?_
          refine At.enter rfl ?_
          refine r_iload rfl ?_
          refine r_iconst 0 rfl ?_
          refine r_bipush 9 rfl ?_
          refine q_inlS 29 rfl [.int a5, .int 0, .int 9] [] (Nat.le_of_ble_eq_true rfl) rfl ?_
          refine Ev.mk rfl rfl ⟨Nat.le_of_ble_eq_true rfl, Or.inl rfl⟩ ?_
          show At _ none _ _ (0, [(0, .int a5), (1, .int 0), (2, .int 9)], [], (_, _)) _
          refine At.enter rfl ?_
          refine r_iload_n rfl ?_
          refine r_iload_n rfl ?_
          refine r_ics 5 rfl (fun c61 => ?_) (fun c61 => ?_)
          · have c61_ : a5.toInt < 0 := en_i_lt_t c61
            refine At.enter rfl ?_
            refine r_iconst 0 rfl ?_
            refine Ar.fall 15 rfl ?_
            refine At.enter rfl ?_
            refine q_iretz (by decide) ?_
            refine At.enter rfl ?_
            refine r_ift (by decide) ?_
            refine At.enter rfl ?_
            refine r_iconst (-1) rfl ?_
            refine r_ireti ?_
            have zv62 : ((-1) : Int32).toInt = (-1) := rfl
            obtain ⟨v63, hv63⟩ : ∃ v, gI g0 1 0 = v := ⟨_, rfl⟩
            have rv63 := RgF.at hI0.2.1 (p := 1) (b := 0) rfl
            rw [hv63] at rv63
            dsimp only at rv63
            have tv63 := congrArg Int32.toInt hv63
            have x64 := HI.eqI hI0 (p := 1) (b := 0) (hv63)
            obtain ⟨v65, hv65⟩ : ∃ v, gI g0 1 4 = v := ⟨_, rfl⟩
            have rv65 := RgF.at hI0.2.1 (p := 1) (b := 4) rfl
            rw [hv65] at rv65
            dsimp only at rv65
            have tv65 := congrArg Int32.toInt hv65
            have x66 := HI.eqI hI0 (p := 1) (b := 4) (hv65)
            exact ⟨_, rfl, hI0, hF0, _, rfl, by decide, ⟨by omega, by omega, by omega, by omega⟩⟩
          · have c61_ : a5.toInt ≥ 0 := en_i_lt_f c61
            refine At.enter rfl ?_
            refine r_iload_n rfl ?_
            refine r_iload_n rfl ?_
            refine r_ics 10 rfl (fun c67 => ?_) (fun c67 => ?_)
            · have c67_ : a5.toInt > 9 := en_i_gt_t c67
              refine At.enter rfl ?_
              refine r_iconst 0 rfl ?_
              refine Ar.fall 15 rfl ?_
              refine At.enter rfl ?_
              refine q_iretz (by decide) ?_
              refine At.enter rfl ?_
              refine r_ift (by decide) ?_
              refine At.enter rfl ?_
              refine r_iconst (-1) rfl ?_
              refine r_ireti ?_
              have zv68 : ((-1) : Int32).toInt = (-1) := rfl
              obtain ⟨v69, hv69⟩ : ∃ v, gI g0 1 0 = v := ⟨_, rfl⟩
              have rv69 := RgF.at hI0.2.1 (p := 1) (b := 0) rfl
              rw [hv69] at rv69
              dsimp only at rv69
              have tv69 := congrArg Int32.toInt hv69
              have x70 := HI.eqI hI0 (p := 1) (b := 0) (hv69)
              obtain ⟨v71, hv71⟩ : ∃ v, gI g0 1 4 = v := ⟨_, rfl⟩
              have rv71 := RgF.at hI0.2.1 (p := 1) (b := 4) rfl
              rw [hv71] at rv71
              dsimp only at rv71
              have tv71 := congrArg Int32.toInt hv71
              have x72 := HI.eqI hI0 (p := 1) (b := 4) (hv71)
              exact ⟨_, rfl, hI0, hF0, _, rfl, by decide, ⟨by omega, by omega, by omega, by omega⟩⟩
            · have c67_ : a5.toInt ≤ 9 := en_i_gt_f c67
              refine At.enter rfl ?_
              refine r_iconst 1 rfl ?_
              refine r_goto ?_
              refine At.enter rfl ?_
              refine q_iretz (by decide) ?_
              refine At.enter rfl ?_
              refine r_iff 32 rfl (by decide) ?_
              refine At.enter rfl ?_
              refine r_iload rfl ?_
              refine r_iconst 0 rfl ?_
              refine r_sipush 9999 rfl ?_
              refine q_inlS 41 rfl [.int a6, .int 0, .int 9999] [] (Nat.le_of_ble_eq_true rfl) rfl ?_
              refine Ev.mk rfl rfl ⟨Nat.le_of_ble_eq_true rfl, Or.inl rfl⟩ ?_
              show At _ none _ _ (0, [(0, .int a6), (1, .int 0), (2, .int 9999)], [], (_, _)) _
              refine At.enter rfl ?_
              refine r_iload_n rfl ?_
              refine r_iload_n rfl ?_
              refine r_ics 5 rfl (fun c73 => ?_) (fun c73 => ?_)
              · have c73_ : a6.toInt < 0 := en_i_lt_t c73
                refine At.enter rfl ?_
                refine r_iconst 0 rfl ?_
                refine Ar.fall 15 rfl ?_
                refine At.enter rfl ?_
                refine q_iretz (by decide) ?_
                refine At.enter rfl ?_
                refine r_iff 44 rfl (by decide) ?_
                refine At.enter rfl ?_
                refine r_iconst (-1) rfl ?_
                refine r_ireti ?_
                have zv74 : ((-1) : Int32).toInt = (-1) := rfl
                obtain ⟨v75, hv75⟩ : ∃ v, gI g0 1 0 = v := ⟨_, rfl⟩
                have rv75 := RgF.at hI0.2.1 (p := 1) (b := 0) rfl
                rw [hv75] at rv75
                dsimp only at rv75
                have tv75 := congrArg Int32.toInt hv75
                have x76 := HI.eqI hI0 (p := 1) (b := 0) (hv75)
                obtain ⟨v77, hv77⟩ : ∃ v, gI g0 1 4 = v := ⟨_, rfl⟩
                have rv77 := RgF.at hI0.2.1 (p := 1) (b := 4) rfl
                rw [hv77] at rv77
                dsimp only at rv77
                have tv77 := congrArg Int32.toInt hv77
                have x78 := HI.eqI hI0 (p := 1) (b := 4) (hv77)
                exact ⟨_, rfl, hI0, hF0, _, rfl, by decide, ⟨by omega, by omega, by omega, by omega⟩⟩
              · have c73_ : a6.toInt ≥ 0 := en_i_lt_f c73
                refine At.enter rfl ?_
                refine r_iload_n rfl ?_
                refine r_iload_n rfl ?_
                refine r_ics 10 rfl (fun c79 => ?_) (fun c79 => ?_)
                · have c79_ : a6.toInt > 9999 := en_i_gt_t c79
                  refine At.enter rfl ?_
                  refine r_iconst 0 rfl ?_
                  refine Ar.fall 15 rfl ?_
                  refine At.enter rfl ?_
                  refine q_iretz (by decide) ?_
                  refine At.enter rfl ?_
                  refine r_iff 44 rfl (by decide) ?_
                  refine At.enter rfl ?_
                  refine r_iconst (-1) rfl ?_
                  refine r_ireti ?_
                  have zv80 : ((-1) : Int32).toInt = (-1) := rfl
                  obtain ⟨v81, hv81⟩ : ∃ v, gI g0 1 0 = v := ⟨_, rfl⟩
                  have rv81 := RgF.at hI0.2.1 (p := 1) (b := 0) rfl
                  rw [hv81] at rv81
                  dsimp only at rv81
                  have tv81 := congrArg Int32.toInt hv81
                  have x82 := HI.eqI hI0 (p := 1) (b := 0) (hv81)
                  obtain ⟨v83, hv83⟩ : ∃ v, gI g0 1 4 = v := ⟨_, rfl⟩
                  have rv83 := RgF.at hI0.2.1 (p := 1) (b := 4) rfl
                  rw [hv83] at rv83
                  dsimp only at rv83
                  have tv83 := congrArg Int32.toInt hv83
                  have x84 := HI.eqI hI0 (p := 1) (b := 4) (hv83)
                  exact ⟨_, rfl, hI0, hF0, _, rfl, by decide, ⟨by omega, by omega, by omega, by omega⟩⟩
                · have c79_ : a6.toInt ≤ 9999 := en_i_gt_f c79
                  refine At.enter rfl ?_
                  refine r_iconst 1 rfl ?_
                  refine r_goto ?_
                  refine At.enter rfl ?_
                  refine q_iretz (by decide) ?_
                  refine At.enter rfl ?_
                  refine r_ift (by decide) ?_
                  refine At.enter rfl ?_
                  refine r_aload_n rfl ?_
                  refine q_getR (Sh.ref hI0.1 kx_0 rfl) ?_
                  refine r_iload_n rfl ?_
                  refine q_inlV 54 rfl [.ref 1, .int a2] [] (Nat.le_of_ble_eq_true rfl) rfl ?_
                  refine Ev.mk rfl rfl ⟨Nat.le_of_ble_eq_true rfl, Or.inr (q_rc hI0.1 kx_1 rfl)⟩ ?_
                  show At _ none _ _ (0, [(0, .ref 1), (1, .int a2)], [], (_, _)) _
                  refine At.enter rfl ?_
                  refine r_iload_n rfl ?_
                  refine r_ifs 4 rfl (fun c85 => ?_) (fun c85 => ?_)
                  · have c85_ : a2.toInt < 0 := en_k_lt_t c85
                    refine At.enter rfl ?_
                    refine r_iconst 0 rfl ?_
                    refine Ar.fall 17 rfl ?_
                    refine At.enter rfl ?_
                    refine q_iretz (by decide) ?_
                    refine At.enter rfl ?_
                    refine r_ift (by decide) ?_
                    refine At.enter rfl ?_
                    refine r_bipush (-2) rfl ?_
                    refine r_ireti ?_
                    have zv86 : ((-2) : Int32).toInt = (-2) := rfl
                    obtain ⟨v87, hv87⟩ : ∃ v, gI g0 1 0 = v := ⟨_, rfl⟩
                    have rv87 := RgF.at hI0.2.1 (p := 1) (b := 0) rfl
                    rw [hv87] at rv87
                    dsimp only at rv87
                    have tv87 := congrArg Int32.toInt hv87
                    have x88 := HI.eqI hI0 (p := 1) (b := 0) (hv87)
                    obtain ⟨v89, hv89⟩ : ∃ v, gI g0 1 4 = v := ⟨_, rfl⟩
                    have rv89 := RgF.at hI0.2.1 (p := 1) (b := 4) rfl
                    rw [hv89] at rv89
                    dsimp only at rv89
                    have tv89 := congrArg Int32.toInt hv89
                    have x90 := HI.eqI hI0 (p := 1) (b := 4) (hv89)
                    exact ⟨_, rfl, hI0, hF0, _, rfl, by decide, ⟨by omega, by omega, by omega, by omega⟩⟩
                  · have c85_ : a2.toInt ≥ 0 := en_k_lt_f c85
                    refine At.enter rfl ?_
                    refine r_iload_n rfl ?_
                    refine r_aload_n rfl ?_
                    obtain ⟨v91, hv91⟩ : ∃ v, gI g0 1 0 = v := ⟨_, rfl⟩
                    have rv91 := RgF.at hI0.2.1 (p := 1) (b := 0) rfl
                    rw [hv91] at rv91
                    dsimp only at rv91
                    refine q_getI (Sh.int hI0.1 kx_1 rfl) v91 hv91 ?_
                    have bv93 := q_bnd a2
                    have bv94 := q_bnd v91
                    refine r_ics 12 rfl (fun c92 => ?_) (fun c92 => ?_)
                    · have c92_ : a2.toInt ≥ v91.toInt := en_i_ge_t c92
                      refine At.enter rfl ?_
                      refine r_iconst 0 rfl ?_
                      refine Ar.fall 17 rfl ?_
                      refine At.enter rfl ?_
                      refine q_iretz (by decide) ?_
                      refine At.enter rfl ?_
                      refine r_ift (by decide) ?_
                      refine At.enter rfl ?_
                      refine r_bipush (-2) rfl ?_
                      refine r_ireti ?_
                      have zv95 : ((-2) : Int32).toInt = (-2) := rfl
                      have x96 := HI.eqI hI0 (p := 1) (b := 0) (hv91)
                      obtain ⟨v97, hv97⟩ : ∃ v, gI g0 1 4 = v := ⟨_, rfl⟩
                      have rv97 := RgF.at hI0.2.1 (p := 1) (b := 4) rfl
                      rw [hv97] at rv97
                      dsimp only at rv97
                      have tv97 := congrArg Int32.toInt hv97
                      have x98 := HI.eqI hI0 (p := 1) (b := 4) (hv97)
                      exact ⟨_, rfl, hI0, hF0, _, rfl, by decide, ⟨by omega, by omega, by omega, by omega⟩⟩
                    · have c92_ : a2.toInt < v91.toInt := en_i_ge_f c92
                      refine At.enter rfl ?_
                      refine r_iconst 1 rfl ?_
                      refine r_goto ?_
                      refine At.enter rfl ?_
                      refine q_iretz (by decide) ?_
                      refine At.enter rfl ?_
                      refine r_iff 57 rfl (by decide) ?_
                      refine At.enter rfl ?_
                      refine r_aload_n rfl ?_
                      refine q_getR (Sh.ref hI0.1 kx_0 rfl) ?_
                      refine r_iload_n rfl ?_
                      refine q_inlV 65 rfl [.ref 1, .int a3] [] (Nat.le_of_ble_eq_true rfl) rfl ?_
                      refine Ev.mk rfl rfl ⟨Nat.le_of_ble_eq_true rfl, Or.inr (q_rc hI0.1 kx_1 rfl)⟩ ?_
                      show At _ none _ _ (0, [(0, .ref 1), (1, .int a3)], [], (_, _)) _
                      refine At.enter rfl ?_
                      refine r_iload_n rfl ?_
                      refine r_ifs 4 rfl (fun c99 => ?_) (fun c99 => ?_)
                      · have c99_ : a3.toInt < 0 := en_k_lt_t c99
                        refine At.enter rfl ?_
                        refine r_iconst 0 rfl ?_
                        refine Ar.fall 17 rfl ?_
                        refine At.enter rfl ?_
                        refine q_iretz (by decide) ?_
                        refine At.enter rfl ?_
                        refine r_iff 68 rfl (by decide) ?_
                        refine At.enter rfl ?_
                        refine r_bipush (-2) rfl ?_
                        refine r_ireti ?_
                        have zv100 : ((-2) : Int32).toInt = (-2) := rfl
                        have x101 := HI.eqI hI0 (p := 1) (b := 0) (hv91)
                        obtain ⟨v102, hv102⟩ : ∃ v, gI g0 1 4 = v := ⟨_, rfl⟩
                        have rv102 := RgF.at hI0.2.1 (p := 1) (b := 4) rfl
                        rw [hv102] at rv102
                        dsimp only at rv102
                        have tv102 := congrArg Int32.toInt hv102
                        have x103 := HI.eqI hI0 (p := 1) (b := 4) (hv102)
                        exact ⟨_, rfl, hI0, hF0, _, rfl, by decide, ⟨by omega, by omega, by omega, by omega⟩⟩
                      · have c99_ : a3.toInt ≥ 0 := en_k_lt_f c99
                        refine At.enter rfl ?_
                        refine r_iload_n rfl ?_
                        refine r_aload_n rfl ?_
                        refine q_getI (Sh.int hI0.1 kx_1 rfl) v91 hv91 ?_
                        have bv105 := q_bnd a3
                        refine r_ics 12 rfl (fun c104 => ?_) (fun c104 => ?_)
                        · have c104_ : a3.toInt ≥ v91.toInt := en_i_ge_t c104
                          refine At.enter rfl ?_
                          refine r_iconst 0 rfl ?_
                          refine Ar.fall 17 rfl ?_
                          refine At.enter rfl ?_
                          refine q_iretz (by decide) ?_
                          refine At.enter rfl ?_
                          refine r_iff 68 rfl (by decide) ?_
                          refine At.enter rfl ?_
                          refine r_bipush (-2) rfl ?_
                          refine r_ireti ?_
                          have zv106 : ((-2) : Int32).toInt = (-2) := rfl
                          have x107 := HI.eqI hI0 (p := 1) (b := 0) (hv91)
                          obtain ⟨v108, hv108⟩ : ∃ v, gI g0 1 4 = v := ⟨_, rfl⟩
                          have rv108 := RgF.at hI0.2.1 (p := 1) (b := 4) rfl
                          rw [hv108] at rv108
                          dsimp only at rv108
                          have tv108 := congrArg Int32.toInt hv108
                          have x109 := HI.eqI hI0 (p := 1) (b := 4) (hv108)
                          exact ⟨_, rfl, hI0, hF0, _, rfl, by decide, ⟨by omega, by omega, by omega, by omega⟩⟩
                        · have c104_ : a3.toInt < v91.toInt := en_i_ge_f c104
                          refine At.enter rfl ?_
                          refine r_iconst 1 rfl ?_
                          refine r_goto ?_
                          refine At.enter rfl ?_
                          refine q_iretz (by decide) ?_
                          refine At.enter rfl ?_
                          refine r_ift (by decide) ?_
                          refine At.enter rfl ?_
                          refine r_aload_n rfl ?_
                          refine q_getR (Sh.ref hI0.1 kx_0 rfl) ?_
                          obtain ⟨v110, hv110⟩ : ∃ v, gI g0 1 4 = v := ⟨_, rfl⟩
                          have rv110 := RgF.at hI0.2.1 (p := 1) (b := 4) rfl
                          rw [hv110] at rv110
                          dsimp only at rv110
                          refine q_getI (Sh.int hI0.1 kx_1 rfl) v110 hv110 ?_
                          refine r_bipush 8 rfl ?_
                          refine r_ics 83 rfl (fun c111 => ?_) (fun c111 => ?_)
                          · have c111_ : v110.toInt < 8 := en_i_lt_t c111
                            refine At.enter rfl ?_
                            refine r_iconst 0 rfl ?_
                            refine Ar.fall 89 rfl ?_
                            refine At.enter rfl ?_
                            refine r_ireti ?_
                            have zv112 : (0 : Int32).toInt = 0 := rfl
                            have x113 := HI.eqI hI0 (p := 1) (b := 0) (hv91)
                            have x114 := HI.eqI hI0 (p := 1) (b := 4) (hv110)
                            exact ⟨_, rfl, hI0, hF0, _, rfl, by decide, ⟨by omega, by omega, by omega, by omega⟩⟩
                          · have c111_ : v110.toInt ≥ 8 := en_i_lt_f c111
                            refine At.enter rfl ?_
                            refine r_bipush (-5) rfl ?_
                            refine r_goto ?_
                            refine At.enter rfl ?_
                            refine r_ireti ?_
                            have zv115 : ((-5) : Int32).toInt = (-5) := rfl
                            have x116 := HI.eqI hI0 (p := 1) (b := 0) (hv91)
                            have x117 := HI.eqI hI0 (p := 1) (b := 4) (hv110)
                            exact ⟨_, rfl, hI0, hF0, _, rfl, by decide, ⟨by omega, by omega, by omega, by omega⟩⟩

def F_X0_addLoad_1 : List (Nat × Nat) := [(1, 4)]
def A_X0_addLoad_1 : List Nat := [5]
set_option maxRecDepth 100000 in
set_option maxHeartbeats 4000000 in
theorem T_X0_addLoad_1 (d : Nat) {N : Nat} {g0 : List en_E} (hI0 : HI g0) (a1 : Int32) (a2 : Int32) (a3 : Int32) (a4 : Int32) (a5 : Int32) (a6 : Int32) : Ev (d + 1) 6 [.ref 1, .int a1, .int a2, .int a3, .int a4, .int a5, .int a6] (g0, N) (fun w h' => ∃ g', h' = (g', N) ∧ HI g' ∧ Fr F_X0_addLoad_1 A_X0_addLoad_1 g0 g' ∧ ∃ r : Int32, w = some (.int r) ∧ ((-1) ≤ r.toInt ∧ r.toInt ≤ 7) ∧ (((gI g0 1 4).toInt < 8 → r.toInt = (gI g0 1 4).toInt ∧ (gI g' 1 4).toInt = (gI g0 1 4).toInt + 1) ∧ (8 ≤ (gI g0 1 4).toInt → (gI g' 1 4).toInt = (gI g0 1 4).toInt) ∧ (∀ i : Int, 0 ≤ i → i < 48 → (eA g' 5 (i)).toInt = if (gI g0 1 4).toInt < 8 ∧ i = 6 * (gI g0 1 4).toInt + 0 then a1.toInt else if (gI g0 1 4).toInt < 8 ∧ i = 6 * (gI g0 1 4).toInt + 1 then a2.toInt else if (gI g0 1 4).toInt < 8 ∧ i = 6 * (gI g0 1 4).toInt + 2 then a3.toInt else if (gI g0 1 4).toInt < 8 ∧ i = 6 * (gI g0 1 4).toInt + 3 then a4.toInt else if (gI g0 1 4).toInt < 8 ∧ i = 6 * (gI g0 1 4).toInt + 4 then a5.toInt else if (gI g0 1 4).toInt < 8 ∧ i = 6 * (gI g0 1 4).toInt + 5 then a6.toInt else (eA g0 5 (i)).toInt))) := by
  have hF0 : Fr F_X0_addLoad_1 A_X0_addLoad_1 g0 g0 := Fr.rf
  refine Ev.mk rfl rfl ⟨Nat.le_of_ble_eq_true rfl, Or.inr (q_rc hI0.1 kx_1 rfl)⟩ ?_
  show At _ none _ _ (0, [(0, .ref 1), (1, .int a1), (2, .int a2), (3, .int a3), (4, .int a4), (5, .int a5), (6, .int a6)], [], (_, _)) _
  refine At.enter rfl ?_
  refine r_aload_n rfl ?_
  obtain ⟨v51, hv51⟩ : ∃ v, gI g0 1 4 = v := ⟨_, rfl⟩
  have rv51 := RgF.at hI0.2.1 (p := 1) (b := 4) rfl
  rw [hv51] at rv51
  dsimp only at rv51
  refine q_getI (Sh.int hI0.1 kx_1 rfl) v51 hv51 ?_
  refine r_bipush 8 rfl ?_
  refine r_ics 9 rfl (fun c52 => ?_) (fun c52 => ?_)
  · have c52_ : v51.toInt < 8 := en_i_lt_t c52
    refine At.enter rfl ?_
    refine r_aload_n rfl ?_
    refine q_getI (Sh.int hI0.1 kx_1 rfl) v51 hv51 ?_
    refine r_bipush 6 rfl ?_
    refine q_imul (v51.toInt * 6) rfl (by omega) (fun v53 hv53 => ?_)
    refine r_istore ([(7, .int v53), (0, .ref 1), (1, .int a1), (2, .int a2), (3, .int a3), (4, .int a4), (5, .int a5), (6, .int a6)]) rfl ?_
    refine r_aload_n rfl ?_
    refine q_getR (Sh.ref hI0.1 kx_1 rfl) ?_
    refine r_iload rfl ?_
    refine r_iconst 0 rfl ?_
    refine q_iadd (v53.toInt + 0) rfl (by omega) (fun v54 hv54 => ?_)
    refine r_iload_n rfl ?_
    refine q_iast (Sh.arr hI0.1 ka_5) ((6 * v51.toInt)) (by omega) (by omega) ?_
    have hI55 := HI.wA0 hI0 ka_5 (p := 5) rfl rfl ((6 * v51.toInt)) (a1)
    have hF56 := Fr.wA (p := 5) (j := (6 * v51.toInt)) (v := a1) hF0 rfl
    refine r_aload_n rfl ?_
    refine q_getR (Sh.ref hI55.1 kx_1 rfl) ?_
    refine r_iload rfl ?_
    refine r_iconst 1 rfl ?_
    refine q_iadd (v53.toInt + 1) rfl (by omega) (fun v57 hv57 => ?_)
    refine r_iload_n rfl ?_
    refine q_iast (Sh.arr hI55.1 ka_5) ((6 * v51.toInt + 1)) (by omega) (by omega) ?_
    have hI58 := HI.wA0 hI55 ka_5 (p := 5) rfl rfl ((6 * v51.toInt + 1)) (a2)
    have hF59 := Fr.wA (p := 5) (j := (6 * v51.toInt + 1)) (v := a2) hF56 rfl
    refine r_aload_n rfl ?_
    refine q_getR (Sh.ref hI58.1 kx_1 rfl) ?_
    refine r_iload rfl ?_
    refine r_iconst 2 rfl ?_
    refine q_iadd (v53.toInt + 2) rfl (by omega) (fun v60 hv60 => ?_)
    refine r_iload_n rfl ?_
    refine q_iast (Sh.arr hI58.1 ka_5) ((6 * v51.toInt + 2)) (by omega) (by omega) ?_
    have hI61 := HI.wA0 hI58 ka_5 (p := 5) rfl rfl ((6 * v51.toInt + 2)) (a3)
    have hF62 := Fr.wA (p := 5) (j := (6 * v51.toInt + 2)) (v := a3) hF59 rfl
    refine r_aload_n rfl ?_
    refine q_getR (Sh.ref hI61.1 kx_1 rfl) ?_
    refine r_iload rfl ?_
    refine r_iconst 3 rfl ?_
    refine q_iadd (v53.toInt + 3) rfl (by omega) (fun v63 hv63 => ?_)
    refine r_iload rfl ?_
    refine q_iast (Sh.arr hI61.1 ka_5) ((6 * v51.toInt + 3)) (by omega) (by omega) ?_
    have hI64 := HI.wA0 hI61 ka_5 (p := 5) rfl rfl ((6 * v51.toInt + 3)) (a4)
    have hF65 := Fr.wA (p := 5) (j := (6 * v51.toInt + 3)) (v := a4) hF62 rfl
    refine r_aload_n rfl ?_
    refine q_getR (Sh.ref hI64.1 kx_1 rfl) ?_
    refine r_iload rfl ?_
    refine r_iconst 4 rfl ?_
    refine q_iadd (v53.toInt + 4) rfl (by omega) (fun v66 hv66 => ?_)
    refine r_iload rfl ?_
    refine q_iast (Sh.arr hI64.1 ka_5) ((6 * v51.toInt + 4)) (by omega) (by omega) ?_
    have hI67 := HI.wA0 hI64 ka_5 (p := 5) rfl rfl ((6 * v51.toInt + 4)) (a5)
    have hF68 := Fr.wA (p := 5) (j := (6 * v51.toInt + 4)) (v := a5) hF65 rfl
    refine r_aload_n rfl ?_
    refine q_getR (Sh.ref hI67.1 kx_1 rfl) ?_
    refine r_iload rfl ?_
    refine r_iconst 5 rfl ?_
    refine q_iadd (v53.toInt + 5) rfl (by omega) (fun v69 hv69 => ?_)
    refine r_iload rfl ?_
    refine q_iast (Sh.arr hI67.1 ka_5) ((6 * v51.toInt + 5)) (by omega) (by omega) ?_
    have hI70 := HI.wA0 hI67 ka_5 (p := 5) rfl rfl ((6 * v51.toInt + 5)) (a6)
    have hF71 := Fr.wA (p := 5) (j := (6 * v51.toInt + 5)) (v := a6) hF68 rfl
    refine r_aload_n rfl ?_
    refine r_dup rfl ?_
    refine q_getI (Sh.int hI70.1 kx_1 rfl) v51 (((gI_sW).trans ((gI_sW).trans ((gI_sW).trans ((gI_sW).trans ((gI_sW).trans (gI_sW)))))).trans hv51) ?_
    refine r_iconst 1 rfl ?_
    refine q_iadd (v51.toInt + 1) rfl (by omega) (fun v72 hv72 => ?_)
    refine q_putI (Sh.int hI70.1 kx_1 rfl) rfl ?_
    have hI73 := HI.wI1 hI70 kx_1 rfl (p := 1) (b := 4) (v := v72) rfl (by dsimp only; omega)
    have hF74 := Fr.wI (p := 1) (b := 4) (v := v72) hF71 rfl
    refine r_aload_n rfl ?_
    refine q_getI (Sh.int hI73.1 kx_1 rfl) v72 (gI_sI_eq hI70.1 kx_1 rfl _) ?_
    refine r_iconst 1 rfl ?_
    refine q_isub (v72.toInt - 1) rfl (by omega) (fun v75 hv75 => ?_)
    refine r_ireti ?_
    have x76 := HI.eqI hI73 (p := 1) (b := 4) ((gI_sI_eq hI70.1 kx_1 rfl _))
    have x77 := HI.eqI hI0 (p := 1) (b := 4) (hv51)
    exact ⟨_, rfl, hI73, hF74, _, rfl, by omega, ⟨by omega, by omega, (by intro i i0 i1; exact (Decidable.em ((gI g0 1 4).toInt < 8 ∧ i = 6 * (gI g0 1 4).toInt + 0)).elim (fun k12_ => by refine Eq.trans ?_ (if_pos k12_).symm; refine (eA_ti ((gA_sI))).trans ?_; exact (Decidable.em (i = (6 * v51.toInt + 5))).elim (fun k13_ => by refine (eA_eqT hI67.1 ka_5 k13_ (by first | decide | omega) (by first | decide | omega)).trans ?_; (first | (rfl) | (omega))) (fun k13_ => by refine (eA_neT hI67.1 ka_5 k13_ (by first | decide | omega) (by omega)).trans ?_; exact (Decidable.em (i = (6 * v51.toInt + 4))).elim (fun k14_ => by refine (eA_eqT hI64.1 ka_5 k14_ (by first | decide | omega) (by first | decide | omega)).trans ?_; (first | (rfl) | (omega))) (fun k14_ => by refine (eA_neT hI64.1 ka_5 k14_ (by first | decide | omega) (by omega)).trans ?_; exact (Decidable.em (i = (6 * v51.toInt + 3))).elim (fun k15_ => by refine (eA_eqT hI61.1 ka_5 k15_ (by first | decide | omega) (by first | decide | omega)).trans ?_; (first | (rfl) | (omega))) (fun k15_ => by refine (eA_neT hI61.1 ka_5 k15_ (by first | decide | omega) (by omega)).trans ?_; exact (Decidable.em (i = (6 * v51.toInt + 2))).elim (fun k16_ => by refine (eA_eqT hI58.1 ka_5 k16_ (by first | decide | omega) (by first | decide | omega)).trans ?_; (first | (rfl) | (omega))) (fun k16_ => by refine (eA_neT hI58.1 ka_5 k16_ (by first | decide | omega) (by omega)).trans ?_; exact (Decidable.em (i = (6 * v51.toInt + 1))).elim (fun k17_ => by refine (eA_eqT hI55.1 ka_5 k17_ (by first | decide | omega) (by first | decide | omega)).trans ?_; (first | (rfl) | (omega))) (fun k17_ => by refine (eA_neT hI55.1 ka_5 k17_ (by first | decide | omega) (by omega)).trans ?_; exact (Decidable.em (i = (6 * v51.toInt))).elim (fun k18_ => by refine (eA_eqT hI0.1 ka_5 k18_ (by first | decide | omega) (by first | decide | omega)).trans ?_; (first | (rfl) | (omega))) (fun k18_ => by refine (eA_neT hI0.1 ka_5 k18_ (by first | decide | omega) (by omega)).trans ?_; (first | rfl | exact eA_ix (by omega) | omega)))))))) (fun k12_ => by refine Eq.trans ?_ (if_neg k12_).symm; exact (Decidable.em ((gI g0 1 4).toInt < 8 ∧ i = 6 * (gI g0 1 4).toInt + 1)).elim (fun k19_ => by refine Eq.trans ?_ (if_pos k19_).symm; refine (eA_ti ((gA_sI))).trans ?_; exact (Decidable.em (i = (6 * v51.toInt + 5))).elim (fun k20_ => by refine (eA_eqT hI67.1 ka_5 k20_ (by first | decide | omega) (by first | decide | omega)).trans ?_; (first | (rfl) | (omega))) (fun k20_ => by refine (eA_neT hI67.1 ka_5 k20_ (by first | decide | omega) (by omega)).trans ?_; exact (Decidable.em (i = (6 * v51.toInt + 4))).elim (fun k21_ => by refine (eA_eqT hI64.1 ka_5 k21_ (by first | decide | omega) (by first | decide | omega)).trans ?_; (first | (rfl) | (omega))) (fun k21_ => by refine (eA_neT hI64.1 ka_5 k21_ (by first | decide | omega) (by omega)).trans ?_; exact (Decidable.em (i = (6 * v51.toInt + 3))).elim (fun k22_ => by refine (eA_eqT hI61.1 ka_5 k22_ (by first | decide | omega) (by first | decide | omega)).trans ?_; (first | (rfl) | (omega))) (fun k22_ => by refine (eA_neT hI61.1 ka_5 k22_ (by first | decide | omega) (by omega)).trans ?_; exact (Decidable.em (i = (6 * v51.toInt + 2))).elim (fun k23_ => by refine (eA_eqT hI58.1 ka_5 k23_ (by first | decide | omega) (by first | decide | omega)).trans ?_; (first | (rfl) | (omega))) (fun k23_ => by refine (eA_neT hI58.1 ka_5 k23_ (by first | decide | omega) (by omega)).trans ?_; exact (Decidable.em (i = (6 * v51.toInt + 1))).elim (fun k24_ => by refine (eA_eqT hI55.1 ka_5 k24_ (by first | decide | omega) (by first | decide | omega)).trans ?_; (first | (rfl) | (omega))) (fun k24_ => by refine (eA_neT hI55.1 ka_5 k24_ (by first | decide | omega) (by omega)).trans ?_; exact (Decidable.em (i = (6 * v51.toInt))).elim (fun k25_ => by refine (eA_eqT hI0.1 ka_5 k25_ (by first | decide | omega) (by first | decide | omega)).trans ?_; (first | (rfl) | (omega))) (fun k25_ => by refine (eA_neT hI0.1 ka_5 k25_ (by first | decide | omega) (by omega)).trans ?_; (first | rfl | exact eA_ix (by omega) | omega)))))))) (fun k19_ => by refine Eq.trans ?_ (if_neg k19_).symm; exact (Decidable.em ((gI g0 1 4).toInt < 8 ∧ i = 6 * (gI g0 1 4).toInt + 2)).elim (fun k26_ => by refine Eq.trans ?_ (if_pos k26_).symm; refine (eA_ti ((gA_sI))).trans ?_; exact (Decidable.em (i = (6 * v51.toInt + 5))).elim (fun k27_ => by refine (eA_eqT hI67.1 ka_5 k27_ (by first | decide | omega) (by first | decide | omega)).trans ?_; (first | (rfl) | (omega))) (fun k27_ => by refine (eA_neT hI67.1 ka_5 k27_ (by first | decide | omega) (by omega)).trans ?_; exact (Decidable.em (i = (6 * v51.toInt + 4))).elim (fun k28_ => by refine (eA_eqT hI64.1 ka_5 k28_ (by first | decide | omega) (by first | decide | omega)).trans ?_; (first | (rfl) | (omega))) (fun k28_ => by refine (eA_neT hI64.1 ka_5 k28_ (by first | decide | omega) (by omega)).trans ?_; exact (Decidable.em (i = (6 * v51.toInt + 3))).elim (fun k29_ => by refine (eA_eqT hI61.1 ka_5 k29_ (by first | decide | omega) (by first | decide | omega)).trans ?_; (first | (rfl) | (omega))) (fun k29_ => by refine (eA_neT hI61.1 ka_5 k29_ (by first | decide | omega) (by omega)).trans ?_; exact (Decidable.em (i = (6 * v51.toInt + 2))).elim (fun k30_ => by refine (eA_eqT hI58.1 ka_5 k30_ (by first | decide | omega) (by first | decide | omega)).trans ?_; (first | (rfl) | (omega))) (fun k30_ => by refine (eA_neT hI58.1 ka_5 k30_ (by first | decide | omega) (by omega)).trans ?_; exact (Decidable.em (i = (6 * v51.toInt + 1))).elim (fun k31_ => by refine (eA_eqT hI55.1 ka_5 k31_ (by first | decide | omega) (by first | decide | omega)).trans ?_; (first | (rfl) | (omega))) (fun k31_ => by refine (eA_neT hI55.1 ka_5 k31_ (by first | decide | omega) (by omega)).trans ?_; exact (Decidable.em (i = (6 * v51.toInt))).elim (fun k32_ => by refine (eA_eqT hI0.1 ka_5 k32_ (by first | decide | omega) (by first | decide | omega)).trans ?_; (first | (rfl) | (omega))) (fun k32_ => by refine (eA_neT hI0.1 ka_5 k32_ (by first | decide | omega) (by omega)).trans ?_; (first | rfl | exact eA_ix (by omega) | omega)))))))) (fun k26_ => by refine Eq.trans ?_ (if_neg k26_).symm; exact (Decidable.em ((gI g0 1 4).toInt < 8 ∧ i = 6 * (gI g0 1 4).toInt + 3)).elim (fun k33_ => by refine Eq.trans ?_ (if_pos k33_).symm; refine (eA_ti ((gA_sI))).trans ?_; exact (Decidable.em (i = (6 * v51.toInt + 5))).elim (fun k34_ => by refine (eA_eqT hI67.1 ka_5 k34_ (by first | decide | omega) (by first | decide | omega)).trans ?_; (first | (rfl) | (omega))) (fun k34_ => by refine (eA_neT hI67.1 ka_5 k34_ (by first | decide | omega) (by omega)).trans ?_; exact (Decidable.em (i = (6 * v51.toInt + 4))).elim (fun k35_ => by refine (eA_eqT hI64.1 ka_5 k35_ (by first | decide | omega) (by first | decide | omega)).trans ?_; (first | (rfl) | (omega))) (fun k35_ => by refine (eA_neT hI64.1 ka_5 k35_ (by first | decide | omega) (by omega)).trans ?_; exact (Decidable.em (i = (6 * v51.toInt + 3))).elim (fun k36_ => by refine (eA_eqT hI61.1 ka_5 k36_ (by first | decide | omega) (by first | decide | omega)).trans ?_; (first | (rfl) | (omega))) (fun k36_ => by refine (eA_neT hI61.1 ka_5 k36_ (by first | decide | omega) (by omega)).trans ?_; exact (Decidable.em (i = (6 * v51.toInt + 2))).elim (fun k37_ => by refine (eA_eqT hI58.1 ka_5 k37_ (by first | decide | omega) (by first | decide | omega)).trans ?_; (first | (rfl) | (omega))) (fun k37_ => by refine (eA_neT hI58.1 ka_5 k37_ (by first | decide | omega) (by omega)).trans ?_; exact (Decidable.em (i = (6 * v51.toInt + 1))).elim (fun k38_ => by refine (eA_eqT hI55.1 ka_5 k38_ (by first | decide | omega) (by first | decide | omega)).trans ?_; (first | (rfl) | (omega))) (fun k38_ => by refine (eA_neT hI55.1 ka_5 k38_ (by first | decide | omega) (by omega)).trans ?_; exact (Decidable.em (i = (6 * v51.toInt))).elim (fun k39_ => by refine (eA_eqT hI0.1 ka_5 k39_ (by first | decide | omega) (by first | decide | omega)).trans ?_; (first | (rfl) | (omega))) (fun k39_ => by refine (eA_neT hI0.1 ka_5 k39_ (by first | decide | omega) (by omega)).trans ?_; (first | rfl | exact eA_ix (by omega) | omega)))))))) (fun k33_ => by refine Eq.trans ?_ (if_neg k33_).symm; exact (Decidable.em ((gI g0 1 4).toInt < 8 ∧ i = 6 * (gI g0 1 4).toInt + 4)).elim (fun k40_ => by refine Eq.trans ?_ (if_pos k40_).symm; refine (eA_ti ((gA_sI))).trans ?_; exact (Decidable.em (i = (6 * v51.toInt + 5))).elim (fun k41_ => by refine (eA_eqT hI67.1 ka_5 k41_ (by first | decide | omega) (by first | decide | omega)).trans ?_; (first | (rfl) | (omega))) (fun k41_ => by refine (eA_neT hI67.1 ka_5 k41_ (by first | decide | omega) (by omega)).trans ?_; exact (Decidable.em (i = (6 * v51.toInt + 4))).elim (fun k42_ => by refine (eA_eqT hI64.1 ka_5 k42_ (by first | decide | omega) (by first | decide | omega)).trans ?_; (first | (rfl) | (omega))) (fun k42_ => by refine (eA_neT hI64.1 ka_5 k42_ (by first | decide | omega) (by omega)).trans ?_; exact (Decidable.em (i = (6 * v51.toInt + 3))).elim (fun k43_ => by refine (eA_eqT hI61.1 ka_5 k43_ (by first | decide | omega) (by first | decide | omega)).trans ?_; (first | (rfl) | (omega))) (fun k43_ => by refine (eA_neT hI61.1 ka_5 k43_ (by first | decide | omega) (by omega)).trans ?_; exact (Decidable.em (i = (6 * v51.toInt + 2))).elim (fun k44_ => by refine (eA_eqT hI58.1 ka_5 k44_ (by first | decide | omega) (by first | decide | omega)).trans ?_; (first | (rfl) | (omega))) (fun k44_ => by refine (eA_neT hI58.1 ka_5 k44_ (by first | decide | omega) (by omega)).trans ?_; exact (Decidable.em (i = (6 * v51.toInt + 1))).elim (fun k45_ => by refine (eA_eqT hI55.1 ka_5 k45_ (by first | decide | omega) (by first | decide | omega)).trans ?_; (first | (rfl) | (omega))) (fun k45_ => by refine (eA_neT hI55.1 ka_5 k45_ (by first | decide | omega) (by omega)).trans ?_; exact (Decidable.em (i = (6 * v51.toInt))).elim (fun k46_ => by refine (eA_eqT hI0.1 ka_5 k46_ (by first | decide | omega) (by first | decide | omega)).trans ?_; (first | (rfl) | (omega))) (fun k46_ => by refine (eA_neT hI0.1 ka_5 k46_ (by first | decide | omega) (by omega)).trans ?_; (first | rfl | exact eA_ix (by omega) | omega)))))))) (fun k40_ => by refine Eq.trans ?_ (if_neg k40_).symm; exact (Decidable.em ((gI g0 1 4).toInt < 8 ∧ i = 6 * (gI g0 1 4).toInt + 5)).elim (fun k47_ => by refine Eq.trans ?_ (if_pos k47_).symm; refine (eA_ti ((gA_sI))).trans ?_; exact (Decidable.em (i = (6 * v51.toInt + 5))).elim (fun k48_ => by refine (eA_eqT hI67.1 ka_5 k48_ (by first | decide | omega) (by first | decide | omega)).trans ?_; (first | (rfl) | (omega))) (fun k48_ => by refine (eA_neT hI67.1 ka_5 k48_ (by first | decide | omega) (by omega)).trans ?_; exact (Decidable.em (i = (6 * v51.toInt + 4))).elim (fun k49_ => by refine (eA_eqT hI64.1 ka_5 k49_ (by first | decide | omega) (by first | decide | omega)).trans ?_; (first | (rfl) | (omega))) (fun k49_ => by refine (eA_neT hI64.1 ka_5 k49_ (by first | decide | omega) (by omega)).trans ?_; exact (Decidable.em (i = (6 * v51.toInt + 3))).elim (fun k50_ => by refine (eA_eqT hI61.1 ka_5 k50_ (by first | decide | omega) (by first | decide | omega)).trans ?_; (first | (rfl) | (omega))) (fun k50_ => by refine (eA_neT hI61.1 ka_5 k50_ (by first | decide | omega) (by omega)).trans ?_; exact (Decidable.em (i = (6 * v51.toInt + 2))).elim (fun k51_ => by refine (eA_eqT hI58.1 ka_5 k51_ (by first | decide | omega) (by first | decide | omega)).trans ?_; (first | (rfl) | (omega))) (fun k51_ => by refine (eA_neT hI58.1 ka_5 k51_ (by first | decide | omega) (by omega)).trans ?_; exact (Decidable.em (i = (6 * v51.toInt + 1))).elim (fun k52_ => by refine (eA_eqT hI55.1 ka_5 k52_ (by first | decide | omega) (by first | decide | omega)).trans ?_; (first | (rfl) | (omega))) (fun k52_ => by refine (eA_neT hI55.1 ka_5 k52_ (by first | decide | omega) (by omega)).trans ?_; exact (Decidable.em (i = (6 * v51.toInt))).elim (fun k53_ => by refine (eA_eqT hI0.1 ka_5 k53_ (by first | decide | omega) (by first | decide | omega)).trans ?_; (first | (rfl) | (omega))) (fun k53_ => by refine (eA_neT hI0.1 ka_5 k53_ (by first | decide | omega) (by omega)).trans ?_; (first | rfl | exact eA_ix (by omega) | omega)))))))) (fun k47_ => by refine Eq.trans ?_ (if_neg k47_).symm; refine (eA_ti ((gA_sI))).trans ?_; exact (Decidable.em (i = (6 * v51.toInt + 5))).elim (fun k54_ => by refine (eA_eqT hI67.1 ka_5 k54_ (by first | decide | omega) (by first | decide | omega)).trans ?_; (first | (rfl) | (omega))) (fun k54_ => by refine (eA_neT hI67.1 ka_5 k54_ (by first | decide | omega) (by omega)).trans ?_; exact (Decidable.em (i = (6 * v51.toInt + 4))).elim (fun k55_ => by refine (eA_eqT hI64.1 ka_5 k55_ (by first | decide | omega) (by first | decide | omega)).trans ?_; (first | (rfl) | (omega))) (fun k55_ => by refine (eA_neT hI64.1 ka_5 k55_ (by first | decide | omega) (by omega)).trans ?_; exact (Decidable.em (i = (6 * v51.toInt + 3))).elim (fun k56_ => by refine (eA_eqT hI61.1 ka_5 k56_ (by first | decide | omega) (by first | decide | omega)).trans ?_; (first | (rfl) | (omega))) (fun k56_ => by refine (eA_neT hI61.1 ka_5 k56_ (by first | decide | omega) (by omega)).trans ?_; exact (Decidable.em (i = (6 * v51.toInt + 2))).elim (fun k57_ => by refine (eA_eqT hI58.1 ka_5 k57_ (by first | decide | omega) (by first | decide | omega)).trans ?_; (first | (rfl) | (omega))) (fun k57_ => by refine (eA_neT hI58.1 ka_5 k57_ (by first | decide | omega) (by omega)).trans ?_; exact (Decidable.em (i = (6 * v51.toInt + 1))).elim (fun k58_ => by refine (eA_eqT hI55.1 ka_5 k58_ (by first | decide | omega) (by first | decide | omega)).trans ?_; (first | (rfl) | (omega))) (fun k58_ => by refine (eA_neT hI55.1 ka_5 k58_ (by first | decide | omega) (by omega)).trans ?_; exact (Decidable.em (i = (6 * v51.toInt))).elim (fun k59_ => by refine (eA_eqT hI0.1 ka_5 k59_ (by first | decide | omega) (by first | decide | omega)).trans ?_; (first | (rfl) | (omega))) (fun k59_ => by refine (eA_neT hI0.1 ka_5 k59_ (by first | decide | omega) (by omega)).trans ?_; (first | rfl | exact eA_ix (by omega) | omega))))))))))))))⟩⟩
  · have c52_ : v51.toInt ≥ 8 := en_i_lt_f c52
    refine At.enter rfl ?_
    refine r_iconst (-1) rfl ?_
    refine r_ireti ?_
    have zv78 : ((-1) : Int32).toInt = (-1) := rfl
    have x79 := HI.eqI hI0 (p := 1) (b := 4) (hv51)
    have x80 := HI.eqI hI0 (p := 1) (b := 4) (hv51)
    exact ⟨_, rfl, hI0, hF0, _, rfl, by decide, ⟨by omega, by omega, (by intro i i0 i1; refine Eq.trans ?_ (if_neg (show ¬ ((gI g0 1 4).toInt < 8 ∧ i = 6 * (gI g0 1 4).toInt + 0) from by omega)).symm; refine Eq.trans ?_ (if_neg (show ¬ ((gI g0 1 4).toInt < 8 ∧ i = 6 * (gI g0 1 4).toInt + 1) from by omega)).symm; refine Eq.trans ?_ (if_neg (show ¬ ((gI g0 1 4).toInt < 8 ∧ i = 6 * (gI g0 1 4).toInt + 2) from by omega)).symm; refine Eq.trans ?_ (if_neg (show ¬ ((gI g0 1 4).toInt < 8 ∧ i = 6 * (gI g0 1 4).toInt + 3) from by omega)).symm; refine Eq.trans ?_ (if_neg (show ¬ ((gI g0 1 4).toInt < 8 ∧ i = 6 * (gI g0 1 4).toInt + 4) from by omega)).symm; refine Eq.trans ?_ (if_neg (show ¬ ((gI g0 1 4).toInt < 8 ∧ i = 6 * (gI g0 1 4).toInt + 5) from by omega)).symm; (first | rfl | exact eA_ix (by omega) | omega))⟩⟩

def F_X0_removeLoad_1 : List (Nat × Nat) := [(1, 4)]
def A_X0_removeLoad_1 : List Nat := [5]
set_option maxRecDepth 100000 in
set_option maxHeartbeats 4000000 in
theorem T_X0_removeLoad_1 (d : Nat) {N : Nat} {g0 : List en_E} (hI0 : HI g0) (a1 : Int32) : Ev (d + 2) 7 [.ref 1, .int a1] (g0, N) (fun w h' => ∃ g', h' = (g', N) ∧ HI g' ∧ Fr F_X0_removeLoad_1 A_X0_removeLoad_1 g0 g' ∧ w = none ∧ ((0 ≤ a1.toInt ∧ a1.toInt < (gI g0 1 4).toInt → (gI g' 1 4).toInt = (gI g0 1 4).toInt - 1) ∧ (¬ (0 ≤ a1.toInt ∧ a1.toInt < (gI g0 1 4).toInt) → (gI g' 1 4).toInt = (gI g0 1 4).toInt) ∧ (∀ i : Int, 0 ≤ i → i < 48 → (eA g' 5 (i)).toInt = if (0 ≤ a1.toInt ∧ a1.toInt < (gI g0 1 4).toInt) ∧ 6 * a1.toInt ≤ i ∧ i < 6 * (gI g0 1 4).toInt - 6 then (eA g0 5 (i + 6)).toInt else (eA g0 5 (i)).toInt))) := by
  have hF0 : Fr F_X0_removeLoad_1 A_X0_removeLoad_1 g0 g0 := Fr.rf
  refine Ev.mk rfl rfl ⟨Nat.le_of_ble_eq_true rfl, Or.inr (q_rc hI0.1 kx_1 rfl)⟩ ?_
  show At _ none _ _ (0, [(0, .ref 1), (1, .int a1)], [], (_, _)) _
  refine At.enter rfl ?_
  refine r_aload_n rfl ?_
  refine r_iload_n rfl ?_
  refine q_inlV 5 rfl [.ref 1, .int a1] [] (Nat.le_of_ble_eq_true rfl) rfl ?_
  refine Ev.mk rfl rfl ⟨Nat.le_of_ble_eq_true rfl, Or.inr (q_rc hI0.1 kx_1 rfl)⟩ ?_
  show At _ none _ _ (0, [(0, .ref 1), (1, .int a1)], [], (_, _)) _
  refine At.enter rfl ?_
  refine r_iload_n rfl ?_
  refine r_ifs 4 rfl (fun c31 => ?_) (fun c31 => ?_)
  · have c31_ : a1.toInt < 0 := en_k_lt_t c31
    refine At.enter rfl ?_
    refine r_iconst 0 rfl ?_
    refine Ar.fall 17 rfl ?_
    refine At.enter rfl ?_
    refine q_iretz (by decide) ?_
    refine At.enter rfl ?_
    refine r_ift (by decide) ?_
    refine At.enter rfl ?_
    refine r_vret ?_
    obtain ⟨v32, hv32⟩ : ∃ v, gI g0 1 4 = v := ⟨_, rfl⟩
    have rv32 := RgF.at hI0.2.1 (p := 1) (b := 4) rfl
    rw [hv32] at rv32
    dsimp only at rv32
    have tv32 := congrArg Int32.toInt hv32
    have x33 := HI.eqI hI0 (p := 1) (b := 4) (hv32)
    have x34 := HI.eqI hI0 (p := 1) (b := 4) (hv32)
    exact ⟨_, rfl, hI0, hF0, rfl, ⟨by omega, by omega, (by intro i i0 i1; refine Eq.trans ?_ (if_neg (show ¬ ((0 ≤ a1.toInt ∧ a1.toInt < (gI g0 1 4).toInt) ∧ 6 * a1.toInt ≤ i ∧ i < 6 * (gI g0 1 4).toInt - 6) from by omega)).symm; (first | rfl | exact eA_ix (by omega) | omega))⟩⟩
  · have c31_ : a1.toInt ≥ 0 := en_k_lt_f c31
    refine At.enter rfl ?_
    refine r_iload_n rfl ?_
    refine r_aload_n rfl ?_
    obtain ⟨v35, hv35⟩ : ∃ v, gI g0 1 4 = v := ⟨_, rfl⟩
    have rv35 := RgF.at hI0.2.1 (p := 1) (b := 4) rfl
    rw [hv35] at rv35
    dsimp only at rv35
    refine q_getI (Sh.int hI0.1 kx_1 rfl) v35 hv35 ?_
    have bv37 := q_bnd a1
    have bv38 := q_bnd v35
    refine r_ics 12 rfl (fun c36 => ?_) (fun c36 => ?_)
    · have c36_ : a1.toInt ≥ v35.toInt := en_i_ge_t c36
      refine At.enter rfl ?_
      refine r_iconst 0 rfl ?_
      refine Ar.fall 17 rfl ?_
      refine At.enter rfl ?_
      refine q_iretz (by decide) ?_
      refine At.enter rfl ?_
      refine r_ift (by decide) ?_
      refine At.enter rfl ?_
      refine r_vret ?_
      have x39 := HI.eqI hI0 (p := 1) (b := 4) (hv35)
      have x40 := HI.eqI hI0 (p := 1) (b := 4) (hv35)
      exact ⟨_, rfl, hI0, hF0, rfl, ⟨by omega, by omega, (by intro i i0 i1; refine Eq.trans ?_ (if_neg (show ¬ ((0 ≤ a1.toInt ∧ a1.toInt < (gI g0 1 4).toInt) ∧ 6 * a1.toInt ≤ i ∧ i < 6 * (gI g0 1 4).toInt - 6) from by omega)).symm; (first | rfl | exact eA_ix (by omega) | omega))⟩⟩
    · have c36_ : a1.toInt < v35.toInt := en_i_ge_f c36
      refine At.enter rfl ?_
      refine r_iconst 1 rfl ?_
      refine r_goto ?_
      refine At.enter rfl ?_
      refine q_iretz (by decide) ?_
      refine At.enter rfl ?_
      refine r_iff 8 rfl (by decide) ?_
      refine At.enter rfl ?_
      refine r_iload_n rfl ?_
      refine r_iconst 1 rfl ?_
      refine q_iadd (a1.toInt + 1) rfl (by omega) (fun v41 hv41 => ?_)
      refine r_bipush 6 rfl ?_
      refine q_imul (v41.toInt * 6) rfl (by omega) (fun v42 hv42 => ?_)
      refine r_istore_n ([(2, .int v42), (0, .ref 1), (1, .int a1)]) rfl ?_
      refine r_aload_n rfl ?_
      refine q_getR (Sh.ref hI0.1 kx_1 rfl) ?_
      refine r_iload_n rfl ?_
      refine r_aload_n rfl ?_
      refine q_getR (Sh.ref hI0.1 kx_1 rfl) ?_
      refine r_iload_n rfl ?_
      refine r_bipush 6 rfl ?_
      refine q_imul (a1.toInt * 6) rfl (by omega) (fun v43 hv43 => ?_)
      refine r_aload_n rfl ?_
      refine q_getI (Sh.int hI0.1 kx_1 rfl) v35 hv35 ?_
      refine r_bipush 6 rfl ?_
      refine q_imul (v35.toInt * 6) rfl (by omega) (fun v44 hv44 => ?_)
      refine r_iload_n rfl ?_
      refine q_isub (v44.toInt - v42.toInt) rfl (by omega) (fun v45 hv45 => ?_)
      refine q_cpy rfl (Nat.le_of_ble_eq_true rfl) (Sh.arr hI0.1 ka_5) (Sh.arr hI0.1 ka_5) ⟨by omega, by omega, by omega, by omega, by omega⟩ ?_
      have hI46 := HI.cpy0 hI0 ka_5 ka_5 rfl rfl ((v42 : Int32).toInt.toNat) ((v43 : Int32).toInt.toNat) ((v45 : Int32).toInt.toNat) (by omega) (by omega)
      have hF47 := Fr.cpy (p0 := 5) (p1 := 5) hF0 rfl ((v42 : Int32).toInt.toNat) ((v43 : Int32).toInt.toNat) ((v45 : Int32).toInt.toNat)
      refine r_aload_n rfl ?_
      refine r_dup rfl ?_
      refine q_getI (Sh.int hI46.1 kx_1 rfl) v35 ((gI_sW).trans hv35) ?_
      refine r_iconst 1 rfl ?_
      refine q_isub (v35.toInt - 1) rfl (by omega) (fun v48 hv48 => ?_)
      refine q_putI (Sh.int hI46.1 kx_1 rfl) rfl ?_
      have hI49 := HI.wI1 hI46 kx_1 rfl (p := 1) (b := 4) (v := v48) rfl (by dsimp only; omega)
      have hF50 := Fr.wI (p := 1) (b := 4) (v := v48) hF47 rfl
      refine Ar.fall 50 rfl ?_
      refine At.enter rfl ?_
      refine r_vret ?_
      have x51 := HI.eqI hI49 (p := 1) (b := 4) ((gI_sI_eq hI46.1 kx_1 rfl _))
      have x52 := HI.eqI hI0 (p := 1) (b := 4) (hv35)
      exact ⟨_, rfl, hI49, hF50, rfl, ⟨by omega, by omega, (by intro i i0 i1; exact (Decidable.em ((0 ≤ a1.toInt ∧ a1.toInt < (gI g0 1 4).toInt) ∧ 6 * a1.toInt ≤ i ∧ i < 6 * (gI g0 1 4).toInt - 6)).elim (fun k60_ => by refine Eq.trans ?_ (if_pos k60_).symm; refine (eA_ti ((gA_sI))).trans ?_; exact (Decidable.em ((6 * a1.toInt) ≤ i ∧ i < (6 * v35.toInt + (-6)))).elim (fun k61_ => by refine (eA_cpI hI0.1 ka_5 ka_5 (sp := (v42 : Int32).toInt.toNat) (dp := (v43 : Int32).toInt.toNat) (m := (v45 : Int32).toInt.toNat) (by omega) (by omega) (i := i) (i' := i + 6) (by omega) (by omega) (by omega)).trans ?_; (first | rfl | exact eA_ix (by omega) | omega)) (fun k61_ => by refine (eA_cpO hI0.1 ka_5 ka_5 (sp := (v42 : Int32).toInt.toNat) (dp := (v43 : Int32).toInt.toNat) (m := (v45 : Int32).toInt.toNat) (by omega) (by omega) (i := i) (by omega) (by omega)).trans ?_; (first | rfl | exact eA_ix (by omega) | omega))) (fun k60_ => by refine Eq.trans ?_ (if_neg k60_).symm; refine (eA_ti ((gA_sI))).trans ?_; exact (Decidable.em ((6 * a1.toInt) ≤ i ∧ i < (6 * v35.toInt + (-6)))).elim (fun k62_ => by refine (eA_cpI hI0.1 ka_5 ka_5 (sp := (v42 : Int32).toInt.toNat) (dp := (v43 : Int32).toInt.toNat) (m := (v45 : Int32).toInt.toNat) (by omega) (by omega) (i := i) (i' := i + 6) (by omega) (by omega) (by omega)).trans ?_; (first | rfl | exact eA_ix (by omega) | omega)) (fun k62_ => by refine (eA_cpO hI0.1 ka_5 ka_5 (sp := (v42 : Int32).toInt.toNat) (dp := (v43 : Int32).toInt.toNat) (m := (v45 : Int32).toInt.toNat) (by omega) (by omega) (i := i) (by omega) (by omega)).trans ?_; (first | rfl | exact eA_ix (by omega) | omega))))⟩⟩

def F_X10_stand_0 : List (Nat × Nat) := [(0, 14), (0, 17), (1, 0), (220, 2), (222, 2), (223, 5), (223, 10)]
def A_X10_stand_0 : List Nat := [2, 3, 4, 230]
set_option maxRecDepth 100000 in
set_option maxHeartbeats 4000000 in
theorem T_X10_stand_0 (d : Nat) {N : Nat} {g0 : List en_E} (hI0 : HI g0) (a1 : Int32) (a2 : Int32) (a3 : Int32) : Ev (d + 3) 104 [.ref 0, .int a1, .int a2, .int a3] (g0, N) (fun w h' => ∃ g', h' = (g', N) ∧ HI g' ∧ Fr F_X10_stand_0 A_X10_stand_0 g0 g' ∧ ∃ r : Int32, w = some (.int r) ∧ ((-5) ≤ r.toInt ∧ r.toInt ≤ 11) ∧ (((¬ (-1 ≤ a1.toInt ∧ a1.toInt ≤ 11 ∧ 1 ≤ a2.toInt ∧ a2.toInt ≤ 9 ∧ 0 ≤ a3.toInt ∧ a3.toInt ≤ 99) → r.toInt = -1 ∧ (gI g' 1 0).toInt = (gI g0 1 0).toInt) ∧ ((-1 ≤ a1.toInt ∧ a1.toInt ≤ 11 ∧ 1 ≤ a2.toInt ∧ a2.toInt ≤ 9 ∧ 0 ≤ a3.toInt ∧ a3.toInt ≤ 99) ∧ 12 ≤ (gI g0 1 0).toInt → r.toInt = -5 ∧ (gI g' 1 0).toInt = (gI g0 1 0).toInt) ∧ ((-1 ≤ a1.toInt ∧ a1.toInt ≤ 11 ∧ 1 ≤ a2.toInt ∧ a2.toInt ≤ 9 ∧ 0 ≤ a3.toInt ∧ a3.toInt ≤ 99) ∧ (gI g0 1 0).toInt < 12 → r.toInt = (gI g0 1 0).toInt ∧ (gI g' 1 0).toInt = (gI g0 1 0).toInt + 1)) ∧ (∀ i : Int, 0 ≤ i → i < 12 → (eA g' 2 (i)).toInt = if ((-1 ≤ a1.toInt ∧ a1.toInt ≤ 11 ∧ 1 ≤ a2.toInt ∧ a2.toInt ≤ 9 ∧ 0 ≤ a3.toInt ∧ a3.toInt ≤ 99) ∧ (gI g0 1 0).toInt < 12) ∧ i = (gI g0 1 0).toInt then a1.toInt else (eA g0 2 (i)).toInt) ∧ (∀ i : Int, 0 ≤ i → i < 12 → (eA g' 3 (i)).toInt = if ((-1 ≤ a1.toInt ∧ a1.toInt ≤ 11 ∧ 1 ≤ a2.toInt ∧ a2.toInt ≤ 9 ∧ 0 ≤ a3.toInt ∧ a3.toInt ≤ 99) ∧ (gI g0 1 0).toInt < 12) ∧ i = (gI g0 1 0).toInt then a2.toInt else (eA g0 3 (i)).toInt) ∧ (∀ i : Int, 0 ≤ i → i < 12 → (eA g' 4 (i)).toInt = if ((-1 ≤ a1.toInt ∧ a1.toInt ≤ 11 ∧ 1 ≤ a2.toInt ∧ a2.toInt ≤ 9 ∧ 0 ≤ a3.toInt ∧ a3.toInt ≤ 99) ∧ (gI g0 1 0).toInt < 12) ∧ i = (gI g0 1 0).toInt then a3.toInt else (eA g0 4 (i)).toInt))) := by
  have hF0 : Fr F_X10_stand_0 A_X10_stand_0 g0 g0 := Fr.rf
  refine Ev.mk rfl rfl ⟨Nat.le_of_ble_eq_true rfl, Or.inr (q_rc hI0.1 kx_0 rfl)⟩ ?_
  show At _ none _ _ (0, [(0, .ref 0), (1, .int a1), (2, .int a2), (3, .int a3)], [], (_, _)) _
  refine At.enter rfl ?_
  refine r_iload_n rfl ?_
  refine r_iconst (-1) rfl ?_
  refine r_bipush 11 rfl ?_
  refine q_inlS 7 rfl [.int a1, .int (-1), .int 11] [] (Nat.le_of_ble_eq_true rfl) rfl ?_
  refine Ev.mk rfl rfl ⟨Nat.le_of_ble_eq_true rfl, Or.inl rfl⟩ ?_
  show At _ none _ _ (0, [(0, .int a1), (1, .int (-1)), (2, .int 11)], [], (_, _)) _
  refine At.enter rfl ?_
  refine r_iload_n rfl ?_
  refine r_iload_n rfl ?_
  refine r_ics 5 rfl (fun c153 => ?_) (fun c153 => ?_)
  · have c153_ : a1.toInt < (-1) := en_i_lt_t c153
    refine At.enter rfl ?_
    refine r_iconst 0 rfl ?_
    refine Ar.fall 15 rfl ?_
    refine At.enter rfl ?_
    refine q_iretz (by decide) ?_
    refine At.enter rfl ?_
    refine r_ift (by decide) ?_
    refine At.enter rfl ?_
    refine r_aload_n rfl ?_
    refine r_iconst (-1) rfl ?_
    refine r_callV 29 rfl [.ref 0, .int (-1)] [] (Nat.le_of_ble_eq_true rfl) rfl (T_X10_refused_0 _ hI0 (-1) (by decide)) ?_
    rintro _ _ ⟨g154, rfl, hI155, hF156, v157, rfl, hr158⟩
    refine At.sti ?_
    have hF159 := Fr.tr hF0 hF156 rfl rfl
    have zv160 : ((-1) : Int32).toInt = (-1) := rfl
    refine At.enter rfl ?_
    refine r_ireti ?_
    obtain ⟨v161, hv161⟩ : ∃ v, gI g0 1 0 = v := ⟨_, rfl⟩
    have rv161 := RgF.at hI0.2.1 (p := 1) (b := 0) rfl
    rw [hv161] at rv161
    dsimp only at rv161
    have tv161 := congrArg Int32.toInt hv161
    have x162 := HI.eqI hI155 (p := 1) (b := 0) (((hF156.1 1 0 (by decide)).trans hv161))
    have x163 := HI.eqI hI0 (p := 1) (b := 0) (hv161)
    have x164 := HI.eqI hI0 (p := 1) (b := 0) (hv161)
    exact ⟨_, rfl, hI155, hF159, _, rfl, by omega, ⟨(by omega), (by intro i i0 i1; refine Eq.trans ?_ (if_neg (show ¬ (((-1 ≤ a1.toInt ∧ a1.toInt ≤ 11 ∧ 1 ≤ a2.toInt ∧ a2.toInt ≤ 9 ∧ 0 ≤ a3.toInt ∧ a3.toInt ≤ 99) ∧ (gI g0 1 0).toInt < 12) ∧ i = (gI g0 1 0).toInt) from by omega)).symm; refine (eA_ti ((hF156.2.1 2 (by decide)))).trans ?_; (first | rfl | exact eA_ix (by omega) | omega)), (by intro i i0 i1; refine Eq.trans ?_ (if_neg (show ¬ (((-1 ≤ a1.toInt ∧ a1.toInt ≤ 11 ∧ 1 ≤ a2.toInt ∧ a2.toInt ≤ 9 ∧ 0 ≤ a3.toInt ∧ a3.toInt ≤ 99) ∧ (gI g0 1 0).toInt < 12) ∧ i = (gI g0 1 0).toInt) from by omega)).symm; refine (eA_ti ((hF156.2.1 3 (by decide)))).trans ?_; (first | rfl | exact eA_ix (by omega) | omega)), (by intro i i0 i1; refine Eq.trans ?_ (if_neg (show ¬ (((-1 ≤ a1.toInt ∧ a1.toInt ≤ 11 ∧ 1 ≤ a2.toInt ∧ a2.toInt ≤ 9 ∧ 0 ≤ a3.toInt ∧ a3.toInt ≤ 99) ∧ (gI g0 1 0).toInt < 12) ∧ i = (gI g0 1 0).toInt) from by omega)).symm; refine (eA_ti ((hF156.2.1 4 (by decide)))).trans ?_; (first | rfl | exact eA_ix (by omega) | omega))⟩⟩
  · have c153_ : a1.toInt ≥ (-1) := en_i_lt_f c153
    refine At.enter rfl ?_
    refine r_iload_n rfl ?_
    refine r_iload_n rfl ?_
    refine r_ics 10 rfl (fun c165 => ?_) (fun c165 => ?_)
    · have c165_ : a1.toInt > 11 := en_i_gt_t c165
      refine At.enter rfl ?_
      refine r_iconst 0 rfl ?_
      refine Ar.fall 15 rfl ?_
      refine At.enter rfl ?_
      refine q_iretz (by decide) ?_
      refine At.enter rfl ?_
      refine r_ift (by decide) ?_
      refine At.enter rfl ?_
      refine r_aload_n rfl ?_
      refine r_iconst (-1) rfl ?_
      refine r_callV 29 rfl [.ref 0, .int (-1)] [] (Nat.le_of_ble_eq_true rfl) rfl (T_X10_refused_0 _ hI0 (-1) (by decide)) ?_
      rintro _ _ ⟨g166, rfl, hI167, hF168, v169, rfl, hr170⟩
      refine At.sti ?_
      have hF171 := Fr.tr hF0 hF168 rfl rfl
      have zv172 : ((-1) : Int32).toInt = (-1) := rfl
      refine At.enter rfl ?_
      refine r_ireti ?_
      obtain ⟨v173, hv173⟩ : ∃ v, gI g0 1 0 = v := ⟨_, rfl⟩
      have rv173 := RgF.at hI0.2.1 (p := 1) (b := 0) rfl
      rw [hv173] at rv173
      dsimp only at rv173
      have tv173 := congrArg Int32.toInt hv173
      have x174 := HI.eqI hI167 (p := 1) (b := 0) (((hF168.1 1 0 (by decide)).trans hv173))
      have x175 := HI.eqI hI0 (p := 1) (b := 0) (hv173)
      have x176 := HI.eqI hI0 (p := 1) (b := 0) (hv173)
      exact ⟨_, rfl, hI167, hF171, _, rfl, by omega, ⟨(by omega), (by intro i i0 i1; refine Eq.trans ?_ (if_neg (show ¬ (((-1 ≤ a1.toInt ∧ a1.toInt ≤ 11 ∧ 1 ≤ a2.toInt ∧ a2.toInt ≤ 9 ∧ 0 ≤ a3.toInt ∧ a3.toInt ≤ 99) ∧ (gI g0 1 0).toInt < 12) ∧ i = (gI g0 1 0).toInt) from by omega)).symm; refine (eA_ti ((hF168.2.1 2 (by decide)))).trans ?_; (first | rfl | exact eA_ix (by omega) | omega)), (by intro i i0 i1; refine Eq.trans ?_ (if_neg (show ¬ (((-1 ≤ a1.toInt ∧ a1.toInt ≤ 11 ∧ 1 ≤ a2.toInt ∧ a2.toInt ≤ 9 ∧ 0 ≤ a3.toInt ∧ a3.toInt ≤ 99) ∧ (gI g0 1 0).toInt < 12) ∧ i = (gI g0 1 0).toInt) from by omega)).symm; refine (eA_ti ((hF168.2.1 3 (by decide)))).trans ?_; (first | rfl | exact eA_ix (by omega) | omega)), (by intro i i0 i1; refine Eq.trans ?_ (if_neg (show ¬ (((-1 ≤ a1.toInt ∧ a1.toInt ≤ 11 ∧ 1 ≤ a2.toInt ∧ a2.toInt ≤ 9 ∧ 0 ≤ a3.toInt ∧ a3.toInt ≤ 99) ∧ (gI g0 1 0).toInt < 12) ∧ i = (gI g0 1 0).toInt) from by omega)).symm; refine (eA_ti ((hF168.2.1 4 (by decide)))).trans ?_; (first | rfl | exact eA_ix (by omega) | omega))⟩⟩
    · have c165_ : a1.toInt ≤ 11 := en_i_gt_f c165
      refine At.enter rfl ?_
      refine r_iconst 1 rfl ?_
      refine r_goto ?_
      refine At.enter rfl ?_
      refine q_iretz (by decide) ?_
      refine At.enter rfl ?_
      refine r_iff 10 rfl (by decide) ?_
      refine At.enter rfl ?_
      refine r_iload_n rfl ?_
      refine q_inlS 14 rfl [.int a2] [] (Nat.le_of_ble_eq_true rfl) rfl ?_
      refine Ev.mk rfl rfl ⟨Nat.le_of_ble_eq_true rfl, Or.inl rfl⟩ ?_
      show At _ none _ _ (0, [(0, .int a2)], [], (_, _)) _
      refine At.enter rfl ?_
      refine r_iload_n rfl ?_
      refine r_iconst 1 rfl ?_
      refine r_bipush 9 rfl ?_
      refine q_inlS 7 rfl [.int a2, .int 1, .int 9] [] (Nat.le_of_ble_eq_true rfl) rfl ?_
      refine Ev.mk rfl rfl ⟨Nat.le_of_ble_eq_true rfl, Or.inl rfl⟩ ?_
      show At _ none _ _ (0, [(0, .int a2), (1, .int 1), (2, .int 9)], [], (_, _)) _
      refine At.enter rfl ?_
      refine r_iload_n rfl ?_
      refine r_iload_n rfl ?_
      refine r_ics 5 rfl (fun c177 => ?_) (fun c177 => ?_)
      · have c177_ : a2.toInt < 1 := en_i_lt_t c177
        refine At.enter rfl ?_
        refine r_iconst 0 rfl ?_
        refine Ar.fall 15 rfl ?_
        refine At.enter rfl ?_
        refine q_iretz (by decide) ?_
        refine At.enter rfl ?_
        refine q_iretz (by decide) ?_
        refine At.enter rfl ?_
        refine r_ift (by decide) ?_
        refine At.enter rfl ?_
        refine r_aload_n rfl ?_
        refine r_iconst (-1) rfl ?_
        refine r_callV 29 rfl [.ref 0, .int (-1)] [] (Nat.le_of_ble_eq_true rfl) rfl (T_X10_refused_0 _ hI0 (-1) (by decide)) ?_
        rintro _ _ ⟨g178, rfl, hI179, hF180, v181, rfl, hr182⟩
        refine At.sti ?_
        have hF183 := Fr.tr hF0 hF180 rfl rfl
        have zv184 : ((-1) : Int32).toInt = (-1) := rfl
        refine At.enter rfl ?_
        refine r_ireti ?_
        obtain ⟨v185, hv185⟩ : ∃ v, gI g0 1 0 = v := ⟨_, rfl⟩
        have rv185 := RgF.at hI0.2.1 (p := 1) (b := 0) rfl
        rw [hv185] at rv185
        dsimp only at rv185
        have tv185 := congrArg Int32.toInt hv185
        have x186 := HI.eqI hI179 (p := 1) (b := 0) (((hF180.1 1 0 (by decide)).trans hv185))
        have x187 := HI.eqI hI0 (p := 1) (b := 0) (hv185)
        have x188 := HI.eqI hI0 (p := 1) (b := 0) (hv185)
        exact ⟨_, rfl, hI179, hF183, _, rfl, by omega, ⟨(by omega), (by intro i i0 i1; refine Eq.trans ?_ (if_neg (show ¬ (((-1 ≤ a1.toInt ∧ a1.toInt ≤ 11 ∧ 1 ≤ a2.toInt ∧ a2.toInt ≤ 9 ∧ 0 ≤ a3.toInt ∧ a3.toInt ≤ 99) ∧ (gI g0 1 0).toInt < 12) ∧ i = (gI g0 1 0).toInt) from by omega)).symm; refine (eA_ti ((hF180.2.1 2 (by decide)))).trans ?_; (first | rfl | exact eA_ix (by omega) | omega)), (by intro i i0 i1; refine Eq.trans ?_ (if_neg (show ¬ (((-1 ≤ a1.toInt ∧ a1.toInt ≤ 11 ∧ 1 ≤ a2.toInt ∧ a2.toInt ≤ 9 ∧ 0 ≤ a3.toInt ∧ a3.toInt ≤ 99) ∧ (gI g0 1 0).toInt < 12) ∧ i = (gI g0 1 0).toInt) from by omega)).symm; refine (eA_ti ((hF180.2.1 3 (by decide)))).trans ?_; (first | rfl | exact eA_ix (by omega) | omega)), (by intro i i0 i1; refine Eq.trans ?_ (if_neg (show ¬ (((-1 ≤ a1.toInt ∧ a1.toInt ≤ 11 ∧ 1 ≤ a2.toInt ∧ a2.toInt ≤ 9 ∧ 0 ≤ a3.toInt ∧ a3.toInt ≤ 99) ∧ (gI g0 1 0).toInt < 12) ∧ i = (gI g0 1 0).toInt) from by omega)).symm; refine (eA_ti ((hF180.2.1 4 (by decide)))).trans ?_; (first | rfl | exact eA_ix (by omega) | omega))⟩⟩
      · have c177_ : a2.toInt ≥ 1 := en_i_lt_f c177
        refine At.enter rfl ?_
        refine r_iload_n rfl ?_
        refine r_iload_n rfl ?_
        refine r_ics 10 rfl (fun c189 => ?_) (fun c189 => ?_)
        · have c189_ : a2.toInt > 9 := en_i_gt_t c189
          refine At.enter rfl ?_
          refine r_iconst 0 rfl ?_
          refine Ar.fall 15 rfl ?_
          refine At.enter rfl ?_
          refine q_iretz (by decide) ?_
          refine At.enter rfl ?_
          refine q_iretz (by decide) ?_
          refine At.enter rfl ?_
          refine r_ift (by decide) ?_
          refine At.enter rfl ?_
          refine r_aload_n rfl ?_
          refine r_iconst (-1) rfl ?_
          refine r_callV 29 rfl [.ref 0, .int (-1)] [] (Nat.le_of_ble_eq_true rfl) rfl (T_X10_refused_0 _ hI0 (-1) (by decide)) ?_
          rintro _ _ ⟨g190, rfl, hI191, hF192, v193, rfl, hr194⟩
          refine At.sti ?_
          have hF195 := Fr.tr hF0 hF192 rfl rfl
          have zv196 : ((-1) : Int32).toInt = (-1) := rfl
          refine At.enter rfl ?_
          refine r_ireti ?_
          obtain ⟨v197, hv197⟩ : ∃ v, gI g0 1 0 = v := ⟨_, rfl⟩
          have rv197 := RgF.at hI0.2.1 (p := 1) (b := 0) rfl
          rw [hv197] at rv197
          dsimp only at rv197
          have tv197 := congrArg Int32.toInt hv197
          have x198 := HI.eqI hI191 (p := 1) (b := 0) (((hF192.1 1 0 (by decide)).trans hv197))
          have x199 := HI.eqI hI0 (p := 1) (b := 0) (hv197)
          have x200 := HI.eqI hI0 (p := 1) (b := 0) (hv197)
          exact ⟨_, rfl, hI191, hF195, _, rfl, by omega, ⟨(by omega), (by intro i i0 i1; refine Eq.trans ?_ (if_neg (show ¬ (((-1 ≤ a1.toInt ∧ a1.toInt ≤ 11 ∧ 1 ≤ a2.toInt ∧ a2.toInt ≤ 9 ∧ 0 ≤ a3.toInt ∧ a3.toInt ≤ 99) ∧ (gI g0 1 0).toInt < 12) ∧ i = (gI g0 1 0).toInt) from by omega)).symm; refine (eA_ti ((hF192.2.1 2 (by decide)))).trans ?_; (first | rfl | exact eA_ix (by omega) | omega)), (by intro i i0 i1; refine Eq.trans ?_ (if_neg (show ¬ (((-1 ≤ a1.toInt ∧ a1.toInt ≤ 11 ∧ 1 ≤ a2.toInt ∧ a2.toInt ≤ 9 ∧ 0 ≤ a3.toInt ∧ a3.toInt ≤ 99) ∧ (gI g0 1 0).toInt < 12) ∧ i = (gI g0 1 0).toInt) from by omega)).symm; refine (eA_ti ((hF192.2.1 3 (by decide)))).trans ?_; (first | rfl | exact eA_ix (by omega) | omega)), (by intro i i0 i1; refine Eq.trans ?_ (if_neg (show ¬ (((-1 ≤ a1.toInt ∧ a1.toInt ≤ 11 ∧ 1 ≤ a2.toInt ∧ a2.toInt ≤ 9 ∧ 0 ≤ a3.toInt ∧ a3.toInt ≤ 99) ∧ (gI g0 1 0).toInt < 12) ∧ i = (gI g0 1 0).toInt) from by omega)).symm; refine (eA_ti ((hF192.2.1 4 (by decide)))).trans ?_; (first | rfl | exact eA_ix (by omega) | omega))⟩⟩
        · have c189_ : a2.toInt ≤ 9 := en_i_gt_f c189
          refine At.enter rfl ?_
          refine r_iconst 1 rfl ?_
          refine r_goto ?_
          refine At.enter rfl ?_
          refine q_iretz (by decide) ?_
          refine At.enter rfl ?_
          refine q_iretz (by decide) ?_
          refine At.enter rfl ?_
          refine r_iff 17 rfl (by decide) ?_
          refine At.enter rfl ?_
          refine r_iload_n rfl ?_
          refine q_inlS 21 rfl [.int a3] [] (Nat.le_of_ble_eq_true rfl) rfl ?_
          refine Ev.mk rfl rfl ⟨Nat.le_of_ble_eq_true rfl, Or.inl rfl⟩ ?_
          show At _ none _ _ (0, [(0, .int a3)], [], (_, _)) _
          refine At.enter rfl ?_
          refine r_iload_n rfl ?_
          refine r_iconst 0 rfl ?_
          refine r_bipush 99 rfl ?_
          refine q_inlS 7 rfl [.int a3, .int 0, .int 99] [] (Nat.le_of_ble_eq_true rfl) rfl ?_
          refine Ev.mk rfl rfl ⟨Nat.le_of_ble_eq_true rfl, Or.inl rfl⟩ ?_
          show At _ none _ _ (0, [(0, .int a3), (1, .int 0), (2, .int 99)], [], (_, _)) _
          refine At.enter rfl ?_
          refine r_iload_n rfl ?_
          refine r_iload_n rfl ?_
          refine r_ics 5 rfl (fun c201 => ?_) (fun c201 => ?_)
          · have c201_ : a3.toInt < 0 := en_i_lt_t c201
            refine At.enter rfl ?_
            refine r_iconst 0 rfl ?_
            refine Ar.fall 15 rfl ?_
            refine At.enter rfl ?_
            refine q_iretz (by decide) ?_
            refine At.enter rfl ?_
            refine q_iretz (by decide) ?_
            refine At.enter rfl ?_
            refine r_iff 24 rfl (by decide) ?_
            refine At.enter rfl ?_
            refine r_aload_n rfl ?_
            refine r_iconst (-1) rfl ?_
            refine r_callV 29 rfl [.ref 0, .int (-1)] [] (Nat.le_of_ble_eq_true rfl) rfl (T_X10_refused_0 _ hI0 (-1) (by decide)) ?_
            rintro _ _ ⟨g202, rfl, hI203, hF204, v205, rfl, hr206⟩
            refine At.sti ?_
            have hF207 := Fr.tr hF0 hF204 rfl rfl
            have zv208 : ((-1) : Int32).toInt = (-1) := rfl
            refine At.enter rfl ?_
            refine r_ireti ?_
            obtain ⟨v209, hv209⟩ : ∃ v, gI g0 1 0 = v := ⟨_, rfl⟩
            have rv209 := RgF.at hI0.2.1 (p := 1) (b := 0) rfl
            rw [hv209] at rv209
            dsimp only at rv209
            have tv209 := congrArg Int32.toInt hv209
            have x210 := HI.eqI hI203 (p := 1) (b := 0) (((hF204.1 1 0 (by decide)).trans hv209))
            have x211 := HI.eqI hI0 (p := 1) (b := 0) (hv209)
            have x212 := HI.eqI hI0 (p := 1) (b := 0) (hv209)
            exact ⟨_, rfl, hI203, hF207, _, rfl, by omega, ⟨(by omega), (by intro i i0 i1; refine Eq.trans ?_ (if_neg (show ¬ (((-1 ≤ a1.toInt ∧ a1.toInt ≤ 11 ∧ 1 ≤ a2.toInt ∧ a2.toInt ≤ 9 ∧ 0 ≤ a3.toInt ∧ a3.toInt ≤ 99) ∧ (gI g0 1 0).toInt < 12) ∧ i = (gI g0 1 0).toInt) from by omega)).symm; refine (eA_ti ((hF204.2.1 2 (by decide)))).trans ?_; (first | rfl | exact eA_ix (by omega) | omega)), (by intro i i0 i1; refine Eq.trans ?_ (if_neg (show ¬ (((-1 ≤ a1.toInt ∧ a1.toInt ≤ 11 ∧ 1 ≤ a2.toInt ∧ a2.toInt ≤ 9 ∧ 0 ≤ a3.toInt ∧ a3.toInt ≤ 99) ∧ (gI g0 1 0).toInt < 12) ∧ i = (gI g0 1 0).toInt) from by omega)).symm; refine (eA_ti ((hF204.2.1 3 (by decide)))).trans ?_; (first | rfl | exact eA_ix (by omega) | omega)), (by intro i i0 i1; refine Eq.trans ?_ (if_neg (show ¬ (((-1 ≤ a1.toInt ∧ a1.toInt ≤ 11 ∧ 1 ≤ a2.toInt ∧ a2.toInt ≤ 9 ∧ 0 ≤ a3.toInt ∧ a3.toInt ≤ 99) ∧ (gI g0 1 0).toInt < 12) ∧ i = (gI g0 1 0).toInt) from by omega)).symm; refine (eA_ti ((hF204.2.1 4 (by decide)))).trans ?_; (first | rfl | exact eA_ix (by omega) | omega))⟩⟩
          · have c201_ : a3.toInt ≥ 0 := en_i_lt_f c201
            refine At.enter rfl ?_
            refine r_iload_n rfl ?_
            refine r_iload_n rfl ?_
            refine r_ics 10 rfl (fun c213 => ?_) (fun c213 => ?_)
            · have c213_ : a3.toInt > 99 := en_i_gt_t c213
              refine At.enter rfl ?_
              refine r_iconst 0 rfl ?_
              refine Ar.fall 15 rfl ?_
              refine At.enter rfl ?_
              refine q_iretz (by decide) ?_
              refine At.enter rfl ?_
              refine q_iretz (by decide) ?_
              refine At.enter rfl ?_
              refine r_iff 24 rfl (by decide) ?_
              refine At.enter rfl ?_
              refine r_aload_n rfl ?_
              refine r_iconst (-1) rfl ?_
              refine r_callV 29 rfl [.ref 0, .int (-1)] [] (Nat.le_of_ble_eq_true rfl) rfl (T_X10_refused_0 _ hI0 (-1) (by decide)) ?_
              rintro _ _ ⟨g214, rfl, hI215, hF216, v217, rfl, hr218⟩
              refine At.sti ?_
              have hF219 := Fr.tr hF0 hF216 rfl rfl
              have zv220 : ((-1) : Int32).toInt = (-1) := rfl
              refine At.enter rfl ?_
              refine r_ireti ?_
              obtain ⟨v221, hv221⟩ : ∃ v, gI g0 1 0 = v := ⟨_, rfl⟩
              have rv221 := RgF.at hI0.2.1 (p := 1) (b := 0) rfl
              rw [hv221] at rv221
              dsimp only at rv221
              have tv221 := congrArg Int32.toInt hv221
              have x222 := HI.eqI hI215 (p := 1) (b := 0) (((hF216.1 1 0 (by decide)).trans hv221))
              have x223 := HI.eqI hI0 (p := 1) (b := 0) (hv221)
              have x224 := HI.eqI hI0 (p := 1) (b := 0) (hv221)
              exact ⟨_, rfl, hI215, hF219, _, rfl, by omega, ⟨(by omega), (by intro i i0 i1; refine Eq.trans ?_ (if_neg (show ¬ (((-1 ≤ a1.toInt ∧ a1.toInt ≤ 11 ∧ 1 ≤ a2.toInt ∧ a2.toInt ≤ 9 ∧ 0 ≤ a3.toInt ∧ a3.toInt ≤ 99) ∧ (gI g0 1 0).toInt < 12) ∧ i = (gI g0 1 0).toInt) from by omega)).symm; refine (eA_ti ((hF216.2.1 2 (by decide)))).trans ?_; (first | rfl | exact eA_ix (by omega) | omega)), (by intro i i0 i1; refine Eq.trans ?_ (if_neg (show ¬ (((-1 ≤ a1.toInt ∧ a1.toInt ≤ 11 ∧ 1 ≤ a2.toInt ∧ a2.toInt ≤ 9 ∧ 0 ≤ a3.toInt ∧ a3.toInt ≤ 99) ∧ (gI g0 1 0).toInt < 12) ∧ i = (gI g0 1 0).toInt) from by omega)).symm; refine (eA_ti ((hF216.2.1 3 (by decide)))).trans ?_; (first | rfl | exact eA_ix (by omega) | omega)), (by intro i i0 i1; refine Eq.trans ?_ (if_neg (show ¬ (((-1 ≤ a1.toInt ∧ a1.toInt ≤ 11 ∧ 1 ≤ a2.toInt ∧ a2.toInt ≤ 9 ∧ 0 ≤ a3.toInt ∧ a3.toInt ≤ 99) ∧ (gI g0 1 0).toInt < 12) ∧ i = (gI g0 1 0).toInt) from by omega)).symm; refine (eA_ti ((hF216.2.1 4 (by decide)))).trans ?_; (first | rfl | exact eA_ix (by omega) | omega))⟩⟩
            · have c213_ : a3.toInt ≤ 99 := en_i_gt_f c213
              refine At.enter rfl ?_
              refine r_iconst 1 rfl ?_
              refine r_goto ?_
              refine At.enter rfl ?_
              refine q_iretz (by decide) ?_
              refine At.enter rfl ?_
              refine q_iretz (by decide) ?_
              refine At.enter rfl ?_
              refine r_ift (by decide) ?_
              refine At.enter rfl ?_
              refine r_aload_n rfl ?_
              refine q_getR (Sh.ref hI0.1 kx_0 rfl) ?_
              obtain ⟨v225, hv225⟩ : ∃ v, gI g0 1 0 = v := ⟨_, rfl⟩
              have rv225 := RgF.at hI0.2.1 (p := 1) (b := 0) rfl
              rw [hv225] at rv225
              dsimp only at rv225
              refine q_getI (Sh.int hI0.1 kx_1 rfl) v225 hv225 ?_
              refine r_bipush 12 rfl ?_
              refine r_ics 42 rfl (fun c226 => ?_) (fun c226 => ?_)
              · have c226_ : v225.toInt < 12 := en_i_lt_t c226
                refine At.enter rfl ?_
                refine r_aload_n rfl ?_
                refine r_callV 53 rfl [.ref 0] [] (Nat.le_of_ble_eq_true rfl) rfl (T_X10_changed_0 _ hI0) ?_
                rintro _ _ ⟨g227, rfl, hI228, hF229, rfl⟩
                refine At.stn ?_
                have hF232 := Fr.tr hF0 hF229 rfl rfl
                refine At.enter rfl ?_
                refine r_aload_n rfl ?_
                refine r_aload_n rfl ?_
                refine q_getR (Sh.ref hI228.1 kx_0 rfl) ?_
                refine r_iload_n rfl ?_
                refine r_iload_n rfl ?_
                refine r_iload_n rfl ?_
                refine q_inlV 64 rfl [.ref 1, .int a1, .int a2, .int a3] [.ref 0] (Nat.le_of_ble_eq_true rfl) rfl ?_
                refine Ev.mk rfl rfl ⟨Nat.le_of_ble_eq_true rfl, Or.inr (q_rc hI228.1 kx_1 rfl)⟩ ?_
                show At _ none _ _ (0, [(0, .ref 1), (1, .int a1), (2, .int a2), (3, .int a3)], [], (_, _)) _
                refine At.enter rfl ?_
                refine r_aload_n rfl ?_
                refine q_getI (Sh.int hI228.1 kx_1 rfl) v225 ((hF229.1 1 0 (by decide)).trans hv225) ?_
                refine r_bipush 12 rfl ?_
                refine r_ics 9 rfl (fun c233 => ?_) (fun c233 => ?_)
                · have c233_ : v225.toInt < 12 := en_i_lt_t c233
                  refine At.enter rfl ?_
                  refine r_aload_n rfl ?_
                  refine q_getR (Sh.ref hI228.1 kx_1 rfl) ?_
                  refine r_aload_n rfl ?_
                  refine q_getI (Sh.int hI228.1 kx_1 rfl) v225 ((hF229.1 1 0 (by decide)).trans hv225) ?_
                  refine r_iload_n rfl ?_
                  refine q_iast (Sh.arr hI228.1 ka_2) (v225.toInt) rfl (by omega) ?_
                  have hI234 := HI.wA0 hI228 ka_2 (p := 2) rfl rfl (v225.toInt) (a1)
                  have hF235 := Fr.wA (p := 2) (j := v225.toInt) (v := a1) hF232 rfl
                  refine r_aload_n rfl ?_
                  refine q_getR (Sh.ref hI234.1 kx_1 rfl) ?_
                  refine r_aload_n rfl ?_
                  refine q_getI (Sh.int hI234.1 kx_1 rfl) v225 (((gI_sW).trans (hF229.1 1 0 (by decide))).trans hv225) ?_
                  refine r_iload_n rfl ?_
                  refine q_iast (Sh.arr hI234.1 ka_3) (v225.toInt) rfl (by omega) ?_
                  have hI236 := HI.wA0 hI234 ka_3 (p := 3) rfl rfl (v225.toInt) (a2)
                  have hF237 := Fr.wA (p := 3) (j := v225.toInt) (v := a2) hF235 rfl
                  refine r_aload_n rfl ?_
                  refine q_getR (Sh.ref hI236.1 kx_1 rfl) ?_
                  refine r_aload_n rfl ?_
                  refine q_getI (Sh.int hI236.1 kx_1 rfl) v225 (((gI_sW).trans ((gI_sW).trans (hF229.1 1 0 (by decide)))).trans hv225) ?_
                  refine r_iload_n rfl ?_
                  refine q_iast (Sh.arr hI236.1 ka_4) (v225.toInt) rfl (by omega) ?_
                  have hI238 := HI.wA0 hI236 ka_4 (p := 4) rfl rfl (v225.toInt) (a3)
                  have hF239 := Fr.wA (p := 4) (j := v225.toInt) (v := a3) hF237 rfl
                  refine r_aload_n rfl ?_
                  refine r_dup rfl ?_
                  refine q_getI (Sh.int hI238.1 kx_1 rfl) v225 (((gI_sW).trans ((gI_sW).trans ((gI_sW).trans (hF229.1 1 0 (by decide))))).trans hv225) ?_
                  refine r_iconst 1 rfl ?_
                  refine q_iadd (v225.toInt + 1) rfl (by omega) (fun v240 hv240 => ?_)
                  refine q_putI (Sh.int hI238.1 kx_1 rfl) rfl ?_
                  have hI241 := HI.wI1 hI238 kx_1 rfl (p := 1) (b := 0) (v := v240) rfl (by dsimp only; omega)
                  have hF242 := Fr.wI (p := 1) (b := 0) (v := v240) hF239 rfl
                  refine r_aload_n rfl ?_
                  refine q_getI (Sh.int hI241.1 kx_1 rfl) v240 (gI_sI_eq hI238.1 kx_1 rfl _) ?_
                  refine r_iconst 1 rfl ?_
                  refine q_isub (v240.toInt - 1) rfl (by omega) (fun v243 hv243 => ?_)
                  refine q_ireti ?_
                  refine At.enter rfl ?_
                  refine q_inlV 67 rfl [.ref 0, .int v243] [] (Nat.le_of_ble_eq_true rfl) rfl ?_
                  refine Ev.mk rfl rfl ⟨Nat.le_of_ble_eq_true rfl, Or.inr (q_rc hI241.1 kx_0 rfl)⟩ ?_
                  show At _ none _ _ (0, [(0, .ref 0), (1, .int v243)], [], (_, _)) _
                  refine At.enter rfl ?_
                  refine r_aload_n rfl ?_
                  refine r_iconst 0 rfl ?_
                  refine q_putI (Sh.int hI241.1 kx_0 rfl) rfl ?_
                  have hI244 := HI.wI0 hI241 kx_0 rfl (p := 0) (b := 17) (v := 0) rfl
                  have hF245 := Fr.wI (p := 0) (b := 17) (v := 0) hF242 rfl
                  refine r_iload_n rfl ?_
                  refine q_ireti ?_
                  refine At.enter rfl ?_
                  refine r_ireti ?_
                  have x246 := HI.eqI hI244 (p := 1) (b := 0) (((gI_sI_ne (by decide)).trans (gI_sI_eq hI238.1 kx_1 rfl _)))
                  have x247 := HI.eqI hI0 (p := 1) (b := 0) (hv225)
                  have x248 := HI.eqI hI0 (p := 1) (b := 0) (hv225)
                  exact ⟨_, rfl, hI244, hF245, _, rfl, by omega, ⟨(by omega), (by intro i i0 i1; exact (Decidable.em (((-1 ≤ a1.toInt ∧ a1.toInt ≤ 11 ∧ 1 ≤ a2.toInt ∧ a2.toInt ≤ 9 ∧ 0 ≤ a3.toInt ∧ a3.toInt ≤ 99) ∧ (gI g0 1 0).toInt < 12) ∧ i = (gI g0 1 0).toInt)).elim (fun k63_ => by refine Eq.trans ?_ (if_pos k63_).symm; refine (eA_ti (((gA_sI).trans ((gA_sI).trans ((gA_sA_ne (by decide)).trans (gA_sA_ne (by decide))))))).trans ?_; exact (Decidable.em (i = v225.toInt)).elim (fun k64_ => by refine (eA_eqT hI228.1 ka_2 k64_ (by first | decide | omega) (by first | decide | omega)).trans ?_; (first | (rfl) | (omega))) (fun k64_ => by refine (eA_neT hI228.1 ka_2 k64_ (by first | decide | omega) (by omega)).trans ?_; refine (eA_ti ((hF229.2.1 2 (by decide)))).trans ?_; (first | rfl | exact eA_ix (by omega) | omega))) (fun k63_ => by refine Eq.trans ?_ (if_neg k63_).symm; refine (eA_ti (((gA_sI).trans ((gA_sI).trans ((gA_sA_ne (by decide)).trans (gA_sA_ne (by decide))))))).trans ?_; exact (Decidable.em (i = v225.toInt)).elim (fun k65_ => by refine (eA_eqT hI228.1 ka_2 k65_ (by first | decide | omega) (by first | decide | omega)).trans ?_; (first | (rfl) | (omega))) (fun k65_ => by refine (eA_neT hI228.1 ka_2 k65_ (by first | decide | omega) (by omega)).trans ?_; refine (eA_ti ((hF229.2.1 2 (by decide)))).trans ?_; (first | rfl | exact eA_ix (by omega) | omega)))), (by intro i i0 i1; exact (Decidable.em (((-1 ≤ a1.toInt ∧ a1.toInt ≤ 11 ∧ 1 ≤ a2.toInt ∧ a2.toInt ≤ 9 ∧ 0 ≤ a3.toInt ∧ a3.toInt ≤ 99) ∧ (gI g0 1 0).toInt < 12) ∧ i = (gI g0 1 0).toInt)).elim (fun k66_ => by refine Eq.trans ?_ (if_pos k66_).symm; refine (eA_ti (((gA_sI).trans ((gA_sI).trans (gA_sA_ne (by decide)))))).trans ?_; exact (Decidable.em (i = v225.toInt)).elim (fun k67_ => by refine (eA_eqT hI234.1 ka_3 k67_ (by first | decide | omega) (by first | decide | omega)).trans ?_; (first | (rfl) | (omega))) (fun k67_ => by refine (eA_neT hI234.1 ka_3 k67_ (by first | decide | omega) (by omega)).trans ?_; refine (eA_ti (((gA_sA_ne (by decide)).trans (hF229.2.1 3 (by decide))))).trans ?_; (first | rfl | exact eA_ix (by omega) | omega))) (fun k66_ => by refine Eq.trans ?_ (if_neg k66_).symm; refine (eA_ti (((gA_sI).trans ((gA_sI).trans (gA_sA_ne (by decide)))))).trans ?_; exact (Decidable.em (i = v225.toInt)).elim (fun k68_ => by refine (eA_eqT hI234.1 ka_3 k68_ (by first | decide | omega) (by first | decide | omega)).trans ?_; (first | (rfl) | (omega))) (fun k68_ => by refine (eA_neT hI234.1 ka_3 k68_ (by first | decide | omega) (by omega)).trans ?_; refine (eA_ti (((gA_sA_ne (by decide)).trans (hF229.2.1 3 (by decide))))).trans ?_; (first | rfl | exact eA_ix (by omega) | omega)))), (by intro i i0 i1; exact (Decidable.em (((-1 ≤ a1.toInt ∧ a1.toInt ≤ 11 ∧ 1 ≤ a2.toInt ∧ a2.toInt ≤ 9 ∧ 0 ≤ a3.toInt ∧ a3.toInt ≤ 99) ∧ (gI g0 1 0).toInt < 12) ∧ i = (gI g0 1 0).toInt)).elim (fun k69_ => by refine Eq.trans ?_ (if_pos k69_).symm; refine (eA_ti (((gA_sI).trans (gA_sI)))).trans ?_; exact (Decidable.em (i = v225.toInt)).elim (fun k70_ => by refine (eA_eqT hI236.1 ka_4 k70_ (by first | decide | omega) (by first | decide | omega)).trans ?_; (first | (rfl) | (omega))) (fun k70_ => by refine (eA_neT hI236.1 ka_4 k70_ (by first | decide | omega) (by omega)).trans ?_; refine (eA_ti (((gA_sA_ne (by decide)).trans ((gA_sA_ne (by decide)).trans (hF229.2.1 4 (by decide)))))).trans ?_; (first | rfl | exact eA_ix (by omega) | omega))) (fun k69_ => by refine Eq.trans ?_ (if_neg k69_).symm; refine (eA_ti (((gA_sI).trans (gA_sI)))).trans ?_; exact (Decidable.em (i = v225.toInt)).elim (fun k71_ => by refine (eA_eqT hI236.1 ka_4 k71_ (by first | decide | omega) (by first | decide | omega)).trans ?_; (first | (rfl) | (omega))) (fun k71_ => by refine (eA_neT hI236.1 ka_4 k71_ (by first | decide | omega) (by omega)).trans ?_; refine (eA_ti (((gA_sA_ne (by decide)).trans ((gA_sA_ne (by decide)).trans (hF229.2.1 4 (by decide)))))).trans ?_; (first | rfl | exact eA_ix (by omega) | omega))))⟩⟩
                · have c233_ : v225.toInt ≥ 12 := en_i_lt_f c233
                  exfalso; omega
              · have c226_ : v225.toInt ≥ 12 := en_i_lt_f c226
                refine At.enter rfl ?_
                refine r_aload_n rfl ?_
                refine r_bipush (-5) rfl ?_
                refine r_callV 48 rfl [.ref 0, .int (-5)] [] (Nat.le_of_ble_eq_true rfl) rfl (T_X10_refused_0 _ hI0 (-5) (by decide)) ?_
                rintro _ _ ⟨g249, rfl, hI250, hF251, v252, rfl, hr253⟩
                refine At.sti ?_
                have hF254 := Fr.tr hF0 hF251 rfl rfl
                have zv255 : ((-5) : Int32).toInt = (-5) := rfl
                refine At.enter rfl ?_
                refine r_ireti ?_
                have x256 := HI.eqI hI250 (p := 1) (b := 0) (((hF251.1 1 0 (by decide)).trans hv225))
                have x257 := HI.eqI hI0 (p := 1) (b := 0) (hv225)
                have x258 := HI.eqI hI0 (p := 1) (b := 0) (hv225)
                exact ⟨_, rfl, hI250, hF254, _, rfl, by omega, ⟨(by omega), (by intro i i0 i1; refine Eq.trans ?_ (if_neg (show ¬ (((-1 ≤ a1.toInt ∧ a1.toInt ≤ 11 ∧ 1 ≤ a2.toInt ∧ a2.toInt ≤ 9 ∧ 0 ≤ a3.toInt ∧ a3.toInt ≤ 99) ∧ (gI g0 1 0).toInt < 12) ∧ i = (gI g0 1 0).toInt) from by omega)).symm; refine (eA_ti ((hF251.2.1 2 (by decide)))).trans ?_; (first | rfl | exact eA_ix (by omega) | omega)), (by intro i i0 i1; refine Eq.trans ?_ (if_neg (show ¬ (((-1 ≤ a1.toInt ∧ a1.toInt ≤ 11 ∧ 1 ≤ a2.toInt ∧ a2.toInt ≤ 9 ∧ 0 ≤ a3.toInt ∧ a3.toInt ≤ 99) ∧ (gI g0 1 0).toInt < 12) ∧ i = (gI g0 1 0).toInt) from by omega)).symm; refine (eA_ti ((hF251.2.1 3 (by decide)))).trans ?_; (first | rfl | exact eA_ix (by omega) | omega)), (by intro i i0 i1; refine Eq.trans ?_ (if_neg (show ¬ (((-1 ≤ a1.toInt ∧ a1.toInt ≤ 11 ∧ 1 ≤ a2.toInt ∧ a2.toInt ≤ 9 ∧ 0 ≤ a3.toInt ∧ a3.toInt ≤ 99) ∧ (gI g0 1 0).toInt < 12) ∧ i = (gI g0 1 0).toInt) from by omega)).symm; refine (eA_ti ((hF251.2.1 4 (by decide)))).trans ?_; (first | rfl | exact eA_ix (by omega) | omega))⟩⟩

def F_X10_put_0 : List (Nat × Nat) := [(0, 14), (0, 17), (220, 2), (222, 2), (223, 5), (223, 10)]
def A_X10_put_0 : List Nat := [2, 3, 4, 230]
set_option maxRecDepth 100000 in
set_option maxHeartbeats 4000000 in
theorem T_X10_put_0 (d : Nat) {N : Nat} {g0 : List en_E} (hI0 : HI g0) (a1 : Int32) (a2 : Int32) (a3 : Int32) : Ev (d + 3) 105 [.ref 0, .int a1, .int a2, .int a3] (g0, N) (fun w h' => ∃ g', h' = (g', N) ∧ HI g' ∧ Fr F_X10_put_0 A_X10_put_0 g0 g' ∧ ∃ r : Int32, w = some (.int r) ∧ True ∧ (((¬ ((a2.toInt = 0 ∧ -1 ≤ a3.toInt ∧ a3.toInt ≤ 11) ∨ (a2.toInt = 1 ∧ 1 ≤ a3.toInt ∧ a3.toInt ≤ 9) ∨ (a2.toInt = 2 ∧ 0 ≤ a3.toInt ∧ a3.toInt ≤ 99)) → r.toInt = -1) ∧ (((a2.toInt = 0 ∧ -1 ≤ a3.toInt ∧ a3.toInt ≤ 11) ∨ (a2.toInt = 1 ∧ 1 ≤ a3.toInt ∧ a3.toInt ≤ 9) ∨ (a2.toInt = 2 ∧ 0 ≤ a3.toInt ∧ a3.toInt ≤ 99)) ∧ ¬ (0 ≤ a1.toInt ∧ a1.toInt < (gI g0 1 0).toInt) → r.toInt = -2) ∧ (a2.toInt = 0 ∧ -1 ≤ a3.toInt ∧ a3.toInt ≤ 11 ∧ 0 ≤ a1.toInt ∧ a1.toInt < (gI g0 1 0).toInt → r.toInt = (eA g0 2 a1.toInt).toInt) ∧ (a2.toInt = 1 ∧ 1 ≤ a3.toInt ∧ a3.toInt ≤ 9 ∧ 0 ≤ a1.toInt ∧ a1.toInt < (gI g0 1 0).toInt → r.toInt = (eA g0 3 a1.toInt).toInt) ∧ (a2.toInt = 2 ∧ 0 ≤ a3.toInt ∧ a3.toInt ≤ 99 ∧ 0 ≤ a1.toInt ∧ a1.toInt < (gI g0 1 0).toInt → r.toInt = (eA g0 4 a1.toInt).toInt)) ∧ (∀ i : Int, 0 ≤ i → i < 12 → (eA g' 2 (i)).toInt = if (a2.toInt = 0 ∧ -1 ≤ a3.toInt ∧ a3.toInt ≤ 11 ∧ 0 ≤ a1.toInt ∧ a1.toInt < (gI g0 1 0).toInt) ∧ i = a1.toInt then a3.toInt else (eA g0 2 (i)).toInt) ∧ (∀ i : Int, 0 ≤ i → i < 12 → (eA g' 3 (i)).toInt = if (a2.toInt = 1 ∧ 1 ≤ a3.toInt ∧ a3.toInt ≤ 9 ∧ 0 ≤ a1.toInt ∧ a1.toInt < (gI g0 1 0).toInt) ∧ i = a1.toInt then a3.toInt else (eA g0 3 (i)).toInt) ∧ (∀ i : Int, 0 ≤ i → i < 12 → (eA g' 4 (i)).toInt = if (a2.toInt = 2 ∧ 0 ≤ a3.toInt ∧ a3.toInt ≤ 99 ∧ 0 ≤ a1.toInt ∧ a1.toInt < (gI g0 1 0).toInt) ∧ i = a1.toInt then a3.toInt else (eA g0 4 (i)).toInt))) := by
  have hF0 : Fr F_X10_put_0 A_X10_put_0 g0 g0 := Fr.rf
  refine Ev.mk rfl rfl ⟨Nat.le_of_ble_eq_true rfl, Or.inr (q_rc hI0.1 kx_0 rfl)⟩ ?_
  show At _ none _ _ (0, [(0, .ref 0), (1, .int a1), (2, .int a2), (3, .int a3)], [], (_, _)) _
  refine At.enter rfl ?_
  refine r_iload_n rfl ?_
  refine r_ifs 4 rfl (fun c319 => ?_) (fun c319 => ?_)
  · have c319_ : a2.toInt ≠ 0 := en_k_ne_t c319
    refine At.enter rfl ?_
    refine r_iload_n rfl ?_
    refine r_iconst 1 rfl ?_
    refine r_ics 19 rfl (fun c320 => ?_) (fun c320 => ?_)
    · have c320_ : a2.toInt ≠ 1 := en_i_ne_t c320
      refine At.enter rfl ?_
      refine r_iload_n rfl ?_
      refine r_iconst 2 rfl ?_
      refine r_ics 31 rfl (fun c321 => ?_) (fun c321 => ?_)
      · have c321_ : a2.toInt ≠ 2 := en_i_ne_t c321
        refine At.enter rfl ?_
        refine r_iconst 0 rfl ?_
        refine Ar.fall 43 rfl ?_
        refine At.enter rfl ?_
        refine r_istore ([(4, .int 0), (0, .ref 0), (1, .int a1), (2, .int a2), (3, .int a3)]) rfl ?_
        refine r_iload rfl ?_
        refine r_iff 50 rfl (by decide) ?_
        refine At.enter rfl ?_
        refine r_aload_n rfl ?_
        refine r_iconst (-1) rfl ?_
        refine r_callV 55 rfl [.ref 0, .int (-1)] [] (Nat.le_of_ble_eq_true rfl) rfl (T_X10_refused_0 _ hI0 (-1) (by decide)) ?_
        rintro _ _ ⟨g322, rfl, hI323, hF324, v325, rfl, hr326⟩
        refine At.sti ?_
        have hF327 := Fr.tr hF0 hF324 rfl rfl
        have zv328 : ((-1) : Int32).toInt = (-1) := rfl
        refine At.enter rfl ?_
        refine r_ireti ?_
        obtain ⟨v329, hv329⟩ : ∃ v, gI g0 1 0 = v := ⟨_, rfl⟩
        have rv329 := RgF.at hI0.2.1 (p := 1) (b := 0) rfl
        rw [hv329] at rv329
        dsimp only at rv329
        have tv329 := congrArg Int32.toInt hv329
        have x330 := HI.eqI hI0 (p := 1) (b := 0) (hv329)
        have x331 := HI.eqI hI0 (p := 1) (b := 0) (hv329)
        exact ⟨_, rfl, hI323, hF327, _, rfl, trivial, ⟨⟨by omega, by omega, by omega, by omega, by omega⟩, (by intro i i0 i1; refine Eq.trans ?_ (if_neg (show ¬ ((a2.toInt = 0 ∧ -1 ≤ a3.toInt ∧ a3.toInt ≤ 11 ∧ 0 ≤ a1.toInt ∧ a1.toInt < (gI g0 1 0).toInt) ∧ i = a1.toInt) from by omega)).symm; refine (eA_ti ((hF324.2.1 2 (by decide)))).trans ?_; (first | rfl | exact eA_ix (by omega) | omega)), (by intro i i0 i1; refine Eq.trans ?_ (if_neg (show ¬ ((a2.toInt = 1 ∧ 1 ≤ a3.toInt ∧ a3.toInt ≤ 9 ∧ 0 ≤ a1.toInt ∧ a1.toInt < (gI g0 1 0).toInt) ∧ i = a1.toInt) from by omega)).symm; refine (eA_ti ((hF324.2.1 3 (by decide)))).trans ?_; (first | rfl | exact eA_ix (by omega) | omega)), (by intro i i0 i1; refine Eq.trans ?_ (if_neg (show ¬ ((a2.toInt = 2 ∧ 0 ≤ a3.toInt ∧ a3.toInt ≤ 99 ∧ 0 ≤ a1.toInt ∧ a1.toInt < (gI g0 1 0).toInt) ∧ i = a1.toInt) from by omega)).symm; refine (eA_ti ((hF324.2.1 4 (by decide)))).trans ?_; (first | rfl | exact eA_ix (by omega) | omega))⟩⟩
      · have c321_ : a2.toInt = 2 := en_i_ne_f c321
        refine At.enter rfl ?_
        refine r_iload_n rfl ?_
        refine q_inlS 35 rfl [.int a3] [] (Nat.le_of_ble_eq_true rfl) rfl ?_
        refine Ev.mk rfl rfl ⟨Nat.le_of_ble_eq_true rfl, Or.inl rfl⟩ ?_
        show At _ none _ _ (0, [(0, .int a3)], [], (_, _)) _
        refine At.enter rfl ?_
        refine r_iload_n rfl ?_
        refine r_iconst 0 rfl ?_
        refine r_bipush 99 rfl ?_
        refine q_inlS 7 rfl [.int a3, .int 0, .int 99] [] (Nat.le_of_ble_eq_true rfl) rfl ?_
        refine Ev.mk rfl rfl ⟨Nat.le_of_ble_eq_true rfl, Or.inl rfl⟩ ?_
        show At _ none _ _ (0, [(0, .int a3), (1, .int 0), (2, .int 99)], [], (_, _)) _
        refine At.enter rfl ?_
        refine r_iload_n rfl ?_
        refine r_iload_n rfl ?_
        refine r_ics 5 rfl (fun c332 => ?_) (fun c332 => ?_)
        · have c332_ : a3.toInt < 0 := en_i_lt_t c332
          refine At.enter rfl ?_
          refine r_iconst 0 rfl ?_
          refine Ar.fall 15 rfl ?_
          refine At.enter rfl ?_
          refine q_iretz (by decide) ?_
          refine At.enter rfl ?_
          refine q_iretz (by decide) ?_
          refine At.enter rfl ?_
          refine r_ift (by decide) ?_
          refine At.enter rfl ?_
          refine r_iconst 0 rfl ?_
          refine Ar.fall 43 rfl ?_
          refine At.enter rfl ?_
          refine r_istore ([(4, .int 0), (0, .ref 0), (1, .int a1), (2, .int a2), (3, .int a3)]) rfl ?_
          refine r_iload rfl ?_
          refine r_iff 50 rfl (by decide) ?_
          refine At.enter rfl ?_
          refine r_aload_n rfl ?_
          refine r_iconst (-1) rfl ?_
          refine r_callV 55 rfl [.ref 0, .int (-1)] [] (Nat.le_of_ble_eq_true rfl) rfl (T_X10_refused_0 _ hI0 (-1) (by decide)) ?_
          rintro _ _ ⟨g333, rfl, hI334, hF335, v336, rfl, hr337⟩
          refine At.sti ?_
          have hF338 := Fr.tr hF0 hF335 rfl rfl
          have zv339 : ((-1) : Int32).toInt = (-1) := rfl
          refine At.enter rfl ?_
          refine r_ireti ?_
          obtain ⟨v340, hv340⟩ : ∃ v, gI g0 1 0 = v := ⟨_, rfl⟩
          have rv340 := RgF.at hI0.2.1 (p := 1) (b := 0) rfl
          rw [hv340] at rv340
          dsimp only at rv340
          have tv340 := congrArg Int32.toInt hv340
          have x341 := HI.eqI hI0 (p := 1) (b := 0) (hv340)
          have x342 := HI.eqI hI0 (p := 1) (b := 0) (hv340)
          exact ⟨_, rfl, hI334, hF338, _, rfl, trivial, ⟨⟨by omega, by omega, by omega, by omega, by omega⟩, (by intro i i0 i1; refine Eq.trans ?_ (if_neg (show ¬ ((a2.toInt = 0 ∧ -1 ≤ a3.toInt ∧ a3.toInt ≤ 11 ∧ 0 ≤ a1.toInt ∧ a1.toInt < (gI g0 1 0).toInt) ∧ i = a1.toInt) from by omega)).symm; refine (eA_ti ((hF335.2.1 2 (by decide)))).trans ?_; (first | rfl | exact eA_ix (by omega) | omega)), (by intro i i0 i1; refine Eq.trans ?_ (if_neg (show ¬ ((a2.toInt = 1 ∧ 1 ≤ a3.toInt ∧ a3.toInt ≤ 9 ∧ 0 ≤ a1.toInt ∧ a1.toInt < (gI g0 1 0).toInt) ∧ i = a1.toInt) from by omega)).symm; refine (eA_ti ((hF335.2.1 3 (by decide)))).trans ?_; (first | rfl | exact eA_ix (by omega) | omega)), (by intro i i0 i1; refine Eq.trans ?_ (if_neg (show ¬ ((a2.toInt = 2 ∧ 0 ≤ a3.toInt ∧ a3.toInt ≤ 99 ∧ 0 ≤ a1.toInt ∧ a1.toInt < (gI g0 1 0).toInt) ∧ i = a1.toInt) from by omega)).symm; refine (eA_ti ((hF335.2.1 4 (by decide)))).trans ?_; (first | rfl | exact eA_ix (by omega) | omega))⟩⟩
        · have c332_ : a3.toInt ≥ 0 := en_i_lt_f c332
          refine At.enter rfl ?_
          refine r_iload_n rfl ?_
          refine r_iload_n rfl ?_
          refine r_ics 10 rfl (fun c343 => ?_) (fun c343 => ?_)
          · have c343_ : a3.toInt > 99 := en_i_gt_t c343
            refine At.enter rfl ?_
            refine r_iconst 0 rfl ?_
            refine Ar.fall 15 rfl ?_
            refine At.enter rfl ?_
            refine q_iretz (by decide) ?_
            refine At.enter rfl ?_
            refine q_iretz (by decide) ?_
            refine At.enter rfl ?_
            refine r_ift (by decide) ?_
            refine At.enter rfl ?_
            refine r_iconst 0 rfl ?_
            refine Ar.fall 43 rfl ?_
            refine At.enter rfl ?_
            refine r_istore ([(4, .int 0), (0, .ref 0), (1, .int a1), (2, .int a2), (3, .int a3)]) rfl ?_
            refine r_iload rfl ?_
            refine r_iff 50 rfl (by decide) ?_
            refine At.enter rfl ?_
            refine r_aload_n rfl ?_
            refine r_iconst (-1) rfl ?_
            refine r_callV 55 rfl [.ref 0, .int (-1)] [] (Nat.le_of_ble_eq_true rfl) rfl (T_X10_refused_0 _ hI0 (-1) (by decide)) ?_
            rintro _ _ ⟨g344, rfl, hI345, hF346, v347, rfl, hr348⟩
            refine At.sti ?_
            have hF349 := Fr.tr hF0 hF346 rfl rfl
            have zv350 : ((-1) : Int32).toInt = (-1) := rfl
            refine At.enter rfl ?_
            refine r_ireti ?_
            obtain ⟨v351, hv351⟩ : ∃ v, gI g0 1 0 = v := ⟨_, rfl⟩
            have rv351 := RgF.at hI0.2.1 (p := 1) (b := 0) rfl
            rw [hv351] at rv351
            dsimp only at rv351
            have tv351 := congrArg Int32.toInt hv351
            have x352 := HI.eqI hI0 (p := 1) (b := 0) (hv351)
            have x353 := HI.eqI hI0 (p := 1) (b := 0) (hv351)
            exact ⟨_, rfl, hI345, hF349, _, rfl, trivial, ⟨⟨by omega, by omega, by omega, by omega, by omega⟩, (by intro i i0 i1; refine Eq.trans ?_ (if_neg (show ¬ ((a2.toInt = 0 ∧ -1 ≤ a3.toInt ∧ a3.toInt ≤ 11 ∧ 0 ≤ a1.toInt ∧ a1.toInt < (gI g0 1 0).toInt) ∧ i = a1.toInt) from by omega)).symm; refine (eA_ti ((hF346.2.1 2 (by decide)))).trans ?_; (first | rfl | exact eA_ix (by omega) | omega)), (by intro i i0 i1; refine Eq.trans ?_ (if_neg (show ¬ ((a2.toInt = 1 ∧ 1 ≤ a3.toInt ∧ a3.toInt ≤ 9 ∧ 0 ≤ a1.toInt ∧ a1.toInt < (gI g0 1 0).toInt) ∧ i = a1.toInt) from by omega)).symm; refine (eA_ti ((hF346.2.1 3 (by decide)))).trans ?_; (first | rfl | exact eA_ix (by omega) | omega)), (by intro i i0 i1; refine Eq.trans ?_ (if_neg (show ¬ ((a2.toInt = 2 ∧ 0 ≤ a3.toInt ∧ a3.toInt ≤ 99 ∧ 0 ≤ a1.toInt ∧ a1.toInt < (gI g0 1 0).toInt) ∧ i = a1.toInt) from by omega)).symm; refine (eA_ti ((hF346.2.1 4 (by decide)))).trans ?_; (first | rfl | exact eA_ix (by omega) | omega))⟩⟩
          · have c343_ : a3.toInt ≤ 99 := en_i_gt_f c343
            refine At.enter rfl ?_
            refine r_iconst 1 rfl ?_
            refine r_goto ?_
            refine At.enter rfl ?_
            refine q_iretz (by decide) ?_
            refine At.enter rfl ?_
            refine q_iretz (by decide) ?_
            refine At.enter rfl ?_
            refine r_iff 38 rfl (by decide) ?_
            refine At.enter rfl ?_
            refine r_iconst 1 rfl ?_
            refine r_goto ?_
            refine At.enter rfl ?_
            refine r_istore ([(4, .int 1), (0, .ref 0), (1, .int a1), (2, .int a2), (3, .int a3)]) rfl ?_
            refine r_iload rfl ?_
            refine r_ift (by decide) ?_
            refine At.enter rfl ?_
            refine r_aload_n rfl ?_
            refine q_getR (Sh.ref hI0.1 kx_0 rfl) ?_
            refine r_iload_n rfl ?_
            refine q_inlV 64 rfl [.ref 1, .int a1] [] (Nat.le_of_ble_eq_true rfl) rfl ?_
            refine Ev.mk rfl rfl ⟨Nat.le_of_ble_eq_true rfl, Or.inr (q_rc hI0.1 kx_1 rfl)⟩ ?_
            show At _ none _ _ (0, [(0, .ref 1), (1, .int a1)], [], (_, _)) _
            refine At.enter rfl ?_
            refine r_iload_n rfl ?_
            refine r_ifs 4 rfl (fun c354 => ?_) (fun c354 => ?_)
            · have c354_ : a1.toInt < 0 := en_k_lt_t c354
              refine At.enter rfl ?_
              refine r_iconst 0 rfl ?_
              refine Ar.fall 17 rfl ?_
              refine At.enter rfl ?_
              refine q_iretz (by decide) ?_
              refine At.enter rfl ?_
              refine r_iff 67 rfl (by decide) ?_
              refine At.enter rfl ?_
              refine r_aload_n rfl ?_
              refine r_bipush (-2) rfl ?_
              refine r_callV 73 rfl [.ref 0, .int (-2)] [] (Nat.le_of_ble_eq_true rfl) rfl (T_X10_refused_0 _ hI0 (-2) (by decide)) ?_
              rintro _ _ ⟨g355, rfl, hI356, hF357, v358, rfl, hr359⟩
              refine At.sti ?_
              have hF360 := Fr.tr hF0 hF357 rfl rfl
              have zv361 : ((-2) : Int32).toInt = (-2) := rfl
              refine At.enter rfl ?_
              refine r_ireti ?_
              obtain ⟨v362, hv362⟩ : ∃ v, gI g0 1 0 = v := ⟨_, rfl⟩
              have rv362 := RgF.at hI0.2.1 (p := 1) (b := 0) rfl
              rw [hv362] at rv362
              dsimp only at rv362
              have tv362 := congrArg Int32.toInt hv362
              have x363 := HI.eqI hI0 (p := 1) (b := 0) (hv362)
              have x364 := HI.eqI hI0 (p := 1) (b := 0) (hv362)
              exact ⟨_, rfl, hI356, hF360, _, rfl, trivial, ⟨⟨by omega, by omega, by omega, by omega, by omega⟩, (by intro i i0 i1; refine Eq.trans ?_ (if_neg (show ¬ ((a2.toInt = 0 ∧ -1 ≤ a3.toInt ∧ a3.toInt ≤ 11 ∧ 0 ≤ a1.toInt ∧ a1.toInt < (gI g0 1 0).toInt) ∧ i = a1.toInt) from by omega)).symm; refine (eA_ti ((hF357.2.1 2 (by decide)))).trans ?_; (first | rfl | exact eA_ix (by omega) | omega)), (by intro i i0 i1; refine Eq.trans ?_ (if_neg (show ¬ ((a2.toInt = 1 ∧ 1 ≤ a3.toInt ∧ a3.toInt ≤ 9 ∧ 0 ≤ a1.toInt ∧ a1.toInt < (gI g0 1 0).toInt) ∧ i = a1.toInt) from by omega)).symm; refine (eA_ti ((hF357.2.1 3 (by decide)))).trans ?_; (first | rfl | exact eA_ix (by omega) | omega)), (by intro i i0 i1; refine Eq.trans ?_ (if_neg (show ¬ ((a2.toInt = 2 ∧ 0 ≤ a3.toInt ∧ a3.toInt ≤ 99 ∧ 0 ≤ a1.toInt ∧ a1.toInt < (gI g0 1 0).toInt) ∧ i = a1.toInt) from by omega)).symm; refine (eA_ti ((hF357.2.1 4 (by decide)))).trans ?_; (first | rfl | exact eA_ix (by omega) | omega))⟩⟩
            · have c354_ : a1.toInt ≥ 0 := en_k_lt_f c354
              refine At.enter rfl ?_
              refine r_iload_n rfl ?_
              refine r_aload_n rfl ?_
              obtain ⟨v365, hv365⟩ : ∃ v, gI g0 1 0 = v := ⟨_, rfl⟩
              have rv365 := RgF.at hI0.2.1 (p := 1) (b := 0) rfl
              rw [hv365] at rv365
              dsimp only at rv365
              refine q_getI (Sh.int hI0.1 kx_1 rfl) v365 hv365 ?_
              have bv367 := q_bnd a1
              have bv368 := q_bnd v365
              refine r_ics 12 rfl (fun c366 => ?_) (fun c366 => ?_)
              · have c366_ : a1.toInt ≥ v365.toInt := en_i_ge_t c366
                refine At.enter rfl ?_
                refine r_iconst 0 rfl ?_
                refine Ar.fall 17 rfl ?_
                refine At.enter rfl ?_
                refine q_iretz (by decide) ?_
                refine At.enter rfl ?_
                refine r_iff 67 rfl (by decide) ?_
                refine At.enter rfl ?_
                refine r_aload_n rfl ?_
                refine r_bipush (-2) rfl ?_
                refine r_callV 73 rfl [.ref 0, .int (-2)] [] (Nat.le_of_ble_eq_true rfl) rfl (T_X10_refused_0 _ hI0 (-2) (by decide)) ?_
                rintro _ _ ⟨g369, rfl, hI370, hF371, v372, rfl, hr373⟩
                refine At.sti ?_
                have hF374 := Fr.tr hF0 hF371 rfl rfl
                have zv375 : ((-2) : Int32).toInt = (-2) := rfl
                refine At.enter rfl ?_
                refine r_ireti ?_
                have x376 := HI.eqI hI0 (p := 1) (b := 0) (hv365)
                have x377 := HI.eqI hI0 (p := 1) (b := 0) (hv365)
                exact ⟨_, rfl, hI370, hF374, _, rfl, trivial, ⟨⟨by omega, by omega, by omega, by omega, by omega⟩, (by intro i i0 i1; refine Eq.trans ?_ (if_neg (show ¬ ((a2.toInt = 0 ∧ -1 ≤ a3.toInt ∧ a3.toInt ≤ 11 ∧ 0 ≤ a1.toInt ∧ a1.toInt < (gI g0 1 0).toInt) ∧ i = a1.toInt) from by omega)).symm; refine (eA_ti ((hF371.2.1 2 (by decide)))).trans ?_; (first | rfl | exact eA_ix (by omega) | omega)), (by intro i i0 i1; refine Eq.trans ?_ (if_neg (show ¬ ((a2.toInt = 1 ∧ 1 ≤ a3.toInt ∧ a3.toInt ≤ 9 ∧ 0 ≤ a1.toInt ∧ a1.toInt < (gI g0 1 0).toInt) ∧ i = a1.toInt) from by omega)).symm; refine (eA_ti ((hF371.2.1 3 (by decide)))).trans ?_; (first | rfl | exact eA_ix (by omega) | omega)), (by intro i i0 i1; refine Eq.trans ?_ (if_neg (show ¬ ((a2.toInt = 2 ∧ 0 ≤ a3.toInt ∧ a3.toInt ≤ 99 ∧ 0 ≤ a1.toInt ∧ a1.toInt < (gI g0 1 0).toInt) ∧ i = a1.toInt) from by omega)).symm; refine (eA_ti ((hF371.2.1 4 (by decide)))).trans ?_; (first | rfl | exact eA_ix (by omega) | omega))⟩⟩
              · have c366_ : a1.toInt < v365.toInt := en_i_ge_f c366
                refine At.enter rfl ?_
                refine r_iconst 1 rfl ?_
                refine r_goto ?_
                refine At.enter rfl ?_
                refine q_iretz (by decide) ?_
                refine At.enter rfl ?_
                refine r_ift (by decide) ?_
                refine At.enter rfl ?_
                refine r_iload_n rfl ?_
                refine r_ifs 78 rfl (fun c378 => ?_) (fun c378 => ?_)
                · have c378_ : a2.toInt ≠ 0 := en_k_ne_t c378
                  refine At.enter rfl ?_
                  refine r_iload_n rfl ?_
                  refine r_iconst 1 rfl ?_
                  refine r_ics 93 rfl (fun c379 => ?_) (fun c379 => ?_)
                  · have c379_ : a2.toInt ≠ 1 := en_i_ne_t c379
                    refine At.enter rfl ?_
                    refine r_aload_n rfl ?_
                    refine q_getR (Sh.ref hI0.1 kx_0 rfl) ?_
                    refine q_getR (Sh.ref hI0.1 kx_1 rfl) ?_
                    refine Ar.fall 110 rfl ?_
                    refine At.enter rfl ?_
                    refine r_astore ([(5, .ref 4), (4, .int 1), (0, .ref 0), (1, .int a1), (2, .int a2), (3, .int a3)]) rfl ?_
                    refine r_aload rfl ?_
                    refine r_iload_n rfl ?_
                    obtain ⟨v380, hv380⟩ : ∃ v, eA g0 4 a1.toInt = v := ⟨_, rfl⟩
                    refine q_iald (Sh.arr hI0.1 ka_4) a1.toInt rfl (by omega) v380 hv380 ?_
                    refine r_istore ([(6, .int v380), (5, .ref 4), (4, .int 1), (0, .ref 0), (1, .int a1), (2, .int a2), (3, .int a3)]) rfl ?_
                    refine r_aload rfl ?_
                    refine r_iload_n rfl ?_
                    refine r_iload_n rfl ?_
                    refine q_iast (Sh.arr hI0.1 ka_4) (a1.toInt) rfl (by omega) ?_
                    have hI381 := HI.wA0 hI0 ka_4 (p := 4) rfl rfl (a1.toInt) (a3)
                    have hF382 := Fr.wA (p := 4) (j := a1.toInt) (v := a3) hF0 rfl
                    refine r_aload_n rfl ?_
                    refine r_callV 127 rfl [.ref 0] [] (Nat.le_of_ble_eq_true rfl) rfl (T_X10_changed_0 _ hI381) ?_
                    rintro _ _ ⟨g383, rfl, hI384, hF385, rfl⟩
                    refine At.stn ?_
                    have hF388 := Fr.tr hF382 hF385 rfl rfl
                    refine At.enter rfl ?_
                    refine r_aload_n rfl ?_
                    refine r_iload rfl ?_
                    refine q_inlV 133 rfl [.ref 0, .int v380] [] (Nat.le_of_ble_eq_true rfl) rfl ?_
                    refine Ev.mk rfl rfl ⟨Nat.le_of_ble_eq_true rfl, Or.inr (q_rc hI384.1 kx_0 rfl)⟩ ?_
                    show At _ none _ _ (0, [(0, .ref 0), (1, .int v380)], [], (_, _)) _
                    refine At.enter rfl ?_
                    refine r_aload_n rfl ?_
                    refine r_iconst 0 rfl ?_
                    refine q_putI (Sh.int hI384.1 kx_0 rfl) rfl ?_
                    have hI389 := HI.wI0 hI384 kx_0 rfl (p := 0) (b := 17) (v := 0) rfl
                    have hF390 := Fr.wI (p := 0) (b := 17) (v := 0) hF388 rfl
                    refine r_iload_n rfl ?_
                    refine q_ireti ?_
                    refine At.enter rfl ?_
                    refine r_ireti ?_
                    have x391 := HI.eqI hI0 (p := 1) (b := 0) (hv365)
                    have y392 := congrArg Int32.toInt hv380
                    have x393 := HI.eqI hI0 (p := 1) (b := 0) (hv365)
                    exact ⟨_, rfl, hI389, hF390, _, rfl, trivial, ⟨⟨by omega, by omega, by omega, by omega, by omega⟩, (by intro i i0 i1; refine Eq.trans ?_ (if_neg (show ¬ ((a2.toInt = 0 ∧ -1 ≤ a3.toInt ∧ a3.toInt ≤ 11 ∧ 0 ≤ a1.toInt ∧ a1.toInt < (gI g0 1 0).toInt) ∧ i = a1.toInt) from by omega)).symm; refine (eA_ti (((gA_sI).trans ((hF385.2.1 2 (by decide)).trans (gA_sA_ne (by decide)))))).trans ?_; (first | rfl | exact eA_ix (by omega) | omega)), (by intro i i0 i1; refine Eq.trans ?_ (if_neg (show ¬ ((a2.toInt = 1 ∧ 1 ≤ a3.toInt ∧ a3.toInt ≤ 9 ∧ 0 ≤ a1.toInt ∧ a1.toInt < (gI g0 1 0).toInt) ∧ i = a1.toInt) from by omega)).symm; refine (eA_ti (((gA_sI).trans ((hF385.2.1 3 (by decide)).trans (gA_sA_ne (by decide)))))).trans ?_; (first | rfl | exact eA_ix (by omega) | omega)), (by intro i i0 i1; exact (Decidable.em ((a2.toInt = 2 ∧ 0 ≤ a3.toInt ∧ a3.toInt ≤ 99 ∧ 0 ≤ a1.toInt ∧ a1.toInt < (gI g0 1 0).toInt) ∧ i = a1.toInt)).elim (fun k72_ => by refine Eq.trans ?_ (if_pos k72_).symm; refine (eA_ti (((gA_sI).trans (hF385.2.1 4 (by decide))))).trans ?_; exact (Decidable.em (i = a1.toInt)).elim (fun k73_ => by refine (eA_eqT hI0.1 ka_4 k73_ (by first | decide | omega) (by first | decide | omega)).trans ?_; (first | (rfl) | (omega))) (fun k73_ => by refine (eA_neT hI0.1 ka_4 k73_ (by first | decide | omega) (by omega)).trans ?_; (first | rfl | exact eA_ix (by omega) | omega))) (fun k72_ => by refine Eq.trans ?_ (if_neg k72_).symm; refine (eA_ti (((gA_sI).trans (hF385.2.1 4 (by decide))))).trans ?_; exact (Decidable.em (i = a1.toInt)).elim (fun k74_ => by refine (eA_eqT hI0.1 ka_4 k74_ (by first | decide | omega) (by first | decide | omega)).trans ?_; (first | (rfl) | (omega))) (fun k74_ => by refine (eA_neT hI0.1 ka_4 k74_ (by first | decide | omega) (by omega)).trans ?_; (first | rfl | exact eA_ix (by omega) | omega))))⟩⟩
                  · have c379_ : a2.toInt = 1 := en_i_ne_f c379
                    exfalso; omega
                · have c378_ : a2.toInt = 0 := en_k_ne_f c378
                  exfalso; omega
    · have c320_ : a2.toInt = 1 := en_i_ne_f c320
      refine At.enter rfl ?_
      refine r_iload_n rfl ?_
      refine q_inlS 23 rfl [.int a3] [] (Nat.le_of_ble_eq_true rfl) rfl ?_
      refine Ev.mk rfl rfl ⟨Nat.le_of_ble_eq_true rfl, Or.inl rfl⟩ ?_
      show At _ none _ _ (0, [(0, .int a3)], [], (_, _)) _
      refine At.enter rfl ?_
      refine r_iload_n rfl ?_
      refine r_iconst 1 rfl ?_
      refine r_bipush 9 rfl ?_
      refine q_inlS 7 rfl [.int a3, .int 1, .int 9] [] (Nat.le_of_ble_eq_true rfl) rfl ?_
      refine Ev.mk rfl rfl ⟨Nat.le_of_ble_eq_true rfl, Or.inl rfl⟩ ?_
      show At _ none _ _ (0, [(0, .int a3), (1, .int 1), (2, .int 9)], [], (_, _)) _
      refine At.enter rfl ?_
      refine r_iload_n rfl ?_
      refine r_iload_n rfl ?_
      refine r_ics 5 rfl (fun c394 => ?_) (fun c394 => ?_)
      · have c394_ : a3.toInt < 1 := en_i_lt_t c394
        refine At.enter rfl ?_
        refine r_iconst 0 rfl ?_
        refine Ar.fall 15 rfl ?_
        refine At.enter rfl ?_
        refine q_iretz (by decide) ?_
        refine At.enter rfl ?_
        refine q_iretz (by decide) ?_
        refine At.enter rfl ?_
        refine r_iff 26 rfl (by decide) ?_
        refine At.enter rfl ?_
        refine r_iload_n rfl ?_
        refine r_iconst 2 rfl ?_
        refine r_ics 31 rfl (fun c395 => ?_) (fun c395 => ?_)
        · have c395_ : a2.toInt ≠ 2 := en_i_ne_t c395
          refine At.enter rfl ?_
          refine r_iconst 0 rfl ?_
          refine Ar.fall 43 rfl ?_
          refine At.enter rfl ?_
          refine r_istore ([(4, .int 0), (0, .ref 0), (1, .int a1), (2, .int a2), (3, .int a3)]) rfl ?_
          refine r_iload rfl ?_
          refine r_iff 50 rfl (by decide) ?_
          refine At.enter rfl ?_
          refine r_aload_n rfl ?_
          refine r_iconst (-1) rfl ?_
          refine r_callV 55 rfl [.ref 0, .int (-1)] [] (Nat.le_of_ble_eq_true rfl) rfl (T_X10_refused_0 _ hI0 (-1) (by decide)) ?_
          rintro _ _ ⟨g396, rfl, hI397, hF398, v399, rfl, hr400⟩
          refine At.sti ?_
          have hF401 := Fr.tr hF0 hF398 rfl rfl
          have zv402 : ((-1) : Int32).toInt = (-1) := rfl
          refine At.enter rfl ?_
          refine r_ireti ?_
          obtain ⟨v403, hv403⟩ : ∃ v, gI g0 1 0 = v := ⟨_, rfl⟩
          have rv403 := RgF.at hI0.2.1 (p := 1) (b := 0) rfl
          rw [hv403] at rv403
          dsimp only at rv403
          have tv403 := congrArg Int32.toInt hv403
          have x404 := HI.eqI hI0 (p := 1) (b := 0) (hv403)
          have x405 := HI.eqI hI0 (p := 1) (b := 0) (hv403)
          exact ⟨_, rfl, hI397, hF401, _, rfl, trivial, ⟨⟨by omega, by omega, by omega, by omega, by omega⟩, (by intro i i0 i1; refine Eq.trans ?_ (if_neg (show ¬ ((a2.toInt = 0 ∧ -1 ≤ a3.toInt ∧ a3.toInt ≤ 11 ∧ 0 ≤ a1.toInt ∧ a1.toInt < (gI g0 1 0).toInt) ∧ i = a1.toInt) from by omega)).symm; refine (eA_ti ((hF398.2.1 2 (by decide)))).trans ?_; (first | rfl | exact eA_ix (by omega) | omega)), (by intro i i0 i1; refine Eq.trans ?_ (if_neg (show ¬ ((a2.toInt = 1 ∧ 1 ≤ a3.toInt ∧ a3.toInt ≤ 9 ∧ 0 ≤ a1.toInt ∧ a1.toInt < (gI g0 1 0).toInt) ∧ i = a1.toInt) from by omega)).symm; refine (eA_ti ((hF398.2.1 3 (by decide)))).trans ?_; (first | rfl | exact eA_ix (by omega) | omega)), (by intro i i0 i1; refine Eq.trans ?_ (if_neg (show ¬ ((a2.toInt = 2 ∧ 0 ≤ a3.toInt ∧ a3.toInt ≤ 99 ∧ 0 ≤ a1.toInt ∧ a1.toInt < (gI g0 1 0).toInt) ∧ i = a1.toInt) from by omega)).symm; refine (eA_ti ((hF398.2.1 4 (by decide)))).trans ?_; (first | rfl | exact eA_ix (by omega) | omega))⟩⟩
        · have c395_ : a2.toInt = 2 := en_i_ne_f c395
          exfalso; omega
      · have c394_ : a3.toInt ≥ 1 := en_i_lt_f c394
        refine At.enter rfl ?_
        refine r_iload_n rfl ?_
        refine r_iload_n rfl ?_
        refine r_ics 10 rfl (fun c406 => ?_) (fun c406 => ?_)
        · have c406_ : a3.toInt > 9 := en_i_gt_t c406
          refine At.enter rfl ?_
          refine r_iconst 0 rfl ?_
          refine Ar.fall 15 rfl ?_
          refine At.enter rfl ?_
          refine q_iretz (by decide) ?_
          refine At.enter rfl ?_
          refine q_iretz (by decide) ?_
          refine At.enter rfl ?_
          refine r_iff 26 rfl (by decide) ?_
          refine At.enter rfl ?_
          refine r_iload_n rfl ?_
          refine r_iconst 2 rfl ?_
          refine r_ics 31 rfl (fun c407 => ?_) (fun c407 => ?_)
          · have c407_ : a2.toInt ≠ 2 := en_i_ne_t c407
            refine At.enter rfl ?_
            refine r_iconst 0 rfl ?_
            refine Ar.fall 43 rfl ?_
            refine At.enter rfl ?_
            refine r_istore ([(4, .int 0), (0, .ref 0), (1, .int a1), (2, .int a2), (3, .int a3)]) rfl ?_
            refine r_iload rfl ?_
            refine r_iff 50 rfl (by decide) ?_
            refine At.enter rfl ?_
            refine r_aload_n rfl ?_
            refine r_iconst (-1) rfl ?_
            refine r_callV 55 rfl [.ref 0, .int (-1)] [] (Nat.le_of_ble_eq_true rfl) rfl (T_X10_refused_0 _ hI0 (-1) (by decide)) ?_
            rintro _ _ ⟨g408, rfl, hI409, hF410, v411, rfl, hr412⟩
            refine At.sti ?_
            have hF413 := Fr.tr hF0 hF410 rfl rfl
            have zv414 : ((-1) : Int32).toInt = (-1) := rfl
            refine At.enter rfl ?_
            refine r_ireti ?_
            obtain ⟨v415, hv415⟩ : ∃ v, gI g0 1 0 = v := ⟨_, rfl⟩
            have rv415 := RgF.at hI0.2.1 (p := 1) (b := 0) rfl
            rw [hv415] at rv415
            dsimp only at rv415
            have tv415 := congrArg Int32.toInt hv415
            have x416 := HI.eqI hI0 (p := 1) (b := 0) (hv415)
            have x417 := HI.eqI hI0 (p := 1) (b := 0) (hv415)
            exact ⟨_, rfl, hI409, hF413, _, rfl, trivial, ⟨⟨by omega, by omega, by omega, by omega, by omega⟩, (by intro i i0 i1; refine Eq.trans ?_ (if_neg (show ¬ ((a2.toInt = 0 ∧ -1 ≤ a3.toInt ∧ a3.toInt ≤ 11 ∧ 0 ≤ a1.toInt ∧ a1.toInt < (gI g0 1 0).toInt) ∧ i = a1.toInt) from by omega)).symm; refine (eA_ti ((hF410.2.1 2 (by decide)))).trans ?_; (first | rfl | exact eA_ix (by omega) | omega)), (by intro i i0 i1; refine Eq.trans ?_ (if_neg (show ¬ ((a2.toInt = 1 ∧ 1 ≤ a3.toInt ∧ a3.toInt ≤ 9 ∧ 0 ≤ a1.toInt ∧ a1.toInt < (gI g0 1 0).toInt) ∧ i = a1.toInt) from by omega)).symm; refine (eA_ti ((hF410.2.1 3 (by decide)))).trans ?_; (first | rfl | exact eA_ix (by omega) | omega)), (by intro i i0 i1; refine Eq.trans ?_ (if_neg (show ¬ ((a2.toInt = 2 ∧ 0 ≤ a3.toInt ∧ a3.toInt ≤ 99 ∧ 0 ≤ a1.toInt ∧ a1.toInt < (gI g0 1 0).toInt) ∧ i = a1.toInt) from by omega)).symm; refine (eA_ti ((hF410.2.1 4 (by decide)))).trans ?_; (first | rfl | exact eA_ix (by omega) | omega))⟩⟩
          · have c407_ : a2.toInt = 2 := en_i_ne_f c407
            exfalso; omega
        · have c406_ : a3.toInt ≤ 9 := en_i_gt_f c406
          refine At.enter rfl ?_
          refine r_iconst 1 rfl ?_
          refine r_goto ?_
          refine At.enter rfl ?_
          refine q_iretz (by decide) ?_
          refine At.enter rfl ?_
          refine q_iretz (by decide) ?_
          refine At.enter rfl ?_
          refine r_ift (by decide) ?_
          refine At.enter rfl ?_
          refine r_iconst 1 rfl ?_
          refine r_goto ?_
          refine At.enter rfl ?_
          refine r_istore ([(4, .int 1), (0, .ref 0), (1, .int a1), (2, .int a2), (3, .int a3)]) rfl ?_
          refine r_iload rfl ?_
          refine r_ift (by decide) ?_
          refine At.enter rfl ?_
          refine r_aload_n rfl ?_
          refine q_getR (Sh.ref hI0.1 kx_0 rfl) ?_
          refine r_iload_n rfl ?_
          refine q_inlV 64 rfl [.ref 1, .int a1] [] (Nat.le_of_ble_eq_true rfl) rfl ?_
          refine Ev.mk rfl rfl ⟨Nat.le_of_ble_eq_true rfl, Or.inr (q_rc hI0.1 kx_1 rfl)⟩ ?_
          show At _ none _ _ (0, [(0, .ref 1), (1, .int a1)], [], (_, _)) _
          refine At.enter rfl ?_
          refine r_iload_n rfl ?_
          refine r_ifs 4 rfl (fun c418 => ?_) (fun c418 => ?_)
          · have c418_ : a1.toInt < 0 := en_k_lt_t c418
            refine At.enter rfl ?_
            refine r_iconst 0 rfl ?_
            refine Ar.fall 17 rfl ?_
            refine At.enter rfl ?_
            refine q_iretz (by decide) ?_
            refine At.enter rfl ?_
            refine r_iff 67 rfl (by decide) ?_
            refine At.enter rfl ?_
            refine r_aload_n rfl ?_
            refine r_bipush (-2) rfl ?_
            refine r_callV 73 rfl [.ref 0, .int (-2)] [] (Nat.le_of_ble_eq_true rfl) rfl (T_X10_refused_0 _ hI0 (-2) (by decide)) ?_
            rintro _ _ ⟨g419, rfl, hI420, hF421, v422, rfl, hr423⟩
            refine At.sti ?_
            have hF424 := Fr.tr hF0 hF421 rfl rfl
            have zv425 : ((-2) : Int32).toInt = (-2) := rfl
            refine At.enter rfl ?_
            refine r_ireti ?_
            obtain ⟨v426, hv426⟩ : ∃ v, gI g0 1 0 = v := ⟨_, rfl⟩
            have rv426 := RgF.at hI0.2.1 (p := 1) (b := 0) rfl
            rw [hv426] at rv426
            dsimp only at rv426
            have tv426 := congrArg Int32.toInt hv426
            have x427 := HI.eqI hI0 (p := 1) (b := 0) (hv426)
            have x428 := HI.eqI hI0 (p := 1) (b := 0) (hv426)
            exact ⟨_, rfl, hI420, hF424, _, rfl, trivial, ⟨⟨by omega, by omega, by omega, by omega, by omega⟩, (by intro i i0 i1; refine Eq.trans ?_ (if_neg (show ¬ ((a2.toInt = 0 ∧ -1 ≤ a3.toInt ∧ a3.toInt ≤ 11 ∧ 0 ≤ a1.toInt ∧ a1.toInt < (gI g0 1 0).toInt) ∧ i = a1.toInt) from by omega)).symm; refine (eA_ti ((hF421.2.1 2 (by decide)))).trans ?_; (first | rfl | exact eA_ix (by omega) | omega)), (by intro i i0 i1; refine Eq.trans ?_ (if_neg (show ¬ ((a2.toInt = 1 ∧ 1 ≤ a3.toInt ∧ a3.toInt ≤ 9 ∧ 0 ≤ a1.toInt ∧ a1.toInt < (gI g0 1 0).toInt) ∧ i = a1.toInt) from by omega)).symm; refine (eA_ti ((hF421.2.1 3 (by decide)))).trans ?_; (first | rfl | exact eA_ix (by omega) | omega)), (by intro i i0 i1; refine Eq.trans ?_ (if_neg (show ¬ ((a2.toInt = 2 ∧ 0 ≤ a3.toInt ∧ a3.toInt ≤ 99 ∧ 0 ≤ a1.toInt ∧ a1.toInt < (gI g0 1 0).toInt) ∧ i = a1.toInt) from by omega)).symm; refine (eA_ti ((hF421.2.1 4 (by decide)))).trans ?_; (first | rfl | exact eA_ix (by omega) | omega))⟩⟩
          · have c418_ : a1.toInt ≥ 0 := en_k_lt_f c418
            refine At.enter rfl ?_
            refine r_iload_n rfl ?_
            refine r_aload_n rfl ?_
            obtain ⟨v429, hv429⟩ : ∃ v, gI g0 1 0 = v := ⟨_, rfl⟩
            have rv429 := RgF.at hI0.2.1 (p := 1) (b := 0) rfl
            rw [hv429] at rv429
            dsimp only at rv429
            refine q_getI (Sh.int hI0.1 kx_1 rfl) v429 hv429 ?_
            have bv431 := q_bnd a1
            have bv432 := q_bnd v429
            refine r_ics 12 rfl (fun c430 => ?_) (fun c430 => ?_)
            · have c430_ : a1.toInt ≥ v429.toInt := en_i_ge_t c430
              refine At.enter rfl ?_
              refine r_iconst 0 rfl ?_
              refine Ar.fall 17 rfl ?_
              refine At.enter rfl ?_
              refine q_iretz (by decide) ?_
              refine At.enter rfl ?_
              refine r_iff 67 rfl (by decide) ?_
              refine At.enter rfl ?_
              refine r_aload_n rfl ?_
              refine r_bipush (-2) rfl ?_
              refine r_callV 73 rfl [.ref 0, .int (-2)] [] (Nat.le_of_ble_eq_true rfl) rfl (T_X10_refused_0 _ hI0 (-2) (by decide)) ?_
              rintro _ _ ⟨g433, rfl, hI434, hF435, v436, rfl, hr437⟩
              refine At.sti ?_
              have hF438 := Fr.tr hF0 hF435 rfl rfl
              have zv439 : ((-2) : Int32).toInt = (-2) := rfl
              refine At.enter rfl ?_
              refine r_ireti ?_
              have x440 := HI.eqI hI0 (p := 1) (b := 0) (hv429)
              have x441 := HI.eqI hI0 (p := 1) (b := 0) (hv429)
              exact ⟨_, rfl, hI434, hF438, _, rfl, trivial, ⟨⟨by omega, by omega, by omega, by omega, by omega⟩, (by intro i i0 i1; refine Eq.trans ?_ (if_neg (show ¬ ((a2.toInt = 0 ∧ -1 ≤ a3.toInt ∧ a3.toInt ≤ 11 ∧ 0 ≤ a1.toInt ∧ a1.toInt < (gI g0 1 0).toInt) ∧ i = a1.toInt) from by omega)).symm; refine (eA_ti ((hF435.2.1 2 (by decide)))).trans ?_; (first | rfl | exact eA_ix (by omega) | omega)), (by intro i i0 i1; refine Eq.trans ?_ (if_neg (show ¬ ((a2.toInt = 1 ∧ 1 ≤ a3.toInt ∧ a3.toInt ≤ 9 ∧ 0 ≤ a1.toInt ∧ a1.toInt < (gI g0 1 0).toInt) ∧ i = a1.toInt) from by omega)).symm; refine (eA_ti ((hF435.2.1 3 (by decide)))).trans ?_; (first | rfl | exact eA_ix (by omega) | omega)), (by intro i i0 i1; refine Eq.trans ?_ (if_neg (show ¬ ((a2.toInt = 2 ∧ 0 ≤ a3.toInt ∧ a3.toInt ≤ 99 ∧ 0 ≤ a1.toInt ∧ a1.toInt < (gI g0 1 0).toInt) ∧ i = a1.toInt) from by omega)).symm; refine (eA_ti ((hF435.2.1 4 (by decide)))).trans ?_; (first | rfl | exact eA_ix (by omega) | omega))⟩⟩
            · have c430_ : a1.toInt < v429.toInt := en_i_ge_f c430
              refine At.enter rfl ?_
              refine r_iconst 1 rfl ?_
              refine r_goto ?_
              refine At.enter rfl ?_
              refine q_iretz (by decide) ?_
              refine At.enter rfl ?_
              refine r_ift (by decide) ?_
              refine At.enter rfl ?_
              refine r_iload_n rfl ?_
              refine r_ifs 78 rfl (fun c442 => ?_) (fun c442 => ?_)
              · have c442_ : a2.toInt ≠ 0 := en_k_ne_t c442
                refine At.enter rfl ?_
                refine r_iload_n rfl ?_
                refine r_iconst 1 rfl ?_
                refine r_ics 93 rfl (fun c443 => ?_) (fun c443 => ?_)
                · have c443_ : a2.toInt ≠ 1 := en_i_ne_t c443
                  exfalso; omega
                · have c443_ : a2.toInt = 1 := en_i_ne_f c443
                  refine At.enter rfl ?_
                  refine r_aload_n rfl ?_
                  refine q_getR (Sh.ref hI0.1 kx_0 rfl) ?_
                  refine q_getR (Sh.ref hI0.1 kx_1 rfl) ?_
                  refine r_goto ?_
                  refine At.enter rfl ?_
                  refine r_astore ([(5, .ref 3), (4, .int 1), (0, .ref 0), (1, .int a1), (2, .int a2), (3, .int a3)]) rfl ?_
                  refine r_aload rfl ?_
                  refine r_iload_n rfl ?_
                  obtain ⟨v444, hv444⟩ : ∃ v, eA g0 3 a1.toInt = v := ⟨_, rfl⟩
                  refine q_iald (Sh.arr hI0.1 ka_3) a1.toInt rfl (by omega) v444 hv444 ?_
                  refine r_istore ([(6, .int v444), (5, .ref 3), (4, .int 1), (0, .ref 0), (1, .int a1), (2, .int a2), (3, .int a3)]) rfl ?_
                  refine r_aload rfl ?_
                  refine r_iload_n rfl ?_
                  refine r_iload_n rfl ?_
                  refine q_iast (Sh.arr hI0.1 ka_3) (a1.toInt) rfl (by omega) ?_
                  have hI445 := HI.wA0 hI0 ka_3 (p := 3) rfl rfl (a1.toInt) (a3)
                  have hF446 := Fr.wA (p := 3) (j := a1.toInt) (v := a3) hF0 rfl
                  refine r_aload_n rfl ?_
                  refine r_callV 127 rfl [.ref 0] [] (Nat.le_of_ble_eq_true rfl) rfl (T_X10_changed_0 _ hI445) ?_
                  rintro _ _ ⟨g447, rfl, hI448, hF449, rfl⟩
                  refine At.stn ?_
                  have hF452 := Fr.tr hF446 hF449 rfl rfl
                  refine At.enter rfl ?_
                  refine r_aload_n rfl ?_
                  refine r_iload rfl ?_
                  refine q_inlV 133 rfl [.ref 0, .int v444] [] (Nat.le_of_ble_eq_true rfl) rfl ?_
                  refine Ev.mk rfl rfl ⟨Nat.le_of_ble_eq_true rfl, Or.inr (q_rc hI448.1 kx_0 rfl)⟩ ?_
                  show At _ none _ _ (0, [(0, .ref 0), (1, .int v444)], [], (_, _)) _
                  refine At.enter rfl ?_
                  refine r_aload_n rfl ?_
                  refine r_iconst 0 rfl ?_
                  refine q_putI (Sh.int hI448.1 kx_0 rfl) rfl ?_
                  have hI453 := HI.wI0 hI448 kx_0 rfl (p := 0) (b := 17) (v := 0) rfl
                  have hF454 := Fr.wI (p := 0) (b := 17) (v := 0) hF452 rfl
                  refine r_iload_n rfl ?_
                  refine q_ireti ?_
                  refine At.enter rfl ?_
                  refine r_ireti ?_
                  have x455 := HI.eqI hI0 (p := 1) (b := 0) (hv429)
                  have y456 := congrArg Int32.toInt hv444
                  have x457 := HI.eqI hI0 (p := 1) (b := 0) (hv429)
                  exact ⟨_, rfl, hI453, hF454, _, rfl, trivial, ⟨⟨by omega, by omega, by omega, by omega, by omega⟩, (by intro i i0 i1; refine Eq.trans ?_ (if_neg (show ¬ ((a2.toInt = 0 ∧ -1 ≤ a3.toInt ∧ a3.toInt ≤ 11 ∧ 0 ≤ a1.toInt ∧ a1.toInt < (gI g0 1 0).toInt) ∧ i = a1.toInt) from by omega)).symm; refine (eA_ti (((gA_sI).trans ((hF449.2.1 2 (by decide)).trans (gA_sA_ne (by decide)))))).trans ?_; (first | rfl | exact eA_ix (by omega) | omega)), (by intro i i0 i1; exact (Decidable.em ((a2.toInt = 1 ∧ 1 ≤ a3.toInt ∧ a3.toInt ≤ 9 ∧ 0 ≤ a1.toInt ∧ a1.toInt < (gI g0 1 0).toInt) ∧ i = a1.toInt)).elim (fun k75_ => by refine Eq.trans ?_ (if_pos k75_).symm; refine (eA_ti (((gA_sI).trans (hF449.2.1 3 (by decide))))).trans ?_; exact (Decidable.em (i = a1.toInt)).elim (fun k76_ => by refine (eA_eqT hI0.1 ka_3 k76_ (by first | decide | omega) (by first | decide | omega)).trans ?_; (first | (rfl) | (omega))) (fun k76_ => by refine (eA_neT hI0.1 ka_3 k76_ (by first | decide | omega) (by omega)).trans ?_; (first | rfl | exact eA_ix (by omega) | omega))) (fun k75_ => by refine Eq.trans ?_ (if_neg k75_).symm; refine (eA_ti (((gA_sI).trans (hF449.2.1 3 (by decide))))).trans ?_; exact (Decidable.em (i = a1.toInt)).elim (fun k77_ => by refine (eA_eqT hI0.1 ka_3 k77_ (by first | decide | omega) (by first | decide | omega)).trans ?_; (first | (rfl) | (omega))) (fun k77_ => by refine (eA_neT hI0.1 ka_3 k77_ (by first | decide | omega) (by omega)).trans ?_; (first | rfl | exact eA_ix (by omega) | omega)))), (by intro i i0 i1; refine Eq.trans ?_ (if_neg (show ¬ ((a2.toInt = 2 ∧ 0 ≤ a3.toInt ∧ a3.toInt ≤ 99 ∧ 0 ≤ a1.toInt ∧ a1.toInt < (gI g0 1 0).toInt) ∧ i = a1.toInt) from by omega)).symm; refine (eA_ti (((gA_sI).trans ((hF449.2.1 4 (by decide)).trans (gA_sA_ne (by decide)))))).trans ?_; (first | rfl | exact eA_ix (by omega) | omega))⟩⟩
              · have c442_ : a2.toInt = 0 := en_k_ne_f c442
                exfalso; omega
  · have c319_ : a2.toInt = 0 := en_k_ne_f c319
    refine At.enter rfl ?_
    refine r_iload_n rfl ?_
    refine r_iconst (-1) rfl ?_
    refine r_bipush 11 rfl ?_
    refine q_inlS 11 rfl [.int a3, .int (-1), .int 11] [] (Nat.le_of_ble_eq_true rfl) rfl ?_
    refine Ev.mk rfl rfl ⟨Nat.le_of_ble_eq_true rfl, Or.inl rfl⟩ ?_
    show At _ none _ _ (0, [(0, .int a3), (1, .int (-1)), (2, .int 11)], [], (_, _)) _
    refine At.enter rfl ?_
    refine r_iload_n rfl ?_
    refine r_iload_n rfl ?_
    refine r_ics 5 rfl (fun c458 => ?_) (fun c458 => ?_)
    · have c458_ : a3.toInt < (-1) := en_i_lt_t c458
      refine At.enter rfl ?_
      refine r_iconst 0 rfl ?_
      refine Ar.fall 15 rfl ?_
      refine At.enter rfl ?_
      refine q_iretz (by decide) ?_
      refine At.enter rfl ?_
      refine r_iff 14 rfl (by decide) ?_
      refine At.enter rfl ?_
      refine r_iload_n rfl ?_
      refine r_iconst 1 rfl ?_
      refine r_ics 19 rfl (fun c459 => ?_) (fun c459 => ?_)
      · have c459_ : a2.toInt ≠ 1 := en_i_ne_t c459
        refine At.enter rfl ?_
        refine r_iload_n rfl ?_
        refine r_iconst 2 rfl ?_
        refine r_ics 31 rfl (fun c460 => ?_) (fun c460 => ?_)
        · have c460_ : a2.toInt ≠ 2 := en_i_ne_t c460
          refine At.enter rfl ?_
          refine r_iconst 0 rfl ?_
          refine Ar.fall 43 rfl ?_
          refine At.enter rfl ?_
          refine r_istore ([(4, .int 0), (0, .ref 0), (1, .int a1), (2, .int a2), (3, .int a3)]) rfl ?_
          refine r_iload rfl ?_
          refine r_iff 50 rfl (by decide) ?_
          refine At.enter rfl ?_
          refine r_aload_n rfl ?_
          refine r_iconst (-1) rfl ?_
          refine r_callV 55 rfl [.ref 0, .int (-1)] [] (Nat.le_of_ble_eq_true rfl) rfl (T_X10_refused_0 _ hI0 (-1) (by decide)) ?_
          rintro _ _ ⟨g461, rfl, hI462, hF463, v464, rfl, hr465⟩
          refine At.sti ?_
          have hF466 := Fr.tr hF0 hF463 rfl rfl
          have zv467 : ((-1) : Int32).toInt = (-1) := rfl
          refine At.enter rfl ?_
          refine r_ireti ?_
          obtain ⟨v468, hv468⟩ : ∃ v, gI g0 1 0 = v := ⟨_, rfl⟩
          have rv468 := RgF.at hI0.2.1 (p := 1) (b := 0) rfl
          rw [hv468] at rv468
          dsimp only at rv468
          have tv468 := congrArg Int32.toInt hv468
          have x469 := HI.eqI hI0 (p := 1) (b := 0) (hv468)
          have x470 := HI.eqI hI0 (p := 1) (b := 0) (hv468)
          exact ⟨_, rfl, hI462, hF466, _, rfl, trivial, ⟨⟨by omega, by omega, by omega, by omega, by omega⟩, (by intro i i0 i1; refine Eq.trans ?_ (if_neg (show ¬ ((a2.toInt = 0 ∧ -1 ≤ a3.toInt ∧ a3.toInt ≤ 11 ∧ 0 ≤ a1.toInt ∧ a1.toInt < (gI g0 1 0).toInt) ∧ i = a1.toInt) from by omega)).symm; refine (eA_ti ((hF463.2.1 2 (by decide)))).trans ?_; (first | rfl | exact eA_ix (by omega) | omega)), (by intro i i0 i1; refine Eq.trans ?_ (if_neg (show ¬ ((a2.toInt = 1 ∧ 1 ≤ a3.toInt ∧ a3.toInt ≤ 9 ∧ 0 ≤ a1.toInt ∧ a1.toInt < (gI g0 1 0).toInt) ∧ i = a1.toInt) from by omega)).symm; refine (eA_ti ((hF463.2.1 3 (by decide)))).trans ?_; (first | rfl | exact eA_ix (by omega) | omega)), (by intro i i0 i1; refine Eq.trans ?_ (if_neg (show ¬ ((a2.toInt = 2 ∧ 0 ≤ a3.toInt ∧ a3.toInt ≤ 99 ∧ 0 ≤ a1.toInt ∧ a1.toInt < (gI g0 1 0).toInt) ∧ i = a1.toInt) from by omega)).symm; refine (eA_ti ((hF463.2.1 4 (by decide)))).trans ?_; (first | rfl | exact eA_ix (by omega) | omega))⟩⟩
        · have c460_ : a2.toInt = 2 := en_i_ne_f c460
          exfalso; omega
      · have c459_ : a2.toInt = 1 := en_i_ne_f c459
        exfalso; omega
    · have c458_ : a3.toInt ≥ (-1) := en_i_lt_f c458
      refine At.enter rfl ?_
      refine r_iload_n rfl ?_
      refine r_iload_n rfl ?_
      refine r_ics 10 rfl (fun c471 => ?_) (fun c471 => ?_)
      · have c471_ : a3.toInt > 11 := en_i_gt_t c471
        refine At.enter rfl ?_
        refine r_iconst 0 rfl ?_
        refine Ar.fall 15 rfl ?_
        refine At.enter rfl ?_
        refine q_iretz (by decide) ?_
        refine At.enter rfl ?_
        refine r_iff 14 rfl (by decide) ?_
        refine At.enter rfl ?_
        refine r_iload_n rfl ?_
        refine r_iconst 1 rfl ?_
        refine r_ics 19 rfl (fun c472 => ?_) (fun c472 => ?_)
        · have c472_ : a2.toInt ≠ 1 := en_i_ne_t c472
          refine At.enter rfl ?_
          refine r_iload_n rfl ?_
          refine r_iconst 2 rfl ?_
          refine r_ics 31 rfl (fun c473 => ?_) (fun c473 => ?_)
          · have c473_ : a2.toInt ≠ 2 := en_i_ne_t c473
            refine At.enter rfl ?_
            refine r_iconst 0 rfl ?_
            refine Ar.fall 43 rfl ?_
            refine At.enter rfl ?_
            refine r_istore ([(4, .int 0), (0, .ref 0), (1, .int a1), (2, .int a2), (3, .int a3)]) rfl ?_
            refine r_iload rfl ?_
            refine r_iff 50 rfl (by decide) ?_
            refine At.enter rfl ?_
            refine r_aload_n rfl ?_
            refine r_iconst (-1) rfl ?_
            refine r_callV 55 rfl [.ref 0, .int (-1)] [] (Nat.le_of_ble_eq_true rfl) rfl (T_X10_refused_0 _ hI0 (-1) (by decide)) ?_
            rintro _ _ ⟨g474, rfl, hI475, hF476, v477, rfl, hr478⟩
            refine At.sti ?_
            have hF479 := Fr.tr hF0 hF476 rfl rfl
            have zv480 : ((-1) : Int32).toInt = (-1) := rfl
            refine At.enter rfl ?_
            refine r_ireti ?_
            obtain ⟨v481, hv481⟩ : ∃ v, gI g0 1 0 = v := ⟨_, rfl⟩
            have rv481 := RgF.at hI0.2.1 (p := 1) (b := 0) rfl
            rw [hv481] at rv481
            dsimp only at rv481
            have tv481 := congrArg Int32.toInt hv481
            have x482 := HI.eqI hI0 (p := 1) (b := 0) (hv481)
            have x483 := HI.eqI hI0 (p := 1) (b := 0) (hv481)
            exact ⟨_, rfl, hI475, hF479, _, rfl, trivial, ⟨⟨by omega, by omega, by omega, by omega, by omega⟩, (by intro i i0 i1; refine Eq.trans ?_ (if_neg (show ¬ ((a2.toInt = 0 ∧ -1 ≤ a3.toInt ∧ a3.toInt ≤ 11 ∧ 0 ≤ a1.toInt ∧ a1.toInt < (gI g0 1 0).toInt) ∧ i = a1.toInt) from by omega)).symm; refine (eA_ti ((hF476.2.1 2 (by decide)))).trans ?_; (first | rfl | exact eA_ix (by omega) | omega)), (by intro i i0 i1; refine Eq.trans ?_ (if_neg (show ¬ ((a2.toInt = 1 ∧ 1 ≤ a3.toInt ∧ a3.toInt ≤ 9 ∧ 0 ≤ a1.toInt ∧ a1.toInt < (gI g0 1 0).toInt) ∧ i = a1.toInt) from by omega)).symm; refine (eA_ti ((hF476.2.1 3 (by decide)))).trans ?_; (first | rfl | exact eA_ix (by omega) | omega)), (by intro i i0 i1; refine Eq.trans ?_ (if_neg (show ¬ ((a2.toInt = 2 ∧ 0 ≤ a3.toInt ∧ a3.toInt ≤ 99 ∧ 0 ≤ a1.toInt ∧ a1.toInt < (gI g0 1 0).toInt) ∧ i = a1.toInt) from by omega)).symm; refine (eA_ti ((hF476.2.1 4 (by decide)))).trans ?_; (first | rfl | exact eA_ix (by omega) | omega))⟩⟩
          · have c473_ : a2.toInt = 2 := en_i_ne_f c473
            exfalso; omega
        · have c472_ : a2.toInt = 1 := en_i_ne_f c472
          exfalso; omega
      · have c471_ : a3.toInt ≤ 11 := en_i_gt_f c471
        refine At.enter rfl ?_
        refine r_iconst 1 rfl ?_
        refine r_goto ?_
        refine At.enter rfl ?_
        refine q_iretz (by decide) ?_
        refine At.enter rfl ?_
        refine r_ift (by decide) ?_
        refine At.enter rfl ?_
        refine r_iconst 1 rfl ?_
        refine r_goto ?_
        refine At.enter rfl ?_
        refine r_istore ([(4, .int 1), (0, .ref 0), (1, .int a1), (2, .int a2), (3, .int a3)]) rfl ?_
        refine r_iload rfl ?_
        refine r_ift (by decide) ?_
        refine At.enter rfl ?_
        refine r_aload_n rfl ?_
        refine q_getR (Sh.ref hI0.1 kx_0 rfl) ?_
        refine r_iload_n rfl ?_
        refine q_inlV 64 rfl [.ref 1, .int a1] [] (Nat.le_of_ble_eq_true rfl) rfl ?_
        refine Ev.mk rfl rfl ⟨Nat.le_of_ble_eq_true rfl, Or.inr (q_rc hI0.1 kx_1 rfl)⟩ ?_
        show At _ none _ _ (0, [(0, .ref 1), (1, .int a1)], [], (_, _)) _
        refine At.enter rfl ?_
        refine r_iload_n rfl ?_
        refine r_ifs 4 rfl (fun c484 => ?_) (fun c484 => ?_)
        · have c484_ : a1.toInt < 0 := en_k_lt_t c484
          refine At.enter rfl ?_
          refine r_iconst 0 rfl ?_
          refine Ar.fall 17 rfl ?_
          refine At.enter rfl ?_
          refine q_iretz (by decide) ?_
          refine At.enter rfl ?_
          refine r_iff 67 rfl (by decide) ?_
          refine At.enter rfl ?_
          refine r_aload_n rfl ?_
          refine r_bipush (-2) rfl ?_
          refine r_callV 73 rfl [.ref 0, .int (-2)] [] (Nat.le_of_ble_eq_true rfl) rfl (T_X10_refused_0 _ hI0 (-2) (by decide)) ?_
          rintro _ _ ⟨g485, rfl, hI486, hF487, v488, rfl, hr489⟩
          refine At.sti ?_
          have hF490 := Fr.tr hF0 hF487 rfl rfl
          have zv491 : ((-2) : Int32).toInt = (-2) := rfl
          refine At.enter rfl ?_
          refine r_ireti ?_
          obtain ⟨v492, hv492⟩ : ∃ v, gI g0 1 0 = v := ⟨_, rfl⟩
          have rv492 := RgF.at hI0.2.1 (p := 1) (b := 0) rfl
          rw [hv492] at rv492
          dsimp only at rv492
          have tv492 := congrArg Int32.toInt hv492
          have x493 := HI.eqI hI0 (p := 1) (b := 0) (hv492)
          have x494 := HI.eqI hI0 (p := 1) (b := 0) (hv492)
          exact ⟨_, rfl, hI486, hF490, _, rfl, trivial, ⟨⟨by omega, by omega, by omega, by omega, by omega⟩, (by intro i i0 i1; refine Eq.trans ?_ (if_neg (show ¬ ((a2.toInt = 0 ∧ -1 ≤ a3.toInt ∧ a3.toInt ≤ 11 ∧ 0 ≤ a1.toInt ∧ a1.toInt < (gI g0 1 0).toInt) ∧ i = a1.toInt) from by omega)).symm; refine (eA_ti ((hF487.2.1 2 (by decide)))).trans ?_; (first | rfl | exact eA_ix (by omega) | omega)), (by intro i i0 i1; refine Eq.trans ?_ (if_neg (show ¬ ((a2.toInt = 1 ∧ 1 ≤ a3.toInt ∧ a3.toInt ≤ 9 ∧ 0 ≤ a1.toInt ∧ a1.toInt < (gI g0 1 0).toInt) ∧ i = a1.toInt) from by omega)).symm; refine (eA_ti ((hF487.2.1 3 (by decide)))).trans ?_; (first | rfl | exact eA_ix (by omega) | omega)), (by intro i i0 i1; refine Eq.trans ?_ (if_neg (show ¬ ((a2.toInt = 2 ∧ 0 ≤ a3.toInt ∧ a3.toInt ≤ 99 ∧ 0 ≤ a1.toInt ∧ a1.toInt < (gI g0 1 0).toInt) ∧ i = a1.toInt) from by omega)).symm; refine (eA_ti ((hF487.2.1 4 (by decide)))).trans ?_; (first | rfl | exact eA_ix (by omega) | omega))⟩⟩
        · have c484_ : a1.toInt ≥ 0 := en_k_lt_f c484
          refine At.enter rfl ?_
          refine r_iload_n rfl ?_
          refine r_aload_n rfl ?_
          obtain ⟨v495, hv495⟩ : ∃ v, gI g0 1 0 = v := ⟨_, rfl⟩
          have rv495 := RgF.at hI0.2.1 (p := 1) (b := 0) rfl
          rw [hv495] at rv495
          dsimp only at rv495
          refine q_getI (Sh.int hI0.1 kx_1 rfl) v495 hv495 ?_
          have bv497 := q_bnd a1
          have bv498 := q_bnd v495
          refine r_ics 12 rfl (fun c496 => ?_) (fun c496 => ?_)
          · have c496_ : a1.toInt ≥ v495.toInt := en_i_ge_t c496
            refine At.enter rfl ?_
            refine r_iconst 0 rfl ?_
            refine Ar.fall 17 rfl ?_
            refine At.enter rfl ?_
            refine q_iretz (by decide) ?_
            refine At.enter rfl ?_
            refine r_iff 67 rfl (by decide) ?_
            refine At.enter rfl ?_
            refine r_aload_n rfl ?_
            refine r_bipush (-2) rfl ?_
            refine r_callV 73 rfl [.ref 0, .int (-2)] [] (Nat.le_of_ble_eq_true rfl) rfl (T_X10_refused_0 _ hI0 (-2) (by decide)) ?_
            rintro _ _ ⟨g499, rfl, hI500, hF501, v502, rfl, hr503⟩
            refine At.sti ?_
            have hF504 := Fr.tr hF0 hF501 rfl rfl
            have zv505 : ((-2) : Int32).toInt = (-2) := rfl
            refine At.enter rfl ?_
            refine r_ireti ?_
            have x506 := HI.eqI hI0 (p := 1) (b := 0) (hv495)
            have x507 := HI.eqI hI0 (p := 1) (b := 0) (hv495)
            exact ⟨_, rfl, hI500, hF504, _, rfl, trivial, ⟨⟨by omega, by omega, by omega, by omega, by omega⟩, (by intro i i0 i1; refine Eq.trans ?_ (if_neg (show ¬ ((a2.toInt = 0 ∧ -1 ≤ a3.toInt ∧ a3.toInt ≤ 11 ∧ 0 ≤ a1.toInt ∧ a1.toInt < (gI g0 1 0).toInt) ∧ i = a1.toInt) from by omega)).symm; refine (eA_ti ((hF501.2.1 2 (by decide)))).trans ?_; (first | rfl | exact eA_ix (by omega) | omega)), (by intro i i0 i1; refine Eq.trans ?_ (if_neg (show ¬ ((a2.toInt = 1 ∧ 1 ≤ a3.toInt ∧ a3.toInt ≤ 9 ∧ 0 ≤ a1.toInt ∧ a1.toInt < (gI g0 1 0).toInt) ∧ i = a1.toInt) from by omega)).symm; refine (eA_ti ((hF501.2.1 3 (by decide)))).trans ?_; (first | rfl | exact eA_ix (by omega) | omega)), (by intro i i0 i1; refine Eq.trans ?_ (if_neg (show ¬ ((a2.toInt = 2 ∧ 0 ≤ a3.toInt ∧ a3.toInt ≤ 99 ∧ 0 ≤ a1.toInt ∧ a1.toInt < (gI g0 1 0).toInt) ∧ i = a1.toInt) from by omega)).symm; refine (eA_ti ((hF501.2.1 4 (by decide)))).trans ?_; (first | rfl | exact eA_ix (by omega) | omega))⟩⟩
          · have c496_ : a1.toInt < v495.toInt := en_i_ge_f c496
            refine At.enter rfl ?_
            refine r_iconst 1 rfl ?_
            refine r_goto ?_
            refine At.enter rfl ?_
            refine q_iretz (by decide) ?_
            refine At.enter rfl ?_
            refine r_ift (by decide) ?_
            refine At.enter rfl ?_
            refine r_iload_n rfl ?_
            refine r_ifs 78 rfl (fun c508 => ?_) (fun c508 => ?_)
            · have c508_ : a2.toInt ≠ 0 := en_k_ne_t c508
              exfalso; omega
            · have c508_ : a2.toInt = 0 := en_k_ne_f c508
              refine At.enter rfl ?_
              refine r_aload_n rfl ?_
              refine q_getR (Sh.ref hI0.1 kx_0 rfl) ?_
              refine q_getR (Sh.ref hI0.1 kx_1 rfl) ?_
              refine r_goto ?_
              refine At.enter rfl ?_
              refine r_astore ([(5, .ref 2), (4, .int 1), (0, .ref 0), (1, .int a1), (2, .int a2), (3, .int a3)]) rfl ?_
              refine r_aload rfl ?_
              refine r_iload_n rfl ?_
              obtain ⟨v509, hv509⟩ : ∃ v, eA g0 2 a1.toInt = v := ⟨_, rfl⟩
              refine q_iald (Sh.arr hI0.1 ka_2) a1.toInt rfl (by omega) v509 hv509 ?_
              refine r_istore ([(6, .int v509), (5, .ref 2), (4, .int 1), (0, .ref 0), (1, .int a1), (2, .int a2), (3, .int a3)]) rfl ?_
              refine r_aload rfl ?_
              refine r_iload_n rfl ?_
              refine r_iload_n rfl ?_
              refine q_iast (Sh.arr hI0.1 ka_2) (a1.toInt) rfl (by omega) ?_
              have hI510 := HI.wA0 hI0 ka_2 (p := 2) rfl rfl (a1.toInt) (a3)
              have hF511 := Fr.wA (p := 2) (j := a1.toInt) (v := a3) hF0 rfl
              refine r_aload_n rfl ?_
              refine r_callV 127 rfl [.ref 0] [] (Nat.le_of_ble_eq_true rfl) rfl (T_X10_changed_0 _ hI510) ?_
              rintro _ _ ⟨g512, rfl, hI513, hF514, rfl⟩
              refine At.stn ?_
              have hF517 := Fr.tr hF511 hF514 rfl rfl
              refine At.enter rfl ?_
              refine r_aload_n rfl ?_
              refine r_iload rfl ?_
              refine q_inlV 133 rfl [.ref 0, .int v509] [] (Nat.le_of_ble_eq_true rfl) rfl ?_
              refine Ev.mk rfl rfl ⟨Nat.le_of_ble_eq_true rfl, Or.inr (q_rc hI513.1 kx_0 rfl)⟩ ?_
              show At _ none _ _ (0, [(0, .ref 0), (1, .int v509)], [], (_, _)) _
              refine At.enter rfl ?_
              refine r_aload_n rfl ?_
              refine r_iconst 0 rfl ?_
              refine q_putI (Sh.int hI513.1 kx_0 rfl) rfl ?_
              have hI518 := HI.wI0 hI513 kx_0 rfl (p := 0) (b := 17) (v := 0) rfl
              have hF519 := Fr.wI (p := 0) (b := 17) (v := 0) hF517 rfl
              refine r_iload_n rfl ?_
              refine q_ireti ?_
              refine At.enter rfl ?_
              refine r_ireti ?_
              have x520 := HI.eqI hI0 (p := 1) (b := 0) (hv495)
              have y521 := congrArg Int32.toInt hv509
              have x522 := HI.eqI hI0 (p := 1) (b := 0) (hv495)
              exact ⟨_, rfl, hI518, hF519, _, rfl, trivial, ⟨⟨by omega, by omega, by omega, by omega, by omega⟩, (by intro i i0 i1; exact (Decidable.em ((a2.toInt = 0 ∧ -1 ≤ a3.toInt ∧ a3.toInt ≤ 11 ∧ 0 ≤ a1.toInt ∧ a1.toInt < (gI g0 1 0).toInt) ∧ i = a1.toInt)).elim (fun k78_ => by refine Eq.trans ?_ (if_pos k78_).symm; refine (eA_ti (((gA_sI).trans (hF514.2.1 2 (by decide))))).trans ?_; exact (Decidable.em (i = a1.toInt)).elim (fun k79_ => by refine (eA_eqT hI0.1 ka_2 k79_ (by first | decide | omega) (by first | decide | omega)).trans ?_; (first | (rfl) | (omega))) (fun k79_ => by refine (eA_neT hI0.1 ka_2 k79_ (by first | decide | omega) (by omega)).trans ?_; (first | rfl | exact eA_ix (by omega) | omega))) (fun k78_ => by refine Eq.trans ?_ (if_neg k78_).symm; refine (eA_ti (((gA_sI).trans (hF514.2.1 2 (by decide))))).trans ?_; exact (Decidable.em (i = a1.toInt)).elim (fun k80_ => by refine (eA_eqT hI0.1 ka_2 k80_ (by first | decide | omega) (by first | decide | omega)).trans ?_; (first | (rfl) | (omega))) (fun k80_ => by refine (eA_neT hI0.1 ka_2 k80_ (by first | decide | omega) (by omega)).trans ?_; (first | rfl | exact eA_ix (by omega) | omega)))), (by intro i i0 i1; refine Eq.trans ?_ (if_neg (show ¬ ((a2.toInt = 1 ∧ 1 ≤ a3.toInt ∧ a3.toInt ≤ 9 ∧ 0 ≤ a1.toInt ∧ a1.toInt < (gI g0 1 0).toInt) ∧ i = a1.toInt) from by omega)).symm; refine (eA_ti (((gA_sI).trans ((hF514.2.1 3 (by decide)).trans (gA_sA_ne (by decide)))))).trans ?_; (first | rfl | exact eA_ix (by omega) | omega)), (by intro i i0 i1; refine Eq.trans ?_ (if_neg (show ¬ ((a2.toInt = 2 ∧ 0 ≤ a3.toInt ∧ a3.toInt ≤ 99 ∧ 0 ≤ a1.toInt ∧ a1.toInt < (gI g0 1 0).toInt) ∧ i = a1.toInt) from by omega)).symm; refine (eA_ti (((gA_sI).trans ((hF514.2.1 4 (by decide)).trans (gA_sA_ne (by decide)))))).trans ?_; (first | rfl | exact eA_ix (by omega) | omega))⟩⟩

def F_X10_of_0 : List (Nat × Nat) := []
def A_X10_of_0 : List Nat := []
set_option maxRecDepth 100000 in
set_option maxHeartbeats 4000000 in
theorem T_X10_of_0 (d : Nat) {N : Nat} {g0 : List en_E} (hI0 : HI g0) (a1 : Int32) (a2 : Int32) : Ev (d + 3) 106 [.ref 0, .int a1, .int a2] (g0, N) (fun w h' => ∃ g', h' = (g', N) ∧ HI g' ∧ Fr F_X10_of_0 A_X10_of_0 g0 g' ∧ ∃ r : Int32, w = some (.int r) ∧ True ∧ ((¬ (0 ≤ a1.toInt ∧ a1.toInt < (gI g0 1 0).toInt) ∨ a2.toInt < 0 ∨ 3 < a2.toInt → r.toInt = -1) ∧ (0 ≤ a1.toInt ∧ a1.toInt < (gI g0 1 0).toInt ∧ a2.toInt = 3 → r.toInt = NX g0 a1.toInt) ∧ (0 ≤ a1.toInt ∧ a1.toInt < (gI g0 1 0).toInt ∧ a2.toInt = 0 → r.toInt = (eA g0 2 a1.toInt).toInt) ∧ (0 ≤ a1.toInt ∧ a1.toInt < (gI g0 1 0).toInt ∧ a2.toInt = 1 → r.toInt = (eA g0 3 a1.toInt).toInt) ∧ (0 ≤ a1.toInt ∧ a1.toInt < (gI g0 1 0).toInt ∧ a2.toInt = 2 → r.toInt = (eA g0 4 a1.toInt).toInt))) := by
  have hF0 : Fr F_X10_of_0 A_X10_of_0 g0 g0 := Fr.rf
  refine Ev.mk rfl rfl ⟨Nat.le_of_ble_eq_true rfl, Or.inr (q_rc hI0.1 kx_0 rfl)⟩ ?_
  show At _ none _ _ (0, [(0, .ref 0), (1, .int a1), (2, .int a2)], [], (_, _)) _
  refine At.enter rfl ?_
  refine r_aload_n rfl ?_
  refine q_getR (Sh.ref hI0.1 kx_0 rfl) ?_
  refine r_iload_n rfl ?_
  refine q_inlV 8 rfl [.ref 1, .int a1] [] (Nat.le_of_ble_eq_true rfl) rfl ?_
  refine Ev.mk rfl rfl ⟨Nat.le_of_ble_eq_true rfl, Or.inr (q_rc hI0.1 kx_1 rfl)⟩ ?_
  show At _ none _ _ (0, [(0, .ref 1), (1, .int a1)], [], (_, _)) _
  refine At.enter rfl ?_
  refine r_iload_n rfl ?_
  refine r_ifs 4 rfl (fun c33 => ?_) (fun c33 => ?_)
  · have c33_ : a1.toInt < 0 := en_k_lt_t c33
    refine At.enter rfl ?_
    refine r_iconst 0 rfl ?_
    refine Ar.fall 17 rfl ?_
    refine At.enter rfl ?_
    refine q_iretz (by decide) ?_
    refine At.enter rfl ?_
    refine r_iff 11 rfl (by decide) ?_
    refine At.enter rfl ?_
    refine r_iconst (-1) rfl ?_
    refine r_ireti ?_
    have zv34 : ((-1) : Int32).toInt = (-1) := rfl
    obtain ⟨v35, hv35⟩ : ∃ v, gI g0 1 0 = v := ⟨_, rfl⟩
    have rv35 := RgF.at hI0.2.1 (p := 1) (b := 0) rfl
    rw [hv35] at rv35
    dsimp only at rv35
    have tv35 := congrArg Int32.toInt hv35
    have x36 := HI.eqI hI0 (p := 1) (b := 0) (hv35)
    exact ⟨_, rfl, hI0, hF0, _, rfl, trivial, ⟨by omega, by omega, by omega, by omega, by omega⟩⟩
  · have c33_ : a1.toInt ≥ 0 := en_k_lt_f c33
    refine At.enter rfl ?_
    refine r_iload_n rfl ?_
    refine r_aload_n rfl ?_
    obtain ⟨v37, hv37⟩ : ∃ v, gI g0 1 0 = v := ⟨_, rfl⟩
    have rv37 := RgF.at hI0.2.1 (p := 1) (b := 0) rfl
    rw [hv37] at rv37
    dsimp only at rv37
    refine q_getI (Sh.int hI0.1 kx_1 rfl) v37 hv37 ?_
    have bv39 := q_bnd a1
    have bv40 := q_bnd v37
    refine r_ics 12 rfl (fun c38 => ?_) (fun c38 => ?_)
    · have c38_ : a1.toInt ≥ v37.toInt := en_i_ge_t c38
      refine At.enter rfl ?_
      refine r_iconst 0 rfl ?_
      refine Ar.fall 17 rfl ?_
      refine At.enter rfl ?_
      refine q_iretz (by decide) ?_
      refine At.enter rfl ?_
      refine r_iff 11 rfl (by decide) ?_
      refine At.enter rfl ?_
      refine r_iconst (-1) rfl ?_
      refine r_ireti ?_
      have zv41 : ((-1) : Int32).toInt = (-1) := rfl
      have x42 := HI.eqI hI0 (p := 1) (b := 0) (hv37)
      exact ⟨_, rfl, hI0, hF0, _, rfl, trivial, ⟨by omega, by omega, by omega, by omega, by omega⟩⟩
    · have c38_ : a1.toInt < v37.toInt := en_i_ge_f c38
      refine At.enter rfl ?_
      refine r_iconst 1 rfl ?_
      refine r_goto ?_
      refine At.enter rfl ?_
      refine q_iretz (by decide) ?_
      refine At.enter rfl ?_
      refine r_ift (by decide) ?_
      refine At.enter rfl ?_
      refine r_iload_n rfl ?_
      by_cases c43_0 : a2.toInt = 0
      · refine r_tsw 44 (by rw [c43_0]; rfl) ?_
        refine At.enter rfl ?_
        refine r_aload_n rfl ?_
        refine q_getR (Sh.ref hI0.1 kx_0 rfl) ?_
        refine q_getR (Sh.ref hI0.1 kx_1 rfl) ?_
        refine r_iload_n rfl ?_
        obtain ⟨v44, hv44⟩ : ∃ v, eA g0 2 a1.toInt = v := ⟨_, rfl⟩
        refine q_iald (Sh.arr hI0.1 ka_2) a1.toInt rfl (by omega) v44 hv44 ?_
        refine r_ireti ?_
        have x45 := HI.eqI hI0 (p := 1) (b := 0) (hv37)
        have y46 := congrArg Int32.toInt hv44
        exact ⟨_, rfl, hI0, hF0, _, rfl, trivial, ⟨by omega, by omega, by omega, by omega, by omega⟩⟩
      by_cases c43_1 : a2.toInt = 1
      · refine r_tsw 54 (by rw [c43_1]; rfl) ?_
        refine At.enter rfl ?_
        refine r_aload_n rfl ?_
        refine q_getR (Sh.ref hI0.1 kx_0 rfl) ?_
        refine q_getR (Sh.ref hI0.1 kx_1 rfl) ?_
        refine r_iload_n rfl ?_
        obtain ⟨v47, hv47⟩ : ∃ v, eA g0 3 a1.toInt = v := ⟨_, rfl⟩
        refine q_iald (Sh.arr hI0.1 ka_3) a1.toInt rfl (by omega) v47 hv47 ?_
        refine r_ireti ?_
        have x48 := HI.eqI hI0 (p := 1) (b := 0) (hv37)
        have y49 := congrArg Int32.toInt hv47
        exact ⟨_, rfl, hI0, hF0, _, rfl, trivial, ⟨by omega, by omega, by omega, by omega, by omega⟩⟩
      by_cases c43_2 : a2.toInt = 2
      · refine r_tsw 64 (by rw [c43_2]; rfl) ?_
        refine At.enter rfl ?_
        refine r_aload_n rfl ?_
        refine q_getR (Sh.ref hI0.1 kx_0 rfl) ?_
        refine q_getR (Sh.ref hI0.1 kx_1 rfl) ?_
        refine r_iload_n rfl ?_
        obtain ⟨v50, hv50⟩ : ∃ v, eA g0 4 a1.toInt = v := ⟨_, rfl⟩
        refine q_iald (Sh.arr hI0.1 ka_4) a1.toInt rfl (by omega) v50 hv50 ?_
        refine r_ireti ?_
        have x51 := HI.eqI hI0 (p := 1) (b := 0) (hv37)
        have y52 := congrArg Int32.toInt hv50
        exact ⟨_, rfl, hI0, hF0, _, rfl, trivial, ⟨by omega, by omega, by omega, by omega, by omega⟩⟩
      by_cases c43_3 : a2.toInt = 3
      · refine r_tsw 74 (by rw [c43_3]; rfl) ?_
        refine At.enter rfl ?_
        refine r_aload_n rfl ?_
        refine q_getR (Sh.ref hI0.1 kx_0 rfl) ?_
        refine r_iload_n rfl ?_
        refine r_callV 82 rfl [.ref 1, .int a1] [] (Nat.le_of_ble_eq_true rfl) rfl (T_X0_next_1 _ hI0 a1) ?_
        rintro _ _ ⟨g53, rfl, hI54, hF55, v56, rfl, hr57⟩
        refine At.sti ?_
        have hF58 := Fr.tr hF0 hF55 rfl rfl
        refine At.enter rfl ?_
        refine r_ireti ?_
        have x59 := HI.eqI hI0 (p := 1) (b := 0) (hv37)
        exact ⟨_, rfl, hI54, hF58, _, rfl, trivial, ⟨by omega, by omega, by omega, by omega, by omega⟩⟩
      have c60 : a2.toInt < 0 ∨ 3 < a2.toInt := by omega
      refine r_tsw 83 (by unfold en_sw; rw [if_pos c60]; rfl) ?_
      refine At.enter rfl ?_
      refine r_iconst (-1) rfl ?_
      refine r_ireti ?_
      have zv61 : ((-1) : Int32).toInt = (-1) := rfl
      have x62 := HI.eqI hI0 (p := 1) (b := 0) (hv37)
      exact ⟨_, rfl, hI0, hF0, _, rfl, trivial, ⟨by omega, by omega, by omega, by omega, by omega⟩⟩

def F_X10_load_0 : List (Nat × Nat) := [(0, 14), (0, 17), (1, 4), (220, 2), (222, 2), (223, 5), (223, 10)]
def A_X10_load_0 : List Nat := [5, 230]
set_option maxRecDepth 100000 in
set_option maxHeartbeats 4000000 in
theorem T_X10_load_0 (d : Nat) {N : Nat} {g0 : List en_E} (hI0 : HI g0) (a1 : Int32) (a2 : Int32) (a3 : Int32) (a4 : Int32) (a5 : Int32) (a6 : Int32) : Ev (d + 3) 107 [.ref 0, .int a1, .int a2, .int a3, .int a4, .int a5, .int a6] (g0, N) (fun w h' => ∃ g', h' = (g', N) ∧ HI g' ∧ Fr F_X10_load_0 A_X10_load_0 g0 g' ∧ ∃ r : Int32, w = some (.int r) ∧ ((-5) ≤ r.toInt ∧ r.toInt ≤ 7) ∧ (((¬ (1 ≤ a1.toInt ∧ a1.toInt ≤ 9 ∧ 0 ≤ a4.toInt ∧ a4.toInt ≤ 99 ∧ 0 ≤ a5.toInt ∧ a5.toInt ≤ 9 ∧ 0 ≤ a6.toInt ∧ a6.toInt ≤ 9999) → r.toInt = -1 ∧ (gI g' 1 4).toInt = (gI g0 1 4).toInt) ∧ ((1 ≤ a1.toInt ∧ a1.toInt ≤ 9 ∧ 0 ≤ a4.toInt ∧ a4.toInt ≤ 99 ∧ 0 ≤ a5.toInt ∧ a5.toInt ≤ 9 ∧ 0 ≤ a6.toInt ∧ a6.toInt ≤ 9999) ∧ ¬ (0 ≤ a2.toInt ∧ a2.toInt < (gI g0 1 0).toInt ∧ 0 ≤ a3.toInt ∧ a3.toInt < (gI g0 1 0).toInt) → r.toInt = -2 ∧ (gI g' 1 4).toInt = (gI g0 1 4).toInt) ∧ ((1 ≤ a1.toInt ∧ a1.toInt ≤ 9 ∧ 0 ≤ a4.toInt ∧ a4.toInt ≤ 99 ∧ 0 ≤ a5.toInt ∧ a5.toInt ≤ 9 ∧ 0 ≤ a6.toInt ∧ a6.toInt ≤ 9999) ∧ (0 ≤ a2.toInt ∧ a2.toInt < (gI g0 1 0).toInt ∧ 0 ≤ a3.toInt ∧ a3.toInt < (gI g0 1 0).toInt) ∧ 8 ≤ (gI g0 1 4).toInt → r.toInt = -5 ∧ (gI g' 1 4).toInt = (gI g0 1 4).toInt) ∧ ((1 ≤ a1.toInt ∧ a1.toInt ≤ 9 ∧ 0 ≤ a4.toInt ∧ a4.toInt ≤ 99 ∧ 0 ≤ a5.toInt ∧ a5.toInt ≤ 9 ∧ 0 ≤ a6.toInt ∧ a6.toInt ≤ 9999) ∧ (0 ≤ a2.toInt ∧ a2.toInt < (gI g0 1 0).toInt ∧ 0 ≤ a3.toInt ∧ a3.toInt < (gI g0 1 0).toInt) ∧ (gI g0 1 4).toInt < 8 → r.toInt = (gI g0 1 4).toInt ∧ (gI g' 1 4).toInt = (gI g0 1 4).toInt + 1)) ∧ (∀ i : Int, 0 ≤ i → i < 48 → (eA g' 5 (i)).toInt = if ((1 ≤ a1.toInt ∧ a1.toInt ≤ 9 ∧ 0 ≤ a4.toInt ∧ a4.toInt ≤ 99 ∧ 0 ≤ a5.toInt ∧ a5.toInt ≤ 9 ∧ 0 ≤ a6.toInt ∧ a6.toInt ≤ 9999) ∧ (0 ≤ a2.toInt ∧ a2.toInt < (gI g0 1 0).toInt ∧ 0 ≤ a3.toInt ∧ a3.toInt < (gI g0 1 0).toInt) ∧ (gI g0 1 4).toInt < 8) ∧ i = 6 * (gI g0 1 4).toInt + 0 then a1.toInt else if ((1 ≤ a1.toInt ∧ a1.toInt ≤ 9 ∧ 0 ≤ a4.toInt ∧ a4.toInt ≤ 99 ∧ 0 ≤ a5.toInt ∧ a5.toInt ≤ 9 ∧ 0 ≤ a6.toInt ∧ a6.toInt ≤ 9999) ∧ (0 ≤ a2.toInt ∧ a2.toInt < (gI g0 1 0).toInt ∧ 0 ≤ a3.toInt ∧ a3.toInt < (gI g0 1 0).toInt) ∧ (gI g0 1 4).toInt < 8) ∧ i = 6 * (gI g0 1 4).toInt + 1 then a2.toInt else if ((1 ≤ a1.toInt ∧ a1.toInt ≤ 9 ∧ 0 ≤ a4.toInt ∧ a4.toInt ≤ 99 ∧ 0 ≤ a5.toInt ∧ a5.toInt ≤ 9 ∧ 0 ≤ a6.toInt ∧ a6.toInt ≤ 9999) ∧ (0 ≤ a2.toInt ∧ a2.toInt < (gI g0 1 0).toInt ∧ 0 ≤ a3.toInt ∧ a3.toInt < (gI g0 1 0).toInt) ∧ (gI g0 1 4).toInt < 8) ∧ i = 6 * (gI g0 1 4).toInt + 2 then a3.toInt else if ((1 ≤ a1.toInt ∧ a1.toInt ≤ 9 ∧ 0 ≤ a4.toInt ∧ a4.toInt ≤ 99 ∧ 0 ≤ a5.toInt ∧ a5.toInt ≤ 9 ∧ 0 ≤ a6.toInt ∧ a6.toInt ≤ 9999) ∧ (0 ≤ a2.toInt ∧ a2.toInt < (gI g0 1 0).toInt ∧ 0 ≤ a3.toInt ∧ a3.toInt < (gI g0 1 0).toInt) ∧ (gI g0 1 4).toInt < 8) ∧ i = 6 * (gI g0 1 4).toInt + 3 then a4.toInt else if ((1 ≤ a1.toInt ∧ a1.toInt ≤ 9 ∧ 0 ≤ a4.toInt ∧ a4.toInt ≤ 99 ∧ 0 ≤ a5.toInt ∧ a5.toInt ≤ 9 ∧ 0 ≤ a6.toInt ∧ a6.toInt ≤ 9999) ∧ (0 ≤ a2.toInt ∧ a2.toInt < (gI g0 1 0).toInt ∧ 0 ≤ a3.toInt ∧ a3.toInt < (gI g0 1 0).toInt) ∧ (gI g0 1 4).toInt < 8) ∧ i = 6 * (gI g0 1 4).toInt + 4 then a5.toInt else if ((1 ≤ a1.toInt ∧ a1.toInt ≤ 9 ∧ 0 ≤ a4.toInt ∧ a4.toInt ≤ 99 ∧ 0 ≤ a5.toInt ∧ a5.toInt ≤ 9 ∧ 0 ≤ a6.toInt ∧ a6.toInt ≤ 9999) ∧ (0 ≤ a2.toInt ∧ a2.toInt < (gI g0 1 0).toInt ∧ 0 ≤ a3.toInt ∧ a3.toInt < (gI g0 1 0).toInt) ∧ (gI g0 1 4).toInt < 8) ∧ i = 6 * (gI g0 1 4).toInt + 5 then a6.toInt else (eA g0 5 (i)).toInt))) := by
  have hF0 : Fr F_X10_load_0 A_X10_load_0 g0 g0 := Fr.rf
  refine Ev.mk rfl rfl ⟨Nat.le_of_ble_eq_true rfl, Or.inr (q_rc hI0.1 kx_0 rfl)⟩ ?_
  show At _ none _ _ (0, [(0, .ref 0), (1, .int a1), (2, .int a2), (3, .int a3), (4, .int a4), (5, .int a5), (6, .int a6)], [], (_, _)) _
  refine At.enter rfl ?_
  refine r_aload_n rfl ?_
  refine r_iload_n rfl ?_
  refine r_iload_n rfl ?_
  refine r_iload_n rfl ?_
  refine r_iload rfl ?_
  refine r_iload rfl ?_
  refine r_iload rfl ?_
  refine r_callV 13 rfl [.ref 0, .int a1, .int a2, .int a3, .int a4, .int a5, .int a6] [] (Nat.le_of_ble_eq_true rfl) rfl (T_X10_whyNoLoad_0 _ hI0 a1 a2 a3 a4 a5 a6) ?_
  rintro _ _ ⟨g63, rfl, hI64, hF65, v66, rfl, hr67⟩
  refine At.sti ?_
  have hF68 := Fr.tr hF0 hF65 rfl rfl
  obtain ⟨v69, hv69⟩ : ∃ v, gI g0 1 0 = v := ⟨_, rfl⟩
  have rv69 := RgF.at hI0.2.1 (p := 1) (b := 0) rfl
  rw [hv69] at rv69
  dsimp only at rv69
  have tv69 := congrArg Int32.toInt hv69
  have x70 := HI.eqI hI0 (p := 1) (b := 0) (hv69)
  obtain ⟨v71, hv71⟩ : ∃ v, gI g0 1 4 = v := ⟨_, rfl⟩
  have rv71 := RgF.at hI0.2.1 (p := 1) (b := 4) rfl
  rw [hv71] at rv71
  dsimp only at rv71
  have tv71 := congrArg Int32.toInt hv71
  have x72 := HI.eqI hI0 (p := 1) (b := 4) (hv71)
  refine At.enter rfl ?_
  refine r_istore ([(7, .int v66), (0, .ref 0), (1, .int a1), (2, .int a2), (3, .int a3), (4, .int a4), (5, .int a5), (6, .int a6)]) rfl ?_
  refine r_iload rfl ?_
  refine r_ifs 20 rfl (fun c73 => ?_) (fun c73 => ?_)
  · have c73_ : v66.toInt = 0 := en_k_eq_t c73
    refine At.enter rfl ?_
    refine r_aload_n rfl ?_
    refine r_callV 31 rfl [.ref 0] [] (Nat.le_of_ble_eq_true rfl) rfl (T_X10_changed_0 _ hI64) ?_
    rintro _ _ ⟨g74, rfl, hI75, hF76, rfl⟩
    refine At.stn ?_
    have hF79 := Fr.tr hF68 hF76 rfl rfl
    refine At.enter rfl ?_
    refine r_aload_n rfl ?_
    refine r_aload_n rfl ?_
    refine q_getR (Sh.ref hI75.1 kx_0 rfl) ?_
    refine r_iload_n rfl ?_
    refine r_iload_n rfl ?_
    refine r_iload_n rfl ?_
    refine r_iload rfl ?_
    refine r_iload rfl ?_
    refine r_iload rfl ?_
    refine r_callV 48 rfl [.ref 1, .int a1, .int a2, .int a3, .int a4, .int a5, .int a6] [.ref 0] (Nat.le_of_ble_eq_true rfl) rfl (T_X0_addLoad_1 _ hI75 a1 a2 a3 a4 a5 a6) ?_
    rintro _ _ ⟨g80, rfl, hI81, hF82, v83, rfl, hr84⟩
    refine At.sti ?_
    have hF85 := Fr.tr hF79 hF82 rfl rfl
    have x86 := HI.eqI hI75 (p := 1) (b := 4) ((((hF76.1 1 4 (by decide)).trans (hF65.1 1 4 (by decide))).trans hv71))
    obtain ⟨v87, hv87⟩ : ∃ v, gI g80 1 4 = v := ⟨_, rfl⟩
    have rv87 := RgF.at hI81.2.1 (p := 1) (b := 4) rfl
    rw [hv87] at rv87
    dsimp only at rv87
    have tv87 := congrArg Int32.toInt hv87
    have x88 := HI.eqI hI81 (p := 1) (b := 4) (hv87)
    refine At.enter rfl ?_
    refine q_inlV 51 rfl [.ref 0, .int v83] [] (Nat.le_of_ble_eq_true rfl) rfl ?_
    refine Ev.mk rfl rfl ⟨Nat.le_of_ble_eq_true rfl, Or.inr (q_rc hI81.1 kx_0 rfl)⟩ ?_
    show At _ none _ _ (0, [(0, .ref 0), (1, .int v83)], [], (_, _)) _
    refine At.enter rfl ?_
    refine r_aload_n rfl ?_
    refine r_iconst 0 rfl ?_
    refine q_putI (Sh.int hI81.1 kx_0 rfl) rfl ?_
    have hI89 := HI.wI0 hI81 kx_0 rfl (p := 0) (b := 17) (v := 0) rfl
    have hF90 := Fr.wI (p := 0) (b := 17) (v := 0) hF85 rfl
    refine r_iload_n rfl ?_
    refine q_ireti ?_
    refine At.enter rfl ?_
    refine r_ireti ?_
    have x91 := HI.eqI hI89 (p := 1) (b := 4) (((gI_sI_ne (by decide)).trans hv87))
    have x92 := HI.eqI hI0 (p := 1) (b := 4) (hv71)
    have x93 := HI.eqI hI0 (p := 1) (b := 0) (hv69)
    exact ⟨_, rfl, hI89, hF90, _, rfl, by omega, ⟨(have c := WNL.y hr67.2 (by omega); ⟨fun h => absurd c.1 h, fun h => absurd c.2.1 h.2, fun h => absurd c.2.2 (Int.not_lt.mpr h.2.2), fun _ => ⟨by omega, by omega⟩⟩), (by have c := WNL.y hr67.2 (by omega); intro i i0 i1; refine (eA_ti ((gA_sI))).trans ?_; have z := hr84.2.2.2 i i0 i1; rw [show (gI g74 1 4).toInt = (gI g0 1 4).toInt from congrArg Int32.toInt (((hF76.1 1 4 (by decide)).trans (hF65.1 1 4 (by decide)))), eA_ti (j := i) (((hF76.2.1 5 (by decide)).trans (hF65.2.1 5 (by decide))))] at z; rw [ite_ap c.2.2, ite_ap c.2.2, ite_ap c.2.2, ite_ap c.2.2, ite_ap c.2.2, ite_ap c.2.2] at z; rw [ite_ap c, ite_ap c, ite_ap c, ite_ap c, ite_ap c, ite_ap c]; exact z)⟩⟩
  · have c73_ : v66.toInt ≠ 0 := en_k_eq_f c73
    refine At.enter rfl ?_
    refine r_aload_n rfl ?_
    refine r_iload rfl ?_
    refine r_callV 26 rfl [.ref 0, .int v66] [] (Nat.le_of_ble_eq_true rfl) rfl (T_X10_refused_0 _ hI64 v66 (by omega)) ?_
    rintro _ _ ⟨g94, rfl, hI95, hF96, v97, rfl, hr98⟩
    refine At.sti ?_
    have hF99 := Fr.tr hF68 hF96 rfl rfl
    refine At.enter rfl ?_
    refine r_ireti ?_
    have x100 := HI.eqI hI95 (p := 1) (b := 4) ((((hF96.1 1 4 (by decide)).trans (hF65.1 1 4 (by decide))).trans hv71))
    have x101 := HI.eqI hI0 (p := 1) (b := 4) (hv71)
    have x102 := HI.eqI hI0 (p := 1) (b := 0) (hv69)
    exact ⟨_, rfl, hI95, hF99, _, rfl, by omega, ⟨(by rcases WNL.cs hr67.2 (by omega) with ⟨k, kv⟩ | ⟨k, l, kv⟩ | ⟨k, l, o, kv⟩; exact ⟨fun _ => ⟨by clear k; omega, by clear k; omega⟩, fun h => absurd h.1 k, fun h => absurd h.1 k, fun h => absurd h.1 k⟩; exact ⟨fun h => absurd k h, fun _ => ⟨by clear k l; omega, by clear k l; omega⟩, fun h => absurd h.2.1 l, fun h => absurd h.2.1 l⟩; exact ⟨fun h => absurd k h, fun h => absurd l h.2, fun _ => ⟨by clear k l; omega, by clear k l; omega⟩, fun h => absurd h.2.2 (Int.not_lt.mpr o)⟩), (by have kn : ¬ ((1 ≤ a1.toInt ∧ a1.toInt ≤ 9 ∧ 0 ≤ a4.toInt ∧ a4.toInt ≤ 99 ∧ 0 ≤ a5.toInt ∧ a5.toInt ≤ 9 ∧ 0 ≤ a6.toInt ∧ a6.toInt ≤ 9999) ∧ (0 ≤ a2.toInt ∧ a2.toInt < (gI g0 1 0).toInt ∧ 0 ≤ a3.toInt ∧ a3.toInt < (gI g0 1 0).toInt) ∧ (gI g0 1 4).toInt < 8) := (WNL.n hr67.2 (by omega)); intro i i0 i1; refine Eq.trans ?_ (if_neg (show ¬ (((1 ≤ a1.toInt ∧ a1.toInt ≤ 9 ∧ 0 ≤ a4.toInt ∧ a4.toInt ≤ 99 ∧ 0 ≤ a5.toInt ∧ a5.toInt ≤ 9 ∧ 0 ≤ a6.toInt ∧ a6.toInt ≤ 9999) ∧ (0 ≤ a2.toInt ∧ a2.toInt < (gI g0 1 0).toInt ∧ 0 ≤ a3.toInt ∧ a3.toInt < (gI g0 1 0).toInt) ∧ (gI g0 1 4).toInt < 8) ∧ i = 6 * (gI g0 1 4).toInt + 0) from fun z => kn z.1)).symm; refine Eq.trans ?_ (if_neg (show ¬ (((1 ≤ a1.toInt ∧ a1.toInt ≤ 9 ∧ 0 ≤ a4.toInt ∧ a4.toInt ≤ 99 ∧ 0 ≤ a5.toInt ∧ a5.toInt ≤ 9 ∧ 0 ≤ a6.toInt ∧ a6.toInt ≤ 9999) ∧ (0 ≤ a2.toInt ∧ a2.toInt < (gI g0 1 0).toInt ∧ 0 ≤ a3.toInt ∧ a3.toInt < (gI g0 1 0).toInt) ∧ (gI g0 1 4).toInt < 8) ∧ i = 6 * (gI g0 1 4).toInt + 1) from fun z => kn z.1)).symm; refine Eq.trans ?_ (if_neg (show ¬ (((1 ≤ a1.toInt ∧ a1.toInt ≤ 9 ∧ 0 ≤ a4.toInt ∧ a4.toInt ≤ 99 ∧ 0 ≤ a5.toInt ∧ a5.toInt ≤ 9 ∧ 0 ≤ a6.toInt ∧ a6.toInt ≤ 9999) ∧ (0 ≤ a2.toInt ∧ a2.toInt < (gI g0 1 0).toInt ∧ 0 ≤ a3.toInt ∧ a3.toInt < (gI g0 1 0).toInt) ∧ (gI g0 1 4).toInt < 8) ∧ i = 6 * (gI g0 1 4).toInt + 2) from fun z => kn z.1)).symm; refine Eq.trans ?_ (if_neg (show ¬ (((1 ≤ a1.toInt ∧ a1.toInt ≤ 9 ∧ 0 ≤ a4.toInt ∧ a4.toInt ≤ 99 ∧ 0 ≤ a5.toInt ∧ a5.toInt ≤ 9 ∧ 0 ≤ a6.toInt ∧ a6.toInt ≤ 9999) ∧ (0 ≤ a2.toInt ∧ a2.toInt < (gI g0 1 0).toInt ∧ 0 ≤ a3.toInt ∧ a3.toInt < (gI g0 1 0).toInt) ∧ (gI g0 1 4).toInt < 8) ∧ i = 6 * (gI g0 1 4).toInt + 3) from fun z => kn z.1)).symm; refine Eq.trans ?_ (if_neg (show ¬ (((1 ≤ a1.toInt ∧ a1.toInt ≤ 9 ∧ 0 ≤ a4.toInt ∧ a4.toInt ≤ 99 ∧ 0 ≤ a5.toInt ∧ a5.toInt ≤ 9 ∧ 0 ≤ a6.toInt ∧ a6.toInt ≤ 9999) ∧ (0 ≤ a2.toInt ∧ a2.toInt < (gI g0 1 0).toInt ∧ 0 ≤ a3.toInt ∧ a3.toInt < (gI g0 1 0).toInt) ∧ (gI g0 1 4).toInt < 8) ∧ i = 6 * (gI g0 1 4).toInt + 4) from fun z => kn z.1)).symm; refine Eq.trans ?_ (if_neg (show ¬ (((1 ≤ a1.toInt ∧ a1.toInt ≤ 9 ∧ 0 ≤ a4.toInt ∧ a4.toInt ≤ 99 ∧ 0 ≤ a5.toInt ∧ a5.toInt ≤ 9 ∧ 0 ≤ a6.toInt ∧ a6.toInt ≤ 9999) ∧ (0 ≤ a2.toInt ∧ a2.toInt < (gI g0 1 0).toInt ∧ 0 ≤ a3.toInt ∧ a3.toInt < (gI g0 1 0).toInt) ∧ (gI g0 1 4).toInt < 8) ∧ i = 6 * (gI g0 1 4).toInt + 5) from fun z => kn z.1)).symm; refine (eA_ti (((hF96.2.1 5 (by decide)).trans (hF65.2.1 5 (by decide))))).trans ?_; (first | rfl | exact eA_ix (by omega) | omega))⟩⟩

def F_X10_fact_0 : List (Nat × Nat) := []
def A_X10_fact_0 : List Nat := []
set_option maxRecDepth 100000 in
set_option maxHeartbeats 4000000 in
theorem T_X10_fact_0 (d : Nat) {N : Nat} {g0 : List en_E} (hI0 : HI g0) (a1 : Int32) (a2 : Int32) : Ev (d + 2) 108 [.ref 0, .int a1, .int a2] (g0, N) (fun w h' => ∃ g', h' = (g', N) ∧ HI g' ∧ Fr F_X10_fact_0 A_X10_fact_0 g0 g' ∧ ∃ r : Int32, w = some (.int r) ∧ True ∧ ((0 ≤ a1.toInt ∧ a1.toInt < (gI g0 1 4).toInt ∧ 0 ≤ a2.toInt ∧ a2.toInt < 6 → r.toInt = (eA g0 5 (6 * a1.toInt + a2.toInt)).toInt) ∧ (¬ (0 ≤ a1.toInt ∧ a1.toInt < (gI g0 1 4).toInt ∧ 0 ≤ a2.toInt ∧ a2.toInt < 6) → r.toInt = -1))) := by
  have hF0 : Fr F_X10_fact_0 A_X10_fact_0 g0 g0 := Fr.rf
  refine Ev.mk rfl rfl ⟨Nat.le_of_ble_eq_true rfl, Or.inr (q_rc hI0.1 kx_0 rfl)⟩ ?_
  show At _ none _ _ (0, [(0, .ref 0), (1, .int a1), (2, .int a2)], [], (_, _)) _
  refine At.enter rfl ?_
  refine r_aload_n rfl ?_
  refine q_getR (Sh.ref hI0.1 kx_0 rfl) ?_
  refine r_iload_n rfl ?_
  refine q_inlV 8 rfl [.ref 1, .int a1] [] (Nat.le_of_ble_eq_true rfl) rfl ?_
  refine Ev.mk rfl rfl ⟨Nat.le_of_ble_eq_true rfl, Or.inr (q_rc hI0.1 kx_1 rfl)⟩ ?_
  show At _ none _ _ (0, [(0, .ref 1), (1, .int a1)], [], (_, _)) _
  refine At.enter rfl ?_
  refine r_iload_n rfl ?_
  refine r_ifs 4 rfl (fun c27 => ?_) (fun c27 => ?_)
  · have c27_ : a1.toInt < 0 := en_k_lt_t c27
    refine At.enter rfl ?_
    refine r_iconst 0 rfl ?_
    refine Ar.fall 17 rfl ?_
    refine At.enter rfl ?_
    refine q_iretz (by decide) ?_
    refine At.enter rfl ?_
    refine r_ift (by decide) ?_
    refine At.enter rfl ?_
    refine r_iconst (-1) rfl ?_
    refine Ar.fall 33 rfl ?_
    refine At.enter rfl ?_
    refine r_ireti ?_
    have zv28 : ((-1) : Int32).toInt = (-1) := rfl
    obtain ⟨v29, hv29⟩ : ∃ v, gI g0 1 4 = v := ⟨_, rfl⟩
    have rv29 := RgF.at hI0.2.1 (p := 1) (b := 4) rfl
    rw [hv29] at rv29
    dsimp only at rv29
    have tv29 := congrArg Int32.toInt hv29
    have x30 := HI.eqI hI0 (p := 1) (b := 4) (hv29)
    exact ⟨_, rfl, hI0, hF0, _, rfl, trivial, ⟨by omega, by omega⟩⟩
  · have c27_ : a1.toInt ≥ 0 := en_k_lt_f c27
    refine At.enter rfl ?_
    refine r_iload_n rfl ?_
    refine r_aload_n rfl ?_
    obtain ⟨v31, hv31⟩ : ∃ v, gI g0 1 4 = v := ⟨_, rfl⟩
    have rv31 := RgF.at hI0.2.1 (p := 1) (b := 4) rfl
    rw [hv31] at rv31
    dsimp only at rv31
    refine q_getI (Sh.int hI0.1 kx_1 rfl) v31 hv31 ?_
    have bv33 := q_bnd a1
    have bv34 := q_bnd v31
    refine r_ics 12 rfl (fun c32 => ?_) (fun c32 => ?_)
    · have c32_ : a1.toInt ≥ v31.toInt := en_i_ge_t c32
      refine At.enter rfl ?_
      refine r_iconst 0 rfl ?_
      refine Ar.fall 17 rfl ?_
      refine At.enter rfl ?_
      refine q_iretz (by decide) ?_
      refine At.enter rfl ?_
      refine r_ift (by decide) ?_
      refine At.enter rfl ?_
      refine r_iconst (-1) rfl ?_
      refine Ar.fall 33 rfl ?_
      refine At.enter rfl ?_
      refine r_ireti ?_
      have zv35 : ((-1) : Int32).toInt = (-1) := rfl
      have x36 := HI.eqI hI0 (p := 1) (b := 4) (hv31)
      exact ⟨_, rfl, hI0, hF0, _, rfl, trivial, ⟨by omega, by omega⟩⟩
    · have c32_ : a1.toInt < v31.toInt := en_i_ge_f c32
      refine At.enter rfl ?_
      refine r_iconst 1 rfl ?_
      refine r_goto ?_
      refine At.enter rfl ?_
      refine q_iretz (by decide) ?_
      refine At.enter rfl ?_
      refine r_iff 11 rfl (by decide) ?_
      refine At.enter rfl ?_
      refine r_iload_n rfl ?_
      refine r_iconst 0 rfl ?_
      refine r_iconst 5 rfl ?_
      refine q_inlS 17 rfl [.int a2, .int 0, .int 5] [] (Nat.le_of_ble_eq_true rfl) rfl ?_
      refine Ev.mk rfl rfl ⟨Nat.le_of_ble_eq_true rfl, Or.inl rfl⟩ ?_
      show At _ none _ _ (0, [(0, .int a2), (1, .int 0), (2, .int 5)], [], (_, _)) _
      refine At.enter rfl ?_
      refine r_iload_n rfl ?_
      refine r_iload_n rfl ?_
      refine r_ics 5 rfl (fun c37 => ?_) (fun c37 => ?_)
      · have c37_ : a2.toInt < 0 := en_i_lt_t c37
        refine At.enter rfl ?_
        refine r_iconst 0 rfl ?_
        refine Ar.fall 15 rfl ?_
        refine At.enter rfl ?_
        refine q_iretz (by decide) ?_
        refine At.enter rfl ?_
        refine r_ift (by decide) ?_
        refine At.enter rfl ?_
        refine r_iconst (-1) rfl ?_
        refine Ar.fall 33 rfl ?_
        refine At.enter rfl ?_
        refine r_ireti ?_
        have zv38 : ((-1) : Int32).toInt = (-1) := rfl
        have x39 := HI.eqI hI0 (p := 1) (b := 4) (hv31)
        exact ⟨_, rfl, hI0, hF0, _, rfl, trivial, ⟨by omega, by omega⟩⟩
      · have c37_ : a2.toInt ≥ 0 := en_i_lt_f c37
        refine At.enter rfl ?_
        refine r_iload_n rfl ?_
        refine r_iload_n rfl ?_
        refine r_ics 10 rfl (fun c40 => ?_) (fun c40 => ?_)
        · have c40_ : a2.toInt > 5 := en_i_gt_t c40
          refine At.enter rfl ?_
          refine r_iconst 0 rfl ?_
          refine Ar.fall 15 rfl ?_
          refine At.enter rfl ?_
          refine q_iretz (by decide) ?_
          refine At.enter rfl ?_
          refine r_ift (by decide) ?_
          refine At.enter rfl ?_
          refine r_iconst (-1) rfl ?_
          refine Ar.fall 33 rfl ?_
          refine At.enter rfl ?_
          refine r_ireti ?_
          have zv41 : ((-1) : Int32).toInt = (-1) := rfl
          have x42 := HI.eqI hI0 (p := 1) (b := 4) (hv31)
          exact ⟨_, rfl, hI0, hF0, _, rfl, trivial, ⟨by omega, by omega⟩⟩
        · have c40_ : a2.toInt ≤ 5 := en_i_gt_f c40
          refine At.enter rfl ?_
          refine r_iconst 1 rfl ?_
          refine r_goto ?_
          refine At.enter rfl ?_
          refine q_iretz (by decide) ?_
          refine At.enter rfl ?_
          refine r_iff 20 rfl (by decide) ?_
          refine At.enter rfl ?_
          refine r_aload_n rfl ?_
          refine q_getR (Sh.ref hI0.1 kx_0 rfl) ?_
          refine r_iload_n rfl ?_
          refine r_iload_n rfl ?_
          refine r_callV 29 rfl [.ref 1, .int a1, .int a2] [] (Nat.le_of_ble_eq_true rfl) rfl (T_X0_about_1 _ hI0 a1 a2) ?_
          rintro _ _ ⟨g43, rfl, hI44, hF45, v46, rfl, hr47⟩
          refine At.sti ?_
          have hF48 := Fr.tr hF0 hF45 rfl rfl
          refine At.enter rfl ?_
          refine r_goto ?_
          refine At.enter rfl ?_
          refine r_ireti ?_
          have x49 := HI.eqI hI0 (p := 1) (b := 4) (hv31)
          obtain ⟨w50, w51⟩ := hr47.2
          exact ⟨_, rfl, hI44, hF48, _, rfl, trivial, ⟨by omega, by omega⟩⟩
