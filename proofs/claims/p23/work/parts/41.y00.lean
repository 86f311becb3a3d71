def F_X2_costOf_223 : List (Nat × Nat) := [(185, 3), (223, 5), (223, 6)]
def A_X2_costOf_223 : List Nat := [224, 226]
set_option maxRecDepth 100000 in
set_option maxHeartbeats 4000000 in
theorem T_X2_costOf_223 (d : Nat) {N : Nat} {g0 : List en_E} (hI0 : HI g0) (a1 : Int32) : Ev (d + 6) 39 [.ref 223, .int a1] (g0, N) (fun w h' => ∃ g', h' = (g', N) ∧ HI g' ∧ Fr F_X2_costOf_223 A_X2_costOf_223 g0 g' ∧ ∃ r : Int32, w = some (.int r) ∧ True) := by
  have hF0 : Fr F_X2_costOf_223 A_X2_costOf_223 g0 g0 := Fr.rf
  refine Ev.mk rfl rfl ⟨Nat.le_of_ble_eq_true rfl, Or.inr (q_rc hI0.1 kx_223 rfl)⟩ ?_
  show At _ none _ _ (0, [(0, .ref 223), (1, .int a1)], [], (_, _)) _
  refine At.enter rfl ?_
  refine r_aload_n rfl ?_
  refine r_callV 4 rfl [.ref 223] [] (Nat.le_of_ble_eq_true rfl) rfl (T_X2_begin_223 _ hI0) ?_
  rintro _ _ ⟨g25, rfl, hI26, hF27, rfl⟩
  refine At.stn ?_
  have hF30 := Fr.tr hF0 hF27 rfl rfl
  refine At.enter rfl ?_
  refine r_aload_n rfl ?_
  refine r_iload_n rfl ?_
  refine r_iconst (-1) rfl ?_
  refine r_callV 10 rfl [.ref 223, .int a1, .int (-1)] [] (Nat.le_of_ble_eq_true rfl) rfl (T_X2_costBeside_223 _ hI26 a1 (-1)) ?_
  rintro _ _ ⟨g31, rfl, hI32, hF33, v34, rfl, hr35⟩
  refine At.sti ?_
  have hF36 := Fr.tr hF30 hF33 rfl rfl
  refine At.enter rfl ?_
  refine r_ireti ?_
  exact ⟨_, rfl, hI32, hF36, _, rfl, trivial⟩

def F_X2_incomeOf_223 : List (Nat × Nat) := [(185, 3), (223, 5), (223, 6), (223, 7), (223, 8), (223, 9)]
def A_X2_incomeOf_223 : List Nat := [224, 225, 226]
set_option maxRecDepth 100000 in
set_option maxHeartbeats 4000000 in
theorem T_X2_incomeOf_223 (d : Nat) {N : Nat} {g0 : List en_E} (hI0 : HI g0) (a1 : Int32) (h_a1 : 0 ≤ a1.toInt ∧ a1.toInt ≤ 11) : Ev (d + 7) 40 [.ref 223, .int a1] (g0, N) (fun w h' => ∃ g', h' = (g', N) ∧ HI g' ∧ Fr F_X2_incomeOf_223 A_X2_incomeOf_223 g0 g' ∧ ∃ r : Int32, w = some (.int r) ∧ True) := by
  have hF0 : Fr F_X2_incomeOf_223 A_X2_incomeOf_223 g0 g0 := Fr.rf
  refine Ev.mk rfl rfl ⟨Nat.le_of_ble_eq_true rfl, Or.inr (q_rc hI0.1 kx_223 rfl)⟩ ?_
  show At _ none _ _ (0, [(0, .ref 223), (1, .int a1)], [], (_, _)) _
  refine At.enter rfl ?_
  refine r_aload_n rfl ?_
  refine r_callV 4 rfl [.ref 223] [] (Nat.le_of_ble_eq_true rfl) rfl (T_X2_begin_223 _ hI0) ?_
  rintro _ _ ⟨g27, rfl, hI28, hF29, rfl⟩
  refine At.stn ?_
  have hF32 := Fr.tr hF0 hF29 rfl rfl
  refine At.enter rfl ?_
  refine r_aload_n rfl ?_
  refine r_iload_n rfl ?_
  refine r_callV 9 rfl [.ref 223, .int a1] [] (Nat.le_of_ble_eq_true rfl) rfl (T_X2_seekAnswer_223 _ hI28 a1 (by omega)) ?_
  rintro _ _ ⟨g33, rfl, hI34, hF35, rfl⟩
  refine At.stn ?_
  have hF38 := Fr.tr hF32 hF35 rfl rfl
  refine At.enter rfl ?_
  refine r_aload_n rfl ?_
  obtain ⟨v39, hv39⟩ : ∃ v, gI g33 223 9 = v := ⟨_, rfl⟩
  refine q_getI (Sh.int hI34.1 kx_223 rfl) v39 hv39 ?_
  refine r_ireti ?_
  exact ⟨_, rfl, hI34, hF38, _, rfl, trivial⟩

def F_X2_answerOf_223 : List (Nat × Nat) := [(185, 3), (223, 5), (223, 6), (223, 7), (223, 8), (223, 9)]
def A_X2_answerOf_223 : List Nat := [224, 225, 226]
set_option maxRecDepth 100000 in
set_option maxHeartbeats 4000000 in
theorem T_X2_answerOf_223 (d : Nat) {N : Nat} {g0 : List en_E} (hI0 : HI g0) (a1 : Int32) (h_a1 : 0 ≤ a1.toInt ∧ a1.toInt ≤ 11) (a2 : Int32) : Ev (d + 7) 41 [.ref 223, .int a1, .int a2] (g0, N) (fun w h' => ∃ g', h' = (g', N) ∧ HI g' ∧ Fr F_X2_answerOf_223 A_X2_answerOf_223 g0 g' ∧ ∃ r : Int32, w = some (.int r) ∧ True) := by
  have hF0 : Fr F_X2_answerOf_223 A_X2_answerOf_223 g0 g0 := Fr.rf
  refine Ev.mk rfl rfl ⟨Nat.le_of_ble_eq_true rfl, Or.inr (q_rc hI0.1 kx_223 rfl)⟩ ?_
  show At _ none _ _ (0, [(0, .ref 223), (1, .int a1), (2, .int a2)], [], (_, _)) _
  refine At.enter rfl ?_
  refine r_aload_n rfl ?_
  refine r_callV 4 rfl [.ref 223] [] (Nat.le_of_ble_eq_true rfl) rfl (T_X2_begin_223 _ hI0) ?_
  rintro _ _ ⟨g31, rfl, hI32, hF33, rfl⟩
  refine At.stn ?_
  have hF36 := Fr.tr hF0 hF33 rfl rfl
  refine At.enter rfl ?_
  refine r_aload_n rfl ?_
  refine r_iload_n rfl ?_
  refine r_callV 9 rfl [.ref 223, .int a1] [] (Nat.le_of_ble_eq_true rfl) rfl (T_X2_seekAnswer_223 _ hI32 a1 (by omega)) ?_
  rintro _ _ ⟨g37, rfl, hI38, hF39, rfl⟩
  refine At.stn ?_
  have hF42 := Fr.tr hF36 hF39 rfl rfl
  refine At.enter rfl ?_
  refine r_iload_n rfl ?_
  refine r_ifs 13 rfl (fun c43 => ?_) (fun c43 => ?_)
  · have c43_ : a2.toInt ≠ 0 := en_k_ne_t c43
    refine At.enter rfl ?_
    refine r_aload_n rfl ?_
    obtain ⟨v44, hv44⟩ : ∃ v, gI g37 223 8 = v := ⟨_, rfl⟩
    refine q_getI (Sh.int hI38.1 kx_223 rfl) v44 hv44 ?_
    refine Ar.fall 24 rfl ?_
    refine At.enter rfl ?_
    refine r_ireti ?_
    exact ⟨_, rfl, hI38, hF42, _, rfl, trivial⟩
  · have c43_ : a2.toInt = 0 := en_k_ne_f c43
    refine At.enter rfl ?_
    refine r_aload_n rfl ?_
    obtain ⟨v45, hv45⟩ : ∃ v, gI g37 223 7 = v := ⟨_, rfl⟩
    refine q_getI (Sh.int hI38.1 kx_223 rfl) v45 hv45 ?_
    refine r_goto ?_
    refine At.enter rfl ?_
    refine r_ireti ?_
    exact ⟨_, rfl, hI38, hF42, _, rfl, trivial⟩

def F_X2_settled_223 : List (Nat × Nat) := []
def A_X2_settled_223 : List Nat := []
set_option maxRecDepth 100000 in
set_option maxHeartbeats 4000000 in
theorem T_X2_settled_223 (d : Nat) {N : Nat} {g0 : List en_E} (hI0 : HI g0) (a1 : Int32) : Ev (d + 2) 44 [.ref 223, .int a1] (g0, N) (fun w h' => ∃ g', h' = (g', N) ∧ HI g' ∧ Fr F_X2_settled_223 A_X2_settled_223 g0 g' ∧ ∃ r : Int32, w = some (.int r) ∧ True) := by
  have hF0 : Fr F_X2_settled_223 A_X2_settled_223 g0 g0 := Fr.rf
  refine Ev.mk rfl rfl ⟨Nat.le_of_ble_eq_true rfl, Or.inr (q_rc hI0.1 kx_223 rfl)⟩ ?_
  show At _ none _ _ (0, [(0, .ref 223), (1, .int a1)], [], (_, _)) _
  refine At.enter rfl ?_
  refine r_aload_n rfl ?_
  refine q_getR (Sh.ref hI0.1 kx_223 rfl) ?_
  refine r_iload_n rfl ?_
  refine q_inlV 8 rfl [.ref 1, .int a1] [] (Nat.le_of_ble_eq_true rfl) rfl ?_
  refine Ev.mk rfl rfl ⟨Nat.le_of_ble_eq_true rfl, Or.inr (q_rc hI0.1 kx_1 rfl)⟩ ?_
  show At _ none _ _ (0, [(0, .ref 1), (1, .int a1)], [], (_, _)) _
  refine At.enter rfl ?_
  refine r_iload_n rfl ?_
  refine r_ifs 4 rfl (fun c17 => ?_) (fun c17 => ?_)
  · have c17_ : a1.toInt < 0 := en_k_lt_t c17
    refine At.enter rfl ?_
    refine r_iconst 0 rfl ?_
    refine Ar.fall 17 rfl ?_
    refine At.enter rfl ?_
    refine q_iretz (by decide) ?_
    refine At.enter rfl ?_
    refine r_ift (by decide) ?_
    refine At.enter rfl ?_
    refine r_aload_n rfl ?_
    obtain ⟨v18, hv18⟩ : ∃ v, gI g0 223 11 = v := ⟨_, rfl⟩
    refine q_getI (Sh.int hI0.1 kx_223 rfl) v18 hv18 ?_
    refine Ar.fall 24 rfl ?_
    refine At.enter rfl ?_
    refine r_ireti ?_
    exact ⟨_, rfl, hI0, hF0, _, rfl, trivial⟩
  · have c17_ : a1.toInt ≥ 0 := en_k_lt_f c17
    refine At.enter rfl ?_
    refine r_iload_n rfl ?_
    refine r_aload_n rfl ?_
    obtain ⟨v19, hv19⟩ : ∃ v, gI g0 1 0 = v := ⟨_, rfl⟩
    have rv19 := RgF.at hI0.2.1 (p := 1) (b := 0) rfl
    rw [hv19] at rv19
    dsimp only at rv19
    refine q_getI (Sh.int hI0.1 kx_1 rfl) v19 hv19 ?_
    have bv21 := q_bnd a1
    have bv22 := q_bnd v19
    refine r_ics 12 rfl (fun c20 => ?_) (fun c20 => ?_)
    · have c20_ : a1.toInt ≥ v19.toInt := en_i_ge_t c20
      refine At.enter rfl ?_
      refine r_iconst 0 rfl ?_
      refine Ar.fall 17 rfl ?_
      refine At.enter rfl ?_
      refine q_iretz (by decide) ?_
      refine At.enter rfl ?_
      refine r_ift (by decide) ?_
      refine At.enter rfl ?_
      refine r_aload_n rfl ?_
      obtain ⟨v23, hv23⟩ : ∃ v, gI g0 223 11 = v := ⟨_, rfl⟩
      refine q_getI (Sh.int hI0.1 kx_223 rfl) v23 hv23 ?_
      refine Ar.fall 24 rfl ?_
      refine At.enter rfl ?_
      refine r_ireti ?_
      exact ⟨_, rfl, hI0, hF0, _, rfl, trivial⟩
    · have c20_ : a1.toInt < v19.toInt := en_i_ge_f c20
      refine At.enter rfl ?_
      refine r_iconst 1 rfl ?_
      refine r_goto ?_
      refine At.enter rfl ?_
      refine q_iretz (by decide) ?_
      refine At.enter rfl ?_
      refine r_iff 11 rfl (by decide) ?_
      refine At.enter rfl ?_
      refine r_aload_n rfl ?_
      refine q_getR (Sh.ref hI0.1 kx_223 rfl) ?_
      refine r_iload_n rfl ?_
      obtain ⟨v24, hv24⟩ : ∃ v, eA g0 227 a1.toInt = v := ⟨_, rfl⟩
      refine q_iald (Sh.arr hI0.1 ka_227) a1.toInt rfl (by omega) v24 hv24 ?_
      refine r_goto ?_
      refine At.enter rfl ?_
      refine r_ireti ?_
      exact ⟨_, rfl, hI0, hF0, _, rfl, trivial⟩

def F_X10_refused_0 : List (Nat × Nat) := [(0, 17)]
def A_X10_refused_0 : List Nat := [230]
set_option maxRecDepth 100000 in
set_option maxHeartbeats 4000000 in
theorem T_X10_refused_0 (d : Nat) {N : Nat} {g0 : List en_E} (hI0 : HI g0) (a1 : Int32) (h_a1 : (-6) ≤ a1.toInt ∧ a1.toInt ≤ 0) : Ev (d + 2) 144 [.ref 0, .int a1] (g0, N) (fun w h' => ∃ g', h' = (g', N) ∧ HI g' ∧ Fr F_X10_refused_0 A_X10_refused_0 g0 g' ∧ ∃ r : Int32, w = some (.int r) ∧ ((-6) ≤ r.toInt ∧ r.toInt ≤ 0) ∧ (r.toInt = a1.toInt)) := by
  have hF0 : Fr F_X10_refused_0 A_X10_refused_0 g0 g0 := Fr.rf
  refine Ev.mk rfl rfl ⟨Nat.le_of_ble_eq_true rfl, Or.inr (q_rc hI0.1 kx_0 rfl)⟩ ?_
  show At _ none _ _ (0, [(0, .ref 0), (1, .int a1)], [], (_, _)) _
  refine At.enter rfl ?_
  refine r_aload_n rfl ?_
  refine r_iload_n rfl ?_
  refine q_putI (Sh.int hI0.1 kx_0 rfl) rfl ?_
  have hI21 := HI.wI0 hI0 kx_0 rfl (p := 0) (b := 17) (v := a1) rfl
  have hF22 := Fr.wI (p := 0) (b := 17) (v := a1) hF0 rfl
  refine r_iload_n rfl ?_
  refine q_ineg (-a1.toInt) rfl (by omega) (fun v23 hv23 => ?_)
  refine r_iconst 0 rfl ?_
  refine r_bipush 6 rfl ?_
  refine q_inlS 13 rfl [.int v23, .int 0, .int 6] [] (Nat.le_of_ble_eq_true rfl) rfl ?_
  refine Ev.mk rfl rfl ⟨Nat.le_of_ble_eq_true rfl, Or.inl rfl⟩ ?_
  show At _ none _ _ (0, [(0, .int v23), (1, .int 0), (2, .int 6)], [], (_, _)) _
  refine At.enter rfl ?_
  refine r_iload_n rfl ?_
  refine r_iload_n rfl ?_
  refine r_ics 5 rfl (fun c24 => ?_) (fun c24 => ?_)
  · have c24_ : v23.toInt < 0 := en_i_lt_t c24
    exfalso; omega
  · have c24_ : v23.toInt ≥ 0 := en_i_lt_f c24
    refine At.enter rfl ?_
    refine r_iload_n rfl ?_
    refine r_iload_n rfl ?_
    refine r_ics 10 rfl (fun c25 => ?_) (fun c25 => ?_)
    · have c25_ : v23.toInt > 6 := en_i_gt_t c25
      exfalso; omega
    · have c25_ : v23.toInt ≤ 6 := en_i_gt_f c25
      refine At.enter rfl ?_
      refine r_iconst 1 rfl ?_
      refine r_goto ?_
      refine At.enter rfl ?_
      refine q_iretz (by decide) ?_
      refine At.enter rfl ?_
      refine r_iff 16 rfl (by decide) ?_
      refine At.enter rfl ?_
      refine r_aload_n rfl ?_
      refine q_getR (Sh.ref hI21.1 kx_0 rfl) ?_
      refine r_iload_n rfl ?_
      refine q_ineg (-a1.toInt) rfl (by omega) (fun v26 hv26 => ?_)
      refine r_dup2 ⟨rfl, rfl⟩ ?_
      obtain ⟨v27, hv27⟩ : ∃ v, eA g0 230 ((-1) * a1.toInt) = v := ⟨_, rfl⟩
      refine q_iald (Sh.arr hI21.1 ka_230) ((-1) * a1.toInt) (by omega) (by omega) v27 ((eA_c (gA_sI)).trans hv27) ?_
      refine r_iconst 1 rfl ?_
      refine q_iaddO (fun v28 _ => ?_)
      refine q_iast (Sh.arr hI21.1 ka_230) (((-1) * a1.toInt)) (by omega) (by omega) ?_
      have hI29 := HI.wA0 hI21 ka_230 (p := 230) rfl rfl (((-1) * a1.toInt)) (v28)
      have hF30 := Fr.wA (p := 230) (j := ((-1) * a1.toInt)) (v := v28) hF22 rfl
      refine Ar.fall 27 rfl ?_
      refine At.enter rfl ?_
      refine r_iload_n rfl ?_
      refine r_ireti ?_
      exact ⟨_, rfl, hI29, hF30, _, rfl, by omega, (by omega)⟩

def F_X10_changed_0 : List (Nat × Nat) := [(0, 14), (220, 2), (222, 2), (223, 5), (223, 10)]
def A_X10_changed_0 : List Nat := []
set_option maxRecDepth 100000 in
set_option maxHeartbeats 4000000 in
theorem T_X10_changed_0 (d : Nat) {N : Nat} {g0 : List en_E} (hI0 : HI g0) : Ev (d + 2) 146 [.ref 0] (g0, N) (fun w h' => ∃ g', h' = (g', N) ∧ HI g' ∧ Fr F_X10_changed_0 A_X10_changed_0 g0 g' ∧ w = none) := by
  have hF0 : Fr F_X10_changed_0 A_X10_changed_0 g0 g0 := Fr.rf
  refine Ev.mk rfl rfl ⟨Nat.le_of_ble_eq_true rfl, Or.inr (q_rc hI0.1 kx_0 rfl)⟩ ?_
  show At _ none _ _ (0, [(0, .ref 0)], [], (_, _)) _
  refine At.enter rfl ?_
  refine r_aload_n rfl ?_
  refine r_iconst 0 rfl ?_
  refine q_putI (Sh.int hI0.1 kx_0 rfl) rfl ?_
  have hI21 := HI.wI0 hI0 kx_0 rfl (p := 0) (b := 14) (v := 0) rfl
  have hF22 := Fr.wI (p := 0) (b := 14) (v := 0) hF0 rfl
  refine r_aload_n rfl ?_
  refine q_getR (Sh.ref hI21.1 kx_0 rfl) ?_
  refine q_inlV 12 rfl [.ref 220] [] (Nat.le_of_ble_eq_true rfl) rfl ?_
  refine Ev.mk rfl rfl ⟨Nat.le_of_ble_eq_true rfl, Or.inr (q_rc hI21.1 kx_220 rfl)⟩ ?_
  show At _ none _ _ (0, [(0, .ref 220)], [], (_, _)) _
  refine At.enter rfl ?_
  refine r_aload_n rfl ?_
  refine r_iconst (-1) rfl ?_
  refine q_putI (Sh.int hI21.1 kx_220 rfl) rfl ?_
  have hI23 := HI.wI0 hI21 kx_220 rfl (p := 220) (b := 2) (v := (-1)) rfl
  have hF24 := Fr.wI (p := 220) (b := 2) (v := (-1)) hF22 rfl
  refine q_vret ?_
  refine At.enter rfl ?_
  refine r_aload_n rfl ?_
  refine q_getR (Sh.ref hI23.1 kx_0 rfl) ?_
  refine q_inlV 19 rfl [.ref 222] [] (Nat.le_of_ble_eq_true rfl) rfl ?_
  refine Ev.mk rfl rfl ⟨Nat.le_of_ble_eq_true rfl, Or.inr (q_rc hI23.1 kx_222 rfl)⟩ ?_
  show At _ none _ _ (0, [(0, .ref 222)], [], (_, _)) _
  refine At.enter rfl ?_
  refine r_aload_n rfl ?_
  refine r_iconst 0 rfl ?_
  refine q_putI (Sh.int hI23.1 kx_222 rfl) rfl ?_
  have hI25 := HI.wI0 hI23 kx_222 rfl (p := 222) (b := 2) (v := 0) rfl
  have hF26 := Fr.wI (p := 222) (b := 2) (v := 0) hF24 rfl
  refine q_vret ?_
  refine At.enter rfl ?_
  refine r_aload_n rfl ?_
  refine q_getR (Sh.ref hI25.1 kx_0 rfl) ?_
  refine q_inlV 26 rfl [.ref 223] [] (Nat.le_of_ble_eq_true rfl) rfl ?_
  refine Ev.mk rfl rfl ⟨Nat.le_of_ble_eq_true rfl, Or.inr (q_rc hI25.1 kx_223 rfl)⟩ ?_
  show At _ none _ _ (0, [(0, .ref 223)], [], (_, _)) _
  refine At.enter rfl ?_
  refine r_aload_n rfl ?_
  refine r_iconst 0 rfl ?_
  refine q_putI (Sh.int hI25.1 kx_223 rfl) rfl ?_
  have hI27 := HI.wI0 hI25 kx_223 rfl (p := 223) (b := 5) (v := 0) rfl
  have hF28 := Fr.wI (p := 223) (b := 5) (v := 0) hF26 rfl
  refine r_aload_n rfl ?_
  refine r_iconst 0 rfl ?_
  refine q_putI (Sh.int hI27.1 kx_223 rfl) rfl ?_
  have hI29 := HI.wI0 hI27 kx_223 rfl (p := 223) (b := 10) (v := 0) rfl
  have hF30 := Fr.wI (p := 223) (b := 10) (v := 0) hF28 rfl
  refine q_vret ?_
  refine At.enter rfl ?_
  refine r_vret ?_
  exact ⟨_, rfl, hI29, hF30, rfl⟩

def F_X10_whyNoLoad_0 : List (Nat × Nat) := []
def A_X10_whyNoLoad_0 : List Nat := []
set_option maxRecDepth 100000 in
set_option maxHeartbeats 4000000 in
theorem T_X10_whyNoLoad_0 (d : Nat) {N : Nat} {g0 : List en_E} (hI0 : HI g0) (a1 : Int32) (a2 : Int32) (a3 : Int32) (a4 : Int32) (a5 : Int32) (a6 : Int32) : Ev (d + 2) 149 [.ref 0, .int a1, .int a2, .int a3, .int a4, .int a5, .int a6] (g0, N) (fun w h' => ∃ g', h' = (g', N) ∧ HI g' ∧ Fr F_X10_whyNoLoad_0 A_X10_whyNoLoad_0 g0 g' ∧ ∃ r : Int32, w = some (.int r) ∧ ((-5) ≤ r.toInt ∧ r.toInt ≤ 0)) := by
  have hF0 : Fr F_X10_whyNoLoad_0 A_X10_whyNoLoad_0 g0 g0 := Fr.rf
  refine Ev.mk rfl rfl ⟨Nat.le_of_ble_eq_true rfl, Or.inr (q_rc hI0.1 kx_0 rfl)⟩ ?_
  show At _ none _ _ (0, [(0, .ref 0), (1, .int a1), (2, .int a2), (3, .int a3), (4, .int a4), (5, .int a5), (6, .int a6)], [], (_, _)) _
  refine At.enter rfl ?_
  refine r_iload_n rfl ?_
  refine r_iconst 1 rfl ?_
  refine r_bipush 9 rfl ?_
  refine q_inlS 7 rfl [.int a1, .int 1, .int 9] [] (Nat.le_of_ble_eq_true rfl) rfl ?_
  refine Ev.mk rfl rfl ⟨Nat.le_of_ble_eq_true rfl, Or.inl rfl⟩ ?_
  show At _ none _ _ (0, [(0, .int a1), (1, .int 1), (2, .int 9)], [], (_, _)) _
  refine At.enter rfl ?_
  refine r_iload_n rfl ?_
  refine r_iload_n rfl ?_
  refine r_ics 5 rfl (fun c37 => ?_) (fun c37 => ?_)
  · have c37_ : a1.toInt < 1 := en_i_lt_t c37
    refine At.enter rfl ?_
    refine r_iconst 0 rfl ?_
    refine Ar.fall 15 rfl ?_
    refine At.enter rfl ?_
    refine q_iretz (by decide) ?_
    refine At.enter rfl ?_
    refine r_ift (by decide) ?_
    refine At.enter rfl ?_
    refine r_iconst (-1) rfl ?_
    refine r_ireti ?_
    exact ⟨_, rfl, hI0, hF0, _, rfl, by decide⟩
  · have c37_ : a1.toInt ≥ 1 := en_i_lt_f c37
    refine At.enter rfl ?_
    refine r_iload_n rfl ?_
    refine r_iload_n rfl ?_
    refine r_ics 10 rfl (fun c38 => ?_) (fun c38 => ?_)
    · have c38_ : a1.toInt > 9 := en_i_gt_t c38
      refine At.enter rfl ?_
      refine r_iconst 0 rfl ?_
      refine Ar.fall 15 rfl ?_
      refine At.enter rfl ?_
      refine q_iretz (by decide) ?_
      refine At.enter rfl ?_
      refine r_ift (by decide) ?_
      refine At.enter rfl ?_
      refine r_iconst (-1) rfl ?_
      refine r_ireti ?_
      exact ⟨_, rfl, hI0, hF0, _, rfl, by decide⟩
    · have c38_ : a1.toInt ≤ 9 := en_i_gt_f c38
      refine At.enter rfl ?_
      refine r_iconst 1 rfl ?_
      refine r_goto ?_
      refine At.enter rfl ?_
      refine q_iretz (by decide) ?_
      refine At.enter rfl ?_
      refine r_iff 10 rfl (by decide) ?_
      refine At.enter rfl ?_
      refine r_iload rfl ?_
      refine r_iconst 0 rfl ?_
      refine r_bipush 99 rfl ?_
      refine q_inlS 18 rfl [.int a4, .int 0, .int 99] [] (Nat.le_of_ble_eq_true rfl) rfl ?_
      refine Ev.mk rfl rfl ⟨Nat.le_of_ble_eq_true rfl, Or.inl rfl⟩ ?_
      show At _ none _ _ (0, [(0, .int a4), (1, .int 0), (2, .int 99)], [], (_, _)) _
      refine At.enter rfl ?_
      refine r_iload_n rfl ?_
      refine r_iload_n rfl ?_
      refine r_ics 5 rfl (fun c39 => ?_) (fun c39 => ?_)
      · have c39_ : a4.toInt < 0 := en_i_lt_t c39
        refine At.enter rfl ?_
        refine r_iconst 0 rfl ?_
        refine Ar.fall 15 rfl ?_
        refine At.enter rfl ?_
        refine q_iretz (by decide) ?_
        refine At.enter rfl ?_
        refine r_ift (by decide) ?_
        refine At.enter rfl ?_
        refine r_iconst (-1) rfl ?_
        refine r_ireti ?_
        exact ⟨_, rfl, hI0, hF0, _, rfl, by decide⟩
      · have c39_ : a4.toInt ≥ 0 := en_i_lt_f c39
        refine At.enter rfl ?_
        refine r_iload_n rfl ?_
        refine r_iload_n rfl ?_
        refine r_ics 10 rfl (fun c40 => ?_) (fun c40 => ?_)
        · have c40_ : a4.toInt > 99 := en_i_gt_t c40
          refine At.enter rfl ?_
          refine r_iconst 0 rfl ?_
          refine Ar.fall 15 rfl ?_
          refine At.enter rfl ?_
          refine q_iretz (by decide) ?_
          refine At.enter rfl ?_
          refine r_ift (by decide) ?_
          refine At.enter rfl ?_
          refine r_iconst (-1) rfl ?_
          refine r_ireti ?_
          exact ⟨_, rfl, hI0, hF0, _, rfl, by decide⟩
        · have c40_ : a4.toInt ≤ 99 := en_i_gt_f c40
          refine At.enter rfl ?_
          refine r_iconst 1 rfl ?_
          refine r_goto ?_
          refine At.enter rfl ?_
          refine q_iretz (by decide) ?_
          refine At.enter rfl ?_
          refine r_iff 21 rfl (by decide) ?_
          refine At.enter rfl ?_
          refine r_iload rfl ?_
          refine r_iconst 0 rfl ?_
          refine r_bipush 9 rfl ?_
          refine q_inlS 29 rfl [.int a5, .int 0, .int 9] [] (Nat.le_of_ble_eq_true rfl) rfl ?_
          refine Ev.mk rfl rfl ⟨Nat.le_of_ble_eq_true rfl, Or.inl rfl⟩ ?_
          show At _ none _ _ (0, [(0, .int a5), (1, .int 0), (2, .int 9)], [], (_, _)) _
          refine At.enter rfl ?_
          refine r_iload_n rfl ?_
          refine r_iload_n rfl ?_
          refine r_ics 5 rfl (fun c41 => ?_) (fun c41 => ?_)
          · have c41_ : a5.toInt < 0 := en_i_lt_t c41
            refine At.enter rfl ?_
            refine r_iconst 0 rfl ?_
            refine Ar.fall 15 rfl ?_
            refine At.enter rfl ?_
            refine q_iretz (by decide) ?_
            refine At.enter rfl ?_
            refine r_ift (by decide) ?_
            refine At.enter rfl ?_
            refine r_iconst (-1) rfl ?_
            refine r_ireti ?_
            exact ⟨_, rfl, hI0, hF0, _, rfl, by decide⟩
          · have c41_ : a5.toInt ≥ 0 := en_i_lt_f c41
            refine At.enter rfl ?_
            refine r_iload_n rfl ?_
            refine r_iload_n rfl ?_
            refine r_ics 10 rfl (fun c42 => ?_) (fun c42 => ?_)
            · have c42_ : a5.toInt > 9 := en_i_gt_t c42
              refine At.enter rfl ?_
              refine r_iconst 0 rfl ?_
              refine Ar.fall 15 rfl ?_
              refine At.enter rfl ?_
              refine q_iretz (by decide) ?_
              refine At.enter rfl ?_
              refine r_ift (by decide) ?_
              refine At.enter rfl ?_
              refine r_iconst (-1) rfl ?_
              refine r_ireti ?_
              exact ⟨_, rfl, hI0, hF0, _, rfl, by decide⟩
            · have c42_ : a5.toInt ≤ 9 := en_i_gt_f c42
              refine At.enter rfl ?_
              refine r_iconst 1 rfl ?_
              refine r_goto ?_
              refine At.enter rfl ?_
              refine q_iretz (by decide) ?_
              refine At.enter rfl ?_
              refine r_iff 32 rfl (by decide) ?_
              refine At.enter rfl ?_
              refine r_iload rfl ?_
              refine r_iconst 0 rfl ?_
              refine r_sipush 9999 rfl ?_
              refine q_inlS 41 rfl [.int a6, .int 0, .int 9999] [] (Nat.le_of_ble_eq_true rfl) rfl ?_
              refine Ev.mk rfl rfl ⟨Nat.le_of_ble_eq_true rfl, Or.inl rfl⟩ ?_
              show At _ none _ _ (0, [(0, .int a6), (1, .int 0), (2, .int 9999)], [], (_, _)) _
              refine At.enter rfl ?_
              refine r_iload_n rfl ?_
              refine r_iload_n rfl ?_
              refine r_ics 5 rfl (fun c43 => ?_) (fun c43 => ?_)
              · have c43_ : a6.toInt < 0 := en_i_lt_t c43
                refine At.enter rfl ?_
                refine r_iconst 0 rfl ?_
                refine Ar.fall 15 rfl ?_
                refine At.enter rfl ?_
                refine q_iretz (by decide) ?_
                refine At.enter rfl ?_
                refine r_iff 44 rfl (by decide) ?_
                refine At.enter rfl ?_
                refine r_iconst (-1) rfl ?_
                refine r_ireti ?_
                exact ⟨_, rfl, hI0, hF0, _, rfl, by decide⟩
              · have c43_ : a6.toInt ≥ 0 := en_i_lt_f c43
                refine At.enter rfl ?_
                refine r_iload_n rfl ?_
                refine r_iload_n rfl ?_
                refine r_ics 10 rfl (fun c44 => ?_) (fun c44 => ?_)
                · have c44_ : a6.toInt > 9999 := en_i_gt_t c44
                  refine At.enter rfl ?_
                  refine r_iconst 0 rfl ?_
                  refine Ar.fall 15 rfl ?_
                  refine At.enter rfl ?_
                  refine q_iretz (by decide) ?_
                  refine At.enter rfl ?_
                  refine r_iff 44 rfl (by decide) ?_
                  refine At.enter rfl ?_
                  refine r_iconst (-1) rfl ?_
                  refine r_ireti ?_
                  exact ⟨_, rfl, hI0, hF0, _, rfl, by decide⟩
                · have c44_ : a6.toInt ≤ 9999 := en_i_gt_f c44
                  refine At.enter rfl ?_
                  refine r_iconst 1 rfl ?_
                  refine r_goto ?_
                  refine At.enter rfl ?_
                  refine q_iretz (by decide) ?_
                  refine At.enter rfl ?_
                  refine r_ift (by decide) ?_
                  refine At.enter rfl ?_
                  refine r_aload_n rfl ?_
                  refine q_getR (Sh.ref hI0.1 kx_0 rfl) ?_
                  refine r_iload_n rfl ?_
                  refine q_inlV 54 rfl [.ref 1, .int a2] [] (Nat.le_of_ble_eq_true rfl) rfl ?_
                  refine Ev.mk rfl rfl ⟨Nat.le_of_ble_eq_true rfl, Or.inr (q_rc hI0.1 kx_1 rfl)⟩ ?_
                  show At _ none _ _ (0, [(0, .ref 1), (1, .int a2)], [], (_, _)) _
                  refine At.enter rfl ?_
                  refine r_iload_n rfl ?_
                  refine r_ifs 4 rfl (fun c45 => ?_) (fun c45 => ?_)
                  · have c45_ : a2.toInt < 0 := en_k_lt_t c45
                    refine At.enter rfl ?_
                    refine r_iconst 0 rfl ?_
                    refine Ar.fall 17 rfl ?_
                    refine At.enter rfl ?_
                    refine q_iretz (by decide) ?_
                    refine At.enter rfl ?_
                    refine r_ift (by decide) ?_
                    refine At.enter rfl ?_
                    refine r_bipush (-2) rfl ?_
                    refine r_ireti ?_
                    exact ⟨_, rfl, hI0, hF0, _, rfl, by decide⟩
                  · have c45_ : a2.toInt ≥ 0 := en_k_lt_f c45
                    refine At.enter rfl ?_
                    refine r_iload_n rfl ?_
                    refine r_aload_n rfl ?_
                    obtain ⟨v46, hv46⟩ : ∃ v, gI g0 1 0 = v := ⟨_, rfl⟩
                    have rv46 := RgF.at hI0.2.1 (p := 1) (b := 0) rfl
                    rw [hv46] at rv46
                    dsimp only at rv46
                    refine q_getI (Sh.int hI0.1 kx_1 rfl) v46 hv46 ?_
                    have bv48 := q_bnd a2
                    have bv49 := q_bnd v46
                    refine r_ics 12 rfl (fun c47 => ?_) (fun c47 => ?_)
                    · have c47_ : a2.toInt ≥ v46.toInt := en_i_ge_t c47
                      refine At.enter rfl ?_
                      refine r_iconst 0 rfl ?_
                      refine Ar.fall 17 rfl ?_
                      refine At.enter rfl ?_
                      refine q_iretz (by decide) ?_
                      refine At.enter rfl ?_
                      refine r_ift (by decide) ?_
                      refine At.enter rfl ?_
                      refine r_bipush (-2) rfl ?_
                      refine r_ireti ?_
                      exact ⟨_, rfl, hI0, hF0, _, rfl, by decide⟩
                    · have c47_ : a2.toInt < v46.toInt := en_i_ge_f c47
                      refine At.enter rfl ?_
                      refine r_iconst 1 rfl ?_
                      refine r_goto ?_
                      refine At.enter rfl ?_
                      refine q_iretz (by decide) ?_
                      refine At.enter rfl ?_
                      refine r_iff 57 rfl (by decide) ?_
                      refine At.enter rfl ?_
                      refine r_aload_n rfl ?_
                      refine q_getR (Sh.ref hI0.1 kx_0 rfl) ?_
                      refine r_iload_n rfl ?_
                      refine q_inlV 65 rfl [.ref 1, .int a3] [] (Nat.le_of_ble_eq_true rfl) rfl ?_
                      refine Ev.mk rfl rfl ⟨Nat.le_of_ble_eq_true rfl, Or.inr (q_rc hI0.1 kx_1 rfl)⟩ ?_
                      show At _ none _ _ (0, [(0, .ref 1), (1, .int a3)], [], (_, _)) _
                      refine At.enter rfl ?_
                      refine r_iload_n rfl ?_
                      refine r_ifs 4 rfl (fun c50 => ?_) (fun c50 => ?_)
                      · have c50_ : a3.toInt < 0 := en_k_lt_t c50
                        refine At.enter rfl ?_
                        refine r_iconst 0 rfl ?_
                        refine Ar.fall 17 rfl ?_
                        refine At.enter rfl ?_
                        refine q_iretz (by decide) ?_
                        refine At.enter rfl ?_
                        refine r_iff 68 rfl (by decide) ?_
                        refine At.enter rfl ?_
                        refine r_bipush (-2) rfl ?_
                        refine r_ireti ?_
                        exact ⟨_, rfl, hI0, hF0, _, rfl, by decide⟩
                      · have c50_ : a3.toInt ≥ 0 := en_k_lt_f c50
                        refine At.enter rfl ?_
                        refine r_iload_n rfl ?_
                        refine r_aload_n rfl ?_
                        refine q_getI (Sh.int hI0.1 kx_1 rfl) v46 hv46 ?_
                        have bv52 := q_bnd a3
                        refine r_ics 12 rfl (fun c51 => ?_) (fun c51 => ?_)
                        · have c51_ : a3.toInt ≥ v46.toInt := en_i_ge_t c51
                          refine At.enter rfl ?_
                          refine r_iconst 0 rfl ?_
                          refine Ar.fall 17 rfl ?_
                          refine At.enter rfl ?_
                          refine q_iretz (by decide) ?_
                          refine At.enter rfl ?_
                          refine r_iff 68 rfl (by decide) ?_
                          refine At.enter rfl ?_
                          refine r_bipush (-2) rfl ?_
                          refine r_ireti ?_
                          exact ⟨_, rfl, hI0, hF0, _, rfl, by decide⟩
                        · have c51_ : a3.toInt < v46.toInt := en_i_ge_f c51
                          refine At.enter rfl ?_
                          refine r_iconst 1 rfl ?_
                          refine r_goto ?_
                          refine At.enter rfl ?_
                          refine q_iretz (by decide) ?_
                          refine At.enter rfl ?_
                          refine r_ift (by decide) ?_
                          refine At.enter rfl ?_
                          refine r_aload_n rfl ?_
                          refine q_getR (Sh.ref hI0.1 kx_0 rfl) ?_
                          obtain ⟨v53, hv53⟩ : ∃ v, gI g0 1 4 = v := ⟨_, rfl⟩
                          have rv53 := RgF.at hI0.2.1 (p := 1) (b := 4) rfl
                          rw [hv53] at rv53
                          dsimp only at rv53
                          refine q_getI (Sh.int hI0.1 kx_1 rfl) v53 hv53 ?_
                          refine r_bipush 8 rfl ?_
                          refine r_ics 83 rfl (fun c54 => ?_) (fun c54 => ?_)
                          · have c54_ : v53.toInt < 8 := en_i_lt_t c54
                            refine At.enter rfl ?_
                            refine r_iconst 0 rfl ?_
                            refine Ar.fall 89 rfl ?_
                            refine At.enter rfl ?_
                            refine r_ireti ?_
                            exact ⟨_, rfl, hI0, hF0, _, rfl, by decide⟩
                          · have c54_ : v53.toInt ≥ 8 := en_i_lt_f c54
                            refine At.enter rfl ?_
                            refine r_bipush (-5) rfl ?_
                            refine r_goto ?_
                            refine At.enter rfl ?_
                            refine r_ireti ?_
                            exact ⟨_, rfl, hI0, hF0, _, rfl, by decide⟩

def F_X0_addLoad_1 : List (Nat × Nat) := [(1, 4)]
def A_X0_addLoad_1 : List Nat := [5]
set_option maxRecDepth 100000 in
set_option maxHeartbeats 4000000 in
theorem T_X0_addLoad_1 (d : Nat) {N : Nat} {g0 : List en_E} (hI0 : HI g0) (a1 : Int32) (a2 : Int32) (a3 : Int32) (a4 : Int32) (a5 : Int32) (a6 : Int32) : Ev (d + 1) 6 [.ref 1, .int a1, .int a2, .int a3, .int a4, .int a5, .int a6] (g0, N) (fun w h' => ∃ g', h' = (g', N) ∧ HI g' ∧ Fr F_X0_addLoad_1 A_X0_addLoad_1 g0 g' ∧ ∃ r : Int32, w = some (.int r) ∧ ((-1) ≤ r.toInt ∧ r.toInt ≤ 7)) := by
  have hF0 : Fr F_X0_addLoad_1 A_X0_addLoad_1 g0 g0 := Fr.rf
  refine Ev.mk rfl rfl ⟨Nat.le_of_ble_eq_true rfl, Or.inr (q_rc hI0.1 kx_1 rfl)⟩ ?_
  show At _ none _ _ (0, [(0, .ref 1), (1, .int a1), (2, .int a2), (3, .int a3), (4, .int a4), (5, .int a5), (6, .int a6)], [], (_, _)) _
  refine At.enter rfl ?_
  refine r_aload_n rfl ?_
  obtain ⟨v51, hv51⟩ : ∃ v, gI g0 1 4 = v := ⟨_, rfl⟩
  have rv51 := RgF.at hI0.2.1 (p := 1) (b := 4) rfl
  rw [hv51] at rv51
  dsimp only at rv51
  refine q_getI (Sh.int hI0.1 kx_1 rfl) v51 hv51 ?_
  refine r_bipush 8 rfl ?_
  refine r_ics 9 rfl (fun c52 => ?_) (fun c52 => ?_)
  · have c52_ : v51.toInt < 8 := en_i_lt_t c52
    refine At.enter rfl ?_
    refine r_aload_n rfl ?_
    refine q_getI (Sh.int hI0.1 kx_1 rfl) v51 hv51 ?_
    refine r_bipush 6 rfl ?_
    refine q_imul (v51.toInt * 6) rfl (by omega) (fun v53 hv53 => ?_)
    refine r_istore ([(7, .int v53), (0, .ref 1), (1, .int a1), (2, .int a2), (3, .int a3), (4, .int a4), (5, .int a5), (6, .int a6)]) rfl ?_
    refine r_aload_n rfl ?_
    refine q_getR (Sh.ref hI0.1 kx_1 rfl) ?_
    refine r_iload rfl ?_
    refine r_iconst 0 rfl ?_
    refine q_iadd (v53.toInt + 0) rfl (by omega) (fun v54 hv54 => ?_)
    refine r_iload_n rfl ?_
    refine q_iast (Sh.arr hI0.1 ka_5) ((6 * v51.toInt)) (by omega) (by omega) ?_
    have hI55 := HI.wA0 hI0 ka_5 (p := 5) rfl rfl ((6 * v51.toInt)) (a1)
    have hF56 := Fr.wA (p := 5) (j := (6 * v51.toInt)) (v := a1) hF0 rfl
    refine r_aload_n rfl ?_
    refine q_getR (Sh.ref hI55.1 kx_1 rfl) ?_
    refine r_iload rfl ?_
    refine r_iconst 1 rfl ?_
    refine q_iadd (v53.toInt + 1) rfl (by omega) (fun v57 hv57 => ?_)
    refine r_iload_n rfl ?_
    refine q_iast (Sh.arr hI55.1 ka_5) ((6 * v51.toInt + 1)) (by omega) (by omega) ?_
    have hI58 := HI.wA0 hI55 ka_5 (p := 5) rfl rfl ((6 * v51.toInt + 1)) (a2)
    have hF59 := Fr.wA (p := 5) (j := (6 * v51.toInt + 1)) (v := a2) hF56 rfl
    refine r_aload_n rfl ?_
    refine q_getR (Sh.ref hI58.1 kx_1 rfl) ?_
    refine r_iload rfl ?_
    refine r_iconst 2 rfl ?_
    refine q_iadd (v53.toInt + 2) rfl (by omega) (fun v60 hv60 => ?_)
    refine r_iload_n rfl ?_
    refine q_iast (Sh.arr hI58.1 ka_5) ((6 * v51.toInt + 2)) (by omega) (by omega) ?_
    have hI61 := HI.wA0 hI58 ka_5 (p := 5) rfl rfl ((6 * v51.toInt + 2)) (a3)
    have hF62 := Fr.wA (p := 5) (j := (6 * v51.toInt + 2)) (v := a3) hF59 rfl
    refine r_aload_n rfl ?_
    refine q_getR (Sh.ref hI61.1 kx_1 rfl) ?_
    refine r_iload rfl ?_
    refine r_iconst 3 rfl ?_
    refine q_iadd (v53.toInt + 3) rfl (by omega) (fun v63 hv63 => ?_)
    refine r_iload rfl ?_
    refine q_iast (Sh.arr hI61.1 ka_5) ((6 * v51.toInt + 3)) (by omega) (by omega) ?_
    have hI64 := HI.wA0 hI61 ka_5 (p := 5) rfl rfl ((6 * v51.toInt + 3)) (a4)
    have hF65 := Fr.wA (p := 5) (j := (6 * v51.toInt + 3)) (v := a4) hF62 rfl
    refine r_aload_n rfl ?_
    refine q_getR (Sh.ref hI64.1 kx_1 rfl) ?_
    refine r_iload rfl ?_
    refine r_iconst 4 rfl ?_
    refine q_iadd (v53.toInt + 4) rfl (by omega) (fun v66 hv66 => ?_)
    refine r_iload rfl ?_
    refine q_iast (Sh.arr hI64.1 ka_5) ((6 * v51.toInt + 4)) (by omega) (by omega) ?_
    have hI67 := HI.wA0 hI64 ka_5 (p := 5) rfl rfl ((6 * v51.toInt + 4)) (a5)
    have hF68 := Fr.wA (p := 5) (j := (6 * v51.toInt + 4)) (v := a5) hF65 rfl
    refine r_aload_n rfl ?_
    refine q_getR (Sh.ref hI67.1 kx_1 rfl) ?_
    refine r_iload rfl ?_
    refine r_iconst 5 rfl ?_
    refine q_iadd (v53.toInt + 5) rfl (by omega) (fun v69 hv69 => ?_)
    refine r_iload rfl ?_
    refine q_iast (Sh.arr hI67.1 ka_5) ((6 * v51.toInt + 5)) (by omega) (by omega) ?_
    have hI70 := HI.wA0 hI67 ka_5 (p := 5) rfl rfl ((6 * v51.toInt + 5)) (a6)
    have hF71 := Fr.wA (p := 5) (j := (6 * v51.toInt + 5)) (v := a6) hF68 rfl
    refine r_aload_n rfl ?_
    refine r_dup rfl ?_
    refine q_getI (Sh.int hI70.1 kx_1 rfl) v51 (((gI_sW).trans ((gI_sW).trans ((gI_sW).trans ((gI_sW).trans ((gI_sW).trans (gI_sW)))))).trans hv51) ?_
    refine r_iconst 1 rfl ?_
    refine q_iadd (v51.toInt + 1) rfl (by omega) (fun v72 hv72 => ?_)
    refine q_putI (Sh.int hI70.1 kx_1 rfl) rfl ?_
    have hI73 := HI.wI1 hI70 kx_1 rfl (p := 1) (b := 4) (v := v72) rfl (by dsimp only; omega)
    have hF74 := Fr.wI (p := 1) (b := 4) (v := v72) hF71 rfl
    refine r_aload_n rfl ?_
    refine q_getI (Sh.int hI73.1 kx_1 rfl) v72 (gI_sI_eq hI70.1 kx_1 rfl _) ?_
    refine r_iconst 1 rfl ?_
    refine q_isub (v72.toInt - 1) rfl (by omega) (fun v75 hv75 => ?_)
    refine r_ireti ?_
    exact ⟨_, rfl, hI73, hF74, _, rfl, by omega⟩
  · have c52_ : v51.toInt ≥ 8 := en_i_lt_f c52
    refine At.enter rfl ?_
    refine r_iconst (-1) rfl ?_
    refine r_ireti ?_
    exact ⟨_, rfl, hI0, hF0, _, rfl, by decide⟩

def F_X0_removeLoad_1 : List (Nat × Nat) := [(1, 4)]
def A_X0_removeLoad_1 : List Nat := [5]
set_option maxRecDepth 100000 in
set_option maxHeartbeats 4000000 in
theorem T_X0_removeLoad_1 (d : Nat) {N : Nat} {g0 : List en_E} (hI0 : HI g0) (a1 : Int32) : Ev (d + 2) 7 [.ref 1, .int a1] (g0, N) (fun w h' => ∃ g', h' = (g', N) ∧ HI g' ∧ Fr F_X0_removeLoad_1 A_X0_removeLoad_1 g0 g' ∧ w = none) := by
  have hF0 : Fr F_X0_removeLoad_1 A_X0_removeLoad_1 g0 g0 := Fr.rf
  refine Ev.mk rfl rfl ⟨Nat.le_of_ble_eq_true rfl, Or.inr (q_rc hI0.1 kx_1 rfl)⟩ ?_
  show At _ none _ _ (0, [(0, .ref 1), (1, .int a1)], [], (_, _)) _
  refine At.enter rfl ?_
  refine r_aload_n rfl ?_
  refine r_iload_n rfl ?_
  refine q_inlV 5 rfl [.ref 1, .int a1] [] (Nat.le_of_ble_eq_true rfl) rfl ?_
  refine Ev.mk rfl rfl ⟨Nat.le_of_ble_eq_true rfl, Or.inr (q_rc hI0.1 kx_1 rfl)⟩ ?_
  show At _ none _ _ (0, [(0, .ref 1), (1, .int a1)], [], (_, _)) _
  refine At.enter rfl ?_
  refine r_iload_n rfl ?_
  refine r_ifs 4 rfl (fun c31 => ?_) (fun c31 => ?_)
  · have c31_ : a1.toInt < 0 := en_k_lt_t c31
    refine At.enter rfl ?_
    refine r_iconst 0 rfl ?_
    refine Ar.fall 17 rfl ?_
    refine At.enter rfl ?_
    refine q_iretz (by decide) ?_
    refine At.enter rfl ?_
    refine r_ift (by decide) ?_
    refine At.enter rfl ?_
    refine r_vret ?_
    exact ⟨_, rfl, hI0, hF0, rfl⟩
  · have c31_ : a1.toInt ≥ 0 := en_k_lt_f c31
    refine At.enter rfl ?_
    refine r_iload_n rfl ?_
    refine r_aload_n rfl ?_
    obtain ⟨v32, hv32⟩ : ∃ v, gI g0 1 4 = v := ⟨_, rfl⟩
    have rv32 := RgF.at hI0.2.1 (p := 1) (b := 4) rfl
    rw [hv32] at rv32
    dsimp only at rv32
    refine q_getI (Sh.int hI0.1 kx_1 rfl) v32 hv32 ?_
    have bv34 := q_bnd a1
    have bv35 := q_bnd v32
    refine r_ics 12 rfl (fun c33 => ?_) (fun c33 => ?_)
    · have c33_ : a1.toInt ≥ v32.toInt := en_i_ge_t c33
      refine At.enter rfl ?_
      refine r_iconst 0 rfl ?_
      refine Ar.fall 17 rfl ?_
      refine At.enter rfl ?_
      refine q_iretz (by decide) ?_
      refine At.enter rfl ?_
      refine r_ift (by decide) ?_
      refine At.enter rfl ?_
      refine r_vret ?_
      exact ⟨_, rfl, hI0, hF0, rfl⟩
    · have c33_ : a1.toInt < v32.toInt := en_i_ge_f c33
      refine At.enter rfl ?_
      refine r_iconst 1 rfl ?_
      refine r_goto ?_
      refine At.enter rfl ?_
      refine q_iretz (by decide) ?_
      refine At.enter rfl ?_
      refine r_iff 8 rfl (by decide) ?_
      refine At.enter rfl ?_
      refine r_iload_n rfl ?_
      refine r_iconst 1 rfl ?_
      refine q_iadd (a1.toInt + 1) rfl (by omega) (fun v36 hv36 => ?_)
      refine r_bipush 6 rfl ?_
      refine q_imul (v36.toInt * 6) rfl (by omega) (fun v37 hv37 => ?_)
      refine r_istore_n ([(2, .int v37), (0, .ref 1), (1, .int a1)]) rfl ?_
      refine r_aload_n rfl ?_
      refine q_getR (Sh.ref hI0.1 kx_1 rfl) ?_
      refine r_iload_n rfl ?_
      refine r_aload_n rfl ?_
      refine q_getR (Sh.ref hI0.1 kx_1 rfl) ?_
      refine r_iload_n rfl ?_
      refine r_bipush 6 rfl ?_
      refine q_imul (a1.toInt * 6) rfl (by omega) (fun v38 hv38 => ?_)
      refine r_aload_n rfl ?_
      refine q_getI (Sh.int hI0.1 kx_1 rfl) v32 hv32 ?_
      refine r_bipush 6 rfl ?_
      refine q_imul (v32.toInt * 6) rfl (by omega) (fun v39 hv39 => ?_)
      refine r_iload_n rfl ?_
      refine q_isub (v39.toInt - v37.toInt) rfl (by omega) (fun v40 hv40 => ?_)
      refine q_cpy rfl (Nat.le_of_ble_eq_true rfl) (Sh.arr hI0.1 ka_5) (Sh.arr hI0.1 ka_5) ⟨by omega, by omega, by omega, by omega, by omega⟩ ?_
      have hI41 := HI.cpy0 hI0 ka_5 ka_5 rfl rfl ((v37 : Int32).toInt.toNat) ((v38 : Int32).toInt.toNat) ((v40 : Int32).toInt.toNat) (by omega) (by omega)
      have hF42 := Fr.cpy (p0 := 5) (p1 := 5) hF0 rfl ((v37 : Int32).toInt.toNat) ((v38 : Int32).toInt.toNat) ((v40 : Int32).toInt.toNat)
      refine r_aload_n rfl ?_
      refine r_dup rfl ?_
      refine q_getI (Sh.int hI41.1 kx_1 rfl) v32 ((gI_sW).trans hv32) ?_
      refine r_iconst 1 rfl ?_
      refine q_isub (v32.toInt - 1) rfl (by omega) (fun v43 hv43 => ?_)
      refine q_putI (Sh.int hI41.1 kx_1 rfl) rfl ?_
      have hI44 := HI.wI1 hI41 kx_1 rfl (p := 1) (b := 4) (v := v43) rfl (by dsimp only; omega)
      have hF45 := Fr.wI (p := 1) (b := 4) (v := v43) hF42 rfl
      refine Ar.fall 50 rfl ?_
      refine At.enter rfl ?_
      refine r_vret ?_
      exact ⟨_, rfl, hI44, hF45, rfl⟩

def F_X10_stand_0 : List (Nat × Nat) := [(0, 14), (0, 17), (1, 0), (220, 2), (222, 2), (223, 5), (223, 10)]
def A_X10_stand_0 : List Nat := [2, 3, 4, 230]
set_option maxRecDepth 100000 in
set_option maxHeartbeats 4000000 in
theorem T_X10_stand_0 (d : Nat) {N : Nat} {g0 : List en_E} (hI0 : HI g0) (a1 : Int32) (a2 : Int32) (a3 : Int32) : Ev (d + 3) 104 [.ref 0, .int a1, .int a2, .int a3] (g0, N) (fun w h' => ∃ g', h' = (g', N) ∧ HI g' ∧ Fr F_X10_stand_0 A_X10_stand_0 g0 g' ∧ ∃ r : Int32, w = some (.int r) ∧ ((-5) ≤ r.toInt ∧ r.toInt ≤ 11) ∧ ((¬ (-1 ≤ a1.toInt ∧ a1.toInt ≤ 11 ∧ 1 ≤ a2.toInt ∧ a2.toInt ≤ 9 ∧ 0 ≤ a3.toInt ∧ a3.toInt ≤ 99) → r.toInt = -1 ∧ (gI g' 1 0).toInt = (gI g0 1 0).toInt) ∧ ((-1 ≤ a1.toInt ∧ a1.toInt ≤ 11 ∧ 1 ≤ a2.toInt ∧ a2.toInt ≤ 9 ∧ 0 ≤ a3.toInt ∧ a3.toInt ≤ 99) ∧ 12 ≤ (gI g0 1 0).toInt → r.toInt = -5 ∧ (gI g' 1 0).toInt = (gI g0 1 0).toInt) ∧ ((-1 ≤ a1.toInt ∧ a1.toInt ≤ 11 ∧ 1 ≤ a2.toInt ∧ a2.toInt ≤ 9 ∧ 0 ≤ a3.toInt ∧ a3.toInt ≤ 99) ∧ (gI g0 1 0).toInt < 12 → r.toInt = (gI g0 1 0).toInt ∧ (gI g' 1 0).toInt = (gI g0 1 0).toInt + 1))) := by
  have hF0 : Fr F_X10_stand_0 A_X10_stand_0 g0 g0 := Fr.rf
  refine Ev.mk rfl rfl ⟨Nat.le_of_ble_eq_true rfl, Or.inr (q_rc hI0.1 kx_0 rfl)⟩ ?_
  show At _ none _ _ (0, [(0, .ref 0), (1, .int a1), (2, .int a2), (3, .int a3)], [], (_, _)) _
  refine At.enter rfl ?_
  refine r_iload_n rfl ?_
  refine r_iconst (-1) rfl ?_
  refine r_bipush 11 rfl ?_
  refine q_inlS 7 rfl [.int a1, .int (-1), .int 11] [] (Nat.le_of_ble_eq_true rfl) rfl ?_
  refine Ev.mk rfl rfl ⟨Nat.le_of_ble_eq_true rfl, Or.inl rfl⟩ ?_
  show At _ none _ _ (0, [(0, .int a1), (1, .int (-1)), (2, .int 11)], [], (_, _)) _
  refine At.enter rfl ?_
  refine r_iload_n rfl ?_
  refine r_iload_n rfl ?_
  refine r_ics 5 rfl (fun c153 => ?_) (fun c153 => ?_)
  · have c153_ : a1.toInt < (-1) := en_i_lt_t c153
    refine At.enter rfl ?_
    refine r_iconst 0 rfl ?_
    refine Ar.fall 15 rfl ?_
    refine At.enter rfl ?_
    refine q_iretz (by decide) ?_
    refine At.enter rfl ?_
    refine r_ift (by decide) ?_
    refine At.enter rfl ?_
    refine r_aload_n rfl ?_
    refine r_iconst (-1) rfl ?_
    refine r_callV 29 rfl [.ref 0, .int (-1)] [] (Nat.le_of_ble_eq_true rfl) rfl (T_X10_refused_0 _ hI0 (-1) (by decide)) ?_
    rintro _ _ ⟨g154, rfl, hI155, hF156, v157, rfl, hr158⟩
    refine At.sti ?_
    have hF159 := Fr.tr hF0 hF156 rfl rfl
    have zv160 : ((-1) : Int32).toInt = (-1) := rfl
    refine At.enter rfl ?_
    refine r_ireti ?_
    obtain ⟨v161, hv161⟩ : ∃ v, gI g0 1 0 = v := ⟨_, rfl⟩
    have rv161 := RgF.at hI0.2.1 (p := 1) (b := 0) rfl
    rw [hv161] at rv161
    dsimp only at rv161
    have tv161 := congrArg Int32.toInt hv161
    have x162 := HI.eqI hI155 (p := 1) (b := 0) (((hF156.1 1 0 (by decide)).trans hv161))
    have x163 := HI.eqI hI0 (p := 1) (b := 0) (hv161)
    exact ⟨_, rfl, hI155, hF159, _, rfl, by omega, (by omega)⟩
  · have c153_ : a1.toInt ≥ (-1) := en_i_lt_f c153
    refine At.enter rfl ?_
    refine r_iload_n rfl ?_
    refine r_iload_n rfl ?_
    refine r_ics 10 rfl (fun c164 => ?_) (fun c164 => ?_)
    · have c164_ : a1.toInt > 11 := en_i_gt_t c164
      refine At.enter rfl ?_
      refine r_iconst 0 rfl ?_
      refine Ar.fall 15 rfl ?_
      refine At.enter rfl ?_
      refine q_iretz (by decide) ?_
      refine At.enter rfl ?_
      refine r_ift (by decide) ?_
      refine At.enter rfl ?_
      refine r_aload_n rfl ?_
      refine r_iconst (-1) rfl ?_
      refine r_callV 29 rfl [.ref 0, .int (-1)] [] (Nat.le_of_ble_eq_true rfl) rfl (T_X10_refused_0 _ hI0 (-1) (by decide)) ?_
      rintro _ _ ⟨g165, rfl, hI166, hF167, v168, rfl, hr169⟩
      refine At.sti ?_
      have hF170 := Fr.tr hF0 hF167 rfl rfl
      have zv171 : ((-1) : Int32).toInt = (-1) := rfl
      refine At.enter rfl ?_
      refine r_ireti ?_
      obtain ⟨v172, hv172⟩ : ∃ v, gI g0 1 0 = v := ⟨_, rfl⟩
      have rv172 := RgF.at hI0.2.1 (p := 1) (b := 0) rfl
      rw [hv172] at rv172
      dsimp only at rv172
      have tv172 := congrArg Int32.toInt hv172
      have x173 := HI.eqI hI166 (p := 1) (b := 0) (((hF167.1 1 0 (by decide)).trans hv172))
      have x174 := HI.eqI hI0 (p := 1) (b := 0) (hv172)
      exact ⟨_, rfl, hI166, hF170, _, rfl, by omega, (by omega)⟩
    · have c164_ : a1.toInt ≤ 11 := en_i_gt_f c164
      refine At.enter rfl ?_
      refine r_iconst 1 rfl ?_
      refine r_goto ?_
      refine At.enter rfl ?_
      refine q_iretz (by decide) ?_
      refine At.enter rfl ?_
      refine r_iff 10 rfl (by decide) ?_
      refine At.enter rfl ?_
      refine r_iload_n rfl ?_
      refine q_inlS 14 rfl [.int a2] [] (Nat.le_of_ble_eq_true rfl) rfl ?_
      refine Ev.mk rfl rfl ⟨Nat.le_of_ble_eq_true rfl, Or.inl rfl⟩ ?_
      show At _ none _ _ (0, [(0, .int a2)], [], (_, _)) _
      refine At.enter rfl ?_
      refine r_iload_n rfl ?_
      refine r_iconst 1 rfl ?_
      refine r_bipush 9 rfl ?_
      refine q_inlS 7 rfl [.int a2, .int 1, .int 9] [] (Nat.le_of_ble_eq_true rfl) rfl ?_
      refine Ev.mk rfl rfl ⟨Nat.le_of_ble_eq_true rfl, Or.inl rfl⟩ ?_
      show At _ none _ _ (0, [(0, .int a2), (1, .int 1), (2, .int 9)], [], (_, _)) _
      refine At.enter rfl ?_
      refine r_iload_n rfl ?_
      refine r_iload_n rfl ?_
      refine r_ics 5 rfl (fun c175 => ?_) (fun c175 => ?_)
      · have c175_ : a2.toInt < 1 := en_i_lt_t c175
        refine At.enter rfl ?_
        refine r_iconst 0 rfl ?_
        refine Ar.fall 15 rfl ?_
        refine At.enter rfl ?_
        refine q_iretz (by decide) ?_
        refine At.enter rfl ?_
        refine q_iretz (by decide) ?_
        refine At.enter rfl ?_
        refine r_ift (by decide) ?_
        refine At.enter rfl ?_
        refine r_aload_n rfl ?_
        refine r_iconst (-1) rfl ?_
        refine r_callV 29 rfl [.ref 0, .int (-1)] [] (Nat.le_of_ble_eq_true rfl) rfl (T_X10_refused_0 _ hI0 (-1) (by decide)) ?_
        rintro _ _ ⟨g176, rfl, hI177, hF178, v179, rfl, hr180⟩
        refine At.sti ?_
        have hF181 := Fr.tr hF0 hF178 rfl rfl
        have zv182 : ((-1) : Int32).toInt = (-1) := rfl
        refine At.enter rfl ?_
        refine r_ireti ?_
        obtain ⟨v183, hv183⟩ : ∃ v, gI g0 1 0 = v := ⟨_, rfl⟩
        have rv183 := RgF.at hI0.2.1 (p := 1) (b := 0) rfl
        rw [hv183] at rv183
        dsimp only at rv183
        have tv183 := congrArg Int32.toInt hv183
        have x184 := HI.eqI hI177 (p := 1) (b := 0) (((hF178.1 1 0 (by decide)).trans hv183))
        have x185 := HI.eqI hI0 (p := 1) (b := 0) (hv183)
        exact ⟨_, rfl, hI177, hF181, _, rfl, by omega, (by omega)⟩
      · have c175_ : a2.toInt ≥ 1 := en_i_lt_f c175
        refine At.enter rfl ?_
        refine r_iload_n rfl ?_
        refine r_iload_n rfl ?_
        refine r_ics 10 rfl (fun c186 => ?_) (fun c186 => ?_)
        · have c186_ : a2.toInt > 9 := en_i_gt_t c186
          refine At.enter rfl ?_
          refine r_iconst 0 rfl ?_
          refine Ar.fall 15 rfl ?_
          refine At.enter rfl ?_
          refine q_iretz (by decide) ?_
          refine At.enter rfl ?_
          refine q_iretz (by decide) ?_
          refine At.enter rfl ?_
          refine r_ift (by decide) ?_
          refine At.enter rfl ?_
          refine r_aload_n rfl ?_
          refine r_iconst (-1) rfl ?_
          refine r_callV 29 rfl [.ref 0, .int (-1)] [] (Nat.le_of_ble_eq_true rfl) rfl (T_X10_refused_0 _ hI0 (-1) (by decide)) ?_
          rintro _ _ ⟨g187, rfl, hI188, hF189, v190, rfl, hr191⟩
          refine At.sti ?_
          have hF192 := Fr.tr hF0 hF189 rfl rfl
          have zv193 : ((-1) : Int32).toInt = (-1) := rfl
          refine At.enter rfl ?_
          refine r_ireti ?_
          obtain ⟨v194, hv194⟩ : ∃ v, gI g0 1 0 = v := ⟨_, rfl⟩
          have rv194 := RgF.at hI0.2.1 (p := 1) (b := 0) rfl
          rw [hv194] at rv194
          dsimp only at rv194
          have tv194 := congrArg Int32.toInt hv194
          have x195 := HI.eqI hI188 (p := 1) (b := 0) (((hF189.1 1 0 (by decide)).trans hv194))
          have x196 := HI.eqI hI0 (p := 1) (b := 0) (hv194)
          exact ⟨_, rfl, hI188, hF192, _, rfl, by omega, (by omega)⟩
        · have c186_ : a2.toInt ≤ 9 := en_i_gt_f c186
          refine At.enter rfl ?_
          refine r_iconst 1 rfl ?_
          refine r_goto ?_
          refine At.enter rfl ?_
          refine q_iretz (by decide) ?_
          refine At.enter rfl ?_
          refine q_iretz (by decide) ?_
          refine At.enter rfl ?_
          refine r_iff 17 rfl (by decide) ?_
          refine At.enter rfl ?_
          refine r_iload_n rfl ?_
          refine q_inlS 21 rfl [.int a3] [] (Nat.le_of_ble_eq_true rfl) rfl ?_
          refine Ev.mk rfl rfl ⟨Nat.le_of_ble_eq_true rfl, Or.inl rfl⟩ ?_
          show At _ none _ _ (0, [(0, .int a3)], [], (_, _)) _
          refine At.enter rfl ?_
          refine r_iload_n rfl ?_
          refine r_iconst 0 rfl ?_
          refine r_bipush 99 rfl ?_
          refine q_inlS 7 rfl [.int a3, .int 0, .int 99] [] (Nat.le_of_ble_eq_true rfl) rfl ?_
          refine Ev.mk rfl rfl ⟨Nat.le_of_ble_eq_true rfl, Or.inl rfl⟩ ?_
          show At _ none _ _ (0, [(0, .int a3), (1, .int 0), (2, .int 99)], [], (_, _)) _
          refine At.enter rfl ?_
          refine r_iload_n rfl ?_
          refine r_iload_n rfl ?_
          refine r_ics 5 rfl (fun c197 => ?_) (fun c197 => ?_)
          · have c197_ : a3.toInt < 0 := en_i_lt_t c197
            refine At.enter rfl ?_
            refine r_iconst 0 rfl ?_
            refine Ar.fall 15 rfl ?_
            refine At.enter rfl ?_
            refine q_iretz (by decide) ?_
            refine At.enter rfl ?_
            refine q_iretz (by decide) ?_
            refine At.enter rfl ?_
            refine r_iff 24 rfl (by decide) ?_
            refine At.enter rfl ?_
            refine r_aload_n rfl ?_
            refine r_iconst (-1) rfl ?_
            refine r_callV 29 rfl [.ref 0, .int (-1)] [] (Nat.le_of_ble_eq_true rfl) rfl (T_X10_refused_0 _ hI0 (-1) (by decide)) ?_
            rintro _ _ ⟨g198, rfl, hI199, hF200, v201, rfl, hr202⟩
            refine At.sti ?_
            have hF203 := Fr.tr hF0 hF200 rfl rfl
            have zv204 : ((-1) : Int32).toInt = (-1) := rfl
            refine At.enter rfl ?_
            refine r_ireti ?_
            obtain ⟨v205, hv205⟩ : ∃ v, gI g0 1 0 = v := ⟨_, rfl⟩
            have rv205 := RgF.at hI0.2.1 (p := 1) (b := 0) rfl
            rw [hv205] at rv205
            dsimp only at rv205
            have tv205 := congrArg Int32.toInt hv205
            have x206 := HI.eqI hI199 (p := 1) (b := 0) (((hF200.1 1 0 (by decide)).trans hv205))
            have x207 := HI.eqI hI0 (p := 1) (b := 0) (hv205)
            exact ⟨_, rfl, hI199, hF203, _, rfl, by omega, (by omega)⟩
          · have c197_ : a3.toInt ≥ 0 := en_i_lt_f c197
            refine At.enter rfl ?_
            refine r_iload_n rfl ?_
            refine r_iload_n rfl ?_
            refine r_ics 10 rfl (fun c208 => ?_) (fun c208 => ?_)
            · have c208_ : a3.toInt > 99 := en_i_gt_t c208
              refine At.enter rfl ?_
              refine r_iconst 0 rfl ?_
              refine Ar.fall 15 rfl ?_
              refine At.enter rfl ?_
              refine q_iretz (by decide) ?_
              refine At.enter rfl ?_
              refine q_iretz (by decide) ?_
              refine At.enter rfl ?_
              refine r_iff 24 rfl (by decide) ?_
              refine At.enter rfl ?_
              refine r_aload_n rfl ?_
              refine r_iconst (-1) rfl ?_
              refine r_callV 29 rfl [.ref 0, .int (-1)] [] (Nat.le_of_ble_eq_true rfl) rfl (T_X10_refused_0 _ hI0 (-1) (by decide)) ?_
              rintro _ _ ⟨g209, rfl, hI210, hF211, v212, rfl, hr213⟩
              refine At.sti ?_
              have hF214 := Fr.tr hF0 hF211 rfl rfl
              have zv215 : ((-1) : Int32).toInt = (-1) := rfl
              refine At.enter rfl ?_
              refine r_ireti ?_
              obtain ⟨v216, hv216⟩ : ∃ v, gI g0 1 0 = v := ⟨_, rfl⟩
              have rv216 := RgF.at hI0.2.1 (p := 1) (b := 0) rfl
              rw [hv216] at rv216
              dsimp only at rv216
              have tv216 := congrArg Int32.toInt hv216
              have x217 := HI.eqI hI210 (p := 1) (b := 0) (((hF211.1 1 0 (by decide)).trans hv216))
              have x218 := HI.eqI hI0 (p := 1) (b := 0) (hv216)
              exact ⟨_, rfl, hI210, hF214, _, rfl, by omega, (by omega)⟩
            · have c208_ : a3.toInt ≤ 99 := en_i_gt_f c208
              refine At.enter rfl ?_
              refine r_iconst 1 rfl ?_
              refine r_goto ?_
              refine At.enter rfl ?_
              refine q_iretz (by decide) ?_
              refine At.enter rfl ?_
              refine q_iretz (by decide) ?_
              refine At.enter rfl ?_
              refine r_ift (by decide) ?_
              refine At.enter rfl ?_
              refine r_aload_n rfl ?_
              refine q_getR (Sh.ref hI0.1 kx_0 rfl) ?_
              obtain ⟨v219, hv219⟩ : ∃ v, gI g0 1 0 = v := ⟨_, rfl⟩
              have rv219 := RgF.at hI0.2.1 (p := 1) (b := 0) rfl
              rw [hv219] at rv219
              dsimp only at rv219
              refine q_getI (Sh.int hI0.1 kx_1 rfl) v219 hv219 ?_
              refine r_bipush 12 rfl ?_
              refine r_ics 42 rfl (fun c220 => ?_) (fun c220 => ?_)
              · have c220_ : v219.toInt < 12 := en_i_lt_t c220
                refine At.enter rfl ?_
                refine r_aload_n rfl ?_
                refine r_callV 53 rfl [.ref 0] [] (Nat.le_of_ble_eq_true rfl) rfl (T_X10_changed_0 _ hI0) ?_
                rintro _ _ ⟨g221, rfl, hI222, hF223, rfl⟩
                refine At.stn ?_
                have hF226 := Fr.tr hF0 hF223 rfl rfl
                refine At.enter rfl ?_
                refine r_aload_n rfl ?_
                refine r_aload_n rfl ?_
                refine q_getR (Sh.ref hI222.1 kx_0 rfl) ?_
                refine r_iload_n rfl ?_
                refine r_iload_n rfl ?_
                refine r_iload_n rfl ?_
                refine q_inlV 64 rfl [.ref 1, .int a1, .int a2, .int a3] [.ref 0] (Nat.le_of_ble_eq_true rfl) rfl ?_
                refine Ev.mk rfl rfl ⟨Nat.le_of_ble_eq_true rfl, Or.inr (q_rc hI222.1 kx_1 rfl)⟩ ?_
                show At _ none _ _ (0, [(0, .ref 1), (1, .int a1), (2, .int a2), (3, .int a3)], [], (_, _)) _
                refine At.enter rfl ?_
                refine r_aload_n rfl ?_
                refine q_getI (Sh.int hI222.1 kx_1 rfl) v219 ((hF223.1 1 0 (by decide)).trans hv219) ?_
                refine r_bipush 12 rfl ?_
                refine r_ics 9 rfl (fun c227 => ?_) (fun c227 => ?_)
                · have c227_ : v219.toInt < 12 := en_i_lt_t c227
                  refine At.enter rfl ?_
                  refine r_aload_n rfl ?_
                  refine q_getR (Sh.ref hI222.1 kx_1 rfl) ?_
                  refine r_aload_n rfl ?_
                  refine q_getI (Sh.int hI222.1 kx_1 rfl) v219 ((hF223.1 1 0 (by decide)).trans hv219) ?_
                  refine r_iload_n rfl ?_
                  refine q_iast (Sh.arr hI222.1 ka_2) (v219.toInt) rfl (by omega) ?_
                  have hI228 := HI.wA0 hI222 ka_2 (p := 2) rfl rfl (v219.toInt) (a1)
                  have hF229 := Fr.wA (p := 2) (j := v219.toInt) (v := a1) hF226 rfl
                  refine r_aload_n rfl ?_
                  refine q_getR (Sh.ref hI228.1 kx_1 rfl) ?_
                  refine r_aload_n rfl ?_
                  refine q_getI (Sh.int hI228.1 kx_1 rfl) v219 (((gI_sW).trans (hF223.1 1 0 (by decide))).trans hv219) ?_
                  refine r_iload_n rfl ?_
                  refine q_iast (Sh.arr hI228.1 ka_3) (v219.toInt) rfl (by omega) ?_
                  have hI230 := HI.wA0 hI228 ka_3 (p := 3) rfl rfl (v219.toInt) (a2)
                  have hF231 := Fr.wA (p := 3) (j := v219.toInt) (v := a2) hF229 rfl
                  refine r_aload_n rfl ?_
                  refine q_getR (Sh.ref hI230.1 kx_1 rfl) ?_
                  refine r_aload_n rfl ?_
                  refine q_getI (Sh.int hI230.1 kx_1 rfl) v219 (((gI_sW).trans ((gI_sW).trans (hF223.1 1 0 (by decide)))).trans hv219) ?_
                  refine r_iload_n rfl ?_
                  refine q_iast (Sh.arr hI230.1 ka_4) (v219.toInt) rfl (by omega) ?_
                  have hI232 := HI.wA0 hI230 ka_4 (p := 4) rfl rfl (v219.toInt) (a3)
                  have hF233 := Fr.wA (p := 4) (j := v219.toInt) (v := a3) hF231 rfl
                  refine r_aload_n rfl ?_
                  refine r_dup rfl ?_
                  refine q_getI (Sh.int hI232.1 kx_1 rfl) v219 (((gI_sW).trans ((gI_sW).trans ((gI_sW).trans (hF223.1 1 0 (by decide))))).trans hv219) ?_
                  refine r_iconst 1 rfl ?_
                  refine q_iadd (v219.toInt + 1) rfl (by omega) (fun v234 hv234 => ?_)
                  refine q_putI (Sh.int hI232.1 kx_1 rfl) rfl ?_
                  have hI235 := HI.wI1 hI232 kx_1 rfl (p := 1) (b := 0) (v := v234) rfl (by dsimp only; omega)
                  have hF236 := Fr.wI (p := 1) (b := 0) (v := v234) hF233 rfl
                  refine r_aload_n rfl ?_
                  refine q_getI (Sh.int hI235.1 kx_1 rfl) v234 (gI_sI_eq hI232.1 kx_1 rfl _) ?_
                  refine r_iconst 1 rfl ?_
                  refine q_isub (v234.toInt - 1) rfl (by omega) (fun v237 hv237 => ?_)
                  refine q_ireti ?_
                  refine At.enter rfl ?_
                  refine q_inlV 67 rfl [.ref 0, .int v237] [] (Nat.le_of_ble_eq_true rfl) rfl ?_
                  refine Ev.mk rfl rfl ⟨Nat.le_of_ble_eq_true rfl, Or.inr (q_rc hI235.1 kx_0 rfl)⟩ ?_
                  show At _ none _ _ (0, [(0, .ref 0), (1, .int v237)], [], (_, _)) _
                  refine At.enter rfl ?_
                  refine r_aload_n rfl ?_
                  refine r_iconst 0 rfl ?_
                  refine q_putI (Sh.int hI235.1 kx_0 rfl) rfl ?_
                  have hI238 := HI.wI0 hI235 kx_0 rfl (p := 0) (b := 17) (v := 0) rfl
                  have hF239 := Fr.wI (p := 0) (b := 17) (v := 0) hF236 rfl
                  refine r_iload_n rfl ?_
                  refine q_ireti ?_
                  refine At.enter rfl ?_
                  refine r_ireti ?_
                  have x240 := HI.eqI hI238 (p := 1) (b := 0) (((gI_sI_ne (by decide)).trans (gI_sI_eq hI232.1 kx_1 rfl _)))
                  have x241 := HI.eqI hI0 (p := 1) (b := 0) (hv219)
                  exact ⟨_, rfl, hI238, hF239, _, rfl, by omega, (by omega)⟩
                · have c227_ : v219.toInt ≥ 12 := en_i_lt_f c227
                  exfalso; omega
              · have c220_ : v219.toInt ≥ 12 := en_i_lt_f c220
                refine At.enter rfl ?_
                refine r_aload_n rfl ?_
                refine r_bipush (-5) rfl ?_
                refine r_callV 48 rfl [.ref 0, .int (-5)] [] (Nat.le_of_ble_eq_true rfl) rfl (T_X10_refused_0 _ hI0 (-5) (by decide)) ?_
                rintro _ _ ⟨g242, rfl, hI243, hF244, v245, rfl, hr246⟩
                refine At.sti ?_
                have hF247 := Fr.tr hF0 hF244 rfl rfl
                have zv248 : ((-5) : Int32).toInt = (-5) := rfl
                refine At.enter rfl ?_
                refine r_ireti ?_
                have x249 := HI.eqI hI243 (p := 1) (b := 0) (((hF244.1 1 0 (by decide)).trans hv219))
                have x250 := HI.eqI hI0 (p := 1) (b := 0) (hv219)
                exact ⟨_, rfl, hI243, hF247, _, rfl, by omega, (by omega)⟩

def F_X10_put_0 : List (Nat × Nat) := [(0, 14), (0, 17), (220, 2), (222, 2), (223, 5), (223, 10)]
def A_X10_put_0 : List Nat := [2, 3, 4, 230]
set_option maxRecDepth 100000 in
set_option maxHeartbeats 4000000 in
theorem T_X10_put_0 (d : Nat) {N : Nat} {g0 : List en_E} (hI0 : HI g0) (a1 : Int32) (a2 : Int32) (a3 : Int32) : Ev (d + 3) 105 [.ref 0, .int a1, .int a2, .int a3] (g0, N) (fun w h' => ∃ g', h' = (g', N) ∧ HI g' ∧ Fr F_X10_put_0 A_X10_put_0 g0 g' ∧ ∃ r : Int32, w = some (.int r) ∧ True) := by
  have hF0 : Fr F_X10_put_0 A_X10_put_0 g0 g0 := Fr.rf
  refine Ev.mk rfl rfl ⟨Nat.le_of_ble_eq_true rfl, Or.inr (q_rc hI0.1 kx_0 rfl)⟩ ?_
  show At _ none _ _ (0, [(0, .ref 0), (1, .int a1), (2, .int a2), (3, .int a3)], [], (_, _)) _
  refine At.enter rfl ?_
  refine r_iload_n rfl ?_
  refine r_ifs 4 rfl (fun c319 => ?_) (fun c319 => ?_)
  · have c319_ : a2.toInt ≠ 0 := en_k_ne_t c319
    refine At.enter rfl ?_
    refine r_iload_n rfl ?_
    refine r_iconst 1 rfl ?_
    refine r_ics 19 rfl (fun c320 => ?_) (fun c320 => ?_)
    · have c320_ : a2.toInt ≠ 1 := en_i_ne_t c320
      refine At.enter rfl ?_
      refine r_iload_n rfl ?_
      refine r_iconst 2 rfl ?_
      refine r_ics 31 rfl (fun c321 => ?_) (fun c321 => ?_)
      · have c321_ : a2.toInt ≠ 2 := en_i_ne_t c321
        refine At.enter rfl ?_
        refine r_iconst 0 rfl ?_
        refine Ar.fall 43 rfl ?_
        refine At.enter rfl ?_
        refine r_istore ([(4, .int 0), (0, .ref 0), (1, .int a1), (2, .int a2), (3, .int a3)]) rfl ?_
        refine r_iload rfl ?_
        refine r_iff 50 rfl (by decide) ?_
        refine At.enter rfl ?_
        refine r_aload_n rfl ?_
        refine r_iconst (-1) rfl ?_
        refine r_callV 55 rfl [.ref 0, .int (-1)] [] (Nat.le_of_ble_eq_true rfl) rfl (T_X10_refused_0 _ hI0 (-1) (by decide)) ?_
        rintro _ _ ⟨g322, rfl, hI323, hF324, v325, rfl, hr326⟩
        refine At.sti ?_
        have hF327 := Fr.tr hF0 hF324 rfl rfl
        have zv328 : ((-1) : Int32).toInt = (-1) := rfl
        refine At.enter rfl ?_
        refine r_ireti ?_
        exact ⟨_, rfl, hI323, hF327, _, rfl, trivial⟩
      · have c321_ : a2.toInt = 2 := en_i_ne_f c321
        refine At.enter rfl ?_
        refine r_iload_n rfl ?_
        refine q_inlS 35 rfl [.int a3] [] (Nat.le_of_ble_eq_true rfl) rfl ?_
        refine Ev.mk rfl rfl ⟨Nat.le_of_ble_eq_true rfl, Or.inl rfl⟩ ?_
        show At _ none _ _ (0, [(0, .int a3)], [], (_, _)) _
        refine At.enter rfl ?_
        refine r_iload_n rfl ?_
        refine r_iconst 0 rfl ?_
        refine r_bipush 99 rfl ?_
        refine q_inlS 7 rfl [.int a3, .int 0, .int 99] [] (Nat.le_of_ble_eq_true rfl) rfl ?_
        refine Ev.mk rfl rfl ⟨Nat.le_of_ble_eq_true rfl, Or.inl rfl⟩ ?_
        show At _ none _ _ (0, [(0, .int a3), (1, .int 0), (2, .int 99)], [], (_, _)) _
        refine At.enter rfl ?_
        refine r_iload_n rfl ?_
        refine r_iload_n rfl ?_
        refine r_ics 5 rfl (fun c329 => ?_) (fun c329 => ?_)
        · have c329_ : a3.toInt < 0 := en_i_lt_t c329
          refine At.enter rfl ?_
          refine r_iconst 0 rfl ?_
          refine Ar.fall 15 rfl ?_
          refine At.enter rfl ?_
          refine q_iretz (by decide) ?_
          refine At.enter rfl ?_
          refine q_iretz (by decide) ?_
          refine At.enter rfl ?_
          refine r_ift (by decide) ?_
          refine At.enter rfl ?_
          refine r_iconst 0 rfl ?_
          refine Ar.fall 43 rfl ?_
          refine At.enter rfl ?_
          refine r_istore ([(4, .int 0), (0, .ref 0), (1, .int a1), (2, .int a2), (3, .int a3)]) rfl ?_
          refine r_iload rfl ?_
          refine r_iff 50 rfl (by decide) ?_
          refine At.enter rfl ?_
          refine r_aload_n rfl ?_
          refine r_iconst (-1) rfl ?_
          refine r_callV 55 rfl [.ref 0, .int (-1)] [] (Nat.le_of_ble_eq_true rfl) rfl (T_X10_refused_0 _ hI0 (-1) (by decide)) ?_
          rintro _ _ ⟨g330, rfl, hI331, hF332, v333, rfl, hr334⟩
          refine At.sti ?_
          have hF335 := Fr.tr hF0 hF332 rfl rfl
          have zv336 : ((-1) : Int32).toInt = (-1) := rfl
          refine At.enter rfl ?_
          refine r_ireti ?_
          exact ⟨_, rfl, hI331, hF335, _, rfl, trivial⟩
        · have c329_ : a3.toInt ≥ 0 := en_i_lt_f c329
          refine At.enter rfl ?_
          refine r_iload_n rfl ?_
          refine r_iload_n rfl ?_
          refine r_ics 10 rfl (fun c337 => ?_) (fun c337 => ?_)
          · have c337_ : a3.toInt > 99 := en_i_gt_t c337
            refine At.enter rfl ?_
            refine r_iconst 0 rfl ?_
            refine Ar.fall 15 rfl ?_
            refine At.enter rfl ?_
            refine q_iretz (by decide) ?_
            refine At.enter rfl ?_
            refine q_iretz (by decide) ?_
            refine At.enter rfl ?_
            refine r_ift (by decide) ?_
            refine At.enter rfl ?_
            refine r_iconst 0 rfl ?_
            refine Ar.fall 43 rfl ?_
            refine At.enter rfl ?_
            refine r_istore ([(4, .int 0), (0, .ref 0), (1, .int a1), (2, .int a2), (3, .int a3)]) rfl ?_
            refine r_iload rfl ?_
            refine r_iff 50 rfl (by decide) ?_
            refine At.enter rfl ?_
            refine r_aload_n rfl ?_
            refine r_iconst (-1) rfl ?_
            refine r_callV 55 rfl [.ref 0, .int (-1)] [] (Nat.le_of_ble_eq_true rfl) rfl (T_X10_refused_0 _ hI0 (-1) (by decide)) ?_
            rintro _ _ ⟨g338, rfl, hI339, hF340, v341, rfl, hr342⟩
            refine At.sti ?_
            have hF343 := Fr.tr hF0 hF340 rfl rfl
            have zv344 : ((-1) : Int32).toInt = (-1) := rfl
            refine At.enter rfl ?_
            refine r_ireti ?_
            exact ⟨_, rfl, hI339, hF343, _, rfl, trivial⟩
          · have c337_ : a3.toInt ≤ 99 := en_i_gt_f c337
            refine At.enter rfl ?_
            refine r_iconst 1 rfl ?_
            refine r_goto ?_
            refine At.enter rfl ?_
            refine q_iretz (by decide) ?_
            refine At.enter rfl ?_
            refine q_iretz (by decide) ?_
            refine At.enter rfl ?_
            refine r_iff 38 rfl (by decide) ?_
            refine At.enter rfl ?_
            refine r_iconst 1 rfl ?_
            refine r_goto ?_
            refine At.enter rfl ?_
            refine r_istore ([(4, .int 1), (0, .ref 0), (1, .int a1), (2, .int a2), (3, .int a3)]) rfl ?_
            refine r_iload rfl ?_
            refine r_ift (by decide) ?_
            refine At.enter rfl ?_
            refine r_aload_n rfl ?_
            refine q_getR (Sh.ref hI0.1 kx_0 rfl) ?_
            refine r_iload_n rfl ?_
            refine q_inlV 64 rfl [.ref 1, .int a1] [] (Nat.le_of_ble_eq_true rfl) rfl ?_
            refine Ev.mk rfl rfl ⟨Nat.le_of_ble_eq_true rfl, Or.inr (q_rc hI0.1 kx_1 rfl)⟩ ?_
            show At _ none _ _ (0, [(0, .ref 1), (1, .int a1)], [], (_, _)) _
            refine At.enter rfl ?_
            refine r_iload_n rfl ?_
            refine r_ifs 4 rfl (fun c345 => ?_) (fun c345 => ?_)
            · have c345_ : a1.toInt < 0 := en_k_lt_t c345
              refine At.enter rfl ?_
              refine r_iconst 0 rfl ?_
              refine Ar.fall 17 rfl ?_
              refine At.enter rfl ?_
              refine q_iretz (by decide) ?_
              refine At.enter rfl ?_
              refine r_iff 67 rfl (by decide) ?_
              refine At.enter rfl ?_
              refine r_aload_n rfl ?_
              refine r_bipush (-2) rfl ?_
              refine r_callV 73 rfl [.ref 0, .int (-2)] [] (Nat.le_of_ble_eq_true rfl) rfl (T_X10_refused_0 _ hI0 (-2) (by decide)) ?_
              rintro _ _ ⟨g346, rfl, hI347, hF348, v349, rfl, hr350⟩
              refine At.sti ?_
              have hF351 := Fr.tr hF0 hF348 rfl rfl
              have zv352 : ((-2) : Int32).toInt = (-2) := rfl
              refine At.enter rfl ?_
              refine r_ireti ?_
              exact ⟨_, rfl, hI347, hF351, _, rfl, trivial⟩
            · have c345_ : a1.toInt ≥ 0 := en_k_lt_f c345
              refine At.enter rfl ?_
              refine r_iload_n rfl ?_
              refine r_aload_n rfl ?_
              obtain ⟨v353, hv353⟩ : ∃ v, gI g0 1 0 = v := ⟨_, rfl⟩
              have rv353 := RgF.at hI0.2.1 (p := 1) (b := 0) rfl
              rw [hv353] at rv353
              dsimp only at rv353
              refine q_getI (Sh.int hI0.1 kx_1 rfl) v353 hv353 ?_
              have bv355 := q_bnd a1
              have bv356 := q_bnd v353
              refine r_ics 12 rfl (fun c354 => ?_) (fun c354 => ?_)
              · have c354_ : a1.toInt ≥ v353.toInt := en_i_ge_t c354
                refine At.enter rfl ?_
                refine r_iconst 0 rfl ?_
                refine Ar.fall 17 rfl ?_
                refine At.enter rfl ?_
                refine q_iretz (by decide) ?_
                refine At.enter rfl ?_
                refine r_iff 67 rfl (by decide) ?_
                refine At.enter rfl ?_
                refine r_aload_n rfl ?_
                refine r_bipush (-2) rfl ?_
                refine r_callV 73 rfl [.ref 0, .int (-2)] [] (Nat.le_of_ble_eq_true rfl) rfl (T_X10_refused_0 _ hI0 (-2) (by decide)) ?_
                rintro _ _ ⟨g357, rfl, hI358, hF359, v360, rfl, hr361⟩
                refine At.sti ?_
                have hF362 := Fr.tr hF0 hF359 rfl rfl
                have zv363 : ((-2) : Int32).toInt = (-2) := rfl
                refine At.enter rfl ?_
                refine r_ireti ?_
                exact ⟨_, rfl, hI358, hF362, _, rfl, trivial⟩
              · have c354_ : a1.toInt < v353.toInt := en_i_ge_f c354
                refine At.enter rfl ?_
                refine r_iconst 1 rfl ?_
                refine r_goto ?_
                refine At.enter rfl ?_
                refine q_iretz (by decide) ?_
                refine At.enter rfl ?_
                refine r_ift (by decide) ?_
                refine At.enter rfl ?_
                refine r_iload_n rfl ?_
                refine r_ifs 78 rfl (fun c364 => ?_) (fun c364 => ?_)
                · have c364_ : a2.toInt ≠ 0 := en_k_ne_t c364
                  refine At.enter rfl ?_
                  refine r_iload_n rfl ?_
                  refine r_iconst 1 rfl ?_
                  refine r_ics 93 rfl (fun c365 => ?_) (fun c365 => ?_)
                  · have c365_ : a2.toInt ≠ 1 := en_i_ne_t c365
                    refine At.enter rfl ?_
                    refine r_aload_n rfl ?_
                    refine q_getR (Sh.ref hI0.1 kx_0 rfl) ?_
                    refine q_getR (Sh.ref hI0.1 kx_1 rfl) ?_
                    refine Ar.fall 110 rfl ?_
                    refine At.enter rfl ?_
                    refine r_astore ([(5, .ref 4), (4, .int 1), (0, .ref 0), (1, .int a1), (2, .int a2), (3, .int a3)]) rfl ?_
                    refine r_aload rfl ?_
                    refine r_iload_n rfl ?_
                    obtain ⟨v366, hv366⟩ : ∃ v, eA g0 4 a1.toInt = v := ⟨_, rfl⟩
                    refine q_iald (Sh.arr hI0.1 ka_4) a1.toInt rfl (by omega) v366 hv366 ?_
                    refine r_istore ([(6, .int v366), (5, .ref 4), (4, .int 1), (0, .ref 0), (1, .int a1), (2, .int a2), (3, .int a3)]) rfl ?_
                    refine r_aload rfl ?_
                    refine r_iload_n rfl ?_
                    refine r_iload_n rfl ?_
                    refine q_iast (Sh.arr hI0.1 ka_4) (a1.toInt) rfl (by omega) ?_
                    have hI367 := HI.wA0 hI0 ka_4 (p := 4) rfl rfl (a1.toInt) (a3)
                    have hF368 := Fr.wA (p := 4) (j := a1.toInt) (v := a3) hF0 rfl
                    refine r_aload_n rfl ?_
                    refine r_callV 127 rfl [.ref 0] [] (Nat.le_of_ble_eq_true rfl) rfl (T_X10_changed_0 _ hI367) ?_
                    rintro _ _ ⟨g369, rfl, hI370, hF371, rfl⟩
                    refine At.stn ?_
                    have hF374 := Fr.tr hF368 hF371 rfl rfl
                    refine At.enter rfl ?_
                    refine r_aload_n rfl ?_
                    refine r_iload rfl ?_
                    refine q_inlV 133 rfl [.ref 0, .int v366] [] (Nat.le_of_ble_eq_true rfl) rfl ?_
                    refine Ev.mk rfl rfl ⟨Nat.le_of_ble_eq_true rfl, Or.inr (q_rc hI370.1 kx_0 rfl)⟩ ?_
                    show At _ none _ _ (0, [(0, .ref 0), (1, .int v366)], [], (_, _)) _
                    refine At.enter rfl ?_
                    refine r_aload_n rfl ?_
                    refine r_iconst 0 rfl ?_
                    refine q_putI (Sh.int hI370.1 kx_0 rfl) rfl ?_
                    have hI375 := HI.wI0 hI370 kx_0 rfl (p := 0) (b := 17) (v := 0) rfl
                    have hF376 := Fr.wI (p := 0) (b := 17) (v := 0) hF374 rfl
                    refine r_iload_n rfl ?_
                    refine q_ireti ?_
                    refine At.enter rfl ?_
                    refine r_ireti ?_
                    exact ⟨_, rfl, hI375, hF376, _, rfl, trivial⟩
                  · have c365_ : a2.toInt = 1 := en_i_ne_f c365
                    exfalso; omega
                · have c364_ : a2.toInt = 0 := en_k_ne_f c364
                  exfalso; omega
    · have c320_ : a2.toInt = 1 := en_i_ne_f c320
      refine At.enter rfl ?_
      refine r_iload_n rfl ?_
      refine q_inlS 23 rfl [.int a3] [] (Nat.le_of_ble_eq_true rfl) rfl ?_
      refine Ev.mk rfl rfl ⟨Nat.le_of_ble_eq_true rfl, Or.inl rfl⟩ ?_
      show At _ none _ _ (0, [(0, .int a3)], [], (_, _)) _
      refine At.enter rfl ?_
      refine r_iload_n rfl ?_
      refine r_iconst 1 rfl ?_
      refine r_bipush 9 rfl ?_
      refine q_inlS 7 rfl [.int a3, .int 1, .int 9] [] (Nat.le_of_ble_eq_true rfl) rfl ?_
      refine Ev.mk rfl rfl ⟨Nat.le_of_ble_eq_true rfl, Or.inl rfl⟩ ?_
      show At _ none _ _ (0, [(0, .int a3), (1, .int 1), (2, .int 9)], [], (_, _)) _
      refine At.enter rfl ?_
      refine r_iload_n rfl ?_
      refine r_iload_n rfl ?_
      refine r_ics 5 rfl (fun c377 => ?_) (fun c377 => ?_)
      · have c377_ : a3.toInt < 1 := en_i_lt_t c377
        refine At.enter rfl ?_
        refine r_iconst 0 rfl ?_
        refine Ar.fall 15 rfl ?_
        refine At.enter rfl ?_
        refine q_iretz (by decide) ?_
        refine At.enter rfl ?_
        refine q_iretz (by decide) ?_
        refine At.enter rfl ?_
        refine r_iff 26 rfl (by decide) ?_
        refine At.enter rfl ?_
        refine r_iload_n rfl ?_
        refine r_iconst 2 rfl ?_
        refine r_ics 31 rfl (fun c378 => ?_) (fun c378 => ?_)
        · have c378_ : a2.toInt ≠ 2 := en_i_ne_t c378
          refine At.enter rfl ?_
          refine r_iconst 0 rfl ?_
          refine Ar.fall 43 rfl ?_
          refine At.enter rfl ?_
          refine r_istore ([(4, .int 0), (0, .ref 0), (1, .int a1), (2, .int a2), (3, .int a3)]) rfl ?_
          refine r_iload rfl ?_
          refine r_iff 50 rfl (by decide) ?_
          refine At.enter rfl ?_
          refine r_aload_n rfl ?_
          refine r_iconst (-1) rfl ?_
          refine r_callV 55 rfl [.ref 0, .int (-1)] [] (Nat.le_of_ble_eq_true rfl) rfl (T_X10_refused_0 _ hI0 (-1) (by decide)) ?_
          rintro _ _ ⟨g379, rfl, hI380, hF381, v382, rfl, hr383⟩
          refine At.sti ?_
          have hF384 := Fr.tr hF0 hF381 rfl rfl
          have zv385 : ((-1) : Int32).toInt = (-1) := rfl
          refine At.enter rfl ?_
          refine r_ireti ?_
          exact ⟨_, rfl, hI380, hF384, _, rfl, trivial⟩
        · have c378_ : a2.toInt = 2 := en_i_ne_f c378
          exfalso; omega
      · have c377_ : a3.toInt ≥ 1 := en_i_lt_f c377
        refine At.enter rfl ?_
        refine r_iload_n rfl ?_
        refine r_iload_n rfl ?_
        refine r_ics 10 rfl (fun c386 => ?_) (fun c386 => ?_)
        · have c386_ : a3.toInt > 9 := en_i_gt_t c386
          refine At.enter rfl ?_
          refine r_iconst 0 rfl ?_
          refine Ar.fall 15 rfl ?_
          refine At.enter rfl ?_
          refine q_iretz (by decide) ?_
          refine At.enter rfl ?_
          refine q_iretz (by decide) ?_
          refine At.enter rfl ?_
          refine r_iff 26 rfl (by decide) ?_
          refine At.enter rfl ?_
          refine r_iload_n rfl ?_
          refine r_iconst 2 rfl ?_
          refine r_ics 31 rfl (fun c387 => ?_) (fun c387 => ?_)
          · have c387_ : a2.toInt ≠ 2 := en_i_ne_t c387
            refine At.enter rfl ?_
            refine r_iconst 0 rfl ?_
            refine Ar.fall 43 rfl ?_
            refine At.enter rfl ?_
            refine r_istore ([(4, .int 0), (0, .ref 0), (1, .int a1), (2, .int a2), (3, .int a3)]) rfl ?_
            refine r_iload rfl ?_
            refine r_iff 50 rfl (by decide) ?_
            refine At.enter rfl ?_
            refine r_aload_n rfl ?_
            refine r_iconst (-1) rfl ?_
            refine r_callV 55 rfl [.ref 0, .int (-1)] [] (Nat.le_of_ble_eq_true rfl) rfl (T_X10_refused_0 _ hI0 (-1) (by decide)) ?_
            rintro _ _ ⟨g388, rfl, hI389, hF390, v391, rfl, hr392⟩
            refine At.sti ?_
            have hF393 := Fr.tr hF0 hF390 rfl rfl
            have zv394 : ((-1) : Int32).toInt = (-1) := rfl
            refine At.enter rfl ?_
            refine r_ireti ?_
            exact ⟨_, rfl, hI389, hF393, _, rfl, trivial⟩
          · have c387_ : a2.toInt = 2 := en_i_ne_f c387
            exfalso; omega
        · have c386_ : a3.toInt ≤ 9 := en_i_gt_f c386
          refine At.enter rfl ?_
          refine r_iconst 1 rfl ?_
          refine r_goto ?_
          refine At.enter rfl ?_
          refine q_iretz (by decide) ?_
          refine At.enter rfl ?_
          refine q_iretz (by decide) ?_
          refine At.enter rfl ?_
          refine r_ift (by decide) ?_
          refine At.enter rfl ?_
          refine r_iconst 1 rfl ?_
          refine r_goto ?_
          refine At.enter rfl ?_
          refine r_istore ([(4, .int 1), (0, .ref 0), (1, .int a1), (2, .int a2), (3, .int a3)]) rfl ?_
          refine r_iload rfl ?_
          refine r_ift (by decide) ?_
          refine At.enter rfl ?_
          refine r_aload_n rfl ?_
          refine q_getR (Sh.ref hI0.1 kx_0 rfl) ?_
          refine r_iload_n rfl ?_
          refine q_inlV 64 rfl [.ref 1, .int a1] [] (Nat.le_of_ble_eq_true rfl) rfl ?_
          refine Ev.mk rfl rfl ⟨Nat.le_of_ble_eq_true rfl, Or.inr (q_rc hI0.1 kx_1 rfl)⟩ ?_
          show At _ none _ _ (0, [(0, .ref 1), (1, .int a1)], [], (_, _)) _
          refine At.enter rfl ?_
          refine r_iload_n rfl ?_
          refine r_ifs 4 rfl (fun c395 => ?_) (fun c395 => ?_)
          · have c395_ : a1.toInt < 0 := en_k_lt_t c395
            refine At.enter rfl ?_
            refine r_iconst 0 rfl ?_
            refine Ar.fall 17 rfl ?_
            refine At.enter rfl ?_
            refine q_iretz (by decide) ?_
            refine At.enter rfl ?_
            refine r_iff 67 rfl (by decide) ?_
            refine At.enter rfl ?_
            refine r_aload_n rfl ?_
            refine r_bipush (-2) rfl ?_
            refine r_callV 73 rfl [.ref 0, .int (-2)] [] (Nat.le_of_ble_eq_true rfl) rfl (T_X10_refused_0 _ hI0 (-2) (by decide)) ?_
            rintro _ _ ⟨g396, rfl, hI397, hF398, v399, rfl, hr400⟩
            refine At.sti ?_
            have hF401 := Fr.tr hF0 hF398 rfl rfl
            have zv402 : ((-2) : Int32).toInt = (-2) := rfl
            refine At.enter rfl ?_
            refine r_ireti ?_
            exact ⟨_, rfl, hI397, hF401, _, rfl, trivial⟩
          · have c395_ : a1.toInt ≥ 0 := en_k_lt_f c395
            refine At.enter rfl ?_
            refine r_iload_n rfl ?_
            refine r_aload_n rfl ?_
            obtain ⟨v403, hv403⟩ : ∃ v, gI g0 1 0 = v := ⟨_, rfl⟩
            have rv403 := RgF.at hI0.2.1 (p := 1) (b := 0) rfl
            rw [hv403] at rv403
            dsimp only at rv403
            refine q_getI (Sh.int hI0.1 kx_1 rfl) v403 hv403 ?_
            have bv405 := q_bnd a1
            have bv406 := q_bnd v403
            refine r_ics 12 rfl (fun c404 => ?_) (fun c404 => ?_)
            · have c404_ : a1.toInt ≥ v403.toInt := en_i_ge_t c404
              refine At.enter rfl ?_
              refine r_iconst 0 rfl ?_
              refine Ar.fall 17 rfl ?_
              refine At.enter rfl ?_
              refine q_iretz (by decide) ?_
              refine At.enter rfl ?_
              refine r_iff 67 rfl (by decide) ?_
              refine At.enter rfl ?_
              refine r_aload_n rfl ?_
              refine r_bipush (-2) rfl ?_
              refine r_callV 73 rfl [.ref 0, .int (-2)] [] (Nat.le_of_ble_eq_true rfl) rfl (T_X10_refused_0 _ hI0 (-2) (by decide)) ?_
              rintro _ _ ⟨g407, rfl, hI408, hF409, v410, rfl, hr411⟩
              refine At.sti ?_
              have hF412 := Fr.tr hF0 hF409 rfl rfl
              have zv413 : ((-2) : Int32).toInt = (-2) := rfl
              refine At.enter rfl ?_
              refine r_ireti ?_
              exact ⟨_, rfl, hI408, hF412, _, rfl, trivial⟩
            · have c404_ : a1.toInt < v403.toInt := en_i_ge_f c404
              refine At.enter rfl ?_
              refine r_iconst 1 rfl ?_
              refine r_goto ?_
              refine At.enter rfl ?_
              refine q_iretz (by decide) ?_
              refine At.enter rfl ?_
              refine r_ift (by decide) ?_
              refine At.enter rfl ?_
              refine r_iload_n rfl ?_
              refine r_ifs 78 rfl (fun c414 => ?_) (fun c414 => ?_)
              · have c414_ : a2.toInt ≠ 0 := en_k_ne_t c414
                refine At.enter rfl ?_
                refine r_iload_n rfl ?_
                refine r_iconst 1 rfl ?_
                refine r_ics 93 rfl (fun c415 => ?_) (fun c415 => ?_)
                · have c415_ : a2.toInt ≠ 1 := en_i_ne_t c415
                  exfalso; omega
                · have c415_ : a2.toInt = 1 := en_i_ne_f c415
                  refine At.enter rfl ?_
                  refine r_aload_n rfl ?_
                  refine q_getR (Sh.ref hI0.1 kx_0 rfl) ?_
                  refine q_getR (Sh.ref hI0.1 kx_1 rfl) ?_
                  refine r_goto ?_
                  refine At.enter rfl ?_
                  refine r_astore ([(5, .ref 3), (4, .int 1), (0, .ref 0), (1, .int a1), (2, .int a2), (3, .int a3)]) rfl ?_
                  refine r_aload rfl ?_
                  refine r_iload_n rfl ?_
                  obtain ⟨v416, hv416⟩ : ∃ v, eA g0 3 a1.toInt = v := ⟨_, rfl⟩
                  refine q_iald (Sh.arr hI0.1 ka_3) a1.toInt rfl (by omega) v416 hv416 ?_
                  refine r_istore ([(6, .int v416), (5, .ref 3), (4, .int 1), (0, .ref 0), (1, .int a1), (2, .int a2), (3, .int a3)]) rfl ?_
                  refine r_aload rfl ?_
                  refine r_iload_n rfl ?_
                  refine r_iload_n rfl ?_
                  refine q_iast (Sh.arr hI0.1 ka_3) (a1.toInt) rfl (by omega) ?_
                  have hI417 := HI.wA0 hI0 ka_3 (p := 3) rfl rfl (a1.toInt) (a3)
                  have hF418 := Fr.wA (p := 3) (j := a1.toInt) (v := a3) hF0 rfl
                  refine r_aload_n rfl ?_
                  refine r_callV 127 rfl [.ref 0] [] (Nat.le_of_ble_eq_true rfl) rfl (T_X10_changed_0 _ hI417) ?_
                  rintro _ _ ⟨g419, rfl, hI420, hF421, rfl⟩
                  refine At.stn ?_
                  have hF424 := Fr.tr hF418 hF421 rfl rfl
                  refine At.enter rfl ?_
                  refine r_aload_n rfl ?_
                  refine r_iload rfl ?_
                  refine q_inlV 133 rfl [.ref 0, .int v416] [] (Nat.le_of_ble_eq_true rfl) rfl ?_
                  refine Ev.mk rfl rfl ⟨Nat.le_of_ble_eq_true rfl, Or.inr (q_rc hI420.1 kx_0 rfl)⟩ ?_
                  show At _ none _ _ (0, [(0, .ref 0), (1, .int v416)], [], (_, _)) _
                  refine At.enter rfl ?_
                  refine r_aload_n rfl ?_
                  refine r_iconst 0 rfl ?_
                  refine q_putI (Sh.int hI420.1 kx_0 rfl) rfl ?_
                  have hI425 := HI.wI0 hI420 kx_0 rfl (p := 0) (b := 17) (v := 0) rfl
                  have hF426 := Fr.wI (p := 0) (b := 17) (v := 0) hF424 rfl
                  refine r_iload_n rfl ?_
                  refine q_ireti ?_
                  refine At.enter rfl ?_
                  refine r_ireti ?_
                  exact ⟨_, rfl, hI425, hF426, _, rfl, trivial⟩
              · have c414_ : a2.toInt = 0 := en_k_ne_f c414
                exfalso; omega
  · have c319_ : a2.toInt = 0 := en_k_ne_f c319
    refine At.enter rfl ?_
    refine r_iload_n rfl ?_
    refine r_iconst (-1) rfl ?_
    refine r_bipush 11 rfl ?_
    refine q_inlS 11 rfl [.int a3, .int (-1), .int 11] [] (Nat.le_of_ble_eq_true rfl) rfl ?_
    refine Ev.mk rfl rfl ⟨Nat.le_of_ble_eq_true rfl, Or.inl rfl⟩ ?_
    show At _ none _ _ (0, [(0, .int a3), (1, .int (-1)), (2, .int 11)], [], (_, _)) _
    refine At.enter rfl ?_
    refine r_iload_n rfl ?_
    refine r_iload_n rfl ?_
    refine r_ics 5 rfl (fun c427 => ?_) (fun c427 => ?_)
    · have c427_ : a3.toInt < (-1) := en_i_lt_t c427
      refine At.enter rfl ?_
      refine r_iconst 0 rfl ?_
      refine Ar.fall 15 rfl ?_
      refine At.enter rfl ?_
      refine q_iretz (by decide) ?_
      refine At.enter rfl ?_
      refine r_iff 14 rfl (by decide) ?_
      refine At.enter rfl ?_
      refine r_iload_n rfl ?_
      refine r_iconst 1 rfl ?_
      refine r_ics 19 rfl (fun c428 => ?_) (fun c428 => ?_)
      · have c428_ : a2.toInt ≠ 1 := en_i_ne_t c428
        refine At.enter rfl ?_
        refine r_iload_n rfl ?_
        refine r_iconst 2 rfl ?_
        refine r_ics 31 rfl (fun c429 => ?_) (fun c429 => ?_)
        · have c429_ : a2.toInt ≠ 2 := en_i_ne_t c429
          refine At.enter rfl ?_
          refine r_iconst 0 rfl ?_
          refine Ar.fall 43 rfl ?_
          refine At.enter rfl ?_
          refine r_istore ([(4, .int 0), (0, .ref 0), (1, .int a1), (2, .int a2), (3, .int a3)]) rfl ?_
          refine r_iload rfl ?_
          refine r_iff 50 rfl (by decide) ?_
          refine At.enter rfl ?_
          refine r_aload_n rfl ?_
          refine r_iconst (-1) rfl ?_
          refine r_callV 55 rfl [.ref 0, .int (-1)] [] (Nat.le_of_ble_eq_true rfl) rfl (T_X10_refused_0 _ hI0 (-1) (by decide)) ?_
          rintro _ _ ⟨g430, rfl, hI431, hF432, v433, rfl, hr434⟩
          refine At.sti ?_
          have hF435 := Fr.tr hF0 hF432 rfl rfl
          have zv436 : ((-1) : Int32).toInt = (-1) := rfl
          refine At.enter rfl ?_
          refine r_ireti ?_
          exact ⟨_, rfl, hI431, hF435, _, rfl, trivial⟩
        · have c429_ : a2.toInt = 2 := en_i_ne_f c429
          exfalso; omega
      · have c428_ : a2.toInt = 1 := en_i_ne_f c428
        exfalso; omega
    · have c427_ : a3.toInt ≥ (-1) := en_i_lt_f c427
      refine At.enter rfl ?_
      refine r_iload_n rfl ?_
      refine r_iload_n rfl ?_
      refine r_ics 10 rfl (fun c437 => ?_) (fun c437 => ?_)
      · have c437_ : a3.toInt > 11 := en_i_gt_t c437
        refine At.enter rfl ?_
        refine r_iconst 0 rfl ?_
        refine Ar.fall 15 rfl ?_
        refine At.enter rfl ?_
        refine q_iretz (by decide) ?_
        refine At.enter rfl ?_
        refine r_iff 14 rfl (by decide) ?_
        refine At.enter rfl ?_
        refine r_iload_n rfl ?_
        refine r_iconst 1 rfl ?_
        refine r_ics 19 rfl (fun c438 => ?_) (fun c438 => ?_)
        · have c438_ : a2.toInt ≠ 1 := en_i_ne_t c438
          refine At.enter rfl ?_
          refine r_iload_n rfl ?_
          refine r_iconst 2 rfl ?_
          refine r_ics 31 rfl (fun c439 => ?_) (fun c439 => ?_)
          · have c439_ : a2.toInt ≠ 2 := en_i_ne_t c439
            refine At.enter rfl ?_
            refine r_iconst 0 rfl ?_
            refine Ar.fall 43 rfl ?_
            refine At.enter rfl ?_
            refine r_istore ([(4, .int 0), (0, .ref 0), (1, .int a1), (2, .int a2), (3, .int a3)]) rfl ?_
            refine r_iload rfl ?_
            refine r_iff 50 rfl (by decide) ?_
            refine At.enter rfl ?_
            refine r_aload_n rfl ?_
            refine r_iconst (-1) rfl ?_
            refine r_callV 55 rfl [.ref 0, .int (-1)] [] (Nat.le_of_ble_eq_true rfl) rfl (T_X10_refused_0 _ hI0 (-1) (by decide)) ?_
            rintro _ _ ⟨g440, rfl, hI441, hF442, v443, rfl, hr444⟩
            refine At.sti ?_
            have hF445 := Fr.tr hF0 hF442 rfl rfl
            have zv446 : ((-1) : Int32).toInt = (-1) := rfl
            refine At.enter rfl ?_
            refine r_ireti ?_
            exact ⟨_, rfl, hI441, hF445, _, rfl, trivial⟩
          · have c439_ : a2.toInt = 2 := en_i_ne_f c439
            exfalso; omega
        · have c438_ : a2.toInt = 1 := en_i_ne_f c438
          exfalso; omega
      · have c437_ : a3.toInt ≤ 11 := en_i_gt_f c437
        refine At.enter rfl ?_
        refine r_iconst 1 rfl ?_
        refine r_goto ?_
        refine At.enter rfl ?_
        refine q_iretz (by decide) ?_
        refine At.enter rfl ?_
        refine r_ift (by decide) ?_
        refine At.enter rfl ?_
        refine r_iconst 1 rfl ?_
        refine r_goto ?_
        refine At.enter rfl ?_
        refine r_istore ([(4, .int 1), (0, .ref 0), (1, .int a1), (2, .int a2), (3, .int a3)]) rfl ?_
        refine r_iload rfl ?_
        refine r_ift (by decide) ?_
        refine At.enter rfl ?_
        refine r_aload_n rfl ?_
        refine q_getR (Sh.ref hI0.1 kx_0 rfl) ?_
        refine r_iload_n rfl ?_
        refine q_inlV 64 rfl [.ref 1, .int a1] [] (Nat.le_of_ble_eq_true rfl) rfl ?_
        refine Ev.mk rfl rfl ⟨Nat.le_of_ble_eq_true rfl, Or.inr (q_rc hI0.1 kx_1 rfl)⟩ ?_
        show At _ none _ _ (0, [(0, .ref 1), (1, .int a1)], [], (_, _)) _
        refine At.enter rfl ?_
        refine r_iload_n rfl ?_
        refine r_ifs 4 rfl (fun c447 => ?_) (fun c447 => ?_)
        · have c447_ : a1.toInt < 0 := en_k_lt_t c447
          refine At.enter rfl ?_
          refine r_iconst 0 rfl ?_
          refine Ar.fall 17 rfl ?_
          refine At.enter rfl ?_
          refine q_iretz (by decide) ?_
          refine At.enter rfl ?_
          refine r_iff 67 rfl (by decide) ?_
          refine At.enter rfl ?_
          refine r_aload_n rfl ?_
          refine r_bipush (-2) rfl ?_
          refine r_callV 73 rfl [.ref 0, .int (-2)] [] (Nat.le_of_ble_eq_true rfl) rfl (T_X10_refused_0 _ hI0 (-2) (by decide)) ?_
          rintro _ _ ⟨g448, rfl, hI449, hF450, v451, rfl, hr452⟩
          refine At.sti ?_
          have hF453 := Fr.tr hF0 hF450 rfl rfl
          have zv454 : ((-2) : Int32).toInt = (-2) := rfl
          refine At.enter rfl ?_
          refine r_ireti ?_
          exact ⟨_, rfl, hI449, hF453, _, rfl, trivial⟩
        · have c447_ : a1.toInt ≥ 0 := en_k_lt_f c447
          refine At.enter rfl ?_
          refine r_iload_n rfl ?_
          refine r_aload_n rfl ?_
          obtain ⟨v455, hv455⟩ : ∃ v, gI g0 1 0 = v := ⟨_, rfl⟩
          have rv455 := RgF.at hI0.2.1 (p := 1) (b := 0) rfl
          rw [hv455] at rv455
          dsimp only at rv455
          refine q_getI (Sh.int hI0.1 kx_1 rfl) v455 hv455 ?_
          have bv457 := q_bnd a1
          have bv458 := q_bnd v455
          refine r_ics 12 rfl (fun c456 => ?_) (fun c456 => ?_)
          · have c456_ : a1.toInt ≥ v455.toInt := en_i_ge_t c456
            refine At.enter rfl ?_
            refine r_iconst 0 rfl ?_
            refine Ar.fall 17 rfl ?_
            refine At.enter rfl ?_
            refine q_iretz (by decide) ?_
            refine At.enter rfl ?_
            refine r_iff 67 rfl (by decide) ?_
            refine At.enter rfl ?_
            refine r_aload_n rfl ?_
            refine r_bipush (-2) rfl ?_
            refine r_callV 73 rfl [.ref 0, .int (-2)] [] (Nat.le_of_ble_eq_true rfl) rfl (T_X10_refused_0 _ hI0 (-2) (by decide)) ?_
            rintro _ _ ⟨g459, rfl, hI460, hF461, v462, rfl, hr463⟩
            refine At.sti ?_
            have hF464 := Fr.tr hF0 hF461 rfl rfl
            have zv465 : ((-2) : Int32).toInt = (-2) := rfl
            refine At.enter rfl ?_
            refine r_ireti ?_
            exact ⟨_, rfl, hI460, hF464, _, rfl, trivial⟩
          · have c456_ : a1.toInt < v455.toInt := en_i_ge_f c456
            refine At.enter rfl ?_
            refine r_iconst 1 rfl ?_
            refine r_goto ?_
            refine At.enter rfl ?_
            refine q_iretz (by decide) ?_
            refine At.enter rfl ?_
            refine r_ift (by decide) ?_
            refine At.enter rfl ?_
            refine r_iload_n rfl ?_
            refine r_ifs 78 rfl (fun c466 => ?_) (fun c466 => ?_)
            · have c466_ : a2.toInt ≠ 0 := en_k_ne_t c466
              exfalso; omega
            · have c466_ : a2.toInt = 0 := en_k_ne_f c466
              refine At.enter rfl ?_
              refine r_aload_n rfl ?_
              refine q_getR (Sh.ref hI0.1 kx_0 rfl) ?_
              refine q_getR (Sh.ref hI0.1 kx_1 rfl) ?_
              refine r_goto ?_
              refine At.enter rfl ?_
              refine r_astore ([(5, .ref 2), (4, .int 1), (0, .ref 0), (1, .int a1), (2, .int a2), (3, .int a3)]) rfl ?_
              refine r_aload rfl ?_
              refine r_iload_n rfl ?_
              obtain ⟨v467, hv467⟩ : ∃ v, eA g0 2 a1.toInt = v := ⟨_, rfl⟩
              refine q_iald (Sh.arr hI0.1 ka_2) a1.toInt rfl (by omega) v467 hv467 ?_
              refine r_istore ([(6, .int v467), (5, .ref 2), (4, .int 1), (0, .ref 0), (1, .int a1), (2, .int a2), (3, .int a3)]) rfl ?_
              refine r_aload rfl ?_
              refine r_iload_n rfl ?_
              refine r_iload_n rfl ?_
              refine q_iast (Sh.arr hI0.1 ka_2) (a1.toInt) rfl (by omega) ?_
              have hI468 := HI.wA0 hI0 ka_2 (p := 2) rfl rfl (a1.toInt) (a3)
              have hF469 := Fr.wA (p := 2) (j := a1.toInt) (v := a3) hF0 rfl
              refine r_aload_n rfl ?_
              refine r_callV 127 rfl [.ref 0] [] (Nat.le_of_ble_eq_true rfl) rfl (T_X10_changed_0 _ hI468) ?_
              rintro _ _ ⟨g470, rfl, hI471, hF472, rfl⟩
              refine At.stn ?_
              have hF475 := Fr.tr hF469 hF472 rfl rfl
              refine At.enter rfl ?_
              refine r_aload_n rfl ?_
              refine r_iload rfl ?_
              refine q_inlV 133 rfl [.ref 0, .int v467] [] (Nat.le_of_ble_eq_true rfl) rfl ?_
              refine Ev.mk rfl rfl ⟨Nat.le_of_ble_eq_true rfl, Or.inr (q_rc hI471.1 kx_0 rfl)⟩ ?_
              show At _ none _ _ (0, [(0, .ref 0), (1, .int v467)], [], (_, _)) _
              refine At.enter rfl ?_
              refine r_aload_n rfl ?_
              refine r_iconst 0 rfl ?_
              refine q_putI (Sh.int hI471.1 kx_0 rfl) rfl ?_
              have hI476 := HI.wI0 hI471 kx_0 rfl (p := 0) (b := 17) (v := 0) rfl
              have hF477 := Fr.wI (p := 0) (b := 17) (v := 0) hF475 rfl
              refine r_iload_n rfl ?_
              refine q_ireti ?_
              refine At.enter rfl ?_
              refine r_ireti ?_
              exact ⟨_, rfl, hI476, hF477, _, rfl, trivial⟩

def F_X10_of_0 : List (Nat × Nat) := []
def A_X10_of_0 : List Nat := []
set_option maxRecDepth 100000 in
set_option maxHeartbeats 4000000 in
theorem T_X10_of_0 (d : Nat) {N : Nat} {g0 : List en_E} (hI0 : HI g0) (a1 : Int32) (a2 : Int32) : Ev (d + 3) 106 [.ref 0, .int a1, .int a2] (g0, N) (fun w h' => ∃ g', h' = (g', N) ∧ HI g' ∧ Fr F_X10_of_0 A_X10_of_0 g0 g' ∧ ∃ r : Int32, w = some (.int r) ∧ True) := by
  have hF0 : Fr F_X10_of_0 A_X10_of_0 g0 g0 := Fr.rf
  refine Ev.mk rfl rfl ⟨Nat.le_of_ble_eq_true rfl, Or.inr (q_rc hI0.1 kx_0 rfl)⟩ ?_
  show At _ none _ _ (0, [(0, .ref 0), (1, .int a1), (2, .int a2)], [], (_, _)) _
  refine At.enter rfl ?_
  refine r_aload_n rfl ?_
  refine q_getR (Sh.ref hI0.1 kx_0 rfl) ?_
  refine r_iload_n rfl ?_
  refine q_inlV 8 rfl [.ref 1, .int a1] [] (Nat.le_of_ble_eq_true rfl) rfl ?_
  refine Ev.mk rfl rfl ⟨Nat.le_of_ble_eq_true rfl, Or.inr (q_rc hI0.1 kx_1 rfl)⟩ ?_
  show At _ none _ _ (0, [(0, .ref 1), (1, .int a1)], [], (_, _)) _
  refine At.enter rfl ?_
  refine r_iload_n rfl ?_
  refine r_ifs 4 rfl (fun c33 => ?_) (fun c33 => ?_)
  · have c33_ : a1.toInt < 0 := en_k_lt_t c33
    refine At.enter rfl ?_
    refine r_iconst 0 rfl ?_
    refine Ar.fall 17 rfl ?_
    refine At.enter rfl ?_
    refine q_iretz (by decide) ?_
    refine At.enter rfl ?_
    refine r_iff 11 rfl (by decide) ?_
    refine At.enter rfl ?_
    refine r_iconst (-1) rfl ?_
    refine r_ireti ?_
    exact ⟨_, rfl, hI0, hF0, _, rfl, trivial⟩
  · have c33_ : a1.toInt ≥ 0 := en_k_lt_f c33
    refine At.enter rfl ?_
    refine r_iload_n rfl ?_
    refine r_aload_n rfl ?_
    obtain ⟨v34, hv34⟩ : ∃ v, gI g0 1 0 = v := ⟨_, rfl⟩
    have rv34 := RgF.at hI0.2.1 (p := 1) (b := 0) rfl
    rw [hv34] at rv34
    dsimp only at rv34
    refine q_getI (Sh.int hI0.1 kx_1 rfl) v34 hv34 ?_
    have bv36 := q_bnd a1
    have bv37 := q_bnd v34
    refine r_ics 12 rfl (fun c35 => ?_) (fun c35 => ?_)
    · have c35_ : a1.toInt ≥ v34.toInt := en_i_ge_t c35
      refine At.enter rfl ?_
      refine r_iconst 0 rfl ?_
      refine Ar.fall 17 rfl ?_
      refine At.enter rfl ?_
      refine q_iretz (by decide) ?_
      refine At.enter rfl ?_
      refine r_iff 11 rfl (by decide) ?_
      refine At.enter rfl ?_
      refine r_iconst (-1) rfl ?_
      refine r_ireti ?_
      exact ⟨_, rfl, hI0, hF0, _, rfl, trivial⟩
    · have c35_ : a1.toInt < v34.toInt := en_i_ge_f c35
      refine At.enter rfl ?_
      refine r_iconst 1 rfl ?_
      refine r_goto ?_
      refine At.enter rfl ?_
      refine q_iretz (by decide) ?_
      refine At.enter rfl ?_
      refine r_ift (by decide) ?_
      refine At.enter rfl ?_
      refine r_iload_n rfl ?_
      by_cases c38_0 : a2.toInt = 0
      · refine r_tsw 44 (by rw [c38_0]; rfl) ?_
        refine At.enter rfl ?_
        refine r_aload_n rfl ?_
        refine q_getR (Sh.ref hI0.1 kx_0 rfl) ?_
        refine q_getR (Sh.ref hI0.1 kx_1 rfl) ?_
        refine r_iload_n rfl ?_
        obtain ⟨v39, hv39⟩ : ∃ v, eA g0 2 a1.toInt = v := ⟨_, rfl⟩
        refine q_iald (Sh.arr hI0.1 ka_2) a1.toInt rfl (by omega) v39 hv39 ?_
        refine r_ireti ?_
        exact ⟨_, rfl, hI0, hF0, _, rfl, trivial⟩
      by_cases c38_1 : a2.toInt = 1
      · refine r_tsw 54 (by rw [c38_1]; rfl) ?_
        refine At.enter rfl ?_
        refine r_aload_n rfl ?_
        refine q_getR (Sh.ref hI0.1 kx_0 rfl) ?_
        refine q_getR (Sh.ref hI0.1 kx_1 rfl) ?_
        refine r_iload_n rfl ?_
        obtain ⟨v40, hv40⟩ : ∃ v, eA g0 3 a1.toInt = v := ⟨_, rfl⟩
        refine q_iald (Sh.arr hI0.1 ka_3) a1.toInt rfl (by omega) v40 hv40 ?_
        refine r_ireti ?_
        exact ⟨_, rfl, hI0, hF0, _, rfl, trivial⟩
      by_cases c38_2 : a2.toInt = 2
      · refine r_tsw 64 (by rw [c38_2]; rfl) ?_
        refine At.enter rfl ?_
        refine r_aload_n rfl ?_
        refine q_getR (Sh.ref hI0.1 kx_0 rfl) ?_
        refine q_getR (Sh.ref hI0.1 kx_1 rfl) ?_
        refine r_iload_n rfl ?_
        obtain ⟨v41, hv41⟩ : ∃ v, eA g0 4 a1.toInt = v := ⟨_, rfl⟩
        refine q_iald (Sh.arr hI0.1 ka_4) a1.toInt rfl (by omega) v41 hv41 ?_
        refine r_ireti ?_
        exact ⟨_, rfl, hI0, hF0, _, rfl, trivial⟩
      by_cases c38_3 : a2.toInt = 3
      · refine r_tsw 74 (by rw [c38_3]; rfl) ?_
        refine At.enter rfl ?_
        refine r_aload_n rfl ?_
        refine q_getR (Sh.ref hI0.1 kx_0 rfl) ?_
        refine r_iload_n rfl ?_
        refine r_callV 82 rfl [.ref 1, .int a1] [] (Nat.le_of_ble_eq_true rfl) rfl (T_X0_next_1 _ hI0 a1) ?_
        rintro _ _ ⟨g42, rfl, hI43, hF44, v45, rfl, hr46⟩
        refine At.sti ?_
        have hF47 := Fr.tr hF0 hF44 rfl rfl
        refine At.enter rfl ?_
        refine r_ireti ?_
        exact ⟨_, rfl, hI43, hF47, _, rfl, trivial⟩
      have c48 : a2.toInt < 0 ∨ 3 < a2.toInt := by omega
      refine r_tsw 83 (by unfold en_sw; rw [if_pos c48]; rfl) ?_
      refine At.enter rfl ?_
      refine r_iconst (-1) rfl ?_
      refine r_ireti ?_
      exact ⟨_, rfl, hI0, hF0, _, rfl, trivial⟩

def F_X10_load_0 : List (Nat × Nat) := [(0, 14), (0, 17), (1, 4), (220, 2), (222, 2), (223, 5), (223, 10)]
def A_X10_load_0 : List Nat := [5, 230]
set_option maxRecDepth 100000 in
set_option maxHeartbeats 4000000 in
theorem T_X10_load_0 (d : Nat) {N : Nat} {g0 : List en_E} (hI0 : HI g0) (a1 : Int32) (a2 : Int32) (a3 : Int32) (a4 : Int32) (a5 : Int32) (a6 : Int32) : Ev (d + 3) 107 [.ref 0, .int a1, .int a2, .int a3, .int a4, .int a5, .int a6] (g0, N) (fun w h' => ∃ g', h' = (g', N) ∧ HI g' ∧ Fr F_X10_load_0 A_X10_load_0 g0 g' ∧ ∃ r : Int32, w = some (.int r) ∧ ((-5) ≤ r.toInt ∧ r.toInt ≤ 7)) := by
  have hF0 : Fr F_X10_load_0 A_X10_load_0 g0 g0 := Fr.rf
  refine Ev.mk rfl rfl ⟨Nat.le_of_ble_eq_true rfl, Or.inr (q_rc hI0.1 kx_0 rfl)⟩ ?_
  show At _ none _ _ (0, [(0, .ref 0), (1, .int a1), (2, .int a2), (3, .int a3), (4, .int a4), (5, .int a5), (6, .int a6)], [], (_, _)) _
  refine At.enter rfl ?_
  refine r_aload_n rfl ?_
  refine r_iload_n rfl ?_
  refine r_iload_n rfl ?_
  refine r_iload_n rfl ?_
  refine r_iload rfl ?_
  refine r_iload rfl ?_
  refine r_iload rfl ?_
  refine r_callV 13 rfl [.ref 0, .int a1, .int a2, .int a3, .int a4, .int a5, .int a6] [] (Nat.le_of_ble_eq_true rfl) rfl (T_X10_whyNoLoad_0 _ hI0 a1 a2 a3 a4 a5 a6) ?_
  rintro _ _ ⟨g55, rfl, hI56, hF57, v58, rfl, hr59⟩
  refine At.sti ?_
  have hF60 := Fr.tr hF0 hF57 rfl rfl
  refine At.enter rfl ?_
  refine r_istore ([(7, .int v58), (0, .ref 0), (1, .int a1), (2, .int a2), (3, .int a3), (4, .int a4), (5, .int a5), (6, .int a6)]) rfl ?_
  refine r_iload rfl ?_
  refine r_ifs 20 rfl (fun c61 => ?_) (fun c61 => ?_)
  · have c61_ : v58.toInt = 0 := en_k_eq_t c61
    refine At.enter rfl ?_
    refine r_aload_n rfl ?_
    refine r_callV 31 rfl [.ref 0] [] (Nat.le_of_ble_eq_true rfl) rfl (T_X10_changed_0 _ hI56) ?_
    rintro _ _ ⟨g62, rfl, hI63, hF64, rfl⟩
    refine At.stn ?_
    have hF67 := Fr.tr hF60 hF64 rfl rfl
    refine At.enter rfl ?_
    refine r_aload_n rfl ?_
    refine r_aload_n rfl ?_
    refine q_getR (Sh.ref hI63.1 kx_0 rfl) ?_
    refine r_iload_n rfl ?_
    refine r_iload_n rfl ?_
    refine r_iload_n rfl ?_
    refine r_iload rfl ?_
    refine r_iload rfl ?_
    refine r_iload rfl ?_
    refine r_callV 48 rfl [.ref 1, .int a1, .int a2, .int a3, .int a4, .int a5, .int a6] [.ref 0] (Nat.le_of_ble_eq_true rfl) rfl (T_X0_addLoad_1 _ hI63 a1 a2 a3 a4 a5 a6) ?_
    rintro _ _ ⟨g68, rfl, hI69, hF70, v71, rfl, hr72⟩
    refine At.sti ?_
    have hF73 := Fr.tr hF67 hF70 rfl rfl
    refine At.enter rfl ?_
    refine q_inlV 51 rfl [.ref 0, .int v71] [] (Nat.le_of_ble_eq_true rfl) rfl ?_
    refine Ev.mk rfl rfl ⟨Nat.le_of_ble_eq_true rfl, Or.inr (q_rc hI69.1 kx_0 rfl)⟩ ?_
    show At _ none _ _ (0, [(0, .ref 0), (1, .int v71)], [], (_, _)) _
    refine At.enter rfl ?_
    refine r_aload_n rfl ?_
    refine r_iconst 0 rfl ?_
    refine q_putI (Sh.int hI69.1 kx_0 rfl) rfl ?_
    have hI74 := HI.wI0 hI69 kx_0 rfl (p := 0) (b := 17) (v := 0) rfl
    have hF75 := Fr.wI (p := 0) (b := 17) (v := 0) hF73 rfl
    refine r_iload_n rfl ?_
    refine q_ireti ?_
    refine At.enter rfl ?_
    refine r_ireti ?_
    exact ⟨_, rfl, hI74, hF75, _, rfl, by omega⟩
  · have c61_ : v58.toInt ≠ 0 := en_k_eq_f c61
    refine At.enter rfl ?_
    refine r_aload_n rfl ?_
    refine r_iload rfl ?_
    refine r_callV 26 rfl [.ref 0, .int v58] [] (Nat.le_of_ble_eq_true rfl) rfl (T_X10_refused_0 _ hI56 v58 (by omega)) ?_
    rintro _ _ ⟨g76, rfl, hI77, hF78, v79, rfl, hr80⟩
    refine At.sti ?_
    have hF81 := Fr.tr hF60 hF78 rfl rfl
    refine At.enter rfl ?_
    refine r_ireti ?_
    exact ⟨_, rfl, hI77, hF81, _, rfl, by omega⟩

def F_X10_fact_0 : List (Nat × Nat) := []
def A_X10_fact_0 : List Nat := []
set_option maxRecDepth 100000 in
set_option maxHeartbeats 4000000 in
theorem T_X10_fact_0 (d : Nat) {N : Nat} {g0 : List en_E} (hI0 : HI g0) (a1 : Int32) (a2 : Int32) : Ev (d + 2) 108 [.ref 0, .int a1, .int a2] (g0, N) (fun w h' => ∃ g', h' = (g', N) ∧ HI g' ∧ Fr F_X10_fact_0 A_X10_fact_0 g0 g' ∧ ∃ r : Int32, w = some (.int r) ∧ True) := by
  have hF0 : Fr F_X10_fact_0 A_X10_fact_0 g0 g0 := Fr.rf
  refine Ev.mk rfl rfl ⟨Nat.le_of_ble_eq_true rfl, Or.inr (q_rc hI0.1 kx_0 rfl)⟩ ?_
  show At _ none _ _ (0, [(0, .ref 0), (1, .int a1), (2, .int a2)], [], (_, _)) _
  refine At.enter rfl ?_
  refine r_aload_n rfl ?_
  refine q_getR (Sh.ref hI0.1 kx_0 rfl) ?_
  refine r_iload_n rfl ?_
  refine q_inlV 8 rfl [.ref 1, .int a1] [] (Nat.le_of_ble_eq_true rfl) rfl ?_
  refine Ev.mk rfl rfl ⟨Nat.le_of_ble_eq_true rfl, Or.inr (q_rc hI0.1 kx_1 rfl)⟩ ?_
  show At _ none _ _ (0, [(0, .ref 1), (1, .int a1)], [], (_, _)) _
  refine At.enter rfl ?_
  refine r_iload_n rfl ?_
  refine r_ifs 4 rfl (fun c27 => ?_) (fun c27 => ?_)
  · have c27_ : a1.toInt < 0 := en_k_lt_t c27
    refine At.enter rfl ?_
    refine r_iconst 0 rfl ?_
    refine Ar.fall 17 rfl ?_
    refine At.enter rfl ?_
    refine q_iretz (by decide) ?_
    refine At.enter rfl ?_
    refine r_ift (by decide) ?_
    refine At.enter rfl ?_
    refine r_iconst (-1) rfl ?_
    refine Ar.fall 33 rfl ?_
    refine At.enter rfl ?_
    refine r_ireti ?_
    exact ⟨_, rfl, hI0, hF0, _, rfl, trivial⟩
  · have c27_ : a1.toInt ≥ 0 := en_k_lt_f c27
    refine At.enter rfl ?_
    refine r_iload_n rfl ?_
    refine r_aload_n rfl ?_
    obtain ⟨v28, hv28⟩ : ∃ v, gI g0 1 4 = v := ⟨_, rfl⟩
    have rv28 := RgF.at hI0.2.1 (p := 1) (b := 4) rfl
    rw [hv28] at rv28
    dsimp only at rv28
    refine q_getI (Sh.int hI0.1 kx_1 rfl) v28 hv28 ?_
    have bv30 := q_bnd a1
    have bv31 := q_bnd v28
    refine r_ics 12 rfl (fun c29 => ?_) (fun c29 => ?_)
    · have c29_ : a1.toInt ≥ v28.toInt := en_i_ge_t c29
      refine At.enter rfl ?_
      refine r_iconst 0 rfl ?_
      refine Ar.fall 17 rfl ?_
      refine At.enter rfl ?_
      refine q_iretz (by decide) ?_
      refine At.enter rfl ?_
      refine r_ift (by decide) ?_
      refine At.enter rfl ?_
      refine r_iconst (-1) rfl ?_
      refine Ar.fall 33 rfl ?_
      refine At.enter rfl ?_
      refine r_ireti ?_
      exact ⟨_, rfl, hI0, hF0, _, rfl, trivial⟩
    · have c29_ : a1.toInt < v28.toInt := en_i_ge_f c29
      refine At.enter rfl ?_
      refine r_iconst 1 rfl ?_
      refine r_goto ?_
      refine At.enter rfl ?_
      refine q_iretz (by decide) ?_
      refine At.enter rfl ?_
      refine r_iff 11 rfl (by decide) ?_
      refine At.enter rfl ?_
      refine r_iload_n rfl ?_
      refine r_iconst 0 rfl ?_
      refine r_iconst 5 rfl ?_
      refine q_inlS 17 rfl [.int a2, .int 0, .int 5] [] (Nat.le_of_ble_eq_true rfl) rfl ?_
      refine Ev.mk rfl rfl ⟨Nat.le_of_ble_eq_true rfl, Or.inl rfl⟩ ?_
      show At _ none _ _ (0, [(0, .int a2), (1, .int 0), (2, .int 5)], [], (_, _)) _
      refine At.enter rfl ?_
      refine r_iload_n rfl ?_
      refine r_iload_n rfl ?_
      refine r_ics 5 rfl (fun c32 => ?_) (fun c32 => ?_)
      · have c32_ : a2.toInt < 0 := en_i_lt_t c32
        refine At.enter rfl ?_
        refine r_iconst 0 rfl ?_
        refine Ar.fall 15 rfl ?_
        refine At.enter rfl ?_
        refine q_iretz (by decide) ?_
        refine At.enter rfl ?_
        refine r_ift (by decide) ?_
        refine At.enter rfl ?_
        refine r_iconst (-1) rfl ?_
        refine Ar.fall 33 rfl ?_
        refine At.enter rfl ?_
        refine r_ireti ?_
        exact ⟨_, rfl, hI0, hF0, _, rfl, trivial⟩
      · have c32_ : a2.toInt ≥ 0 := en_i_lt_f c32
        refine At.enter rfl ?_
        refine r_iload_n rfl ?_
        refine r_iload_n rfl ?_
        refine r_ics 10 rfl (fun c33 => ?_) (fun c33 => ?_)
        · have c33_ : a2.toInt > 5 := en_i_gt_t c33
          refine At.enter rfl ?_
          refine r_iconst 0 rfl ?_
          refine Ar.fall 15 rfl ?_
          refine At.enter rfl ?_
          refine q_iretz (by decide) ?_
          refine At.enter rfl ?_
          refine r_ift (by decide) ?_
          refine At.enter rfl ?_
          refine r_iconst (-1) rfl ?_
          refine Ar.fall 33 rfl ?_
          refine At.enter rfl ?_
          refine r_ireti ?_
          exact ⟨_, rfl, hI0, hF0, _, rfl, trivial⟩
        · have c33_ : a2.toInt ≤ 5 := en_i_gt_f c33
          refine At.enter rfl ?_
          refine r_iconst 1 rfl ?_
          refine r_goto ?_
          refine At.enter rfl ?_
          refine q_iretz (by decide) ?_
          refine At.enter rfl ?_
          refine r_iff 20 rfl (by decide) ?_
          refine At.enter rfl ?_
          refine r_aload_n rfl ?_
          refine q_getR (Sh.ref hI0.1 kx_0 rfl) ?_
          refine r_iload_n rfl ?_
          refine r_iload_n rfl ?_
          refine r_callV 29 rfl [.ref 1, .int a1, .int a2] [] (Nat.le_of_ble_eq_true rfl) rfl (T_X0_about_1 _ hI0 a1 a2) ?_
          rintro _ _ ⟨g34, rfl, hI35, hF36, v37, rfl, hr38⟩
          refine At.sti ?_
          have hF39 := Fr.tr hF0 hF36 rfl rfl
          refine At.enter rfl ?_
          refine r_goto ?_
          refine At.enter rfl ?_
          refine r_ireti ?_
          exact ⟨_, rfl, hI35, hF39, _, rfl, trivial⟩

def F_X10_drop_0 : List (Nat × Nat) := [(0, 14), (0, 17), (1, 4), (220, 2), (222, 2), (223, 5), (223, 10)]
def A_X10_drop_0 : List Nat := [5, 230]
set_option maxRecDepth 100000 in
set_option maxHeartbeats 4000000 in
theorem T_X10_drop_0 (d : Nat) {N : Nat} {g0 : List en_E} (hI0 : HI g0) (a1 : Int32) : Ev (d + 3) 109 [.ref 0, .int a1] (g0, N) (fun w h' => ∃ g', h' = (g', N) ∧ HI g' ∧ Fr F_X10_drop_0 A_X10_drop_0 g0 g' ∧ ∃ r : Int32, w = some (.int r) ∧ ((-2) ≤ r.toInt ∧ r.toInt ≤ 8)) := by
  have hF0 : Fr F_X10_drop_0 A_X10_drop_0 g0 g0 := Fr.rf
  refine Ev.mk rfl rfl ⟨Nat.le_of_ble_eq_true rfl, Or.inr (q_rc hI0.1 kx_0 rfl)⟩ ?_
  show At _ none _ _ (0, [(0, .ref 0), (1, .int a1)], [], (_, _)) _
  refine At.enter rfl ?_
  refine r_aload_n rfl ?_
  refine q_getR (Sh.ref hI0.1 kx_0 rfl) ?_
  refine r_iload_n rfl ?_
  refine q_inlV 8 rfl [.ref 1, .int a1] [] (Nat.le_of_ble_eq_true rfl) rfl ?_
  refine Ev.mk rfl rfl ⟨Nat.le_of_ble_eq_true rfl, Or.inr (q_rc hI0.1 kx_1 rfl)⟩ ?_
  show At _ none _ _ (0, [(0, .ref 1), (1, .int a1)], [], (_, _)) _
  refine At.enter rfl ?_
  refine r_iload_n rfl ?_
  refine r_ifs 4 rfl (fun c69 => ?_) (fun c69 => ?_)
  · have c69_ : a1.toInt < 0 := en_k_lt_t c69
    refine At.enter rfl ?_
    refine r_iconst 0 rfl ?_
    refine Ar.fall 17 rfl ?_
    refine At.enter rfl ?_
    refine q_iretz (by decide) ?_
    refine At.enter rfl ?_
    refine r_iff 11 rfl (by decide) ?_
    refine At.enter rfl ?_
    refine r_aload_n rfl ?_
    refine r_bipush (-2) rfl ?_
    refine r_callV 17 rfl [.ref 0, .int (-2)] [] (Nat.le_of_ble_eq_true rfl) rfl (T_X10_refused_0 _ hI0 (-2) (by decide)) ?_
    rintro _ _ ⟨g70, rfl, hI71, hF72, v73, rfl, hr74⟩
    refine At.sti ?_
    have hF75 := Fr.tr hF0 hF72 rfl rfl
    have zv76 : ((-2) : Int32).toInt = (-2) := rfl
    refine At.enter rfl ?_
    refine r_ireti ?_
    exact ⟨_, rfl, hI71, hF75, _, rfl, by omega⟩
  · have c69_ : a1.toInt ≥ 0 := en_k_lt_f c69
    refine At.enter rfl ?_
    refine r_iload_n rfl ?_
    refine r_aload_n rfl ?_
    obtain ⟨v77, hv77⟩ : ∃ v, gI g0 1 4 = v := ⟨_, rfl⟩
    have rv77 := RgF.at hI0.2.1 (p := 1) (b := 4) rfl
    rw [hv77] at rv77
    dsimp only at rv77
    refine q_getI (Sh.int hI0.1 kx_1 rfl) v77 hv77 ?_
    have bv79 := q_bnd a1
    have bv80 := q_bnd v77
    refine r_ics 12 rfl (fun c78 => ?_) (fun c78 => ?_)
    · have c78_ : a1.toInt ≥ v77.toInt := en_i_ge_t c78
      refine At.enter rfl ?_
      refine r_iconst 0 rfl ?_
      refine Ar.fall 17 rfl ?_
      refine At.enter rfl ?_
      refine q_iretz (by decide) ?_
      refine At.enter rfl ?_
      refine r_iff 11 rfl (by decide) ?_
      refine At.enter rfl ?_
      refine r_aload_n rfl ?_
      refine r_bipush (-2) rfl ?_
      refine r_callV 17 rfl [.ref 0, .int (-2)] [] (Nat.le_of_ble_eq_true rfl) rfl (T_X10_refused_0 _ hI0 (-2) (by decide)) ?_
      rintro _ _ ⟨g81, rfl, hI82, hF83, v84, rfl, hr85⟩
      refine At.sti ?_
      have hF86 := Fr.tr hF0 hF83 rfl rfl
      have zv87 : ((-2) : Int32).toInt = (-2) := rfl
      refine At.enter rfl ?_
      refine r_ireti ?_
      exact ⟨_, rfl, hI82, hF86, _, rfl, by omega⟩
    · have c78_ : a1.toInt < v77.toInt := en_i_ge_f c78
      refine At.enter rfl ?_
      refine r_iconst 1 rfl ?_
      refine r_goto ?_
      refine At.enter rfl ?_
      refine q_iretz (by decide) ?_
      refine At.enter rfl ?_
      refine r_ift (by decide) ?_
      refine At.enter rfl ?_
      refine r_aload_n rfl ?_
      refine q_getR (Sh.ref hI0.1 kx_0 rfl) ?_
      refine r_iload_n rfl ?_
      refine r_callV 26 rfl [.ref 1, .int a1] [] (Nat.le_of_ble_eq_true rfl) rfl (T_X0_removeLoad_1 _ hI0 a1) ?_
      rintro _ _ ⟨g88, rfl, hI89, hF90, rfl⟩
      refine At.stn ?_
      have hF93 := Fr.tr hF0 hF90 rfl rfl
      refine At.enter rfl ?_
      refine r_aload_n rfl ?_
      refine r_callV 30 rfl [.ref 0] [] (Nat.le_of_ble_eq_true rfl) rfl (T_X10_changed_0 _ hI89) ?_
      rintro _ _ ⟨g94, rfl, hI95, hF96, rfl⟩
      refine At.stn ?_
      have hF99 := Fr.tr hF93 hF96 rfl rfl
      refine At.enter rfl ?_
      refine r_aload_n rfl ?_
      refine r_aload_n rfl ?_
      refine q_getR (Sh.ref hI95.1 kx_0 rfl) ?_
      obtain ⟨v100, hv100⟩ : ∃ v, gI g88 1 4 = v := ⟨_, rfl⟩
      have rv100 := RgF.at hI89.2.1 (p := 1) (b := 4) rfl
      rw [hv100] at rv100
      dsimp only at rv100
      refine q_getI (Sh.int hI95.1 kx_1 rfl) v100 ((hF96.1 1 4 (by decide)).trans hv100) ?_
      refine q_inlV 41 rfl [.ref 0, .int v100] [] (Nat.le_of_ble_eq_true rfl) rfl ?_
      refine Ev.mk rfl rfl ⟨Nat.le_of_ble_eq_true rfl, Or.inr (q_rc hI95.1 kx_0 rfl)⟩ ?_
      show At _ none _ _ (0, [(0, .ref 0), (1, .int v100)], [], (_, _)) _
      refine At.enter rfl ?_
      refine r_aload_n rfl ?_
      refine r_iconst 0 rfl ?_
      refine q_putI (Sh.int hI95.1 kx_0 rfl) rfl ?_
      have hI101 := HI.wI0 hI95 kx_0 rfl (p := 0) (b := 17) (v := 0) rfl
      have hF102 := Fr.wI (p := 0) (b := 17) (v := 0) hF99 rfl
      refine r_iload_n rfl ?_
      refine q_ireti ?_
      refine At.enter rfl ?_
      refine r_ireti ?_
      exact ⟨_, rfl, hI101, hF102, _, rfl, by omega⟩

def F_X10_terms_0 : List (Nat × Nat) := [(0, 14), (0, 17), (1, 10), (1, 11), (220, 2), (222, 2), (223, 5), (223, 10)]
def A_X10_terms_0 : List Nat := [230]
set_option maxRecDepth 100000 in
set_option maxHeartbeats 4000000 in
theorem T_X10_terms_0 (d : Nat) {N : Nat} {g0 : List en_E} (hI0 : HI g0) (a1 : Int32) (a2 : Int32) : Ev (d + 3) 110 [.ref 0, .int a1, .int a2] (g0, N) (fun w h' => ∃ g', h' = (g', N) ∧ HI g' ∧ Fr F_X10_terms_0 A_X10_terms_0 g0 g' ∧ ∃ r : Int32, w = some (.int r) ∧ True ∧ (((a1.toInt = 0 ∧ 0 ≤ a2.toInt ∧ a2.toInt ≤ 99) → r.toInt = (gI g0 1 10).toInt ∧ (gI g' 1 10).toInt = a2.toInt ∧ (gI g' 1 11).toInt = (gI g0 1 11).toInt) ∧ ((a1.toInt = 1 ∧ 1 ≤ a2.toInt ∧ a2.toInt ≤ 4) → r.toInt = (gI g0 1 11).toInt ∧ (gI g' 1 11).toInt = a2.toInt ∧ (gI g' 1 10).toInt = (gI g0 1 10).toInt) ∧ (¬ (a1.toInt = 0 ∧ 0 ≤ a2.toInt ∧ a2.toInt ≤ 99) ∧ ¬ (a1.toInt = 1 ∧ 1 ≤ a2.toInt ∧ a2.toInt ≤ 4) → r.toInt = -1 ∧ (gI g' 1 10).toInt = (gI g0 1 10).toInt ∧ (gI g' 1 11).toInt = (gI g0 1 11).toInt))) := by
  have hF0 : Fr F_X10_terms_0 A_X10_terms_0 g0 g0 := Fr.rf
  refine Ev.mk rfl rfl ⟨Nat.le_of_ble_eq_true rfl, Or.inr (q_rc hI0.1 kx_0 rfl)⟩ ?_
  show At _ none _ _ (0, [(0, .ref 0), (1, .int a1), (2, .int a2)], [], (_, _)) _
  refine At.enter rfl ?_
  refine r_iload_n rfl ?_
  refine r_ifs 4 rfl (fun c131 => ?_) (fun c131 => ?_)
  · have c131_ : a1.toInt ≠ 0 := en_k_ne_t c131
    refine At.enter rfl ?_
    refine r_iload_n rfl ?_
    refine r_iconst 1 rfl ?_
    refine r_ics 38 rfl (fun c132 => ?_) (fun c132 => ?_)
    · have c132_ : a1.toInt ≠ 1 := en_i_ne_t c132
      refine At.enter rfl ?_
      refine r_aload_n rfl ?_
      refine r_iconst (-1) rfl ?_
      refine r_callV 71 rfl [.ref 0, .int (-1)] [] (Nat.le_of_ble_eq_true rfl) rfl (T_X10_refused_0 _ hI0 (-1) (by decide)) ?_
      rintro _ _ ⟨g133, rfl, hI134, hF135, v136, rfl, hr137⟩
      refine At.sti ?_
      have hF138 := Fr.tr hF0 hF135 rfl rfl
      have zv139 : ((-1) : Int32).toInt = (-1) := rfl
      refine At.enter rfl ?_
      refine r_ireti ?_
      obtain ⟨v140, hv140⟩ : ∃ v, gI g0 1 10 = v := ⟨_, rfl⟩
      have tv140 := congrArg Int32.toInt hv140
      have x141 := HI.eqI hI134 (p := 1) (b := 10) (((hF135.1 1 10 (by decide)).trans hv140))
      obtain ⟨v142, hv142⟩ : ∃ v, gI g0 1 11 = v := ⟨_, rfl⟩
      have tv142 := congrArg Int32.toInt hv142
      have x143 := HI.eqI hI134 (p := 1) (b := 11) (((hF135.1 1 11 (by decide)).trans hv142))
      have x144 := HI.eqI hI0 (p := 1) (b := 10) (hv140)
      have x145 := HI.eqI hI0 (p := 1) (b := 11) (hv142)
      exact ⟨_, rfl, hI134, hF138, _, rfl, trivial, (by omega)⟩
    · have c132_ : a1.toInt = 1 := en_i_ne_f c132
      refine At.enter rfl ?_
      refine r_iload_n rfl ?_
      refine r_iconst 1 rfl ?_
      refine r_iconst 4 rfl ?_
      refine q_inlS 44 rfl [.int a2, .int 1, .int 4] [] (Nat.le_of_ble_eq_true rfl) rfl ?_
      refine Ev.mk rfl rfl ⟨Nat.le_of_ble_eq_true rfl, Or.inl rfl⟩ ?_
      show At _ none _ _ (0, [(0, .int a2), (1, .int 1), (2, .int 4)], [], (_, _)) _
      refine At.enter rfl ?_
      refine r_iload_n rfl ?_
      refine r_iload_n rfl ?_
      refine r_ics 5 rfl (fun c146 => ?_) (fun c146 => ?_)
      · have c146_ : a2.toInt < 1 := en_i_lt_t c146
        refine At.enter rfl ?_
        refine r_iconst 0 rfl ?_
        refine Ar.fall 15 rfl ?_
        refine At.enter rfl ?_
        refine q_iretz (by decide) ?_
        refine At.enter rfl ?_
        refine r_ift (by decide) ?_
        refine At.enter rfl ?_
        refine r_aload_n rfl ?_
        refine r_iconst (-1) rfl ?_
        refine r_callV 71 rfl [.ref 0, .int (-1)] [] (Nat.le_of_ble_eq_true rfl) rfl (T_X10_refused_0 _ hI0 (-1) (by decide)) ?_
        rintro _ _ ⟨g147, rfl, hI148, hF149, v150, rfl, hr151⟩
        refine At.sti ?_
        have hF152 := Fr.tr hF0 hF149 rfl rfl
        have zv153 : ((-1) : Int32).toInt = (-1) := rfl
        refine At.enter rfl ?_
        refine r_ireti ?_
        obtain ⟨v154, hv154⟩ : ∃ v, gI g0 1 10 = v := ⟨_, rfl⟩
        have tv154 := congrArg Int32.toInt hv154
        have x155 := HI.eqI hI148 (p := 1) (b := 10) (((hF149.1 1 10 (by decide)).trans hv154))
        obtain ⟨v156, hv156⟩ : ∃ v, gI g0 1 11 = v := ⟨_, rfl⟩
        have tv156 := congrArg Int32.toInt hv156
        have x157 := HI.eqI hI148 (p := 1) (b := 11) (((hF149.1 1 11 (by decide)).trans hv156))
        have x158 := HI.eqI hI0 (p := 1) (b := 10) (hv154)
        have x159 := HI.eqI hI0 (p := 1) (b := 11) (hv156)
        exact ⟨_, rfl, hI148, hF152, _, rfl, trivial, (by omega)⟩
      · have c146_ : a2.toInt ≥ 1 := en_i_lt_f c146
        refine At.enter rfl ?_
        refine r_iload_n rfl ?_
        refine r_iload_n rfl ?_
        refine r_ics 10 rfl (fun c160 => ?_) (fun c160 => ?_)
        · have c160_ : a2.toInt > 4 := en_i_gt_t c160
          refine At.enter rfl ?_
          refine r_iconst 0 rfl ?_
          refine Ar.fall 15 rfl ?_
          refine At.enter rfl ?_
          refine q_iretz (by decide) ?_
          refine At.enter rfl ?_
          refine r_ift (by decide) ?_
          refine At.enter rfl ?_
          refine r_aload_n rfl ?_
          refine r_iconst (-1) rfl ?_
          refine r_callV 71 rfl [.ref 0, .int (-1)] [] (Nat.le_of_ble_eq_true rfl) rfl (T_X10_refused_0 _ hI0 (-1) (by decide)) ?_
          rintro _ _ ⟨g161, rfl, hI162, hF163, v164, rfl, hr165⟩
          refine At.sti ?_
          have hF166 := Fr.tr hF0 hF163 rfl rfl
          have zv167 : ((-1) : Int32).toInt = (-1) := rfl
          refine At.enter rfl ?_
          refine r_ireti ?_
          obtain ⟨v168, hv168⟩ : ∃ v, gI g0 1 10 = v := ⟨_, rfl⟩
          have tv168 := congrArg Int32.toInt hv168
          have x169 := HI.eqI hI162 (p := 1) (b := 10) (((hF163.1 1 10 (by decide)).trans hv168))
          obtain ⟨v170, hv170⟩ : ∃ v, gI g0 1 11 = v := ⟨_, rfl⟩
          have tv170 := congrArg Int32.toInt hv170
          have x171 := HI.eqI hI162 (p := 1) (b := 11) (((hF163.1 1 11 (by decide)).trans hv170))
          have x172 := HI.eqI hI0 (p := 1) (b := 10) (hv168)
          have x173 := HI.eqI hI0 (p := 1) (b := 11) (hv170)
          exact ⟨_, rfl, hI162, hF166, _, rfl, trivial, (by omega)⟩
        · have c160_ : a2.toInt ≤ 4 := en_i_gt_f c160
          refine At.enter rfl ?_
          refine r_iconst 1 rfl ?_
          refine r_goto ?_
          refine At.enter rfl ?_
          refine q_iretz (by decide) ?_
          refine At.enter rfl ?_
          refine r_iff 47 rfl (by decide) ?_
          refine At.enter rfl ?_
          refine r_aload_n rfl ?_
          refine q_getR (Sh.ref hI0.1 kx_0 rfl) ?_
          obtain ⟨v174, hv174⟩ : ∃ v, gI g0 1 11 = v := ⟨_, rfl⟩
          refine q_getI (Sh.int hI0.1 kx_1 rfl) v174 hv174 ?_
          refine r_istore_n ([(3, .int v174), (0, .ref 0), (1, .int a1), (2, .int a2)]) rfl ?_
          refine r_aload_n rfl ?_
          refine q_getR (Sh.ref hI0.1 kx_0 rfl) ?_
          refine r_iload_n rfl ?_
          refine q_putI (Sh.int hI0.1 kx_1 rfl) rfl ?_
          have hI175 := HI.wI0 hI0 kx_1 rfl (p := 1) (b := 11) (v := a2) rfl
          have hF176 := Fr.wI (p := 1) (b := 11) (v := a2) hF0 rfl
          refine r_goto ?_
          refine At.enter rfl ?_
          refine r_aload_n rfl ?_
          refine r_callV 76 rfl [.ref 0] [] (Nat.le_of_ble_eq_true rfl) rfl (T_X10_changed_0 _ hI175) ?_
          rintro _ _ ⟨g177, rfl, hI178, hF179, rfl⟩
          refine At.stn ?_
          have hF182 := Fr.tr hF176 hF179 rfl rfl
          refine At.enter rfl ?_
          refine r_aload_n rfl ?_
          refine r_iload_n rfl ?_
          refine q_inlV 81 rfl [.ref 0, .int v174] [] (Nat.le_of_ble_eq_true rfl) rfl ?_
          refine Ev.mk rfl rfl ⟨Nat.le_of_ble_eq_true rfl, Or.inr (q_rc hI178.1 kx_0 rfl)⟩ ?_
          show At _ none _ _ (0, [(0, .ref 0), (1, .int v174)], [], (_, _)) _
          refine At.enter rfl ?_
          refine r_aload_n rfl ?_
          refine r_iconst 0 rfl ?_
          refine q_putI (Sh.int hI178.1 kx_0 rfl) rfl ?_
          have hI183 := HI.wI0 hI178 kx_0 rfl (p := 0) (b := 17) (v := 0) rfl
          have hF184 := Fr.wI (p := 0) (b := 17) (v := 0) hF182 rfl
          refine r_iload_n rfl ?_
          refine q_ireti ?_
          refine At.enter rfl ?_
          refine r_ireti ?_
          obtain ⟨v185, hv185⟩ : ∃ v, gI g0 1 10 = v := ⟨_, rfl⟩
          have tv185 := congrArg Int32.toInt hv185
          have x186 := HI.eqI hI183 (p := 1) (b := 10) ((((gI_sI_ne (by decide)).trans ((hF179.1 1 10 (by decide)).trans (gI_sI_ne (by decide)))).trans hv185))
          have x187 := HI.eqI hI183 (p := 1) (b := 11) (((gI_sI_ne (by decide)).trans ((hF179.1 1 11 (by decide)).trans (gI_sI_eq hI0.1 kx_1 rfl _))))
          have x188 := HI.eqI hI0 (p := 1) (b := 10) (hv185)
          have x189 := HI.eqI hI0 (p := 1) (b := 11) (hv174)
          exact ⟨_, rfl, hI183, hF184, _, rfl, trivial, (by omega)⟩
  · have c131_ : a1.toInt = 0 := en_k_ne_f c131
    refine At.enter rfl ?_
    refine r_iload_n rfl ?_
    refine r_iconst 0 rfl ?_
    refine r_bipush 99 rfl ?_
    refine q_inlS 11 rfl [.int a2, .int 0, .int 99] [] (Nat.le_of_ble_eq_true rfl) rfl ?_
    refine Ev.mk rfl rfl ⟨Nat.le_of_ble_eq_true rfl, Or.inl rfl⟩ ?_
    show At _ none _ _ (0, [(0, .int a2), (1, .int 0), (2, .int 99)], [], (_, _)) _
    refine At.enter rfl ?_
    refine r_iload_n rfl ?_
    refine r_iload_n rfl ?_
    refine r_ics 5 rfl (fun c190 => ?_) (fun c190 => ?_)
    · have c190_ : a2.toInt < 0 := en_i_lt_t c190
      refine At.enter rfl ?_
      refine r_iconst 0 rfl ?_
      refine Ar.fall 15 rfl ?_
      refine At.enter rfl ?_
      refine q_iretz (by decide) ?_
      refine At.enter rfl ?_
      refine r_ift (by decide) ?_
      refine At.enter rfl ?_
      refine r_iload_n rfl ?_
      refine r_iconst 1 rfl ?_
      refine r_ics 38 rfl (fun c191 => ?_) (fun c191 => ?_)
      · have c191_ : a1.toInt ≠ 1 := en_i_ne_t c191
        refine At.enter rfl ?_
        refine r_aload_n rfl ?_
        refine r_iconst (-1) rfl ?_
        refine r_callV 71 rfl [.ref 0, .int (-1)] [] (Nat.le_of_ble_eq_true rfl) rfl (T_X10_refused_0 _ hI0 (-1) (by decide)) ?_
        rintro _ _ ⟨g192, rfl, hI193, hF194, v195, rfl, hr196⟩
        refine At.sti ?_
        have hF197 := Fr.tr hF0 hF194 rfl rfl
        have zv198 : ((-1) : Int32).toInt = (-1) := rfl
        refine At.enter rfl ?_
        refine r_ireti ?_
        obtain ⟨v199, hv199⟩ : ∃ v, gI g0 1 10 = v := ⟨_, rfl⟩
        have tv199 := congrArg Int32.toInt hv199
        have x200 := HI.eqI hI193 (p := 1) (b := 10) (((hF194.1 1 10 (by decide)).trans hv199))
        obtain ⟨v201, hv201⟩ : ∃ v, gI g0 1 11 = v := ⟨_, rfl⟩
        have tv201 := congrArg Int32.toInt hv201
        have x202 := HI.eqI hI193 (p := 1) (b := 11) (((hF194.1 1 11 (by decide)).trans hv201))
        have x203 := HI.eqI hI0 (p := 1) (b := 10) (hv199)
        have x204 := HI.eqI hI0 (p := 1) (b := 11) (hv201)
        exact ⟨_, rfl, hI193, hF197, _, rfl, trivial, (by omega)⟩
      · have c191_ : a1.toInt = 1 := en_i_ne_f c191
        exfalso; omega
    · have c190_ : a2.toInt ≥ 0 := en_i_lt_f c190
      refine At.enter rfl ?_
      refine r_iload_n rfl ?_
      refine r_iload_n rfl ?_
      refine r_ics 10 rfl (fun c205 => ?_) (fun c205 => ?_)
      · have c205_ : a2.toInt > 99 := en_i_gt_t c205
        refine At.enter rfl ?_
        refine r_iconst 0 rfl ?_
        refine Ar.fall 15 rfl ?_
        refine At.enter rfl ?_
        refine q_iretz (by decide) ?_
        refine At.enter rfl ?_
        refine r_ift (by decide) ?_
        refine At.enter rfl ?_
        refine r_iload_n rfl ?_
        refine r_iconst 1 rfl ?_
        refine r_ics 38 rfl (fun c206 => ?_) (fun c206 => ?_)
        · have c206_ : a1.toInt ≠ 1 := en_i_ne_t c206
          refine At.enter rfl ?_
          refine r_aload_n rfl ?_
          refine r_iconst (-1) rfl ?_
          refine r_callV 71 rfl [.ref 0, .int (-1)] [] (Nat.le_of_ble_eq_true rfl) rfl (T_X10_refused_0 _ hI0 (-1) (by decide)) ?_
          rintro _ _ ⟨g207, rfl, hI208, hF209, v210, rfl, hr211⟩
          refine At.sti ?_
          have hF212 := Fr.tr hF0 hF209 rfl rfl
          have zv213 : ((-1) : Int32).toInt = (-1) := rfl
          refine At.enter rfl ?_
          refine r_ireti ?_
          obtain ⟨v214, hv214⟩ : ∃ v, gI g0 1 10 = v := ⟨_, rfl⟩
          have tv214 := congrArg Int32.toInt hv214
          have x215 := HI.eqI hI208 (p := 1) (b := 10) (((hF209.1 1 10 (by decide)).trans hv214))
          obtain ⟨v216, hv216⟩ : ∃ v, gI g0 1 11 = v := ⟨_, rfl⟩
          have tv216 := congrArg Int32.toInt hv216
          have x217 := HI.eqI hI208 (p := 1) (b := 11) (((hF209.1 1 11 (by decide)).trans hv216))
          have x218 := HI.eqI hI0 (p := 1) (b := 10) (hv214)
          have x219 := HI.eqI hI0 (p := 1) (b := 11) (hv216)
          exact ⟨_, rfl, hI208, hF212, _, rfl, trivial, (by omega)⟩
        · have c206_ : a1.toInt = 1 := en_i_ne_f c206
          exfalso; omega
      · have c205_ : a2.toInt ≤ 99 := en_i_gt_f c205
        refine At.enter rfl ?_
        refine r_iconst 1 rfl ?_
        refine r_goto ?_
        refine At.enter rfl ?_
        refine q_iretz (by decide) ?_
        refine At.enter rfl ?_
        refine r_iff 14 rfl (by decide) ?_
        refine At.enter rfl ?_
        refine r_aload_n rfl ?_
        refine q_getR (Sh.ref hI0.1 kx_0 rfl) ?_
        obtain ⟨v220, hv220⟩ : ∃ v, gI g0 1 10 = v := ⟨_, rfl⟩
        refine q_getI (Sh.int hI0.1 kx_1 rfl) v220 hv220 ?_
        refine r_istore_n ([(3, .int v220), (0, .ref 0), (1, .int a1), (2, .int a2)]) rfl ?_
        refine r_aload_n rfl ?_
        refine q_getR (Sh.ref hI0.1 kx_0 rfl) ?_
        refine r_iload_n rfl ?_
        refine q_putI (Sh.int hI0.1 kx_1 rfl) rfl ?_
        have hI221 := HI.wI0 hI0 kx_1 rfl (p := 1) (b := 10) (v := a2) rfl
        have hF222 := Fr.wI (p := 1) (b := 10) (v := a2) hF0 rfl
        refine r_goto ?_
        refine At.enter rfl ?_
        refine r_aload_n rfl ?_
        refine r_callV 76 rfl [.ref 0] [] (Nat.le_of_ble_eq_true rfl) rfl (T_X10_changed_0 _ hI221) ?_
        rintro _ _ ⟨g223, rfl, hI224, hF225, rfl⟩
        refine At.stn ?_
        have hF228 := Fr.tr hF222 hF225 rfl rfl
        refine At.enter rfl ?_
        refine r_aload_n rfl ?_
        refine r_iload_n rfl ?_
        refine q_inlV 81 rfl [.ref 0, .int v220] [] (Nat.le_of_ble_eq_true rfl) rfl ?_
        refine Ev.mk rfl rfl ⟨Nat.le_of_ble_eq_true rfl, Or.inr (q_rc hI224.1 kx_0 rfl)⟩ ?_
        show At _ none _ _ (0, [(0, .ref 0), (1, .int v220)], [], (_, _)) _
        refine At.enter rfl ?_
        refine r_aload_n rfl ?_
        refine r_iconst 0 rfl ?_
        refine q_putI (Sh.int hI224.1 kx_0 rfl) rfl ?_
        have hI229 := HI.wI0 hI224 kx_0 rfl (p := 0) (b := 17) (v := 0) rfl
        have hF230 := Fr.wI (p := 0) (b := 17) (v := 0) hF228 rfl
        refine r_iload_n rfl ?_
        refine q_ireti ?_
        refine At.enter rfl ?_
        refine r_ireti ?_
        have x231 := HI.eqI hI229 (p := 1) (b := 10) (((gI_sI_ne (by decide)).trans ((hF225.1 1 10 (by decide)).trans (gI_sI_eq hI0.1 kx_1 rfl _))))
        obtain ⟨v232, hv232⟩ : ∃ v, gI g0 1 11 = v := ⟨_, rfl⟩
        have tv232 := congrArg Int32.toInt hv232
        have x233 := HI.eqI hI229 (p := 1) (b := 11) ((((gI_sI_ne (by decide)).trans ((hF225.1 1 11 (by decide)).trans (gI_sI_ne (by decide)))).trans hv232))
        have x234 := HI.eqI hI0 (p := 1) (b := 10) (hv220)
        have x235 := HI.eqI hI0 (p := 1) (b := 11) (hv232)
        exact ⟨_, rfl, hI229, hF230, _, rfl, trivial, (by omega)⟩
