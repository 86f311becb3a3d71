def F_X2_costOf_223 : List (Nat × Nat) := [(185, 3), (223, 5), (223, 6)]
def A_X2_costOf_223 : List Nat := [224, 226]
set_option maxRecDepth 100000 in
set_option maxHeartbeats 4000000 in
theorem T_X2_costOf_223 (d : Nat) {N : Nat} {g0 : List en_E} (hI0 : HI g0) (a1 : Int32) : Ev (d + 6) 39 [.ref 223, .int a1] (g0, N) (fun w h' => ∃ g', h' = (g', N) ∧ HI g' ∧ Fr F_X2_costOf_223 A_X2_costOf_223 g0 g' ∧ ∃ r : Int32, w = some (.int r) ∧ True) := by
  have hF0 : Fr F_X2_costOf_223 A_X2_costOf_223 g0 g0 := Fr.rf
  refine Ev.mk rfl rfl ⟨Nat.le_of_ble_eq_true rfl, Or.inr (q_rc hI0.1 kx_223 rfl)⟩ ?_
  show At _ none _ _ (0, [(0, .ref 223), (1, .int a1)], [], (_, _)) _
  refine At.enter rfl ?_
  refine r_aload_n rfl ?_
  refine r_callV 4 rfl [.ref 223] [] (Nat.le_of_ble_eq_true rfl) rfl (T_X2_begin_223 _ hI0) ?_
  rintro _ _ ⟨g25, rfl, hI26, hF27, rfl⟩
  refine At.stn ?_
  have hF30 := Fr.tr hF0 hF27 rfl rfl
  refine At.enter rfl ?_
  refine r_aload_n rfl ?_
  refine r_iload_n rfl ?_
  refine r_iconst (-1) rfl ?_
  refine r_callV 10 rfl [.ref 223, .int a1, .int (-1)] [] (Nat.le_of_ble_eq_true rfl) rfl (T_X2_costBeside_223 _ hI26 a1 (-1)) ?_
  rintro _ _ ⟨g31, rfl, hI32, hF33, v34, rfl, hr35⟩
  refine At.sti ?_
  have hF36 := Fr.tr hF30 hF33 rfl rfl
  refine At.enter rfl ?_
  refine r_ireti ?_
  exact ⟨_, rfl, hI32, hF36, _, rfl, trivial⟩

def F_X2_incomeOf_223 : List (Nat × Nat) := [(185, 3), (223, 5), (223, 6), (223, 7), (223, 8), (223, 9)]
def A_X2_incomeOf_223 : List Nat := [224, 225, 226]
set_option maxRecDepth 100000 in
set_option maxHeartbeats 4000000 in
theorem T_X2_incomeOf_223 (d : Nat) {N : Nat} {g0 : List en_E} (hI0 : HI g0) (a1 : Int32) (h_a1 : 0 ≤ a1.toInt ∧ a1.toInt ≤ 11) : Ev (d + 7) 40 [.ref 223, .int a1] (g0, N) (fun w h' => ∃ g', h' = (g', N) ∧ HI g' ∧ Fr F_X2_incomeOf_223 A_X2_incomeOf_223 g0 g' ∧ ∃ r : Int32, w = some (.int r) ∧ True) := by
  have hF0 : Fr F_X2_incomeOf_223 A_X2_incomeOf_223 g0 g0 := Fr.rf
  refine Ev.mk rfl rfl ⟨Nat.le_of_ble_eq_true rfl, Or.inr (q_rc hI0.1 kx_223 rfl)⟩ ?_
  show At _ none _ _ (0, [(0, .ref 223), (1, .int a1)], [], (_, _)) _
  refine At.enter rfl ?_
  refine r_aload_n rfl ?_
  refine r_callV 4 rfl [.ref 223] [] (Nat.le_of_ble_eq_true rfl) rfl (T_X2_begin_223 _ hI0) ?_
  rintro _ _ ⟨g27, rfl, hI28, hF29, rfl⟩
  refine At.stn ?_
  have hF32 := Fr.tr hF0 hF29 rfl rfl
  refine At.enter rfl ?_
  refine r_aload_n rfl ?_
  refine r_iload_n rfl ?_
  refine r_callV 9 rfl [.ref 223, .int a1] [] (Nat.le_of_ble_eq_true rfl) rfl (T_X2_seekAnswer_223 _ hI28 a1 (by omega)) ?_
  rintro _ _ ⟨g33, rfl, hI34, hF35, rfl⟩
  refine At.stn ?_
  have hF38 := Fr.tr hF32 hF35 rfl rfl
  refine At.enter rfl ?_
  refine r_aload_n rfl ?_
  obtain ⟨v39, hv39⟩ : ∃ v, gI g33 223 9 = v := ⟨_, rfl⟩
  refine q_getI (Sh.int hI34.1 kx_223 rfl) v39 hv39 ?_
  refine r_ireti ?_
  exact ⟨_, rfl, hI34, hF38, _, rfl, trivial⟩

def F_X2_answerOf_223 : List (Nat × Nat) := [(185, 3), (223, 5), (223, 6), (223, 7), (223, 8), (223, 9)]
def A_X2_answerOf_223 : List Nat := [224, 225, 226]
set_option maxRecDepth 100000 in
set_option maxHeartbeats 4000000 in
theorem T_X2_answerOf_223 (d : Nat) {N : Nat} {g0 : List en_E} (hI0 : HI g0) (a1 : Int32) (h_a1 : 0 ≤ a1.toInt ∧ a1.toInt ≤ 11) (a2 : Int32) : Ev (d + 7) 41 [.ref 223, .int a1, .int a2] (g0, N) (fun w h' => ∃ g', h' = (g', N) ∧ HI g' ∧ Fr F_X2_answerOf_223 A_X2_answerOf_223 g0 g' ∧ ∃ r : Int32, w = some (.int r) ∧ True) := by
  have hF0 : Fr F_X2_answerOf_223 A_X2_answerOf_223 g0 g0 := Fr.rf
  refine Ev.mk rfl rfl ⟨Nat.le_of_ble_eq_true rfl, Or.inr (q_rc hI0.1 kx_223 rfl)⟩ ?_
  show At _ none _ _ (0, [(0, .ref 223), (1, .int a1), (2, .int a2)], [], (_, _)) _
  refine At.enter rfl ?_
  refine r_aload_n rfl ?_
  refine r_callV 4 rfl [.ref 223] [] (Nat.le_of_ble_eq_true rfl) rfl (T_X2_begin_223 _ hI0) ?_
  rintro _ _ ⟨g31, rfl, hI32, hF33, rfl⟩
  refine At.stn ?_
  have hF36 := Fr.tr hF0 hF33 rfl rfl
  refine At.enter rfl ?_
  refine r_aload_n rfl ?_
  refine r_iload_n rfl ?_
  refine r_callV 9 rfl [.ref 223, .int a1] [] (Nat.le_of_ble_eq_true rfl) rfl (T_X2_seekAnswer_223 _ hI32 a1 (by omega)) ?_
  rintro _ _ ⟨g37, rfl, hI38, hF39, rfl⟩
  refine At.stn ?_
  have hF42 := Fr.tr hF36 hF39 rfl rfl
  refine At.enter rfl ?_
  refine r_iload_n rfl ?_
  refine r_ifs 13 rfl (fun c43 => ?_) (fun c43 => ?_)
  · have c43_ : a2.toInt ≠ 0 := en_k_ne_t c43
    refine At.enter rfl ?_
    refine r_aload_n rfl ?_
    obtain ⟨v44, hv44⟩ : ∃ v, gI g37 223 8 = v := ⟨_, rfl⟩
    refine q_getI (Sh.int hI38.1 kx_223 rfl) v44 hv44 ?_
    refine Ar.fall 24 rfl ?_
    refine At.enter rfl ?_
    refine r_ireti ?_
    exact ⟨_, rfl, hI38, hF42, _, rfl, trivial⟩
  · have c43_ : a2.toInt = 0 := en_k_ne_f c43
    refine At.enter rfl ?_
    refine r_aload_n rfl ?_
    obtain ⟨v45, hv45⟩ : ∃ v, gI g37 223 7 = v := ⟨_, rfl⟩
    refine q_getI (Sh.int hI38.1 kx_223 rfl) v45 hv45 ?_
    refine r_goto ?_
    refine At.enter rfl ?_
    refine r_ireti ?_
    exact ⟨_, rfl, hI38, hF42, _, rfl, trivial⟩

def F_X2_settled_223 : List (Nat × Nat) := []
def A_X2_settled_223 : List Nat := []
set_option maxRecDepth 100000 in
set_option maxHeartbeats 4000000 in
theorem T_X2_settled_223 (d : Nat) {N : Nat} {g0 : List en_E} (hI0 : HI g0) (a1 : Int32) : Ev (d + 2) 44 [.ref 223, .int a1] (g0, N) (fun w h' => ∃ g', h' = (g', N) ∧ HI g' ∧ Fr F_X2_settled_223 A_X2_settled_223 g0 g' ∧ ∃ r : Int32, w = some (.int r) ∧ True) := by
  have hF0 : Fr F_X2_settled_223 A_X2_settled_223 g0 g0 := Fr.rf
  refine Ev.mk rfl rfl ⟨Nat.le_of_ble_eq_true rfl, Or.inr (q_rc hI0.1 kx_223 rfl)⟩ ?_
  show At _ none _ _ (0, [(0, .ref 223), (1, .int a1)], [], (_, _)) _
  refine At.enter rfl ?_
  refine r_aload_n rfl ?_
  refine q_getR (Sh.ref hI0.1 kx_223 rfl) ?_
  refine r_iload_n rfl ?_
  refine q_inlV 8 rfl [.ref 1, .int a1] [] (Nat.le_of_ble_eq_true rfl) rfl ?_
  refine Ev.mk rfl rfl ⟨Nat.le_of_ble_eq_true rfl, Or.inr (q_rc hI0.1 kx_1 rfl)⟩ ?_
  show At _ none _ _ (0, [(0, .ref 1), (1, .int a1)], [], (_, _)) _
  refine At.enter rfl ?_
  refine r_iload_n rfl ?_
  refine r_ifs 4 rfl (fun c17 => ?_) (fun c17 => ?_)
  · have c17_ : a1.toInt < 0 := en_k_lt_t c17
    refine At.enter rfl ?_
    refine r_iconst 0 rfl ?_
    refine Ar.fall 17 rfl ?_
    refine At.enter rfl ?_
    refine q_iretz (by decide) ?_
    refine At.enter rfl ?_
    refine r_ift (by decide) ?_
    refine At.enter rfl ?_
    refine r_aload_n rfl ?_
    obtain ⟨v18, hv18⟩ : ∃ v, gI g0 223 11 = v := ⟨_, rfl⟩
    refine q_getI (Sh.int hI0.1 kx_223 rfl) v18 hv18 ?_
    refine Ar.fall 24 rfl ?_
    refine At.enter rfl ?_
    refine r_ireti ?_
    exact ⟨_, rfl, hI0, hF0, _, rfl, trivial⟩
  · have c17_ : a1.toInt ≥ 0 := en_k_lt_f c17
    refine At.enter rfl ?_
    refine r_iload_n rfl ?_
    refine r_aload_n rfl ?_
    obtain ⟨v19, hv19⟩ : ∃ v, gI g0 1 0 = v := ⟨_, rfl⟩
    have rv19 := RgF.at hI0.2.1 (p := 1) (b := 0) rfl
    rw [hv19] at rv19
    dsimp only at rv19
    refine q_getI (Sh.int hI0.1 kx_1 rfl) v19 hv19 ?_
    have bv21 := q_bnd a1
    have bv22 := q_bnd v19
    refine r_ics 12 rfl (fun c20 => ?_) (fun c20 => ?_)
    · have c20_ : a1.toInt ≥ v19.toInt := en_i_ge_t c20
      refine At.enter rfl ?_
      refine r_iconst 0 rfl ?_
      refine Ar.fall 17 rfl ?_
      refine At.enter rfl ?_
      refine q_iretz (by decide) ?_
      refine At.enter rfl ?_
      refine r_ift (by decide) ?_
      refine At.enter rfl ?_
      refine r_aload_n rfl ?_
      obtain ⟨v23, hv23⟩ : ∃ v, gI g0 223 11 = v := ⟨_, rfl⟩
      refine q_getI (Sh.int hI0.1 kx_223 rfl) v23 hv23 ?_
      refine Ar.fall 24 rfl ?_
      refine At.enter rfl ?_
      refine r_ireti ?_
      exact ⟨_, rfl, hI0, hF0, _, rfl, trivial⟩
    · have c20_ : a1.toInt < v19.toInt := en_i_ge_f c20
      refine At.enter rfl ?_
      refine r_iconst 1 rfl ?_
      refine r_goto ?_
      refine At.enter rfl ?_
      refine q_iretz (by decide) ?_
      refine At.enter rfl ?_
      refine r_iff 11 rfl (by decide) ?_
      refine At.enter rfl ?_
      refine r_aload_n rfl ?_
      refine q_getR (Sh.ref hI0.1 kx_223 rfl) ?_
      refine r_iload_n rfl ?_
      obtain ⟨v24, hv24⟩ : ∃ v, eA g0 227 a1.toInt = v := ⟨_, rfl⟩
      refine q_iald (Sh.arr hI0.1 ka_227) a1.toInt rfl (by omega) v24 hv24 ?_
      refine r_goto ?_
      refine At.enter rfl ?_
      refine r_ireti ?_
      exact ⟨_, rfl, hI0, hF0, _, rfl, trivial⟩

def F_X10_refused_0 : List (Nat × Nat) := [(0, 17)]
def A_X10_refused_0 : List Nat := [230]
set_option maxRecDepth 100000 in
set_option maxHeartbeats 4000000 in
theorem T_X10_refused_0 (d : Nat) {N : Nat} {g0 : List en_E} (hI0 : HI g0) (a1 : Int32) (h_a1 : (-6) ≤ a1.toInt ∧ a1.toInt ≤ 0) : Ev (d + 2) 144 [.ref 0, .int a1] (g0, N) (fun w h' => ∃ g', h' = (g', N) ∧ HI g' ∧ Fr F_X10_refused_0 A_X10_refused_0 g0 g' ∧ ∃ r : Int32, w = some (.int r) ∧ ((-6) ≤ r.toInt ∧ r.toInt ≤ 0) ∧ (r.toInt = a1.toInt)) := by
  have hF0 : Fr F_X10_refused_0 A_X10_refused_0 g0 g0 := Fr.rf
  refine Ev.mk rfl rfl ⟨Nat.le_of_ble_eq_true rfl, Or.inr (q_rc hI0.1 kx_0 rfl)⟩ ?_
  show At _ none _ _ (0, [(0, .ref 0), (1, .int a1)], [], (_, _)) _
  refine At.enter rfl ?_
  refine r_aload_n rfl ?_
  refine r_iload_n rfl ?_
  refine q_putI (Sh.int hI0.1 kx_0 rfl) rfl ?_
  have hI21 := HI.wI0 hI0 kx_0 rfl (p := 0) (b := 17) (v := a1) rfl
  have hF22 := Fr.wI (p := 0) (b := 17) (v := a1) hF0 rfl
  refine r_iload_n rfl ?_
  refine q_ineg (-a1.toInt) rfl (by omega) (fun v23 hv23 => ?_)
  refine r_iconst 0 rfl ?_
  refine r_bipush 6 rfl ?_
  refine q_inlS 13 rfl [.int v23, .int 0, .int 6] [] (Nat.le_of_ble_eq_true rfl) rfl ?_
  refine Ev.mk rfl rfl ⟨Nat.le_of_ble_eq_true rfl, Or.inl rfl⟩ ?_
  show At _ none _ _ (0, [(0, .int v23), (1, .int 0), (2, .int 6)], [], (_, _)) _
  refine At.enter rfl ?_
  refine r_iload_n rfl ?_
  refine r_iload_n rfl ?_
  refine r_ics 5 rfl (fun c24 => ?_) (fun c24 => ?_)
  · have c24_ : v23.toInt < 0 := en_i_lt_t c24
    exfalso; omega
  · have c24_ : v23.toInt ≥ 0 := en_i_lt_f c24
    refine At.enter rfl ?_
    refine r_iload_n rfl ?_
    refine r_iload_n rfl ?_
    refine r_ics 10 rfl (fun c25 => ?_) (fun c25 => ?_)
    · have c25_ : v23.toInt > 6 := en_i_gt_t c25
      exfalso; omega
    · have c25_ : v23.toInt ≤ 6 := en_i_gt_f c25
      refine At.enter rfl ?_
      refine r_iconst 1 rfl ?_
      refine r_goto ?_
      refine At.enter rfl ?_
      refine q_iretz (by decide) ?_
      refine At.enter rfl ?_
      refine r_iff 16 rfl (by decide) ?_
      refine At.enter rfl ?_
      refine r_aload_n rfl ?_
      refine q_getR (Sh.ref hI21.1 kx_0 rfl) ?_
      refine r_iload_n rfl ?_
      refine q_ineg (-a1.toInt) rfl (by omega) (fun v26 hv26 => ?_)
      refine r_dup2 ⟨rfl, rfl⟩ ?_
      obtain ⟨v27, hv27⟩ : ∃ v, eA g0 230 ((-1) * a1.toInt) = v := ⟨_, rfl⟩
      refine q_iald (Sh.arr hI21.1 ka_230) ((-1) * a1.toInt) (by omega) (by omega) v27 ((eA_c (gA_sI)).trans hv27) ?_
      refine r_iconst 1 rfl ?_
      refine q_iaddO (fun v28 _ => ?_)
      refine q_iast (Sh.arr hI21.1 ka_230) (((-1) * a1.toInt)) (by omega) (by omega) ?_
      have hI29 := HI.wA0 hI21 ka_230 (p := 230) rfl rfl (((-1) * a1.toInt)) (v28)
      have hF30 := Fr.wA (p := 230) (j := ((-1) * a1.toInt)) (v := v28) hF22 rfl
      refine Ar.fall 27 rfl ?_
      refine At.enter rfl ?_
      refine r_iload_n rfl ?_
      refine r_ireti ?_
      exact ⟨_, rfl, hI29, hF30, _, rfl, by omega, (by omega)⟩

def F_X10_changed_0 : List (Nat × Nat) := [(0, 14), (220, 2), (222, 2), (223, 5), (223, 10)]
def A_X10_changed_0 : List Nat := []
set_option maxRecDepth 100000 in
set_option maxHeartbeats 4000000 in
theorem T_X10_changed_0 (d : Nat) {N : Nat} {g0 : List en_E} (hI0 : HI g0) : Ev (d + 2) 146 [.ref 0] (g0, N) (fun w h' => ∃ g', h' = (g', N) ∧ HI g' ∧ Fr F_X10_changed_0 A_X10_changed_0 g0 g' ∧ w = none) := by
  have hF0 : Fr F_X10_changed_0 A_X10_changed_0 g0 g0 := Fr.rf
  refine Ev.mk rfl rfl ⟨Nat.le_of_ble_eq_true rfl, Or.inr (q_rc hI0.1 kx_0 rfl)⟩ ?_
  show At _ none _ _ (0, [(0, .ref 0)], [], (_, _)) _
  refine At.enter rfl ?_
  refine r_aload_n rfl ?_
  refine r_iconst 0 rfl ?_
  refine q_putI (Sh.int hI0.1 kx_0 rfl) rfl ?_
  have hI21 := HI.wI0 hI0 kx_0 rfl (p := 0) (b := 14) (v := 0) rfl
  have hF22 := Fr.wI (p := 0) (b := 14) (v := 0) hF0 rfl
  refine r_aload_n rfl ?_
  refine q_getR (Sh.ref hI21.1 kx_0 rfl) ?_
  refine q_inlV 12 rfl [.ref 220] [] (Nat.le_of_ble_eq_true rfl) rfl ?_
  refine Ev.mk rfl rfl ⟨Nat.le_of_ble_eq_true rfl, Or.inr (q_rc hI21.1 kx_220 rfl)⟩ ?_
  show At _ none _ _ (0, [(0, .ref 220)], [], (_, _)) _
  refine At.enter rfl ?_
  refine r_aload_n rfl ?_
  refine r_iconst (-1) rfl ?_
  refine q_putI (Sh.int hI21.1 kx_220 rfl) rfl ?_
  have hI23 := HI.wI0 hI21 kx_220 rfl (p := 220) (b := 2) (v := (-1)) rfl
  have hF24 := Fr.wI (p := 220) (b := 2) (v := (-1)) hF22 rfl
  refine q_vret ?_
  refine At.enter rfl ?_
  refine r_aload_n rfl ?_
  refine q_getR (Sh.ref hI23.1 kx_0 rfl) ?_
  refine q_inlV 19 rfl [.ref 222] [] (Nat.le_of_ble_eq_true rfl) rfl ?_
  refine Ev.mk rfl rfl ⟨Nat.le_of_ble_eq_true rfl, Or.inr (q_rc hI23.1 kx_222 rfl)⟩ ?_
  show At _ none _ _ (0, [(0, .ref 222)], [], (_, _)) _
  refine At.enter rfl ?_
  refine r_aload_n rfl ?_
  refine r_iconst 0 rfl ?_
  refine q_putI (Sh.int hI23.1 kx_222 rfl) rfl ?_
  have hI25 := HI.wI0 hI23 kx_222 rfl (p := 222) (b := 2) (v := 0) rfl
  have hF26 := Fr.wI (p := 222) (b := 2) (v := 0) hF24 rfl
  refine q_vret ?_
  refine At.enter rfl ?_
  refine r_aload_n rfl ?_
  refine q_getR (Sh.ref hI25.1 kx_0 rfl) ?_
  refine q_inlV 26 rfl [.ref 223] [] (Nat.le_of_ble_eq_true rfl) rfl ?_
  refine Ev.mk rfl rfl ⟨Nat.le_of_ble_eq_true rfl, Or.inr (q_rc hI25.1 kx_223 rfl)⟩ ?_
  show At _ none _ _ (0, [(0, .ref 223)], [], (_, _)) _
  refine At.enter rfl ?_
  refine r_aload_n rfl ?_
  refine r_iconst 0 rfl ?_
  refine q_putI (Sh.int hI25.1 kx_223 rfl) rfl ?_
  have hI27 := HI.wI0 hI25 kx_223 rfl (p := 223) (b := 5) (v := 0) rfl
  have hF28 := Fr.wI (p := 223) (b := 5) (v := 0) hF26 rfl
  refine r_aload_n rfl ?_
  refine r_iconst 0 rfl ?_
  refine q_putI (Sh.int hI27.1 kx_223 rfl) rfl ?_
  have hI29 := HI.wI0 hI27 kx_223 rfl (p := 223) (b := 10) (v := 0) rfl
  have hF30 := Fr.wI (p := 223) (b := 10) (v := 0) hF28 rfl
  refine q_vret ?_
  refine At.enter rfl ?_
  refine r_vret ?_
  exact ⟨_, rfl, hI29, hF30, rfl⟩

def F_X10_whyNoLoad_0 : List (Nat × Nat) := []
def A_X10_whyNoLoad_0 : List Nat := []
set_option maxRecDepth 100000 in
set_option maxHeartbeats 4000000 in
theorem T_X10_whyNoLoad_0 (d : Nat) {N : Nat} {g0 : List en_E} (hI0 : HI g0) (a1 : Int32) (a2 : Int32) (a3 : Int32) (a4 : Int32) (a5 : Int32) (a6 : Int32) : Ev (d + 2) 149 [.ref 0, .int a1, .int a2, .int a3, .int a4, .int a5, .int a6] (g0, N) (fun w h' => ∃ g', h' = (g', N) ∧ HI g' ∧ Fr F_X10_whyNoLoad_0 A_X10_whyNoLoad_0 g0 g' ∧ ∃ r : Int32, w = some (.int r) ∧ ((-5) ≤ r.toInt ∧ r.toInt ≤ 0)) := by
  have hF0 : Fr F_X10_whyNoLoad_0 A_X10_whyNoLoad_0 g0 g0 := Fr.rf
  refine Ev.mk rfl rfl ⟨Nat.le_of_ble_eq_true rfl, Or.inr (q_rc hI0.1 kx_0 rfl)⟩ ?_
  show At _ none _ _ (0, [(0, .ref 0), (1, .int a1), (2, .int a2), (3, .int a3), (4, .int a4), (5, .int a5), (6, .int a6)], [], (_, _)) _
  refine At.enter rfl ?_
  refine r_iload_n rfl ?_
  refine r_iconst 1 rfl ?_
  refine r_bipush 9 rfl ?_
  refine q_inlS 7 rfl [.int a1, .int 1, .int 9] [] (Nat.le_of_ble_eq_true rfl) rfl ?_
  refine Ev.mk rfl rfl ⟨Nat.le_of_ble_eq_true rfl, Or.inl rfl⟩ ?_
  show At _ none _ _ (0, [(0, .int a1), (1, .int 1), (2, .int 9)], [], (_, _)) _
  refine At.enter rfl ?_
  refine r_iload_n rfl ?_
  refine r_iload_n rfl ?_
  refine r_ics 5 rfl (fun c37 => ?_) (fun c37 => ?_)
  · have c37_ : a1.toInt < 1 := en_i_lt_t c37
    refine At.enter rfl ?_
    refine r_iconst 0 rfl ?_
    refine Ar.fall 15 rfl ?_
    refine At.enter rfl ?_
    refine q_iretz (by decide) ?_
    refine At.enter rfl ?_
    refine r_ift (by decide) ?_
    refine At.enter rfl ?_
    refine r_iconst (-1) rfl ?_
    refine r_ireti ?_
    exact ⟨_, rfl, hI0, hF0, _, rfl, by decide⟩
  · have c37_ : a1.toInt ≥ 1 := en_i_lt_f c37
    refine At.enter rfl ?_
    refine r_iload_n rfl ?_
    refine r_iload_n rfl ?_
    refine r_ics 10 rfl (fun c38 => ?_) (fun c38 => ?_)
    · have c38_ : a1.toInt > 9 := en_i_gt_t c38
      refine At.enter rfl ?_
      refine r_iconst 0 rfl ?_
      refine Ar.fall 15 rfl ?_
      refine At.enter rfl ?_
      refine q_iretz (by decide) ?_
      refine At.enter rfl ?_
      refine r_ift (by decide) ?_
      refine At.enter rfl ?_
      refine r_iconst (-1) rfl ?_
      refine r_ireti ?_
      exact ⟨_, rfl, hI0, hF0, _, rfl, by decide⟩
    · have c38_ : a1.toInt ≤ 9 := en_i_gt_f c38
      refine At.enter rfl ?_
      refine r_iconst 1 rfl ?_
      refine r_goto ?_
      refine At.enter rfl ?_
      refine q_iretz (by decide) ?_
      refine At.enter rfl ?_
      refine r_iff 10 rfl (by decide) ?_
      refine At.enter rfl ?_
      refine r_iload rfl ?_
      refine r_iconst 0 rfl ?_
      refine r_bipush 99 rfl ?_
      refine q_inlS 18 rfl [.int a4, .int 0, .int 99] [] (Nat.le_of_ble_eq_true rfl) rfl ?_
      refine Ev.mk rfl rfl ⟨Nat.le_of_ble_eq_true rfl, Or.inl rfl⟩ ?_
      show At _ none _ _ (0, [(0, .int a4), (1, .int 0), (2, .int 99)], [], (_, _)) _
      refine At.enter rfl ?_
      refine r_iload_n rfl ?_
      refine r_iload_n rfl ?_
      refine r_ics 5 rfl (fun c39 => ?_) (fun c39 => ?_)
      · have c39_ : a4.toInt < 0 := en_i_lt_t c39
        refine At.enter rfl ?_
        refine r_iconst 0 rfl ?_
        refine Ar.fall 15 rfl ?_
        refine At.enter rfl ?_
        refine q_iretz (by decide) ?_
        refine At.enter rfl ?_
        refine r_ift (by decide) ?_
        refine At.enter rfl ?_
        refine r_iconst (-1) rfl ?_
        refine r_ireti ?_
        exact ⟨_, rfl, hI0, hF0, _, rfl, by decide⟩
      · have c39_ : a4.toInt ≥ 0 := en_i_lt_f c39
        refine At.enter rfl ?_
        refine r_iload_n rfl ?_
        refine r_iload_n rfl ?_
        refine r_ics 10 rfl (fun c40 => ?_) (fun c40 => ?_)
        · have c40_ : a4.toInt > 99 := en_i_gt_t c40
          refine At.enter rfl ?_
          refine r_iconst 0 rfl ?_
          refine Ar.fall 15 rfl ?_
          refine At.enter rfl ?_
          refine q_iretz (by decide) ?_
          refine At.enter rfl ?_
          refine r_ift (by decide) ?_
          refine At.enter rfl ?_
          refine r_iconst (-1) rfl ?_
          refine r_ireti ?_
          exact ⟨_, rfl, hI0, hF0, _, rfl, by decide⟩
        · have c40_ : a4.toInt ≤ 99 := en_i_gt_f c40
          refine At.enter rfl ?_
          refine r_iconst 1 rfl ?_
          refine r_goto ?_
          refine At.enter rfl ?_
          refine q_iretz (by decide) ?_
          refine At.enter rfl ?_
          refine r_iff 21 rfl (by decide) ?_
          refine At.enter rfl ?_
          refine r_iload rfl ?_
          refine r_iconst 0 rfl ?_
          refine r_bipush 9 rfl ?_
          refine q_inlS 29 rfl [.int a5, .int 0, .int 9] [] (Nat.le_of_ble_eq_true rfl) rfl ?_
          refine Ev.mk rfl rfl ⟨Nat.le_of_ble_eq_true rfl, Or.inl rfl⟩ ?_
          show At _ none _ _ (0, [(0, .int a5), (1, .int 0), (2, .int 9)], [], (_, _)) _
          refine At.enter rfl ?_
          refine r_iload_n rfl ?_
          refine r_iload_n rfl ?_
          refine r_ics 5 rfl (fun c41 => ?_) (fun c41 => ?_)
          · have c41_ : a5.toInt < 0 := en_i_lt_t c41
            refine At.enter rfl ?_
            refine r_iconst 0 rfl ?_
            refine Ar.fall 15 rfl ?_
            refine At.enter rfl ?_
            refine q_iretz (by decide) ?_
            refine At.enter rfl ?_
            refine r_ift (by decide) ?_
            refine At.enter rfl ?_
            refine r_iconst (-1) rfl ?_
            refine r_ireti ?_
            exact ⟨_, rfl, hI0, hF0, _, rfl, by decide⟩
          · have c41_ : a5.toInt ≥ 0 := en_i_lt_f c41
            refine At.enter rfl ?_
            refine r_iload_n rfl ?_
            refine r_iload_n rfl ?_
            refine r_ics 10 rfl (fun c42 => ?_) (fun c42 => ?_)
            · have c42_ : a5.toInt > 9 := en_i_gt_t c42
              refine At.enter rfl ?_
              refine r_iconst 0 rfl ?_
              refine Ar.fall 15 rfl ?_
              refine At.enter rfl ?_
              refine q_iretz (by decide) ?_
              refine At.enter rfl ?_
              refine r_ift (by decide) ?_
              refine At.enter rfl ?_
              refine r_iconst (-1) rfl ?_
              refine r_ireti ?_
              exact ⟨_, rfl, hI0, hF0, _, rfl, by decide⟩
            · have c42_ : a5.toInt ≤ 9 := en_i_gt_f c42
              refine At.enter rfl ?_
              refine r_iconst 1 rfl ?_
              refine r_goto ?_
              refine At.enter rfl ?_
              refine q_iretz (by decide) ?_
              refine At.enter rfl ?_
              refine r_iff 32 rfl (by decide) ?_
              refine At.enter rfl ?_
              refine r_iload rfl ?_
              refine r_iconst 0 rfl ?_
              refine r_sipush 9999 rfl ?_
              refine q_inlS 41 rfl [.int a6, .int 0, .int 9999] [] (Nat.le_of_ble_eq_true rfl) rfl ?_
              refine Ev.mk rfl rfl ⟨Nat.le_of_ble_eq_true rfl, Or.inl rfl⟩ ?_
              show At _ none _ _ (0, [(0, .int a6), (1, .int 0), (2, .int 9999)], [], (_, _)) _
              refine At.enter rfl ?_
              refine r_iload_n rfl ?_
              refine r_iload_n rfl ?_
              refine r_ics 5 rfl (fun c43 => ?_) (fun c43 => ?_)
              · have c43_ : a6.toInt < 0 := en_i_lt_t c43
                refine At.enter rfl ?_
                refine r_iconst 0 rfl ?_
                refine Ar.fall 15 rfl ?_
                refine At.enter rfl ?_
                refine q_iretz (by decide) ?_
                refine At.enter rfl ?_
                refine r_iff 44 rfl (by decide) ?_
                refine At.enter rfl ?_
                refine r_iconst (-1) rfl ?_
                refine r_ireti ?_
                exact ⟨_, rfl, hI0, hF0, _, rfl, by decide⟩
              · have c43_ : a6.toInt ≥ 0 := en_i_lt_f c43
                refine At.enter rfl ?_
                refine r_iload_n rfl ?_
                refine r_iload_n rfl ?_
                refine r_ics 10 rfl (fun c44 => ?_) (fun c44 => ?_)
                · have c44_ : a6.toInt > 9999 := en_i_gt_t c44
                  refine At.enter rfl ?_
                  refine r_iconst 0 rfl ?_
                  refine Ar.fall 15 rfl ?_
                  refine At.enter rfl ?_
                  refine q_iretz (by decide) ?_
                  refine At.enter rfl ?_
                  refine r_iff 44 rfl (by decide) ?_
                  refine At.enter rfl ?_
                  refine r_iconst (-1) rfl ?_
                  refine r_ireti ?_
                  exact ⟨_, rfl, hI0, hF0, _, rfl, by decide⟩
                · have c44_ : a6.toInt ≤ 9999 := en_i_gt_f c44
                  refine At.enter rfl ?_
                  refine r_iconst 1 rfl ?_
                  refine r_goto ?_
                  refine At.enter rfl ?_
                  refine q_iretz (by decide) ?_
                  refine At.enter rfl ?_
                  refine r_ift (by decide) ?_
                  refine At.enter rfl ?_
                  refine r_aload_n rfl ?_
                  refine q_getR (Sh.ref hI0.1 kx_0 rfl) ?_
                  refine r_iload_n rfl ?_
                  refine q_inlV 54 rfl [.ref 1, .int a2] [] (Nat.le_of_ble_eq_true rfl) rfl ?_
                  refine Ev.mk rfl rfl ⟨Nat.le_of_ble_eq_true rfl, Or.inr (q_rc hI0.1 kx_1 rfl)⟩ ?_
                  show At _ none _ _ (0, [(0, .ref 1), (1, .int a2)], [], (_, _)) _
                  refine At.enter rfl ?_
                  refine r_iload_n rfl ?_
                  refine r_ifs 4 rfl (fun c45 => ?_) (fun c45 => ?_)
                  · have c45_ : a2.toInt < 0 := en_k_lt_t c45
                    refine At.enter rfl ?_
                    refine r_iconst 0 rfl ?_
                    refine Ar.fall 17 rfl ?_
                    refine At.enter rfl ?_
                    refine q_iretz (by decide) ?_
                    refine At.enter rfl ?_
                    refine r_ift (by decide) ?_
                    refine At.enter rfl ?_
                    refine r_bipush (-2) rfl ?_
                    refine r_ireti ?_
                    exact ⟨_, rfl, hI0, hF0, _, rfl, by decide⟩
                  · have c45_ : a2.toInt ≥ 0 := en_k_lt_f c45
                    refine At.enter rfl ?_
                    refine r_iload_n rfl ?_
                    refine r_aload_n rfl ?_
                    obtain ⟨v46, hv46⟩ : ∃ v, gI g0 1 0 = v := ⟨_, rfl⟩
                    have rv46 := RgF.at hI0.2.1 (p := 1) (b := 0) rfl
                    rw [hv46] at rv46
                    dsimp only at rv46
                    refine q_getI (Sh.int hI0.1 kx_1 rfl) v46 hv46 ?_
                    have bv48 := q_bnd a2
                    have bv49 := q_bnd v46
                    refine r_ics 12 rfl (fun c47 => ?_) (fun c47 => ?_)
                    · have c47_ : a2.toInt ≥ v46.toInt := en_i_ge_t c47
                      refine At.enter rfl ?_
                      refine r_iconst 0 rfl ?_
                      refine Ar.fall 17 rfl ?_
                      refine At.enter rfl ?_
                      refine q_iretz (by decide) ?_
                      refine At.enter rfl ?_
                      refine r_ift (by decide) ?_
                      refine At.enter rfl ?_
                      refine r_bipush (-2) rfl ?_
                      refine r_ireti ?_
                      exact ⟨_, rfl, hI0, hF0, _, rfl, by decide⟩
                    · have c47_ : a2.toInt < v46.toInt := en_i_ge_f c47
                      refine At.enter rfl ?_
                      refine r_iconst 1 rfl ?_
                      refine r_goto ?_
                      refine At.enter rfl ?_
                      refine q_iretz (by decide) ?_
                      refine At.enter rfl ?_
                      refine r_iff 57 rfl (by decide) ?_
                      refine At.enter rfl ?_
                      refine r_aload_n rfl ?_
                      refine q_getR (Sh.ref hI0.1 kx_0 rfl) ?_
                      refine r_iload_n rfl ?_
                      refine q_inlV 65 rfl [.ref 1, .int a3] [] (Nat.le_of_ble_eq_true rfl) rfl ?_
                      refine Ev.mk rfl rfl ⟨Nat.le_of_ble_eq_true rfl, Or.inr (q_rc hI0.1 kx_1 rfl)⟩ ?_
                      show At _ none _ _ (0, [(0, .ref 1), (1, .int a3)], [], (_, _)) _
                      refine At.enter rfl ?_
                      refine r_iload_n rfl ?_
                      refine r_ifs 4 rfl (fun c50 => ?_) (fun c50 => ?_)
                      · have c50_ : a3.toInt < 0 := en_k_lt_t c50
                        refine At.enter rfl ?_
                        refine r_iconst 0 rfl ?_
                        refine Ar.fall 17 rfl ?_
                        refine At.enter rfl ?_
                        refine q_iretz (by decide) ?_
                        refine At.enter rfl ?_
                        refine r_iff 68 rfl (by decide) ?_
                        refine At.enter rfl ?_
                        refine r_bipush (-2) rfl ?_
                        refine r_ireti ?_
                        exact ⟨_, rfl, hI0, hF0, _, rfl, by decide⟩
                      · have c50_ : a3.toInt ≥ 0 := en_k_lt_f c50
                        refine At.enter rfl ?_
                        refine r_iload_n rfl ?_
                        refine r_aload_n rfl ?_
                        refine q_getI (Sh.int hI0.1 kx_1 rfl) v46 hv46 ?_
                        have bv52 := q_bnd a3
                        refine r_ics 12 rfl (fun c51 => ?_) (fun c51 => ?_)
                        · have c51_ : a3.toInt ≥ v46.toInt := en_i_ge_t c51
                          refine At.enter rfl ?_
                          refine r_iconst 0 rfl ?_
                          refine Ar.fall 17 rfl ?_
                          refine At.enter rfl ?_
                          refine q_iretz (by decide) ?_
                          refine At.enter rfl ?_
                          refine r_iff 68 rfl (by decide) ?_
                          refine At.enter rfl ?_
                          refine r_bipush (-2) rfl ?_
                          refine r_ireti ?_
                          exact ⟨_, rfl, hI0, hF0, _, rfl, by decide⟩
                        · have c51_ : a3.toInt < v46.toInt := en_i_ge_f c51
                          refine At.enter rfl ?_
                          refine r_iconst 1 rfl ?_
                          refine r_goto ?_
                          refine At.enter rfl ?_
                          refine q_iretz (by decide) ?_
                          refine At.enter rfl ?_
                          refine r_ift (by decide) ?_
                          refine At.enter rfl ?_
                          refine r_aload_n rfl ?_
                          refine q_getR (Sh.ref hI0.1 kx_0 rfl) ?_
                          obtain ⟨v53, hv53⟩ : ∃ v, gI g0 1 4 = v := ⟨_, rfl⟩
                          have rv53 := RgF.at hI0.2.1 (p := 1) (b := 4) rfl
                          rw [hv53] at rv53
                          dsimp only at rv53
                          refine q_getI (Sh.int hI0.1 kx_1 rfl) v53 hv53 ?_
                          refine r_bipush 8 rfl ?_
                          refine r_ics 83 rfl (fun c54 => ?_) (fun c54 => ?_)
                          · have c54_ : v53.toInt < 8 := en_i_lt_t c54
                            refine At.enter rfl ?_
                            refine r_iconst 0 rfl ?_
                            refine Ar.fall 89 rfl ?_
                            refine At.enter rfl ?_
                            refine r_ireti ?_
                            exact ⟨_, rfl, hI0, hF0, _, rfl, by decide⟩
                          · have c54_ : v53.toInt ≥ 8 := en_i_lt_f c54
                            refine At.enter rfl ?_
                            refine r_bipush (-5) rfl ?_
                            refine r_goto ?_
                            refine At.enter rfl ?_
                            refine r_ireti ?_
                            exact ⟨_, rfl, hI0, hF0, _, rfl, by decide⟩

def F_X0_addLoad_1 : List (Nat × Nat) := [(1, 4)]
def A_X0_addLoad_1 : List Nat := [5]
set_option maxRecDepth 100000 in
set_option maxHeartbeats 4000000 in
theorem T_X0_addLoad_1 (d : Nat) {N : Nat} {g0 : List en_E} (hI0 : HI g0) (a1 : Int32) (a2 : Int32) (a3 : Int32) (a4 : Int32) (a5 : Int32) (a6 : Int32) : Ev (d + 1) 6 [.ref 1, .int a1, .int a2, .int a3, .int a4, .int a5, .int a6] (g0, N) (fun w h' => ∃ g', h' = (g', N) ∧ HI g' ∧ Fr F_X0_addLoad_1 A_X0_addLoad_1 g0 g' ∧ ∃ r : Int32, w = some (.int r) ∧ ((-1) ≤ r.toInt ∧ r.toInt ≤ 7)) := by
  have hF0 : Fr F_X0_addLoad_1 A_X0_addLoad_1 g0 g0 := Fr.rf
  refine Ev.mk rfl rfl ⟨Nat.le_of_ble_eq_true rfl, Or.inr (q_rc hI0.1 kx_1 rfl)⟩ ?_
  show At _ none _ _ (0, [(0, .ref 1), (1, .int a1), (2, .int a2), (3, .int a3), (4, .int a4), (5, .int a5), (6, .int a6)], [], (_, _)) _
  refine At.enter rfl ?_
  refine r_aload_n rfl ?_
  obtain ⟨v51, hv51⟩ : ∃ v, gI g0 1 4 = v := ⟨_, rfl⟩
  have rv51 := RgF.at hI0.2.1 (p := 1) (b := 4) rfl
  rw [hv51] at rv51
  dsimp only at rv51
  refine q_getI (Sh.int hI0.1 kx_1 rfl) v51 hv51 ?_
  refine r_bipush 8 rfl ?_
  refine r_ics 9 rfl (fun c52 => ?_) (fun c52 => ?_)
  · have c52_ : v51.toInt < 8 := en_i_lt_t c52
    refine At.enter rfl ?_
    refine r_aload_n rfl ?_
    refine q_getI (Sh.int hI0.1 kx_1 rfl) v51 hv51 ?_
    refine r_bipush 6 rfl ?_
    refine q_imul (v51.toInt * 6) rfl (by omega) (fun v53 hv53 => ?_)
    refine r_istore ([(7, .int v53), (0, .ref 1), (1, .int a1), (2, .int a2), (3, .int a3), (4, .int a4), (5, .int a5), (6, .int a6)]) rfl ?_
    refine r_aload_n rfl ?_
    refine q_getR (Sh.ref hI0.1 kx_1 rfl) ?_
    refine r_iload rfl ?_
    refine r_iconst 0 rfl ?_
    refine q_iadd (v53.toInt + 0) rfl (by omega) (fun v54 hv54 => ?_)
    refine r_iload_n rfl ?_
    refine q_iast (Sh.arr hI0.1 ka_5) ((6 * v51.toInt)) (by omega) (by omega) ?_
    have hI55 := HI.wA0 hI0 ka_5 (p := 5) rfl rfl ((6 * v51.toInt)) (a1)
    have hF56 := Fr.wA (p := 5) (j := (6 * v51.toInt)) (v := a1) hF0 rfl
    refine r_aload_n rfl ?_
    refine q_getR (Sh.ref hI55.1 kx_1 rfl) ?_
    refine r_iload rfl ?_
    refine r_iconst 1 rfl ?_
    refine q_iadd (v53.toInt + 1) rfl (by omega) (fun v57 hv57 => ?_)
    refine r_iload_n rfl ?_
    refine q_iast (Sh.arr hI55.1 ka_5) ((6 * v51.toInt + 1)) (by omega) (by omega) ?_
    have hI58 := HI.wA0 hI55 ka_5 (p := 5) rfl rfl ((6 * v51.toInt + 1)) (a2)
    have hF59 := Fr.wA (p := 5) (j := (6 * v51.toInt + 1)) (v := a2) hF56 rfl
    refine r_aload_n rfl ?_
    refine q_getR (Sh.ref hI58.1 kx_1 rfl) ?_
    refine r_iload rfl ?_
    refine r_iconst 2 rfl ?_
    refine q_iadd (v53.toInt + 2) rfl (by omega) (fun v60 hv60 => ?_)
    refine r_iload_n rfl ?_
    refine q_iast (Sh.arr hI58.1 ka_5) ((6 * v51.toInt + 2)) (by omega) (by omega) ?_
    have hI61 := HI.wA0 hI58 ka_5 (p := 5) rfl rfl ((6 * v51.toInt + 2)) (a3)
    have hF62 := Fr.wA (p := 5) (j := (6 * v51.toInt + 2)) (v := a3) hF59 rfl
    refine r_aload_n rfl ?_
    refine q_getR (Sh.ref hI61.1 kx_1 rfl) ?_
    refine r_iload rfl ?_
    refine r_iconst 3 rfl ?_
    refine q_iadd (v53.toInt + 3) rfl (by omega) (fun v63 hv63 => ?_)
    refine r_iload rfl ?_
    refine q_iast (Sh.arr hI61.1 ka_5) ((6 * v51.toInt + 3)) (by omega) (by omega) ?_
    have hI64 := HI.wA0 hI61 ka_5 (p := 5) rfl rfl ((6 * v51.toInt + 3)) (a4)
    have hF65 := Fr.wA (p := 5) (j := (6 * v51.toInt + 3)) (v := a4) hF62 rfl
    refine r_aload_n rfl ?_
    refine q_getR (Sh.ref hI64.1 kx_1 rfl) ?_
    refine r_iload rfl ?_
    refine r_iconst 4 rfl ?_
    refine q_iadd (v53.toInt + 4) rfl (by omega) (fun v66 hv66 => ?_)
    refine r_iload rfl ?_
    refine q_iast (Sh.arr hI64.1 ka_5) ((6 * v51.toInt + 4)) (by omega) (by omega) ?_
    have hI67 := HI.wA0 hI64 ka_5 (p := 5) rfl rfl ((6 * v51.toInt + 4)) (a5)
    have hF68 := Fr.wA (p := 5) (j := (6 * v51.toInt + 4)) (v := a5) hF65 rfl
    refine r_aload_n rfl ?_
    refine q_getR (Sh.ref hI67.1 kx_1 rfl) ?_
    refine r_iload rfl ?_
    refine r_iconst 5 rfl ?_
    refine q_iadd (v53.toInt + 5) rfl (by omega) (fun v69 hv69 => ?_)
    refine r_iload rfl ?_
    refine q_iast (Sh.arr hI67.1 ka_5) ((6 * v51.toInt + 5)) (by omega) (by omega) ?_
    have hI70 := HI.wA0 hI67 ka_5 (p := 5) rfl rfl ((6 * v51.toInt + 5)) (a6)
    have hF71 := Fr.wA (p := 5) (j := (6 * v51.toInt + 5)) (v := a6) hF68 rfl
    refine r_aload_n rfl ?_
    refine r_dup rfl ?_
    refine q_getI (Sh.int hI70.1 kx_1 rfl) v51 (((gI_sW).trans ((gI_sW).trans ((gI_sW).trans ((gI_sW).trans ((gI_sW).trans (gI_sW)))))).trans hv51) ?_
    refine r_iconst 1 rfl ?_
    refine q_iadd (v51.toInt + 1) rfl (by omega) (fun v72 hv72 => ?_)
    refine q_putI (Sh.int hI70.1 kx_1 rfl) rfl ?_
    have hI73 := HI.wI1 hI70 kx_1 rfl (p := 1) (b := 4) (v := v72) rfl (by dsimp only; omega)
    have hF74 := Fr.wI (p := 1) (b := 4) (v := v72) hF71 rfl
    refine r_aload_n rfl ?_
    refine q_getI (Sh.int hI73.1 kx_1 rfl) v72 (gI_sI_eq hI70.1 kx_1 rfl _) ?_
    refine r_iconst 1 rfl ?_
    refine q_isub (v72.toInt - 1) rfl (by omega) (fun v75 hv75 => ?_)
    refine r_ireti ?_
    exact ⟨_, rfl, hI73, hF74, _, rfl, by omega⟩
  · have c52_ : v51.toInt ≥ 8 := en_i_lt_f c52
    refine At.enter rfl ?_
    refine r_iconst (-1) rfl ?_
    refine r_ireti ?_
    exact ⟨_, rfl, hI0, hF0, _, rfl, by decide⟩

def F_X0_removeLoad_1 : List (Nat × Nat) := [(1, 4)]
def A_X0_removeLoad_1 : List Nat := [5]
set_option maxRecDepth 100000 in
set_option maxHeartbeats 4000000 in
theorem T_X0_removeLoad_1 (d : Nat) {N : Nat} {g0 : List en_E} (hI0 : HI g0) (a1 : Int32) : Ev (d + 2) 7 [.ref 1, .int a1] (g0, N) (fun w h' => ∃ g', h' = (g', N) ∧ HI g' ∧ Fr F_X0_removeLoad_1 A_X0_removeLoad_1 g0 g' ∧ w = none) := by
  have hF0 : Fr F_X0_removeLoad_1 A_X0_removeLoad_1 g0 g0 := Fr.rf
  refine Ev.mk rfl rfl ⟨Nat.le_of_ble_eq_true rfl, Or.inr (q_rc hI0.1 kx_1 rfl)⟩ ?_
  show At _ none _ _ (0, [(0, .ref 1), (1, .int a1)], [], (_, _)) _
  refine At.enter rfl ?_
  refine r_aload_n rfl ?_
  refine r_iload_n rfl ?_
  refine q_inlV 5 rfl [.ref 1, .int a1] [] (Nat.le_of_ble_eq_true rfl) rfl ?_
  refine Ev.mk rfl rfl ⟨Nat.le_of_ble_eq_true rfl, Or.inr (q_rc hI0.1 kx_1 rfl)⟩ ?_
  show At _ none _ _ (0, [(0, .ref 1), (1, .int a1)], [], (_, _)) _
  refine At.enter rfl ?_
  refine r_iload_n rfl ?_
  refine r_ifs 4 rfl (fun c31 => ?_) (fun c31 => ?_)
  · have c31_ : a1.toInt < 0 := en_k_lt_t c31
    refine At.enter rfl ?_
    refine r_iconst 0 rfl ?_
    refine Ar.fall 17 rfl ?_
    refine At.enter rfl ?_
    refine q_iretz (by decide) ?_
    refine At.enter rfl ?_
    refine r_ift (by decide) ?_
    refine At.enter rfl ?_
    refine r_vret ?_
    exact ⟨_, rfl, hI0, hF0, rfl⟩
  · have c31_ : a1.toInt ≥ 0 := en_k_lt_f c31
    refine At.enter rfl ?_
    refine r_iload_n rfl ?_
    refine r_aload_n rfl ?_
    obtain ⟨v32, hv32⟩ : ∃ v, gI g0 1 4 = v := ⟨_, rfl⟩
    have rv32 := RgF.at hI0.2.1 (p := 1) (b := 4) rfl
    rw [hv32] at rv32
    dsimp only at rv32
    refine q_getI (Sh.int hI0.1 kx_1 rfl) v32 hv32 ?_
    have bv34 := q_bnd a1
    have bv35 := q_bnd v32
    refine r_ics 12 rfl (fun c33 => ?_) (fun c33 => ?_)
    · have c33_ : a1.toInt ≥ v32.toInt := en_i_ge_t c33
      refine At.enter rfl ?_
      refine r_iconst 0 rfl ?_
      refine Ar.fall 17 rfl ?_
      refine At.enter rfl ?_
      refine q_iretz (by decide) ?_
      refine At.enter rfl ?_
      refine r_ift (by decide) ?_
      refine At.enter rfl ?_
      refine r_vret ?_
      exact ⟨_, rfl, hI0, hF0, rfl⟩
    · have c33_ : a1.toInt < v32.toInt := en_i_ge_f c33
      refine At.enter rfl ?_
      refine r_iconst 1 rfl ?_
      refine r_goto ?_
      refine At.enter rfl ?_
      refine q_iretz (by decide) ?_
      refine At.enter rfl ?_
      refine r_iff 8 rfl (by decide) ?_
      refine At.enter rfl ?_
      refine r_iload_n rfl ?_
      refine r_iconst 1 rfl ?_
      refine q_iadd (a1.toInt + 1) rfl (by omega) (fun v36 hv36 => ?_)
      refine r_bipush 6 rfl ?_
      refine q_imul (v36.toInt * 6) rfl (by omega) (fun v37 hv37 => ?_)
      refine r_istore_n ([(2, .int v37), (0, .ref 1), (1, .int a1)]) rfl ?_
      refine r_aload_n rfl ?_
      refine q_getR (Sh.ref hI0.1 kx_1 rfl) ?_
      refine r_iload_n rfl ?_
      refine r_aload_n rfl ?_
      refine q_getR (Sh.ref hI0.1 kx_1 rfl) ?_
      refine r_iload_n rfl ?_
      refine r_bipush 6 rfl ?_
      refine q_imul (a1.toInt * 6) rfl (by omega) (fun v38 hv38 => ?_)
      refine r_aload_n rfl ?_
      refine q_getI (Sh.int hI0.1 kx_1 rfl) v32 hv32 ?_
      refine r_bipush 6 rfl ?_
      refine q_imul (v32.toInt * 6) rfl (by omega) (fun v39 hv39 => ?_)
      refine r_iload_n rfl ?_
      refine q_isub (v39.toInt - v37.toInt) rfl (by omega) (fun v40 hv40 => ?_)
      refine q_cpy rfl (Nat.le_of_ble_eq_true rfl) (Sh.arr hI0.1 ka_5) (Sh.arr hI0.1 ka_5) ⟨by omega, by omega, by omega, by omega, by omega⟩ ?_
      have hI41 := HI.cpy0 hI0 ka_5 ka_5 rfl rfl ((v37 : Int32).toInt.toNat) ((v38 : Int32).toInt.toNat) ((v40 : Int32).toInt.toNat) (by omega) (by omega)
      have hF42 := Fr.cpy (p0 := 5) (p1 := 5) hF0 rfl ((v37 : Int32).toInt.toNat) ((v38 : Int32).toInt.toNat) ((v40 : Int32).toInt.toNat)
      refine r_aload_n rfl ?_
      refine r_dup rfl ?_
      refine q_getI (Sh.int hI41.1 kx_1 rfl) v32 ((gI_sW).trans hv32) ?_
      refine r_iconst 1 rfl ?_
      refine q_isub (v32.toInt - 1) rfl (by omega) (fun v43 hv43 => ?_)
      refine q_putI (Sh.int hI41.1 kx_1 rfl) rfl ?_
      have hI44 := HI.wI1 hI41 kx_1 rfl (p := 1) (b := 4) (v := v43) rfl (by dsimp only; omega)
      have hF45 := Fr.wI (p := 1) (b := 4) (v := v43) hF42 rfl
      refine Ar.fall 50 rfl ?_
      refine At.enter rfl ?_
      refine r_vret ?_
      exact ⟨_, rfl, hI44, hF45, rfl⟩

def F_X10_stand_0 : List (Nat × Nat) := [(0, 14), (0, 17), (1, 0), (220, 2), (222, 2), (223, 5), (223, 10)]
def A_X10_stand_0 : List Nat := [2, 3, 4, 230]
set_option maxRecDepth 100000 in
set_option maxHeartbeats 4000000 in
theorem T_X10_stand_0 (d : Nat) {N : Nat} {g0 : List en_E} (hI0 : HI g0) (a1 : Int32) (a2 : Int32) (a3 : Int32) : Ev (d + 3) 104 [.ref 0, .int a1, .int a2, .int a3] (g0, N) (fun w h' => ∃ g', h' = (g', N) ∧ HI g' ∧ Fr F_X10_stand_0 A_X10_stand_0 g0 g' ∧ ∃ r : Int32, w = some (.int r) ∧ ((-5) ≤ r.toInt ∧ r.toInt ≤ 11) ∧ (((¬ (-1 ≤ a1.toInt ∧ a1.toInt ≤ 11 ∧ 1 ≤ a2.toInt ∧ a2.toInt ≤ 9 ∧ 0 ≤ a3.toInt ∧ a3.toInt ≤ 99) → r.toInt = -1 ∧ (gI g' 1 0).toInt = (gI g0 1 0).toInt) ∧ ((-1 ≤ a1.toInt ∧ a1.toInt ≤ 11 ∧ 1 ≤ a2.toInt ∧ a2.toInt ≤ 9 ∧ 0 ≤ a3.toInt ∧ a3.toInt ≤ 99) ∧ 12 ≤ (gI g0 1 0).toInt → r.toInt = -5 ∧ (gI g' 1 0).toInt = (gI g0 1 0).toInt) ∧ ((-1 ≤ a1.toInt ∧ a1.toInt ≤ 11 ∧ 1 ≤ a2.toInt ∧ a2.toInt ≤ 9 ∧ 0 ≤ a3.toInt ∧ a3.toInt ≤ 99) ∧ (gI g0 1 0).toInt < 12 → r.toInt = (gI g0 1 0).toInt ∧ (gI g' 1 0).toInt = (gI g0 1 0).toInt + 1)) ∧ (∀ i : Int, 0 ≤ i → i < 12 → (eA g' 2 (i)).toInt = if ((-1 ≤ a1.toInt ∧ a1.toInt ≤ 11 ∧ 1 ≤ a2.toInt ∧ a2.toInt ≤ 9 ∧ 0 ≤ a3.toInt ∧ a3.toInt ≤ 99) ∧ (gI g0 1 0).toInt < 12) ∧ i = (gI g0 1 0).toInt then a1.toInt else (eA g0 2 (i)).toInt) ∧ (∀ i : Int, 0 ≤ i → i < 12 → (eA g' 3 (i)).toInt = if ((-1 ≤ a1.toInt ∧ a1.toInt ≤ 11 ∧ 1 ≤ a2.toInt ∧ a2.toInt ≤ 9 ∧ 0 ≤ a3.toInt ∧ a3.toInt ≤ 99) ∧ (gI g0 1 0).toInt < 12) ∧ i = (gI g0 1 0).toInt then a2.toInt else (eA g0 3 (i)).toInt) ∧ (∀ i : Int, 0 ≤ i → i < 12 → (eA g' 4 (i)).toInt = if ((-1 ≤ a1.toInt ∧ a1.toInt ≤ 11 ∧ 1 ≤ a2.toInt ∧ a2.toInt ≤ 9 ∧ 0 ≤ a3.toInt ∧ a3.toInt ≤ 99) ∧ (gI g0 1 0).toInt < 12) ∧ i = (gI g0 1 0).toInt then a3.toInt else (eA g0 4 (i)).toInt))) := by
  have hF0 : Fr F_X10_stand_0 A_X10_stand_0 g0 g0 := Fr.rf
  refine Ev.mk rfl rfl ⟨Nat.le_of_ble_eq_true rfl, Or.inr (q_rc hI0.1 kx_0 rfl)⟩ ?_
  show At _ none _ _ (0, [(0, .ref 0), (1, .int a1), (2, .int a2), (3, .int a3)], [], (_, _)) _
  refine At.enter rfl ?_
  refine r_iload_n rfl ?_
  refine r_iconst (-1) rfl ?_
  refine r_bipush 11 rfl ?_
  refine q_inlS 7 rfl [.int a1, .int (-1), .int 11] [] (Nat.le_of_ble_eq_true rfl) rfl ?_
  refine Ev.mk rfl rfl ⟨Nat.le_of_ble_eq_true rfl, Or.inl rfl⟩ ?_
  show At _ none _ _ (0, [(0, .int a1), (1, .int (-1)), (2, .int 11)], [], (_, _)) _
  refine At.enter rfl ?_
  refine r_iload_n rfl ?_
  refine r_iload_n rfl ?_
  refine r_ics 5 rfl (fun c153 => ?_) (fun c153 => ?_)
  · have c153_ : a1.toInt < (-1) := en_i_lt_t c153
    refine At.enter rfl ?_
    refine r_iconst 0 rfl ?_
    refine Ar.fall 15 rfl ?_
    refine At.enter rfl ?_
    refine q_iretz (by decide) ?_
    refine At.enter rfl ?_
    refine r_ift (by decide) ?_
    refine At.enter rfl ?_
    refine r_aload_n rfl ?_
    refine r_iconst (-1) rfl ?_
    refine r_callV 29 rfl [.ref 0, .int (-1)] [] (Nat.le_of_ble_eq_true rfl) rfl (T_X10_refused_0 _ hI0 (-1) (by decide)) ?_
    rintro _ _ ⟨g154, rfl, hI155, hF156, v157, rfl, hr158⟩
    refine At.sti ?_
    have hF159 := Fr.tr hF0 hF156 rfl rfl
    have zv160 : ((-1) : Int32).toInt = (-1) := rfl
    refine At.enter rfl ?_
    refine r_ireti ?_
    obtain ⟨v161, hv161⟩ : ∃ v, gI g0 1 0 = v := ⟨_, rfl⟩
    have rv161 := RgF.at hI0.2.1 (p := 1) (b := 0) rfl
    rw [hv161] at rv161
    dsimp only at rv161
    have tv161 := congrArg Int32.toInt hv161
    have x162 := HI.eqI hI155 (p := 1) (b := 0) (((hF156.1 1 0 (by decide)).trans hv161))
    have x163 := HI.eqI hI0 (p := 1) (b := 0) (hv161)
    have x164 := HI.eqI hI0 (p := 1) (b := 0) (hv161)
    exact ⟨_, rfl, hI155, hF159, _, rfl, by omega, ⟨(by omega), (by intro i i0 i1; refine Eq.trans ?_ (if_neg (show ¬ (((-1 ≤ a1.toInt ∧ a1.toInt ≤ 11 ∧ 1 ≤ a2.toInt ∧ a2.toInt ≤ 9 ∧ 0 ≤ a3.toInt ∧ a3.toInt ≤ 99) ∧ (gI g0 1 0).toInt < 12) ∧ i = (gI g0 1 0).toInt) from by omega)).symm; refine (eA_ti ((hF156.2.1 2 (by decide)))).trans ?_; (first | rfl | exact eA_ix (by omega) | omega)), (by intro i i0 i1; refine Eq.trans ?_ (if_neg (show ¬ (((-1 ≤ a1.toInt ∧ a1.toInt ≤ 11 ∧ 1 ≤ a2.toInt ∧ a2.toInt ≤ 9 ∧ 0 ≤ a3.toInt ∧ a3.toInt ≤ 99) ∧ (gI g0 1 0).toInt < 12) ∧ i = (gI g0 1 0).toInt) from by omega)).symm; refine (eA_ti ((hF156.2.1 3 (by decide)))).trans ?_; (first | rfl | exact eA_ix (by omega) | omega)), (by intro i i0 i1; refine Eq.trans ?_ (if_neg (show ¬ (((-1 ≤ a1.toInt ∧ a1.toInt ≤ 11 ∧ 1 ≤ a2.toInt ∧ a2.toInt ≤ 9 ∧ 0 ≤ a3.toInt ∧ a3.toInt ≤ 99) ∧ (gI g0 1 0).toInt < 12) ∧ i = (gI g0 1 0).toInt) from by omega)).symm; refine (eA_ti ((hF156.2.1 4 (by decide)))).trans ?_; (first | rfl | exact eA_ix (by omega) | omega))⟩⟩
  · have c153_ : a1.toInt ≥ (-1) := en_i_lt_f c153
    refine At.enter rfl ?_
    refine r_iload_n rfl ?_
    refine r_iload_n rfl ?_
    refine r_ics 10 rfl (fun c165 => ?_) (fun c165 => ?_)
    · have c165_ : a1.toInt > 11 := en_i_gt_t c165
      refine At.enter rfl ?_
      refine r_iconst 0 rfl ?_
      refine Ar.fall 15 rfl ?_
      refine At.enter rfl ?_
      refine q_iretz (by decide) ?_
      refine At.enter rfl ?_
      refine r_ift (by decide) ?_
      refine At.enter rfl ?_
      refine r_aload_n rfl ?_
      refine r_iconst (-1) rfl ?_
      refine r_callV 29 rfl [.ref 0, .int (-1)] [] (Nat.le_of_ble_eq_true rfl) rfl (T_X10_refused_0 _ hI0 (-1) (by decide)) ?_
      rintro _ _ ⟨g166, rfl, hI167, hF168, v169, rfl, hr170⟩
      refine At.sti ?_
      have hF171 := Fr.tr hF0 hF168 rfl rfl
      have zv172 : ((-1) : Int32).toInt = (-1) := rfl
      refine At.enter rfl ?_
      refine r_ireti ?_
      obtain ⟨v173, hv173⟩ : ∃ v, gI g0 1 0 = v := ⟨_, rfl⟩
      have rv173 := RgF.at hI0.2.1 (p := 1) (b := 0) rfl
      rw [hv173] at rv173
      dsimp only at rv173
      have tv173 := congrArg Int32.toInt hv173
      have x174 := HI.eqI hI167 (p := 1) (b := 0) (((hF168.1 1 0 (by decide)).trans hv173))
      have x175 := HI.eqI hI0 (p := 1) (b := 0) (hv173)
      have x176 := HI.eqI hI0 (p := 1) (b := 0) (hv173)
      exact ⟨_, rfl, hI167, hF171, _, rfl, by omega, ⟨(by omega), (by intro i i0 i1; refine Eq.trans ?_ (if_neg (show ¬ (((-1 ≤ a1.toInt ∧ a1.toInt ≤ 11 ∧ 1 ≤ a2.toInt ∧ a2.toInt ≤ 9 ∧ 0 ≤ a3.toInt ∧ a3.toInt ≤ 99) ∧ (gI g0 1 0).toInt < 12) ∧ i = (gI g0 1 0).toInt) from by omega)).symm; refine (eA_ti ((hF168.2.1 2 (by decide)))).trans ?_; (first | rfl | exact eA_ix (by omega) | omega)), (by intro i i0 i1; refine Eq.trans ?_ (if_neg (show ¬ (((-1 ≤ a1.toInt ∧ a1.toInt ≤ 11 ∧ 1 ≤ a2.toInt ∧ a2.toInt ≤ 9 ∧ 0 ≤ a3.toInt ∧ a3.toInt ≤ 99) ∧ (gI g0 1 0).toInt < 12) ∧ i = (gI g0 1 0).toInt) from by omega)).symm; refine (eA_ti ((hF168.2.1 3 (by decide)))).trans ?_; (first | rfl | exact eA_ix (by omega) | omega)), (by intro i i0 i1; refine Eq.trans ?_ (if_neg (show ¬ (((-1 ≤ a1.toInt ∧ a1.toInt ≤ 11 ∧ 1 ≤ a2.toInt ∧ a2.toInt ≤ 9 ∧ 0 ≤ a3.toInt ∧ a3.toInt ≤ 99) ∧ (gI g0 1 0).toInt < 12) ∧ i = (gI g0 1 0).toInt) from by omega)).symm; refine (eA_ti ((hF168.2.1 4 (by decide)))).trans ?_; (first | rfl | exact eA_ix (by omega) | omega))⟩⟩
    · have c165_ : a1.toInt ≤ 11 := en_i_gt_f c165
      refine At.enter rfl ?_
      refine r_iconst 1 rfl ?_
      refine r_goto ?_
      refine At.enter rfl ?_
      refine q_iretz (by decide) ?_
      refine At.enter rfl ?_
      refine r_iff 10 rfl (by decide) ?_
      refine At.enter rfl ?_
      refine r_iload_n rfl ?_
      refine q_inlS 14 rfl [.int a2] [] (Nat.le_of_ble_eq_true rfl) rfl ?_
      refine Ev.mk rfl rfl ⟨Nat.le_of_ble_eq_true rfl, Or.inl rfl⟩ ?_
      show At _ none _ _ (0, [(0, .int a2)], [], (_, _)) _
      refine At.enter rfl ?_
      refine r_iload_n rfl ?_
      refine r_iconst 1 rfl ?_
      refine r_bipush 9 rfl ?_
      refine q_inlS 7 rfl [.int a2, .int 1, .int 9] [] (Nat.le_of_ble_eq_true rfl) rfl ?_
      refine Ev.mk rfl rfl ⟨Nat.le_of_ble_eq_true rfl, Or.inl rfl⟩ ?_
      show At _ none _ _ (0, [(0, .int a2), (1, .int 1), (2, .int 9)], [], (_, _)) _
      refine At.enter rfl ?_
      refine r_iload_n rfl ?_
      refine r_iload_n rfl ?_
      refine r_ics 5 rfl (fun c177 => ?_) (fun c177 => ?_)
      · have c177_ : a2.toInt < 1 := en_i_lt_t c177
        refine At.enter rfl ?_
        refine r_iconst 0 rfl ?_
        refine Ar.fall 15 rfl ?_
        refine At.enter rfl ?_
        refine q_iretz (by decide) ?_
        refine At.enter rfl ?_
        refine q_iretz (by decide) ?_
        refine At.enter rfl ?_
        refine r_ift (by decide) ?_
        refine At.enter rfl ?_
        refine r_aload_n rfl ?_
        refine r_iconst (-1) rfl ?_
        refine r_callV 29 rfl [.ref 0, .int (-1)] [] (Nat.le_of_ble_eq_true rfl) rfl (T_X10_refused_0 _ hI0 (-1) (by decide)) ?_
        rintro _ _ ⟨g178, rfl, hI179, hF180, v181, rfl, hr182⟩
        refine At.sti ?_
        have hF183 := Fr.tr hF0 hF180 rfl rfl
        have zv184 : ((-1) : Int32).toInt = (-1) := rfl
        refine At.enter rfl ?_
        refine r_ireti ?_
        obtain ⟨v185, hv185⟩ : ∃ v, gI g0 1 0 = v := ⟨_, rfl⟩
        have rv185 := RgF.at hI0.2.1 (p := 1) (b := 0) rfl
        rw [hv185] at rv185
        dsimp only at rv185
        have tv185 := congrArg Int32.toInt hv185
        have x186 := HI.eqI hI179 (p := 1) (b := 0) (((hF180.1 1 0 (by decide)).trans hv185))
        have x187 := HI.eqI hI0 (p := 1) (b := 0) (hv185)
        have x188 := HI.eqI hI0 (p := 1) (b := 0) (hv185)
        exact ⟨_, rfl, hI179, hF183, _, rfl, by omega, ⟨(by omega), (by intro i i0 i1; refine Eq.trans ?_ (if_neg (show ¬ (((-1 ≤ a1.toInt ∧ a1.toInt ≤ 11 ∧ 1 ≤ a2.toInt ∧ a2.toInt ≤ 9 ∧ 0 ≤ a3.toInt ∧ a3.toInt ≤ 99) ∧ (gI g0 1 0).toInt < 12) ∧ i = (gI g0 1 0).toInt) from by omega)).symm; refine (eA_ti ((hF180.2.1 2 (by decide)))).trans ?_; (first | rfl | exact eA_ix (by omega) | omega)), (by intro i i0 i1; refine Eq.trans ?_ (if_neg (show ¬ (((-1 ≤ a1.toInt ∧ a1.toInt ≤ 11 ∧ 1 ≤ a2.toInt ∧ a2.toInt ≤ 9 ∧ 0 ≤ a3.toInt ∧ a3.toInt ≤ 99) ∧ (gI g0 1 0).toInt < 12) ∧ i = (gI g0 1 0).toInt) from by omega)).symm; refine (eA_ti ((hF180.2.1 3 (by decide)))).trans ?_; (first | rfl | exact eA_ix (by omega) | omega)), (by intro i i0 i1; refine Eq.trans ?_ (if_neg (show ¬ (((-1 ≤ a1.toInt ∧ a1.toInt ≤ 11 ∧ 1 ≤ a2.toInt ∧ a2.toInt ≤ 9 ∧ 0 ≤ a3.toInt ∧ a3.toInt ≤ 99) ∧ (gI g0 1 0).toInt < 12) ∧ i = (gI g0 1 0).toInt) from by omega)).symm; refine (eA_ti ((hF180.2.1 4 (by decide)))).trans ?_; (first | rfl | exact eA_ix (by omega) | omega))⟩⟩
      · have c177_ : a2.toInt ≥ 1 := en_i_lt_f c177
        refine At.enter rfl ?_
        refine r_iload_n rfl ?_
        refine r_iload_n rfl ?_
        refine r_ics 10 rfl (fun c189 => ?_) (fun c189 => ?_)
        · have c189_ : a2.toInt > 9 := en_i_gt_t c189
          refine At.enter rfl ?_
          refine r_iconst 0 rfl ?_
          refine Ar.fall 15 rfl ?_
          refine At.enter rfl ?_
          refine q_iretz (by decide) ?_
          refine At.enter rfl ?_
          refine q_iretz (by decide) ?_
          refine At.enter rfl ?_
          refine r_ift (by decide) ?_
          refine At.enter rfl ?_
          refine r_aload_n rfl ?_
          refine r_iconst (-1) rfl ?_
          refine r_callV 29 rfl [.ref 0, .int (-1)] [] (Nat.le_of_ble_eq_true rfl) rfl (T_X10_refused_0 _ hI0 (-1) (by decide)) ?_
          rintro _ _ ⟨g190, rfl, hI191, hF192, v193, rfl, hr194⟩
          refine At.sti ?_
          have hF195 := Fr.tr hF0 hF192 rfl rfl
          have zv196 : ((-1) : Int32).toInt = (-1) := rfl
          refine At.enter rfl ?_
          refine r_ireti ?_
          obtain ⟨v197, hv197⟩ : ∃ v, gI g0 1 0 = v := ⟨_, rfl⟩
          have rv197 := RgF.at hI0.2.1 (p := 1) (b := 0) rfl
          rw [hv197] at rv197
          dsimp only at rv197
          have tv197 := congrArg Int32.toInt hv197
          have x198 := HI.eqI hI191 (p := 1) (b := 0) (((hF192.1 1 0 (by decide)).trans hv197))
          have x199 := HI.eqI hI0 (p := 1) (b := 0) (hv197)
          have x200 := HI.eqI hI0 (p := 1) (b := 0) (hv197)
          exact ⟨_, rfl, hI191, hF195, _, rfl, by omega, ⟨(by omega), (by intro i i0 i1; refine Eq.trans ?_ (if_neg (show ¬ (((-1 ≤ a1.toInt ∧ a1.toInt ≤ 11 ∧ 1 ≤ a2.toInt ∧ a2.toInt ≤ 9 ∧ 0 ≤ a3.toInt ∧ a3.toInt ≤ 99) ∧ (gI g0 1 0).toInt < 12) ∧ i = (gI g0 1 0).toInt) from by omega)).symm; refine (eA_ti ((hF192.2.1 2 (by decide)))).trans ?_; (first | rfl | exact eA_ix (by omega) | omega)), (by intro i i0 i1; refine Eq.trans ?_ (if_neg (show ¬ (((-1 ≤ a1.toInt ∧ a1.toInt ≤ 11 ∧ 1 ≤ a2.toInt ∧ a2.toInt ≤ 9 ∧ 0 ≤ a3.toInt ∧ a3.toInt ≤ 99) ∧ (gI g0 1 0).toInt < 12) ∧ i = (gI g0 1 0).toInt) from by omega)).symm; refine (eA_ti ((hF192.2.1 3 (by decide)))).trans ?_; (first | rfl | exact eA_ix (by omega) | omega)), (by intro i i0 i1; refine Eq.trans ?_ (if_neg (show ¬ (((-1 ≤ a1.toInt ∧ a1.toInt ≤ 11 ∧ 1 ≤ a2.toInt ∧ a2.toInt ≤ 9 ∧ 0 ≤ a3.toInt ∧ a3.toInt ≤ 99) ∧ (gI g0 1 0).toInt < 12) ∧ i = (gI g0 1 0).toInt) from by omega)).symm; refine (eA_ti ((hF192.2.1 4 (by decide)))).trans ?_; (first | rfl | exact eA_ix (by omega) | omega))⟩⟩
        · have c189_ : a2.toInt ≤ 9 := en_i_gt_f c189
          refine At.enter rfl ?_
          refine r_iconst 1 rfl ?_
          refine r_goto ?_
          refine At.enter rfl ?_
          refine q_iretz (by decide) ?_
          refine At.enter rfl ?_
          refine q_iretz (by decide) ?_
          refine At.enter rfl ?_
          refine r_iff 17 rfl (by decide) ?_
          refine At.enter rfl ?_
          refine r_iload_n rfl ?_
          refine q_inlS 21 rfl [.int a3] [] (Nat.le_of_ble_eq_true rfl) rfl ?_
          refine Ev.mk rfl rfl ⟨Nat.le_of_ble_eq_true rfl, Or.inl rfl⟩ ?_
          show At _ none _ _ (0, [(0, .int a3)], [], (_, _)) _
          refine At.enter rfl ?_
          refine r_iload_n rfl ?_
          refine r_iconst 0 rfl ?_
          refine r_bipush 99 rfl ?_
          refine q_inlS 7 rfl [.int a3, .int 0, .int 99] [] (Nat.le_of_ble_eq_true rfl) rfl ?_
          refine Ev.mk rfl rfl ⟨Nat.le_of_ble_eq_true rfl, Or.inl rfl⟩ ?_
          show At _ none _ _ (0, [(0, .int a3), (1, .int 0), (2, .int 99)], [], (_, _)) _
          refine At.enter rfl ?_
          refine r_iload_n rfl ?_
          refine r_iload_n rfl ?_
          refine r_ics 5 rfl (fun c201 => ?_) (fun c201 => ?_)
          · have c201_ : a3.toInt < 0 := en_i_lt_t c201
            refine At.enter rfl ?_
            refine r_iconst 0 rfl ?_
            refine Ar.fall 15 rfl ?_
            refine At.enter rfl ?_
            refine q_iretz (by decide) ?_
            refine At.enter rfl ?_
            refine q_iretz (by decide) ?_
            refine At.enter rfl ?_
            refine r_iff 24 rfl (by decide) ?_
            refine At.enter rfl ?_
            refine r_aload_n rfl ?_
            refine r_iconst (-1) rfl ?_
            refine r_callV 29 rfl [.ref 0, .int (-1)] [] (Nat.le_of_ble_eq_true rfl) rfl (T_X10_refused_0 _ hI0 (-1) (by decide)) ?_
            rintro _ _ ⟨g202, rfl, hI203, hF204, v205, rfl, hr206⟩
            refine At.sti ?_
            have hF207 := Fr.tr hF0 hF204 rfl rfl
            have zv208 : ((-1) : Int32).toInt = (-1) := rfl
            refine At.enter rfl ?_
            refine r_ireti ?_
            obtain ⟨v209, hv209⟩ : ∃ v, gI g0 1 0 = v := ⟨_, rfl⟩
            have rv209 := RgF.at hI0.2.1 (p := 1) (b := 0) rfl
            rw [hv209] at rv209
            dsimp only at rv209
            have tv209 := congrArg Int32.toInt hv209
            have x210 := HI.eqI hI203 (p := 1) (b := 0) (((hF204.1 1 0 (by decide)).trans hv209))
            have x211 := HI.eqI hI0 (p := 1) (b := 0) (hv209)
            have x212 := HI.eqI hI0 (p := 1) (b := 0) (hv209)
            exact ⟨_, rfl, hI203, hF207, _, rfl, by omega, ⟨(by omega), (by intro i i0 i1; refine Eq.trans ?_ (if_neg (show ¬ (((-1 ≤ a1.toInt ∧ a1.toInt ≤ 11 ∧ 1 ≤ a2.toInt ∧ a2.toInt ≤ 9 ∧ 0 ≤ a3.toInt ∧ a3.toInt ≤ 99) ∧ (gI g0 1 0).toInt < 12) ∧ i = (gI g0 1 0).toInt) from by omega)).symm; refine (eA_ti ((hF204.2.1 2 (by decide)))).trans ?_; (first | rfl | exact eA_ix (by omega) | omega)), (by intro i i0 i1; refine Eq.trans ?_ (if_neg (show ¬ (((-1 ≤ a1.toInt ∧ a1.toInt ≤ 11 ∧ 1 ≤ a2.toInt ∧ a2.toInt ≤ 9 ∧ 0 ≤ a3.toInt ∧ a3.toInt ≤ 99) ∧ (gI g0 1 0).toInt < 12) ∧ i = (gI g0 1 0).toInt) from by omega)).symm; refine (eA_ti ((hF204.2.1 3 (by decide)))).trans ?_; (first | rfl | exact eA_ix (by omega) | omega)), (by intro i i0 i1; refine Eq.trans ?_ (if_neg (show ¬ (((-1 ≤ a1.toInt ∧ a1.toInt ≤ 11 ∧ 1 ≤ a2.toInt ∧ a2.toInt ≤ 9 ∧ 0 ≤ a3.toInt ∧ a3.toInt ≤ 99) ∧ (gI g0 1 0).toInt < 12) ∧ i = (gI g0 1 0).toInt) from by omega)).symm; refine (eA_ti ((hF204.2.1 4 (by decide)))).trans ?_; (first | rfl | exact eA_ix (by omega) | omega))⟩⟩
          · have c201_ : a3.toInt ≥ 0 := en_i_lt_f c201
            refine At.enter rfl ?_
            refine r_iload_n rfl ?_
            refine r_iload_n rfl ?_
            refine r_ics 10 rfl (fun c213 => ?_) (fun c213 => ?_)
            · have c213_ : a3.toInt > 99 := en_i_gt_t c213
              refine At.enter rfl ?_
              refine r_iconst 0 rfl ?_
              refine Ar.fall 15 rfl ?_
              refine At.enter rfl ?_
              refine q_iretz (by decide) ?_
              refine At.enter rfl ?_
              refine q_iretz (by decide) ?_
              refine At.enter rfl ?_
              refine r_iff 24 rfl (by decide) ?_
              refine At.enter rfl ?_
              refine r_aload_n rfl ?_
              refine r_iconst (-1) rfl ?_
              refine r_callV 29 rfl [.ref 0, .int (-1)] [] (Nat.le_of_ble_eq_true rfl) rfl (T_X10_refused_0 _ hI0 (-1) (by decide)) ?_
              rintro _ _ ⟨g214, rfl, hI215, hF216, v217, rfl, hr218⟩
              refine At.sti ?_
              have hF219 := Fr.tr hF0 hF216 rfl rfl
              have zv220 : ((-1) : Int32).toInt = (-1) := rfl
              refine At.enter rfl ?_
              refine r_ireti ?_
              obtain ⟨v221, hv221⟩ : ∃ v, gI g0 1 0 = v := ⟨_, rfl⟩
              have rv221 := RgF.at hI0.2.1 (p := 1) (b := 0) rfl
              rw [hv221] at rv221
              dsimp only at rv221
              have tv221 := congrArg Int32.toInt hv221
              have x222 := HI.eqI hI215 (p := 1) (b := 0) (((hF216.1 1 0 (by decide)).trans hv221))
              have x223 := HI.eqI hI0 (p := 1) (b := 0) (hv221)
              have x224 := HI.eqI hI0 (p := 1) (b := 0) (hv221)
              exact ⟨_, rfl, hI215, hF219, _, rfl, by omega, ⟨(by omega), (by intro i i0 i1; refine Eq.trans ?_ (if_neg (show ¬ (((-1 ≤ a1.toInt ∧ a1.toInt ≤ 11 ∧ 1 ≤ a2.toInt ∧ a2.toInt ≤ 9 ∧ 0 ≤ a3.toInt ∧ a3.toInt ≤ 99) ∧ (gI g0 1 0).toInt < 12) ∧ i = (gI g0 1 0).toInt) from by omega)).symm; refine (eA_ti ((hF216.2.1 2 (by decide)))).trans ?_; (first | rfl | exact eA_ix (by omega) | omega)), (by intro i i0 i1; refine Eq.trans ?_ (if_neg (show ¬ (((-1 ≤ a1.toInt ∧ a1.toInt ≤ 11 ∧ 1 ≤ a2.toInt ∧ a2.toInt ≤ 9 ∧ 0 ≤ a3.toInt ∧ a3.toInt ≤ 99) ∧ (gI g0 1 0).toInt < 12) ∧ i = (gI g0 1 0).toInt) from by omega)).symm; refine (eA_ti ((hF216.2.1 3 (by decide)))).trans ?_; (first | rfl | exact eA_ix (by omega) | omega)), (by intro i i0 i1; refine Eq.trans ?_ (if_neg (show ¬ (((-1 ≤ a1.toInt ∧ a1.toInt ≤ 11 ∧ 1 ≤ a2.toInt ∧ a2.toInt ≤ 9 ∧ 0 ≤ a3.toInt ∧ a3.toInt ≤ 99) ∧ (gI g0 1 0).toInt < 12) ∧ i = (gI g0 1 0).toInt) from by omega)).symm; refine (eA_ti ((hF216.2.1 4 (by decide)))).trans ?_; (first | rfl | exact eA_ix (by omega) | omega))⟩⟩
            · have c213_ : a3.toInt ≤ 99 := en_i_gt_f c213
              refine At.enter rfl ?_
              refine r_iconst 1 rfl ?_
              refine r_goto ?_
              refine At.enter rfl ?_
              refine q_iretz (by decide) ?_
              refine At.enter rfl ?_
              refine q_iretz (by decide) ?_
              refine At.enter rfl ?_
              refine r_ift (by decide) ?_
              refine At.enter rfl ?_
              refine r_aload_n rfl ?_
              refine q_getR (Sh.ref hI0.1 kx_0 rfl) ?_
              obtain ⟨v225, hv225⟩ : ∃ v, gI g0 1 0 = v := ⟨_, rfl⟩
              have rv225 := RgF.at hI0.2.1 (p := 1) (b := 0) rfl
              rw [hv225] at rv225
              dsimp only at rv225
              refine q_getI (Sh.int hI0.1 kx_1 rfl) v225 hv225 ?_
              refine r_bipush 12 rfl ?_
              refine r_ics 42 rfl (fun c226 => ?_) (fun c226 => ?_)
              · have c226_ : v225.toInt < 12 := en_i_lt_t c226
                refine At.enter rfl ?_
                refine r_aload_n rfl ?_
                refine r_callV 53 rfl [.ref 0] [] (Nat.le_of_ble_eq_true rfl) rfl (T_X10_changed_0 _ hI0) ?_
                rintro _ _ ⟨g227, rfl, hI228, hF229, rfl⟩
                refine At.stn ?_
                have hF232 := Fr.tr hF0 hF229 rfl rfl
                refine At.enter rfl ?_
                refine r_aload_n rfl ?_
                refine r_aload_n rfl ?_
                refine q_getR (Sh.ref hI228.1 kx_0 rfl) ?_
                refine r_iload_n rfl ?_
                refine r_iload_n rfl ?_
                refine r_iload_n rfl ?_
                refine q_inlV 64 rfl [.ref 1, .int a1, .int a2, .int a3] [.ref 0] (Nat.le_of_ble_eq_true rfl) rfl ?_
                refine Ev.mk rfl rfl ⟨Nat.le_of_ble_eq_true rfl, Or.inr (q_rc hI228.1 kx_1 rfl)⟩ ?_
                show At _ none _ _ (0, [(0, .ref 1), (1, .int a1), (2, .int a2), (3, .int a3)], [], (_, _)) _
                refine At.enter rfl ?_
                refine r_aload_n rfl ?_
                refine q_getI (Sh.int hI228.1 kx_1 rfl) v225 ((hF229.1 1 0 (by decide)).trans hv225) ?_
                refine r_bipush 12 rfl ?_
                refine r_ics 9 rfl (fun c233 => ?_) (fun c233 => ?_)
                · have c233_ : v225.toInt < 12 := en_i_lt_t c233
                  refine At.enter rfl ?_
                  refine r_aload_n rfl ?_
                  refine q_getR (Sh.ref hI228.1 kx_1 rfl) ?_
                  refine r_aload_n rfl ?_
                  refine q_getI (Sh.int hI228.1 kx_1 rfl) v225 ((hF229.1 1 0 (by decide)).trans hv225) ?_
                  refine r_iload_n rfl ?_
                  refine q_iast (Sh.arr hI228.1 ka_2) (v225.toInt) rfl (by omega) ?_
                  have hI234 := HI.wA0 hI228 ka_2 (p := 2) rfl rfl (v225.toInt) (a1)
                  have hF235 := Fr.wA (p := 2) (j := v225.toInt) (v := a1) hF232 rfl
                  refine r_aload_n rfl ?_
                  refine q_getR (Sh.ref hI234.1 kx_1 rfl) ?_
                  refine r_aload_n rfl ?_
                  refine q_getI (Sh.int hI234.1 kx_1 rfl) v225 (((gI_sW).trans (hF229.1 1 0 (by decide))).trans hv225) ?_
                  refine r_iload_n rfl ?_
                  refine q_iast (Sh.arr hI234.1 ka_3) (v225.toInt) rfl (by omega) ?_
                  have hI236 := HI.wA0 hI234 ka_3 (p := 3) rfl rfl (v225.toInt) (a2)
                  have hF237 := Fr.wA (p := 3) (j := v225.toInt) (v := a2) hF235 rfl
                  refine r_aload_n rfl ?_
                  refine q_getR (Sh.ref hI236.1 kx_1 rfl) ?_
                  refine r_aload_n rfl ?_
                  refine q_getI (Sh.int hI236.1 kx_1 rfl) v225 (((gI_sW).trans ((gI_sW).trans (hF229.1 1 0 (by decide)))).trans hv225) ?_
                  refine r_iload_n rfl ?_
                  refine q_iast (Sh.arr hI236.1 ka_4) (v225.toInt) rfl (by omega) ?_
                  have hI238 := HI.wA0 hI236 ka_4 (p := 4) rfl rfl (v225.toInt) (a3)
                  have hF239 := Fr.wA (p := 4) (j := v225.toInt) (v := a3) hF237 rfl
                  refine r_aload_n rfl ?_
                  refine r_dup rfl ?_
                  refine q_getI (Sh.int hI238.1 kx_1 rfl) v225 (((gI_sW).trans ((gI_sW).trans ((gI_sW).trans (hF229.1 1 0 (by decide))))).trans hv225) ?_
                  refine r_iconst 1 rfl ?_
                  refine q_iadd (v225.toInt + 1) rfl (by omega) (fun v240 hv240 => ?_)
                  refine q_putI (Sh.int hI238.1 kx_1 rfl) rfl ?_
                  have hI241 := HI.wI1 hI238 kx_1 rfl (p := 1) (b := 0) (v := v240) rfl (by dsimp only; omega)
                  have hF242 := Fr.wI (p := 1) (b := 0) (v := v240) hF239 rfl
                  refine r_aload_n rfl ?_
                  refine q_getI (Sh.int hI241.1 kx_1 rfl) v240 (gI_sI_eq hI238.1 kx_1 rfl _) ?_
                  refine r_iconst 1 rfl ?_
                  refine q_isub (v240.toInt - 1) rfl (by omega) (fun v243 hv243 => ?_)
                  refine q_ireti ?_
                  refine At.enter rfl ?_
                  refine q_inlV 67 rfl [.ref 0, .int v243] [] (Nat.le_of_ble_eq_true rfl) rfl ?_
                  refine Ev.mk rfl rfl ⟨Nat.le_of_ble_eq_true rfl, Or.inr (q_rc hI241.1 kx_0 rfl)⟩ ?_
                  show At _ none _ _ (0, [(0, .ref 0), (1, .int v243)], [], (_, _)) _
                  refine At.enter rfl ?_
                  refine r_aload_n rfl ?_
                  refine r_iconst 0 rfl ?_
                  refine q_putI (Sh.int hI241.1 kx_0 rfl) rfl ?_
                  have hI244 := HI.wI0 hI241 kx_0 rfl (p := 0) (b := 17) (v := 0) rfl
                  have hF245 := Fr.wI (p := 0) (b := 17) (v := 0) hF242 rfl
                  refine r_iload_n rfl ?_
                  refine q_ireti ?_
                  refine At.enter rfl ?_
                  refine r_ireti ?_
                  have x246 := HI.eqI hI244 (p := 1) (b := 0) (((gI_sI_ne (by decide)).trans (gI_sI_eq hI238.1 kx_1 rfl _)))
                  have x247 := HI.eqI hI0 (p := 1) (b := 0) (hv225)
                  have x248 := HI.eqI hI0 (p := 1) (b := 0) (hv225)
                  exact ⟨_, rfl, hI244, hF245, _, rfl, by omega, ⟨(by omega), (by intro i i0 i1; exact (Decidable.em (((-1 ≤ a1.toInt ∧ a1.toInt ≤ 11 ∧ 1 ≤ a2.toInt ∧ a2.toInt ≤ 9 ∧ 0 ≤ a3.toInt ∧ a3.toInt ≤ 99) ∧ (gI g0 1 0).toInt < 12) ∧ i = (gI g0 1 0).toInt)).elim (fun k1_ => by refine Eq.trans ?_ (if_pos k1_).symm; refine (eA_ti (((gA_sI).trans ((gA_sI).trans ((gA_sA_ne (by decide)).trans (gA_sA_ne (by decide))))))).trans ?_; exact (Decidable.em (i = v225.toInt)).elim (fun k2_ => by refine (eA_eqT hI228.1 ka_2 k2_ (by first | decide | omega) (by first | decide | omega)).trans ?_; (first | (rfl) | (omega))) (fun k2_ => by refine (eA_neT hI228.1 ka_2 k2_ (by first | decide | omega) (by omega)).trans ?_; refine (eA_ti ((hF229.2.1 2 (by decide)))).trans ?_; (first | rfl | exact eA_ix (by omega) | omega))) (fun k1_ => by refine Eq.trans ?_ (if_neg k1_).symm; refine (eA_ti (((gA_sI).trans ((gA_sI).trans ((gA_sA_ne (by decide)).trans (gA_sA_ne (by decide))))))).trans ?_; exact (Decidable.em (i = v225.toInt)).elim (fun k3_ => by refine (eA_eqT hI228.1 ka_2 k3_ (by first | decide | omega) (by first | decide | omega)).trans ?_; (first | (rfl) | (omega))) (fun k3_ => by refine (eA_neT hI228.1 ka_2 k3_ (by first | decide | omega) (by omega)).trans ?_; refine (eA_ti ((hF229.2.1 2 (by decide)))).trans ?_; (first | rfl | exact eA_ix (by omega) | omega)))), (by intro i i0 i1; exact (Decidable.em (((-1 ≤ a1.toInt ∧ a1.toInt ≤ 11 ∧ 1 ≤ a2.toInt ∧ a2.toInt ≤ 9 ∧ 0 ≤ a3.toInt ∧ a3.toInt ≤ 99) ∧ (gI g0 1 0).toInt < 12) ∧ i = (gI g0 1 0).toInt)).elim (fun k4_ => by refine Eq.trans ?_ (if_pos k4_).symm; refine (eA_ti (((gA_sI).trans ((gA_sI).trans (gA_sA_ne (by decide)))))).trans ?_; exact (Decidable.em (i = v225.toInt)).elim (fun k5_ => by refine (eA_eqT hI234.1 ka_3 k5_ (by first | decide | omega) (by first | decide | omega)).trans ?_; (first | (rfl) | (omega))) (fun k5_ => by refine (eA_neT hI234.1 ka_3 k5_ (by first | decide | omega) (by omega)).trans ?_; refine (eA_ti (((gA_sA_ne (by decide)).trans (hF229.2.1 3 (by decide))))).trans ?_; (first | rfl | exact eA_ix (by omega) | omega))) (fun k4_ => by refine Eq.trans ?_ (if_neg k4_).symm; refine (eA_ti (((gA_sI).trans ((gA_sI).trans (gA_sA_ne (by decide)))))).trans ?_; exact (Decidable.em (i = v225.toInt)).elim (fun k6_ => by refine (eA_eqT hI234.1 ka_3 k6_ (by first | decide | omega) (by first | decide | omega)).trans ?_; (first | (rfl) | (omega))) (fun k6_ => by refine (eA_neT hI234.1 ka_3 k6_ (by first | decide | omega) (by omega)).trans ?_; refine (eA_ti (((gA_sA_ne (by decide)).trans (hF229.2.1 3 (by decide))))).trans ?_; (first | rfl | exact eA_ix (by omega) | omega)))), (by intro i i0 i1; exact (Decidable.em (((-1 ≤ a1.toInt ∧ a1.toInt ≤ 11 ∧ 1 ≤ a2.toInt ∧ a2.toInt ≤ 9 ∧ 0 ≤ a3.toInt ∧ a3.toInt ≤ 99) ∧ (gI g0 1 0).toInt < 12) ∧ i = (gI g0 1 0).toInt)).elim (fun k7_ => by refine Eq.trans ?_ (if_pos k7_).symm; refine (eA_ti (((gA_sI).trans (gA_sI)))).trans ?_; exact (Decidable.em (i = v225.toInt)).elim (fun k8_ => by refine (eA_eqT hI236.1 ka_4 k8_ (by first | decide | omega) (by first | decide | omega)).trans ?_; (first | (rfl) | (omega))) (fun k8_ => by refine (eA_neT hI236.1 ka_4 k8_ (by first | decide | omega) (by omega)).trans ?_; refine (eA_ti (((gA_sA_ne (by decide)).trans ((gA_sA_ne (by decide)).trans (hF229.2.1 4 (by decide)))))).trans ?_; (first | rfl | exact eA_ix (by omega) | omega))) (fun k7_ => by refine Eq.trans ?_ (if_neg k7_).symm; refine (eA_ti (((gA_sI).trans (gA_sI)))).trans ?_; exact (Decidable.em (i = v225.toInt)).elim (fun k9_ => by refine (eA_eqT hI236.1 ka_4 k9_ (by first | decide | omega) (by first | decide | omega)).trans ?_; (first | (rfl) | (omega))) (fun k9_ => by refine (eA_neT hI236.1 ka_4 k9_ (by first | decide | omega) (by omega)).trans ?_; refine (eA_ti (((gA_sA_ne (by decide)).trans ((gA_sA_ne (by decide)).trans (hF229.2.1 4 (by decide)))))).trans ?_; (first | rfl | exact eA_ix (by omega) | omega))))⟩⟩
                · have c233_ : v225.toInt ≥ 12 := en_i_lt_f c233
                  exfalso; omega
              · have c226_ : v225.toInt ≥ 12 := en_i_lt_f c226
                refine At.enter rfl ?_
                refine r_aload_n rfl ?_
                refine r_bipush (-5) rfl ?_
                refine r_callV 48 rfl [.ref 0, .int (-5)] [] (Nat.le_of_ble_eq_true rfl) rfl (T_X10_refused_0 _ hI0 (-5) (by decide)) ?_
                rintro _ _ ⟨g249, rfl, hI250, hF251, v252, rfl, hr253⟩
                refine At.sti ?_
                have hF254 := Fr.tr hF0 hF251 rfl rfl
                have zv255 : ((-5) : Int32).toInt = (-5) := rfl
                refine At.enter rfl ?_
                refine r_ireti ?_
                have x256 := HI.eqI hI250 (p := 1) (b := 0) (((hF251.1 1 0 (by decide)).trans hv225))
                have x257 := HI.eqI hI0 (p := 1) (b := 0) (hv225)
                have x258 := HI.eqI hI0 (p := 1) (b := 0) (hv225)
                exact ⟨_, rfl, hI250, hF254, _, rfl, by omega, ⟨(by omega), (by intro i i0 i1; refine Eq.trans ?_ (if_neg (show ¬ (((-1 ≤ a1.toInt ∧ a1.toInt ≤ 11 ∧ 1 ≤ a2.toInt ∧ a2.toInt ≤ 9 ∧ 0 ≤ a3.toInt ∧ a3.toInt ≤ 99) ∧ (gI g0 1 0).toInt < 12) ∧ i = (gI g0 1 0).toInt) from by omega)).symm; refine (eA_ti ((hF251.2.1 2 (by decide)))).trans ?_; (first | rfl | exact eA_ix (by omega) | omega)), (by intro i i0 i1; refine Eq.trans ?_ (if_neg (show ¬ (((-1 ≤ a1.toInt ∧ a1.toInt ≤ 11 ∧ 1 ≤ a2.toInt ∧ a2.toInt ≤ 9 ∧ 0 ≤ a3.toInt ∧ a3.toInt ≤ 99) ∧ (gI g0 1 0).toInt < 12) ∧ i = (gI g0 1 0).toInt) from by omega)).symm; refine (eA_ti ((hF251.2.1 3 (by decide)))).trans ?_; (first | rfl | exact eA_ix (by omega) | omega)), (by intro i i0 i1; refine Eq.trans ?_ (if_neg (show ¬ (((-1 ≤ a1.toInt ∧ a1.toInt ≤ 11 ∧ 1 ≤ a2.toInt ∧ a2.toInt ≤ 9 ∧ 0 ≤ a3.toInt ∧ a3.toInt ≤ 99) ∧ (gI g0 1 0).toInt < 12) ∧ i = (gI g0 1 0).toInt) from by omega)).symm; refine (eA_ti ((hF251.2.1 4 (by decide)))).trans ?_; (first | rfl | exact eA_ix (by omega) | omega))⟩⟩

def F_X10_put_0 : List (Nat × Nat) := [(0, 14), (0, 17), (220, 2), (222, 2), (223, 5), (223, 10)]
def A_X10_put_0 : List Nat := [2, 3, 4, 230]
set_option maxRecDepth 100000 in
set_option maxHeartbeats 4000000 in
theorem T_X10_put_0 (d : Nat) {N : Nat} {g0 : List en_E} (hI0 : HI g0) (a1 : Int32) (a2 : Int32) (a3 : Int32) : Ev (d + 3) 105 [.ref 0, .int a1, .int a2, .int a3] (g0, N) (fun w h' => ∃ g', h' = (g', N) ∧ HI g' ∧ Fr F_X10_put_0 A_X10_put_0 g0 g' ∧ ∃ r : Int32, w = some (.int r) ∧ True ∧ (((¬ ((a2.toInt = 0 ∧ -1 ≤ a3.toInt ∧ a3.toInt ≤ 11) ∨ (a2.toInt = 1 ∧ 1 ≤ a3.toInt ∧ a3.toInt ≤ 9) ∨ (a2.toInt = 2 ∧ 0 ≤ a3.toInt ∧ a3.toInt ≤ 99)) → r.toInt = -1) ∧ (((a2.toInt = 0 ∧ -1 ≤ a3.toInt ∧ a3.toInt ≤ 11) ∨ (a2.toInt = 1 ∧ 1 ≤ a3.toInt ∧ a3.toInt ≤ 9) ∨ (a2.toInt = 2 ∧ 0 ≤ a3.toInt ∧ a3.toInt ≤ 99)) ∧ ¬ (0 ≤ a1.toInt ∧ a1.toInt < (gI g0 1 0).toInt) → r.toInt = -2) ∧ (a2.toInt = 0 ∧ -1 ≤ a3.toInt ∧ a3.toInt ≤ 11 ∧ 0 ≤ a1.toInt ∧ a1.toInt < (gI g0 1 0).toInt → r.toInt = (eA g0 2 a1.toInt).toInt) ∧ (a2.toInt = 1 ∧ 1 ≤ a3.toInt ∧ a3.toInt ≤ 9 ∧ 0 ≤ a1.toInt ∧ a1.toInt < (gI g0 1 0).toInt → r.toInt = (eA g0 3 a1.toInt).toInt) ∧ (a2.toInt = 2 ∧ 0 ≤ a3.toInt ∧ a3.toInt ≤ 99 ∧ 0 ≤ a1.toInt ∧ a1.toInt < (gI g0 1 0).toInt → r.toInt = (eA g0 4 a1.toInt).toInt)) ∧ (∀ i : Int, 0 ≤ i → i < 12 → (eA g' 2 (i)).toInt = if (a2.toInt = 0 ∧ -1 ≤ a3.toInt ∧ a3.toInt ≤ 11 ∧ 0 ≤ a1.toInt ∧ a1.toInt < (gI g0 1 0).toInt) ∧ i = a1.toInt then a3.toInt else (eA g0 2 (i)).toInt) ∧ (∀ i : Int, 0 ≤ i → i < 12 → (eA g' 3 (i)).toInt = if (a2.toInt = 1 ∧ 1 ≤ a3.toInt ∧ a3.toInt ≤ 9 ∧ 0 ≤ a1.toInt ∧ a1.toInt < (gI g0 1 0).toInt) ∧ i = a1.toInt then a3.toInt else (eA g0 3 (i)).toInt) ∧ (∀ i : Int, 0 ≤ i → i < 12 → (eA g' 4 (i)).toInt = if (a2.toInt = 2 ∧ 0 ≤ a3.toInt ∧ a3.toInt ≤ 99 ∧ 0 ≤ a1.toInt ∧ a1.toInt < (gI g0 1 0).toInt) ∧ i = a1.toInt then a3.toInt else (eA g0 4 (i)).toInt))) := by
  have hF0 : Fr F_X10_put_0 A_X10_put_0 g0 g0 := Fr.rf
  refine Ev.mk rfl rfl ⟨Nat.le_of_ble_eq_true rfl, Or.inr (q_rc hI0.1 kx_0 rfl)⟩ ?_
  show At _ none _ _ (0, [(0, .ref 0), (1, .int a1), (2, .int a2), (3, .int a3)], [], (_, _)) _
  refine At.enter rfl ?_
  refine r_iload_n rfl ?_
  refine r_ifs 4 rfl (fun c319 => ?_) (fun c319 => ?_)
  · have c319_ : a2.toInt ≠ 0 := en_k_ne_t c319
    refine At.enter rfl ?_
    refine r_iload_n rfl ?_
    refine r_iconst 1 rfl ?_
    refine r_ics 19 rfl (fun c320 => ?_) (fun c320 => ?_)
    · have c320_ : a2.toInt ≠ 1 := en_i_ne_t c320
      refine At.enter rfl ?_
      refine r_iload_n rfl ?_
      refine r_iconst 2 rfl ?_
      refine r_ics 31 rfl (fun c321 => ?_) (fun c321 => ?_)
      · have c321_ : a2.toInt ≠ 2 := en_i_ne_t c321
        refine At.enter rfl ?_
        refine r_iconst 0 rfl ?_
        refine Ar.fall 43 rfl ?_
        refine At.enter rfl ?_
        refine r_istore ([(4, .int 0), (0, .ref 0), (1, .int a1), (2, .int a2), (3, .int a3)]) rfl ?_
        refine r_iload rfl ?_
        refine r_iff 50 rfl (by decide) ?_
        refine At.enter rfl ?_
        refine r_aload_n rfl ?_
        refine r_iconst (-1) rfl ?_
        refine r_callV 55 rfl [.ref 0, .int (-1)] [] (Nat.le_of_ble_eq_true rfl) rfl (T_X10_refused_0 _ hI0 (-1) (by decide)) ?_
        rintro _ _ ⟨g322, rfl, hI323, hF324, v325, rfl, hr326⟩
        refine At.sti ?_
        have hF327 := Fr.tr hF0 hF324 rfl rfl
        have zv328 : ((-1) : Int32).toInt = (-1) := rfl
        refine At.enter rfl ?_
        refine r_ireti ?_
        obtain ⟨v329, hv329⟩ : ∃ v, gI g0 1 0 = v := ⟨_, rfl⟩
        have rv329 := RgF.at hI0.2.1 (p := 1) (b := 0) rfl
        rw [hv329] at rv329
        dsimp only at rv329
        have tv329 := congrArg Int32.toInt hv329
        have x330 := HI.eqI hI0 (p := 1) (b := 0) (hv329)
        have x331 := HI.eqI hI0 (p := 1) (b := 0) (hv329)
        exact ⟨_, rfl, hI323, hF327, _, rfl, trivial, ⟨⟨by omega, by omega, by omega, by omega, by omega⟩, (by intro i i0 i1; refine Eq.trans ?_ (if_neg (show ¬ ((a2.toInt = 0 ∧ -1 ≤ a3.toInt ∧ a3.toInt ≤ 11 ∧ 0 ≤ a1.toInt ∧ a1.toInt < (gI g0 1 0).toInt) ∧ i = a1.toInt) from by omega)).symm; refine (eA_ti ((hF324.2.1 2 (by decide)))).trans ?_; (first | rfl | exact eA_ix (by omega) | omega)), (by intro i i0 i1; refine Eq.trans ?_ (if_neg (show ¬ ((a2.toInt = 1 ∧ 1 ≤ a3.toInt ∧ a3.toInt ≤ 9 ∧ 0 ≤ a1.toInt ∧ a1.toInt < (gI g0 1 0).toInt) ∧ i = a1.toInt) from by omega)).symm; refine (eA_ti ((hF324.2.1 3 (by decide)))).trans ?_; (first | rfl | exact eA_ix (by omega) | omega)), (by intro i i0 i1; refine Eq.trans ?_ (if_neg (show ¬ ((a2.toInt = 2 ∧ 0 ≤ a3.toInt ∧ a3.toInt ≤ 99 ∧ 0 ≤ a1.toInt ∧ a1.toInt < (gI g0 1 0).toInt) ∧ i = a1.toInt) from by omega)).symm; refine (eA_ti ((hF324.2.1 4 (by decide)))).trans ?_; (first | rfl | exact eA_ix (by omega) | omega))⟩⟩
      · have c321_ : a2.toInt = 2 := en_i_ne_f c321
        refine At.enter rfl ?_
        refine r_iload_n rfl ?_
        refine q_inlS 35 rfl [.int a3] [] (Nat.le_of_ble_eq_true rfl) rfl ?_
        refine Ev.mk rfl rfl ⟨Nat.le_of_ble_eq_true rfl, Or.inl rfl⟩ ?_
        show At _ none _ _ (0, [(0, .int a3)], [], (_, _)) _
        refine At.enter rfl ?_
        refine r_iload_n rfl ?_
        refine r_iconst 0 rfl ?_
        refine r_bipush 99 rfl ?_
        refine q_inlS 7 rfl [.int a3, .int 0, .int 99] [] (Nat.le_of_ble_eq_true rfl) rfl ?_
        refine Ev.mk rfl rfl ⟨Nat.le_of_ble_eq_true rfl, Or.inl rfl⟩ ?_
        show At _ none _ _ (0, [(0, .int a3), (1, .int 0), (2, .int 99)], [], (_, _)) _
        refine At.enter rfl ?_
        refine r_iload_n rfl ?_
        refine r_iload_n rfl ?_
        refine r_ics 5 rfl (fun c332 => ?_) (fun c332 => ?_)
        · have c332_ : a3.toInt < 0 := en_i_lt_t c332
          refine At.enter rfl ?_
          refine r_iconst 0 rfl ?_
          refine Ar.fall 15 rfl ?_
          refine At.enter rfl ?_
          refine q_iretz (by decide) ?_
          refine At.enter rfl ?_
          refine q_iretz (by decide) ?_
          refine At.enter rfl ?_
          refine r_ift (by decide) ?_
          refine At.enter rfl ?_
          refine r_iconst 0 rfl ?_
          refine Ar.fall 43 rfl ?_
          refine At.enter rfl ?_
          refine r_istore ([(4, .int 0), (0, .ref 0), (1, .int a1), (2, .int a2), (3, .int a3)]) rfl ?_
          refine r_iload rfl ?_
          refine r_iff 50 rfl (by decide) ?_
          refine At.enter rfl ?_
          refine r_aload_n rfl ?_
          refine r_iconst (-1) rfl ?_
          refine r_callV 55 rfl [.ref 0, .int (-1)] [] (Nat.le_of_ble_eq_true rfl) rfl (T_X10_refused_0 _ hI0 (-1) (by decide)) ?_
          rintro _ _ ⟨g333, rfl, hI334, hF335, v336, rfl, hr337⟩
          refine At.sti ?_
          have hF338 := Fr.tr hF0 hF335 rfl rfl
          have zv339 : ((-1) : Int32).toInt = (-1) := rfl
          refine At.enter rfl ?_
          refine r_ireti ?_
          obtain ⟨v340, hv340⟩ : ∃ v, gI g0 1 0 = v := ⟨_, rfl⟩
          have rv340 := RgF.at hI0.2.1 (p := 1) (b := 0) rfl
          rw [hv340] at rv340
          dsimp only at rv340
          have tv340 := congrArg Int32.toInt hv340
          have x341 := HI.eqI hI0 (p := 1) (b := 0) (hv340)
          have x342 := HI.eqI hI0 (p := 1) (b := 0) (hv340)
          exact ⟨_, rfl, hI334, hF338, _, rfl, trivial, ⟨⟨by omega, by omega, by omega, by omega, by omega⟩, (by intro i i0 i1; refine Eq.trans ?_ (if_neg (show ¬ ((a2.toInt = 0 ∧ -1 ≤ a3.toInt ∧ a3.toInt ≤ 11 ∧ 0 ≤ a1.toInt ∧ a1.toInt < (gI g0 1 0).toInt) ∧ i = a1.toInt) from by omega)).symm; refine (eA_ti ((hF335.2.1 2 (by decide)))).trans ?_; (first | rfl | exact eA_ix (by omega) | omega)), (by intro i i0 i1; refine Eq.trans ?_ (if_neg (show ¬ ((a2.toInt = 1 ∧ 1 ≤ a3.toInt ∧ a3.toInt ≤ 9 ∧ 0 ≤ a1.toInt ∧ a1.toInt < (gI g0 1 0).toInt) ∧ i = a1.toInt) from by omega)).symm; refine (eA_ti ((hF335.2.1 3 (by decide)))).trans ?_; (first | rfl | exact eA_ix (by omega) | omega)), (by intro i i0 i1; refine Eq.trans ?_ (if_neg (show ¬ ((a2.toInt = 2 ∧ 0 ≤ a3.toInt ∧ a3.toInt ≤ 99 ∧ 0 ≤ a1.toInt ∧ a1.toInt < (gI g0 1 0).toInt) ∧ i = a1.toInt) from by omega)).symm; refine (eA_ti ((hF335.2.1 4 (by decide)))).trans ?_; (first | rfl | exact eA_ix (by omega) | omega))⟩⟩
        · have c332_ : a3.toInt ≥ 0 := en_i_lt_f c332
          refine At.enter rfl ?_
          refine r_iload_n rfl ?_
          refine r_iload_n rfl ?_
          refine r_ics 10 rfl (fun c343 => ?_) (fun c343 => ?_)
          · have c343_ : a3.toInt > 99 := en_i_gt_t c343
            refine At.enter rfl ?_
            refine r_iconst 0 rfl ?_
            refine Ar.fall 15 rfl ?_
            refine At.enter rfl ?_
            refine q_iretz (by decide) ?_
            refine At.enter rfl ?_
            refine q_iretz (by decide) ?_
            refine At.enter rfl ?_
            refine r_ift (by decide) ?_
            refine At.enter rfl ?_
            refine r_iconst 0 rfl ?_
            refine Ar.fall 43 rfl ?_
            refine At.enter rfl ?_
            refine r_istore ([(4, .int 0), (0, .ref 0), (1, .int a1), (2, .int a2), (3, .int a3)]) rfl ?_
            refine r_iload rfl ?_
            refine r_iff 50 rfl (by decide) ?_
            refine At.enter rfl ?_
            refine r_aload_n rfl ?_
            refine r_iconst (-1) rfl ?_
            refine r_callV 55 rfl [.ref 0, .int (-1)] [] (Nat.le_of_ble_eq_true rfl) rfl (T_X10_refused_0 _ hI0 (-1) (by decide)) ?_
            rintro _ _ ⟨g344, rfl, hI345, hF346, v347, rfl, hr348⟩
            refine At.sti ?_
            have hF349 := Fr.tr hF0 hF346 rfl rfl
            have zv350 : ((-1) : Int32).toInt = (-1) := rfl
            refine At.enter rfl ?_
            refine r_ireti ?_
            obtain ⟨v351, hv351⟩ : ∃ v, gI g0 1 0 = v := ⟨_, rfl⟩
            have rv351 := RgF.at hI0.2.1 (p := 1) (b := 0) rfl
            rw [hv351] at rv351
            dsimp only at rv351
            have tv351 := congrArg Int32.toInt hv351
            have x352 := HI.eqI hI0 (p := 1) (b := 0) (hv351)
            have x353 := HI.eqI hI0 (p := 1) (b := 0) (hv351)
            exact ⟨_, rfl, hI345, hF349, _, rfl, trivial, ⟨⟨by omega, by omega, by omega, by omega, by omega⟩, (by intro i i0 i1; refine Eq.trans ?_ (if_neg (show ¬ ((a2.toInt = 0 ∧ -1 ≤ a3.toInt ∧ a3.toInt ≤ 11 ∧ 0 ≤ a1.toInt ∧ a1.toInt < (gI g0 1 0).toInt) ∧ i = a1.toInt) from by omega)).symm; refine (eA_ti ((hF346.2.1 2 (by decide)))).trans ?_; (first | rfl | exact eA_ix (by omega) | omega)), (by intro i i0 i1; refine Eq.trans ?_ (if_neg (show ¬ ((a2.toInt = 1 ∧ 1 ≤ a3.toInt ∧ a3.toInt ≤ 9 ∧ 0 ≤ a1.toInt ∧ a1.toInt < (gI g0 1 0).toInt) ∧ i = a1.toInt) from by omega)).symm; refine (eA_ti ((hF346.2.1 3 (by decide)))).trans ?_; (first | rfl | exact eA_ix (by omega) | omega)), (by intro i i0 i1; refine Eq.trans ?_ (if_neg (show ¬ ((a2.toInt = 2 ∧ 0 ≤ a3.toInt ∧ a3.toInt ≤ 99 ∧ 0 ≤ a1.toInt ∧ a1.toInt < (gI g0 1 0).toInt) ∧ i = a1.toInt) from by omega)).symm; refine (eA_ti ((hF346.2.1 4 (by decide)))).trans ?_; (first | rfl | exact eA_ix (by omega) | omega))⟩⟩
          · have c343_ : a3.toInt ≤ 99 := en_i_gt_f c343
            refine At.enter rfl ?_
            refine r_iconst 1 rfl ?_
            refine r_goto ?_
            refine At.enter rfl ?_
            refine q_iretz (by decide) ?_
            refine At.enter rfl ?_
            refine q_iretz (by decide) ?_
            refine At.enter rfl ?_
            refine r_iff 38 rfl (by decide) ?_
            refine At.enter rfl ?_
            refine r_iconst 1 rfl ?_
            refine r_goto ?_
            refine At.enter rfl ?_
            refine r_istore ([(4, .int 1), (0, .ref 0), (1, .int a1), (2, .int a2), (3, .int a3)]) rfl ?_
            refine r_iload rfl ?_
            refine r_ift (by decide) ?_
            refine At.enter rfl ?_
            refine r_aload_n rfl ?_
            refine q_getR (Sh.ref hI0.1 kx_0 rfl) ?_
            refine r_iload_n rfl ?_
            refine q_inlV 64 rfl [.ref 1, .int a1] [] (Nat.le_of_ble_eq_true rfl) rfl ?_
            refine Ev.mk rfl rfl ⟨Nat.le_of_ble_eq_true rfl, Or.inr (q_rc hI0.1 kx_1 rfl)⟩ ?_
            show At _ none _ _ (0, [(0, .ref 1), (1, .int a1)], [], (_, _)) _
            refine At.enter rfl ?_
            refine r_iload_n rfl ?_
            refine r_ifs 4 rfl (fun c354 => ?_) (fun c354 => ?_)
            · have c354_ : a1.toInt < 0 := en_k_lt_t c354
              refine At.enter rfl ?_
              refine r_iconst 0 rfl ?_
              refine Ar.fall 17 rfl ?_
              refine At.enter rfl ?_
              refine q_iretz (by decide) ?_
              refine At.enter rfl ?_
              refine r_iff 67 rfl (by decide) ?_
              refine At.enter rfl ?_
              refine r_aload_n rfl ?_
              refine r_bipush (-2) rfl ?_
              refine r_callV 73 rfl [.ref 0, .int (-2)] [] (Nat.le_of_ble_eq_true rfl) rfl (T_X10_refused_0 _ hI0 (-2) (by decide)) ?_
              rintro _ _ ⟨g355, rfl, hI356, hF357, v358, rfl, hr359⟩
              refine At.sti ?_
              have hF360 := Fr.tr hF0 hF357 rfl rfl
              have zv361 : ((-2) : Int32).toInt = (-2) := rfl
              refine At.enter rfl ?_
              refine r_ireti ?_
              obtain ⟨v362, hv362⟩ : ∃ v, gI g0 1 0 = v := ⟨_, rfl⟩
              have rv362 := RgF.at hI0.2.1 (p := 1) (b := 0) rfl
              rw [hv362] at rv362
              dsimp only at rv362
              have tv362 := congrArg Int32.toInt hv362
              have x363 := HI.eqI hI0 (p := 1) (b := 0) (hv362)
              have x364 := HI.eqI hI0 (p := 1) (b := 0) (hv362)
              exact ⟨_, rfl, hI356, hF360, _, rfl, trivial, ⟨⟨by omega, by omega, by omega, by omega, by omega⟩, (by intro i i0 i1; refine Eq.trans ?_ (if_neg (show ¬ ((a2.toInt = 0 ∧ -1 ≤ a3.toInt ∧ a3.toInt ≤ 11 ∧ 0 ≤ a1.toInt ∧ a1.toInt < (gI g0 1 0).toInt) ∧ i = a1.toInt) from by omega)).symm; refine (eA_ti ((hF357.2.1 2 (by decide)))).trans ?_; (first | rfl | exact eA_ix (by omega) | omega)), (by intro i i0 i1; refine Eq.trans ?_ (if_neg (show ¬ ((a2.toInt = 1 ∧ 1 ≤ a3.toInt ∧ a3.toInt ≤ 9 ∧ 0 ≤ a1.toInt ∧ a1.toInt < (gI g0 1 0).toInt) ∧ i = a1.toInt) from by omega)).symm; refine (eA_ti ((hF357.2.1 3 (by decide)))).trans ?_; (first | rfl | exact eA_ix (by omega) | omega)), (by intro i i0 i1; refine Eq.trans ?_ (if_neg (show ¬ ((a2.toInt = 2 ∧ 0 ≤ a3.toInt ∧ a3.toInt ≤ 99 ∧ 0 ≤ a1.toInt ∧ a1.toInt < (gI g0 1 0).toInt) ∧ i = a1.toInt) from by omega)).symm; refine (eA_ti ((hF357.2.1 4 (by decide)))).trans ?_; (first | rfl | exact eA_ix (by omega) | omega))⟩⟩
            · have c354_ : a1.toInt ≥ 0 := en_k_lt_f c354
              refine At.enter rfl ?_
              refine r_iload_n rfl ?_
              refine r_aload_n rfl ?_
              obtain ⟨v365, hv365⟩ : ∃ v, gI g0 1 0 = v := ⟨_, rfl⟩
              have rv365 := RgF.at hI0.2.1 (p := 1) (b := 0) rfl
              rw [hv365] at rv365
              dsimp only at rv365
              refine q_getI (Sh.int hI0.1 kx_1 rfl) v365 hv365 ?_
              have bv367 := q_bnd a1
              have bv368 := q_bnd v365
              refine r_ics 12 rfl (fun c366 => ?_) (fun c366 => ?_)
              · have c366_ : a1.toInt ≥ v365.toInt := en_i_ge_t c366
                refine At.enter rfl ?_
                refine r_iconst 0 rfl ?_
                refine Ar.fall 17 rfl ?_
                refine At.enter rfl ?_
                refine q_iretz (by decide) ?_
                refine At.enter rfl ?_
                refine r_iff 67 rfl (by decide) ?_
                refine At.enter rfl ?_
                refine r_aload_n rfl ?_
                refine r_bipush (-2) rfl ?_
                refine r_callV 73 rfl [.ref 0, .int (-2)] [] (Nat.le_of_ble_eq_true rfl) rfl (T_X10_refused_0 _ hI0 (-2) (by decide)) ?_
                rintro _ _ ⟨g369, rfl, hI370, hF371, v372, rfl, hr373⟩
                refine At.sti ?_
                have hF374 := Fr.tr hF0 hF371 rfl rfl
                have zv375 : ((-2) : Int32).toInt = (-2) := rfl
                refine At.enter rfl ?_
                refine r_ireti ?_
                have x376 := HI.eqI hI0 (p := 1) (b := 0) (hv365)
                have x377 := HI.eqI hI0 (p := 1) (b := 0) (hv365)
                exact ⟨_, rfl, hI370, hF374, _, rfl, trivial, ⟨⟨by omega, by omega, by omega, by omega, by omega⟩, (by intro i i0 i1; refine Eq.trans ?_ (if_neg (show ¬ ((a2.toInt = 0 ∧ -1 ≤ a3.toInt ∧ a3.toInt ≤ 11 ∧ 0 ≤ a1.toInt ∧ a1.toInt < (gI g0 1 0).toInt) ∧ i = a1.toInt) from by omega)).symm; refine (eA_ti ((hF371.2.1 2 (by decide)))).trans ?_; (first | rfl | exact eA_ix (by omega) | omega)), (by intro i i0 i1; refine Eq.trans ?_ (if_neg (show ¬ ((a2.toInt = 1 ∧ 1 ≤ a3.toInt ∧ a3.toInt ≤ 9 ∧ 0 ≤ a1.toInt ∧ a1.toInt < (gI g0 1 0).toInt) ∧ i = a1.toInt) from by omega)).symm; refine (eA_ti ((hF371.2.1 3 (by decide)))).trans ?_; (first | rfl | exact eA_ix (by omega) | omega)), (by intro i i0 i1; refine Eq.trans ?_ (if_neg (show ¬ ((a2.toInt = 2 ∧ 0 ≤ a3.toInt ∧ a3.toInt ≤ 99 ∧ 0 ≤ a1.toInt ∧ a1.toInt < (gI g0 1 0).toInt) ∧ i = a1.toInt) from by omega)).symm; refine (eA_ti ((hF371.2.1 4 (by decide)))).trans ?_; (first | rfl | exact eA_ix (by omega) | omega))⟩⟩
              · have c366_ : a1.toInt < v365.toInt := en_i_ge_f c366
                refine At.enter rfl ?_
                refine r_iconst 1 rfl ?_
                refine r_goto ?_
                refine At.enter rfl ?_
                refine q_iretz (by decide) ?_
                refine At.enter rfl ?_
                refine r_ift (by decide) ?_
                refine At.enter rfl ?_
                refine r_iload_n rfl ?_
                refine r_ifs 78 rfl (fun c378 => ?_) (fun c378 => ?_)
                · have c378_ : a2.toInt ≠ 0 := en_k_ne_t c378
                  refine At.enter rfl ?_
                  refine r_iload_n rfl ?_
                  refine r_iconst 1 rfl ?_
                  refine r_ics 93 rfl (fun c379 => ?_) (fun c379 => ?_)
                  · have c379_ : a2.toInt ≠ 1 := en_i_ne_t c379
                    refine At.enter rfl ?_
                    refine r_aload_n rfl ?_
                    refine q_getR (Sh.ref hI0.1 kx_0 rfl) ?_
                    refine q_getR (Sh.ref hI0.1 kx_1 rfl) ?_
                    refine Ar.fall 110 rfl ?_
                    refine At.enter rfl ?_
                    refine r_astore ([(5, .ref 4), (4, .int 1), (0, .ref 0), (1, .int a1), (2, .int a2), (3, .int a3)]) rfl ?_
                    refine r_aload rfl ?_
                    refine r_iload_n rfl ?_
                    obtain ⟨v380, hv380⟩ : ∃ v, eA g0 4 a1.toInt = v := ⟨_, rfl⟩
                    refine q_iald (Sh.arr hI0.1 ka_4) a1.toInt rfl (by omega) v380 hv380 ?_
                    refine r_istore ([(6, .int v380), (5, .ref 4), (4, .int 1), (0, .ref 0), (1, .int a1), (2, .int a2), (3, .int a3)]) rfl ?_
                    refine r_aload rfl ?_
                    refine r_iload_n rfl ?_
                    refine r_iload_n rfl ?_
                    refine q_iast (Sh.arr hI0.1 ka_4) (a1.toInt) rfl (by omega) ?_
                    have hI381 := HI.wA0 hI0 ka_4 (p := 4) rfl rfl (a1.toInt) (a3)
                    have hF382 := Fr.wA (p := 4) (j := a1.toInt) (v := a3) hF0 rfl
                    refine r_aload_n rfl ?_
                    refine r_callV 127 rfl [.ref 0] [] (Nat.le_of_ble_eq_true rfl) rfl (T_X10_changed_0 _ hI381) ?_
                    rintro _ _ ⟨g383, rfl, hI384, hF385, rfl⟩
                    refine At.stn ?_
                    have hF388 := Fr.tr hF382 hF385 rfl rfl
                    refine At.enter rfl ?_
                    refine r_aload_n rfl ?_
                    refine r_iload rfl ?_
                    refine q_inlV 133 rfl [.ref 0, .int v380] [] (Nat.le_of_ble_eq_true rfl) rfl ?_
                    refine Ev.mk rfl rfl ⟨Nat.le_of_ble_eq_true rfl, Or.inr (q_rc hI384.1 kx_0 rfl)⟩ ?_
                    show At _ none _ _ (0, [(0, .ref 0), (1, .int v380)], [], (_, _)) _
                    refine At.enter rfl ?_
                    refine r_aload_n rfl ?_
                    refine r_iconst 0 rfl ?_
                    refine q_putI (Sh.int hI384.1 kx_0 rfl) rfl ?_
                    have hI389 := HI.wI0 hI384 kx_0 rfl (p := 0) (b := 17) (v := 0) rfl
                    have hF390 := Fr.wI (p := 0) (b := 17) (v := 0) hF388 rfl
                    refine r_iload_n rfl ?_
                    refine q_ireti ?_
                    refine At.enter rfl ?_
                    refine r_ireti ?_
                    have x391 := HI.eqI hI0 (p := 1) (b := 0) (hv365)
                    have y392 := congrArg Int32.toInt hv380
                    have x393 := HI.eqI hI0 (p := 1) (b := 0) (hv365)
                    exact ⟨_, rfl, hI389, hF390, _, rfl, trivial, ⟨⟨by omega, by omega, by omega, by omega, by omega⟩, (by intro i i0 i1; refine Eq.trans ?_ (if_neg (show ¬ ((a2.toInt = 0 ∧ -1 ≤ a3.toInt ∧ a3.toInt ≤ 11 ∧ 0 ≤ a1.toInt ∧ a1.toInt < (gI g0 1 0).toInt) ∧ i = a1.toInt) from by omega)).symm; refine (eA_ti (((gA_sI).trans ((hF385.2.1 2 (by decide)).trans (gA_sA_ne (by decide)))))).trans ?_; (first | rfl | exact eA_ix (by omega) | omega)), (by intro i i0 i1; refine Eq.trans ?_ (if_neg (show ¬ ((a2.toInt = 1 ∧ 1 ≤ a3.toInt ∧ a3.toInt ≤ 9 ∧ 0 ≤ a1.toInt ∧ a1.toInt < (gI g0 1 0).toInt) ∧ i = a1.toInt) from by omega)).symm; refine (eA_ti (((gA_sI).trans ((hF385.2.1 3 (by decide)).trans (gA_sA_ne (by decide)))))).trans ?_; (first | rfl | exact eA_ix (by omega) | omega)), (by intro i i0 i1; exact (Decidable.em ((a2.toInt = 2 ∧ 0 ≤ a3.toInt ∧ a3.toInt ≤ 99 ∧ 0 ≤ a1.toInt ∧ a1.toInt < (gI g0 1 0).toInt) ∧ i = a1.toInt)).elim (fun k10_ => by refine Eq.trans ?_ (if_pos k10_).symm; refine (eA_ti (((gA_sI).trans (hF385.2.1 4 (by decide))))).trans ?_; exact (Decidable.em (i = a1.toInt)).elim (fun k11_ => by refine (eA_eqT hI0.1 ka_4 k11_ (by first | decide | omega) (by first | decide | omega)).trans ?_; (first | (rfl) | (omega))) (fun k11_ => by refine (eA_neT hI0.1 ka_4 k11_ (by first | decide | omega) (by omega)).trans ?_; (first | rfl | exact eA_ix (by omega) | omega))) (fun k10_ => by refine Eq.trans ?_ (if_neg k10_).symm; refine (eA_ti (((gA_sI).trans (hF385.2.1 4 (by decide))))).trans ?_; exact (Decidable.em (i = a1.toInt)).elim (fun k12_ => by refine (eA_eqT hI0.1 ka_4 k12_ (by first | decide | omega) (by first | decide | omega)).trans ?_; (first | (rfl) | (omega))) (fun k12_ => by refine (eA_neT hI0.1 ka_4 k12_ (by first | decide | omega) (by omega)).trans ?_; (first | rfl | exact eA_ix (by omega) | omega))))⟩⟩
                  · have c379_ : a2.toInt = 1 := en_i_ne_f c379
                    exfalso; omega
                · have c378_ : a2.toInt = 0 := en_k_ne_f c378
                  exfalso; omega
    · have c320_ : a2.toInt = 1 := en_i_ne_f c320
      refine At.enter rfl ?_
      refine r_iload_n rfl ?_
      refine q_inlS 23 rfl [.int a3] [] (Nat.le_of_ble_eq_true rfl) rfl ?_
      refine Ev.mk rfl rfl ⟨Nat.le_of_ble_eq_true rfl, Or.inl rfl⟩ ?_
      show At _ none _ _ (0, [(0, .int a3)], [], (_, _)) _
      refine At.enter rfl ?_
      refine r_iload_n rfl ?_
      refine r_iconst 1 rfl ?_
      refine r_bipush 9 rfl ?_
      refine q_inlS 7 rfl [.int a3, .int 1, .int 9] [] (Nat.le_of_ble_eq_true rfl) rfl ?_
      refine Ev.mk rfl rfl ⟨Nat.le_of_ble_eq_true rfl, Or.inl rfl⟩ ?_
      show At _ none _ _ (0, [(0, .int a3), (1, .int 1), (2, .int 9)], [], (_, _)) _
      refine At.enter rfl ?_
      refine r_iload_n rfl ?_
      refine r_iload_n rfl ?_
      refine r_ics 5 rfl (fun c394 => ?_) (fun c394 => ?_)
      · have c394_ : a3.toInt < 1 := en_i_lt_t c394
        refine At.enter rfl ?_
        refine r_iconst 0 rfl ?_
        refine Ar.fall 15 rfl ?_
        refine At.enter rfl ?_
        refine q_iretz (by decide) ?_
        refine At.enter rfl ?_
        refine q_iretz (by decide) ?_
        refine At.enter rfl ?_
        refine r_iff 26 rfl (by decide) ?_
        refine At.enter rfl ?_
        refine r_iload_n rfl ?_
        refine r_iconst 2 rfl ?_
        refine r_ics 31 rfl (fun c395 => ?_) (fun c395 => ?_)
        · have c395_ : a2.toInt ≠ 2 := en_i_ne_t c395
          refine At.enter rfl ?_
          refine r_iconst 0 rfl ?_
          refine Ar.fall 43 rfl ?_
          refine At.enter rfl ?_
          refine r_istore ([(4, .int 0), (0, .ref 0), (1, .int a1), (2, .int a2), (3, .int a3)]) rfl ?_
          refine r_iload rfl ?_
          refine r_iff 50 rfl (by decide) ?_
          refine At.enter rfl ?_
          refine r_aload_n rfl ?_
          refine r_iconst (-1) rfl ?_
          refine r_callV 55 rfl [.ref 0, .int (-1)] [] (Nat.le_of_ble_eq_true rfl) rfl (T_X10_refused_0 _ hI0 (-1) (by decide)) ?_
          rintro _ _ ⟨g396, rfl, hI397, hF398, v399, rfl, hr400⟩
          refine At.sti ?_
          have hF401 := Fr.tr hF0 hF398 rfl rfl
          have zv402 : ((-1) : Int32).toInt = (-1) := rfl
          refine At.enter rfl ?_
          refine r_ireti ?_
          obtain ⟨v403, hv403⟩ : ∃ v, gI g0 1 0 = v := ⟨_, rfl⟩
          have rv403 := RgF.at hI0.2.1 (p := 1) (b := 0) rfl
          rw [hv403] at rv403
          dsimp only at rv403
          have tv403 := congrArg Int32.toInt hv403
          have x404 := HI.eqI hI0 (p := 1) (b := 0) (hv403)
          have x405 := HI.eqI hI0 (p := 1) (b := 0) (hv403)
          exact ⟨_, rfl, hI397, hF401, _, rfl, trivial, ⟨⟨by omega, by omega, by omega, by omega, by omega⟩, (by intro i i0 i1; refine Eq.trans ?_ (if_neg (show ¬ ((a2.toInt = 0 ∧ -1 ≤ a3.toInt ∧ a3.toInt ≤ 11 ∧ 0 ≤ a1.toInt ∧ a1.toInt < (gI g0 1 0).toInt) ∧ i = a1.toInt) from by omega)).symm; refine (eA_ti ((hF398.2.1 2 (by decide)))).trans ?_; (first | rfl | exact eA_ix (by omega) | omega)), (by intro i i0 i1; refine Eq.trans ?_ (if_neg (show ¬ ((a2.toInt = 1 ∧ 1 ≤ a3.toInt ∧ a3.toInt ≤ 9 ∧ 0 ≤ a1.toInt ∧ a1.toInt < (gI g0 1 0).toInt) ∧ i = a1.toInt) from by omega)).symm; refine (eA_ti ((hF398.2.1 3 (by decide)))).trans ?_; (first | rfl | exact eA_ix (by omega) | omega)), (by intro i i0 i1; refine Eq.trans ?_ (if_neg (show ¬ ((a2.toInt = 2 ∧ 0 ≤ a3.toInt ∧ a3.toInt ≤ 99 ∧ 0 ≤ a1.toInt ∧ a1.toInt < (gI g0 1 0).toInt) ∧ i = a1.toInt) from by omega)).symm; refine (eA_ti ((hF398.2.1 4 (by decide)))).trans ?_; (first | rfl | exact eA_ix (by omega) | omega))⟩⟩
        · have c395_ : a2.toInt = 2 := en_i_ne_f c395
          exfalso; omega
      · have c394_ : a3.toInt ≥ 1 := en_i_lt_f c394
        refine At.enter rfl ?_
        refine r_iload_n rfl ?_
        refine r_iload_n rfl ?_
        refine r_ics 10 rfl (fun c406 => ?_) (fun c406 => ?_)
        · have c406_ : a3.toInt > 9 := en_i_gt_t c406
          refine At.enter rfl ?_
          refine r_iconst 0 rfl ?_
          refine Ar.fall 15 rfl ?_
          refine At.enter rfl ?_
          refine q_iretz (by decide) ?_
          refine At.enter rfl ?_
          refine q_iretz (by decide) ?_
          refine At.enter rfl ?_
          refine r_iff 26 rfl (by decide) ?_
          refine At.enter rfl ?_
          refine r_iload_n rfl ?_
          refine r_iconst 2 rfl ?_
          refine r_ics 31 rfl (fun c407 => ?_) (fun c407 => ?_)
          · have c407_ : a2.toInt ≠ 2 := en_i_ne_t c407
            refine At.enter rfl ?_
            refine r_iconst 0 rfl ?_
            refine Ar.fall 43 rfl ?_
            refine At.enter rfl ?_
            refine r_istore ([(4, .int 0), (0, .ref 0), (1, .int a1), (2, .int a2), (3, .int a3)]) rfl ?_
            refine r_iload rfl ?_
            refine r_iff 50 rfl (by decide) ?_
            refine At.enter rfl ?_
            refine r_aload_n rfl ?_
            refine r_iconst (-1) rfl ?_
            refine r_callV 55 rfl [.ref 0, .int (-1)] [] (Nat.le_of_ble_eq_true rfl) rfl (T_X10_refused_0 _ hI0 (-1) (by decide)) ?_
            rintro _ _ ⟨g408, rfl, hI409, hF410, v411, rfl, hr412⟩
            refine At.sti ?_
            have hF413 := Fr.tr hF0 hF410 rfl rfl
            have zv414 : ((-1) : Int32).toInt = (-1) := rfl
            refine At.enter rfl ?_
            refine r_ireti ?_
            obtain ⟨v415, hv415⟩ : ∃ v, gI g0 1 0 = v := ⟨_, rfl⟩
            have rv415 := RgF.at hI0.2.1 (p := 1) (b := 0) rfl
            rw [hv415] at rv415
            dsimp only at rv415
            have tv415 := congrArg Int32.toInt hv415
            have x416 := HI.eqI hI0 (p := 1) (b := 0) (hv415)
            have x417 := HI.eqI hI0 (p := 1) (b := 0) (hv415)
            exact ⟨_, rfl, hI409, hF413, _, rfl, trivial, ⟨⟨by omega, by omega, by omega, by omega, by omega⟩, (by intro i i0 i1; refine Eq.trans ?_ (if_neg (show ¬ ((a2.toInt = 0 ∧ -1 ≤ a3.toInt ∧ a3.toInt ≤ 11 ∧ 0 ≤ a1.toInt ∧ a1.toInt < (gI g0 1 0).toInt) ∧ i = a1.toInt) from by omega)).symm; refine (eA_ti ((hF410.2.1 2 (by decide)))).trans ?_; (first | rfl | exact eA_ix (by omega) | omega)), (by intro i i0 i1; refine Eq.trans ?_ (if_neg (show ¬ ((a2.toInt = 1 ∧ 1 ≤ a3.toInt ∧ a3.toInt ≤ 9 ∧ 0 ≤ a1.toInt ∧ a1.toInt < (gI g0 1 0).toInt) ∧ i = a1.toInt) from by omega)).symm; refine (eA_ti ((hF410.2.1 3 (by decide)))).trans ?_; (first | rfl | exact eA_ix (by omega) | omega)), (by intro i i0 i1; refine Eq.trans ?_ (if_neg (show ¬ ((a2.toInt = 2 ∧ 0 ≤ a3.toInt ∧ a3.toInt ≤ 99 ∧ 0 ≤ a1.toInt ∧ a1.toInt < (gI g0 1 0).toInt) ∧ i = a1.toInt) from by omega)).symm; refine (eA_ti ((hF410.2.1 4 (by decide)))).trans ?_; (first | rfl | exact eA_ix (by omega) | omega))⟩⟩
          · have c407_ : a2.toInt = 2 := en_i_ne_f c407
            exfalso; omega
        · have c406_ : a3.toInt ≤ 9 := en_i_gt_f c406
          refine At.enter rfl ?_
          refine r_iconst 1 rfl ?_
          refine r_goto ?_
          refine At.enter rfl ?_
          refine q_iretz (by decide) ?_
          refine At.enter rfl ?_
          refine q_iretz (by decide) ?_
          refine At.enter rfl ?_
          refine r_ift (by decide) ?_
          refine At.enter rfl ?_
          refine r_iconst 1 rfl ?_
          refine r_goto ?_
          refine At.enter rfl ?_
          refine r_istore ([(4, .int 1), (0, .ref 0), (1, .int a1), (2, .int a2), (3, .int a3)]) rfl ?_
          refine r_iload rfl ?_
          refine r_ift (by decide) ?_
          refine At.enter rfl ?_
          refine r_aload_n rfl ?_
          refine q_getR (Sh.ref hI0.1 kx_0 rfl) ?_
          refine r_iload_n rfl ?_
          refine q_inlV 64 rfl [.ref 1, .int a1] [] (Nat.le_of_ble_eq_true rfl) rfl ?_
          refine Ev.mk rfl rfl ⟨Nat.le_of_ble_eq_true rfl, Or.inr (q_rc hI0.1 kx_1 rfl)⟩ ?_
          show At _ none _ _ (0, [(0, .ref 1), (1, .int a1)], [], (_, _)) _
          refine At.enter rfl ?_
          refine r_iload_n rfl ?_
          refine r_ifs 4 rfl (fun c418 => ?_) (fun c418 => ?_)
          · have c418_ : a1.toInt < 0 := en_k_lt_t c418
            refine At.enter rfl ?_
            refine r_iconst 0 rfl ?_
            refine Ar.fall 17 rfl ?_
            refine At.enter rfl ?_
            refine q_iretz (by decide) ?_
            refine At.enter rfl ?_
            refine r_iff 67 rfl (by decide) ?_
            refine At.enter rfl ?_
            refine r_aload_n rfl ?_
            refine r_bipush (-2) rfl ?_
            refine r_callV 73 rfl [.ref 0, .int (-2)] [] (Nat.le_of_ble_eq_true rfl) rfl (T_X10_refused_0 _ hI0 (-2) (by decide)) ?_
            rintro _ _ ⟨g419, rfl, hI420, hF421, v422, rfl, hr423⟩
            refine At.sti ?_
            have hF424 := Fr.tr hF0 hF421 rfl rfl
            have zv425 : ((-2) : Int32).toInt = (-2) := rfl
            refine At.enter rfl ?_
            refine r_ireti ?_
            obtain ⟨v426, hv426⟩ : ∃ v, gI g0 1 0 = v := ⟨_, rfl⟩
            have rv426 := RgF.at hI0.2.1 (p := 1) (b := 0) rfl
            rw [hv426] at rv426
            dsimp only at rv426
            have tv426 := congrArg Int32.toInt hv426
            have x427 := HI.eqI hI0 (p := 1) (b := 0) (hv426)
            have x428 := HI.eqI hI0 (p := 1) (b := 0) (hv426)
            exact ⟨_, rfl, hI420, hF424, _, rfl, trivial, ⟨⟨by omega, by omega, by omega, by omega, by omega⟩, (by intro i i0 i1; refine Eq.trans ?_ (if_neg (show ¬ ((a2.toInt = 0 ∧ -1 ≤ a3.toInt ∧ a3.toInt ≤ 11 ∧ 0 ≤ a1.toInt ∧ a1.toInt < (gI g0 1 0).toInt) ∧ i = a1.toInt) from by omega)).symm; refine (eA_ti ((hF421.2.1 2 (by decide)))).trans ?_; (first | rfl | exact eA_ix (by omega) | omega)), (by intro i i0 i1; refine Eq.trans ?_ (if_neg (show ¬ ((a2.toInt = 1 ∧ 1 ≤ a3.toInt ∧ a3.toInt ≤ 9 ∧ 0 ≤ a1.toInt ∧ a1.toInt < (gI g0 1 0).toInt) ∧ i = a1.toInt) from by omega)).symm; refine (eA_ti ((hF421.2.1 3 (by decide)))).trans ?_; (first | rfl | exact eA_ix (by omega) | omega)), (by intro i i0 i1; refine Eq.trans ?_ (if_neg (show ¬ ((a2.toInt = 2 ∧ 0 ≤ a3.toInt ∧ a3.toInt ≤ 99 ∧ 0 ≤ a1.toInt ∧ a1.toInt < (gI g0 1 0).toInt) ∧ i = a1.toInt) from by omega)).symm; refine (eA_ti ((hF421.2.1 4 (by decide)))).trans ?_; (first | rfl | exact eA_ix (by omega) | omega))⟩⟩
          · have c418_ : a1.toInt ≥ 0 := en_k_lt_f c418
            refine At.enter rfl ?_
            refine r_iload_n rfl ?_
            refine r_aload_n rfl ?_
            obtain ⟨v429, hv429⟩ : ∃ v, gI g0 1 0 = v := ⟨_, rfl⟩
            have rv429 := RgF.at hI0.2.1 (p := 1) (b := 0) rfl
            rw [hv429] at rv429
            dsimp only at rv429
            refine q_getI (Sh.int hI0.1 kx_1 rfl) v429 hv429 ?_
            have bv431 := q_bnd a1
            have bv432 := q_bnd v429
            refine r_ics 12 rfl (fun c430 => ?_) (fun c430 => ?_)
            · have c430_ : a1.toInt ≥ v429.toInt := en_i_ge_t c430
              refine At.enter rfl ?_
              refine r_iconst 0 rfl ?_
              refine Ar.fall 17 rfl ?_
              refine At.enter rfl ?_
              refine q_iretz (by decide) ?_
              refine At.enter rfl ?_
              refine r_iff 67 rfl (by decide) ?_
              refine At.enter rfl ?_
              refine r_aload_n rfl ?_
              refine r_bipush (-2) rfl ?_
              refine r_callV 73 rfl [.ref 0, .int (-2)] [] (Nat.le_of_ble_eq_true rfl) rfl (T_X10_refused_0 _ hI0 (-2) (by decide)) ?_
              rintro _ _ ⟨g433, rfl, hI434, hF435, v436, rfl, hr437⟩
              refine At.sti ?_
              have hF438 := Fr.tr hF0 hF435 rfl rfl
              have zv439 : ((-2) : Int32).toInt = (-2) := rfl
              refine At.enter rfl ?_
              refine r_ireti ?_
              have x440 := HI.eqI hI0 (p := 1) (b := 0) (hv429)
              have x441 := HI.eqI hI0 (p := 1) (b := 0) (hv429)
              exact ⟨_, rfl, hI434, hF438, _, rfl, trivial, ⟨⟨by omega, by omega, by omega, by omega, by omega⟩, (by intro i i0 i1; refine Eq.trans ?_ (if_neg (show ¬ ((a2.toInt = 0 ∧ -1 ≤ a3.toInt ∧ a3.toInt ≤ 11 ∧ 0 ≤ a1.toInt ∧ a1.toInt < (gI g0 1 0).toInt) ∧ i = a1.toInt) from by omega)).symm; refine (eA_ti ((hF435.2.1 2 (by decide)))).trans ?_; (first | rfl | exact eA_ix (by omega) | omega)), (by intro i i0 i1; refine Eq.trans ?_ (if_neg (show ¬ ((a2.toInt = 1 ∧ 1 ≤ a3.toInt ∧ a3.toInt ≤ 9 ∧ 0 ≤ a1.toInt ∧ a1.toInt < (gI g0 1 0).toInt) ∧ i = a1.toInt) from by omega)).symm; refine (eA_ti ((hF435.2.1 3 (by decide)))).trans ?_; (first | rfl | exact eA_ix (by omega) | omega)), (by intro i i0 i1; refine Eq.trans ?_ (if_neg (show ¬ ((a2.toInt = 2 ∧ 0 ≤ a3.toInt ∧ a3.toInt ≤ 99 ∧ 0 ≤ a1.toInt ∧ a1.toInt < (gI g0 1 0).toInt) ∧ i = a1.toInt) from by omega)).symm; refine (eA_ti ((hF435.2.1 4 (by decide)))).trans ?_; (first | rfl | exact eA_ix (by omega) | omega))⟩⟩
            · have c430_ : a1.toInt < v429.toInt := en_i_ge_f c430
              refine At.enter rfl ?_
              refine r_iconst 1 rfl ?_
              refine r_goto ?_
              refine At.enter rfl ?_
              refine q_iretz (by decide) ?_
              refine At.enter rfl ?_
              refine r_ift (by decide) ?_
              refine At.enter rfl ?_
              refine r_iload_n rfl ?_
              refine r_ifs 78 rfl (fun c442 => ?_) (fun c442 => ?_)
              · have c442_ : a2.toInt ≠ 0 := en_k_ne_t c442
                refine At.enter rfl ?_
                refine r_iload_n rfl ?_
                refine r_iconst 1 rfl ?_
                refine r_ics 93 rfl (fun c443 => ?_) (fun c443 => ?_)
                · have c443_ : a2.toInt ≠ 1 := en_i_ne_t c443
                  exfalso; omega
                · have c443_ : a2.toInt = 1 := en_i_ne_f c443
                  refine At.enter rfl ?_
                  refine r_aload_n rfl ?_
                  refine q_getR (Sh.ref hI0.1 kx_0 rfl) ?_
                  refine q_getR (Sh.ref hI0.1 kx_1 rfl) ?_
                  refine r_goto ?_
                  refine At.enter rfl ?_
                  refine r_astore ([(5, .ref 3), (4, .int 1), (0, .ref 0), (1, .int a1), (2, .int a2), (3, .int a3)]) rfl ?_
                  refine r_aload rfl ?_
                  refine r_iload_n rfl ?_
                  obtain ⟨v444, hv444⟩ : ∃ v, eA g0 3 a1.toInt = v := ⟨_, rfl⟩
                  refine q_iald (Sh.arr hI0.1 ka_3) a1.toInt rfl (by omega) v444 hv444 ?_
                  refine r_istore ([(6, .int v444), (5, .ref 3), (4, .int 1), (0, .ref 0), (1, .int a1), (2, .int a2), (3, .int a3)]) rfl ?_
                  refine r_aload rfl ?_
                  refine r_iload_n rfl ?_
                  refine r_iload_n rfl ?_
                  refine q_iast (Sh.arr hI0.1 ka_3) (a1.toInt) rfl (by omega) ?_
                  have hI445 := HI.wA0 hI0 ka_3 (p := 3) rfl rfl (a1.toInt) (a3)
                  have hF446 := Fr.wA (p := 3) (j := a1.toInt) (v := a3) hF0 rfl
                  refine r_aload_n rfl ?_
                  refine r_callV 127 rfl [.ref 0] [] (Nat.le_of_ble_eq_true rfl) rfl (T_X10_changed_0 _ hI445) ?_
                  rintro _ _ ⟨g447, rfl, hI448, hF449, rfl⟩
                  refine At.stn ?_
                  have hF452 := Fr.tr hF446 hF449 rfl rfl
                  refine At.enter rfl ?_
                  refine r_aload_n rfl ?_
                  refine r_iload rfl ?_
                  refine q_inlV 133 rfl [.ref 0, .int v444] [] (Nat.le_of_ble_eq_true rfl) rfl ?_
                  refine Ev.mk rfl rfl ⟨Nat.le_of_ble_eq_true rfl, Or.inr (q_rc hI448.1 kx_0 rfl)⟩ ?_
                  show At _ none _ _ (0, [(0, .ref 0), (1, .int v444)], [], (_, _)) _
                  refine At.enter rfl ?_
                  refine r_aload_n rfl ?_
                  refine r_iconst 0 rfl ?_
                  refine q_putI (Sh.int hI448.1 kx_0 rfl) rfl ?_
                  have hI453 := HI.wI0 hI448 kx_0 rfl (p := 0) (b := 17) (v := 0) rfl
                  have hF454 := Fr.wI (p := 0) (b := 17) (v := 0) hF452 rfl
                  refine r_iload_n rfl ?_
                  refine q_ireti ?_
                  refine At.enter rfl ?_
                  refine r_ireti ?_
                  have x455 := HI.eqI hI0 (p := 1) (b := 0) (hv429)
                  have y456 := congrArg Int32.toInt hv444
                  have x457 := HI.eqI hI0 (p := 1) (b := 0) (hv429)
                  exact ⟨_, rfl, hI453, hF454, _, rfl, trivial, ⟨⟨by omega, by omega, by omega, by omega, by omega⟩, (by intro i i0 i1; refine Eq.trans ?_ (if_neg (show ¬ ((a2.toInt = 0 ∧ -1 ≤ a3.toInt ∧ a3.toInt ≤ 11 ∧ 0 ≤ a1.toInt ∧ a1.toInt < (gI g0 1 0).toInt) ∧ i = a1.toInt) from by omega)).symm; refine (eA_ti (((gA_sI).trans ((hF449.2.1 2 (by decide)).trans (gA_sA_ne (by decide)))))).trans ?_; (first | rfl | exact eA_ix (by omega) | omega)), (by intro i i0 i1; exact (Decidable.em ((a2.toInt = 1 ∧ 1 ≤ a3.toInt ∧ a3.toInt ≤ 9 ∧ 0 ≤ a1.toInt ∧ a1.toInt < (gI g0 1 0).toInt) ∧ i = a1.toInt)).elim (fun k13_ => by refine Eq.trans ?_ (if_pos k13_).symm; refine (eA_ti (((gA_sI).trans (hF449.2.1 3 (by decide))))).trans ?_; exact (Decidable.em (i = a1.toInt)).elim (fun k14_ => by refine (eA_eqT hI0.1 ka_3 k14_ (by first | decide | omega) (by first | decide | omega)).trans ?_; (first | (rfl) | (omega))) (fun k14_ => by refine (eA_neT hI0.1 ka_3 k14_ (by first | decide | omega) (by omega)).trans ?_; (first | rfl | exact eA_ix (by omega) | omega))) (fun k13_ => by refine Eq.trans ?_ (if_neg k13_).symm; refine (eA_ti (((gA_sI).trans (hF449.2.1 3 (by decide))))).trans ?_; exact (Decidable.em (i = a1.toInt)).elim (fun k15_ => by refine (eA_eqT hI0.1 ka_3 k15_ (by first | decide | omega) (by first | decide | omega)).trans ?_; (first | (rfl) | (omega))) (fun k15_ => by refine (eA_neT hI0.1 ka_3 k15_ (by first | decide | omega) (by omega)).trans ?_; (first | rfl | exact eA_ix (by omega) | omega)))), (by intro i i0 i1; refine Eq.trans ?_ (if_neg (show ¬ ((a2.toInt = 2 ∧ 0 ≤ a3.toInt ∧ a3.toInt ≤ 99 ∧ 0 ≤ a1.toInt ∧ a1.toInt < (gI g0 1 0).toInt) ∧ i = a1.toInt) from by omega)).symm; refine (eA_ti (((gA_sI).trans ((hF449.2.1 4 (by decide)).trans (gA_sA_ne (by decide)))))).trans ?_; (first | rfl | exact eA_ix (by omega) | omega))⟩⟩
              · have c442_ : a2.toInt = 0 := en_k_ne_f c442
                exfalso; omega
  · have c319_ : a2.toInt = 0 := en_k_ne_f c319
    refine At.enter rfl ?_
    refine r_iload_n rfl ?_
    refine r_iconst (-1) rfl ?_
    refine r_bipush 11 rfl ?_
    refine q_inlS 11 rfl [.int a3, .int (-1), .int 11] [] (Nat.le_of_ble_eq_true rfl) rfl ?_
    refine Ev.mk rfl rfl ⟨Nat.le_of_ble_eq_true rfl, Or.inl rfl⟩ ?_
    show At _ none _ _ (0, [(0, .int a3), (1, .int (-1)), (2, .int 11)], [], (_, _)) _
    refine At.enter rfl ?_
    refine r_iload_n rfl ?_
    refine r_iload_n rfl ?_
    refine r_ics 5 rfl (fun c458 => ?_) (fun c458 => ?_)
    · have c458_ : a3.toInt < (-1) := en_i_lt_t c458
      refine At.enter rfl ?_
      refine r_iconst 0 rfl ?_
      refine Ar.fall 15 rfl ?_
      refine At.enter rfl ?_
      refine q_iretz (by decide) ?_
      refine At.enter rfl ?_
      refine r_iff 14 rfl (by decide) ?_
      refine At.enter rfl ?_
      refine r_iload_n rfl ?_
      refine r_iconst 1 rfl ?_
      refine r_ics 19 rfl (fun c459 => ?_) (fun c459 => ?_)
      · have c459_ : a2.toInt ≠ 1 := en_i_ne_t c459
        refine At.enter rfl ?_
        refine r_iload_n rfl ?_
        refine r_iconst 2 rfl ?_
        refine r_ics 31 rfl (fun c460 => ?_) (fun c460 => ?_)
        · have c460_ : a2.toInt ≠ 2 := en_i_ne_t c460
          refine At.enter rfl ?_
          refine r_iconst 0 rfl ?_
          refine Ar.fall 43 rfl ?_
          refine At.enter rfl ?_
          refine r_istore ([(4, .int 0), (0, .ref 0), (1, .int a1), (2, .int a2), (3, .int a3)]) rfl ?_
          refine r_iload rfl ?_
          refine r_iff 50 rfl (by decide) ?_
          refine At.enter rfl ?_
          refine r_aload_n rfl ?_
          refine r_iconst (-1) rfl ?_
          refine r_callV 55 rfl [.ref 0, .int (-1)] [] (Nat.le_of_ble_eq_true rfl) rfl (T_X10_refused_0 _ hI0 (-1) (by decide)) ?_
          rintro _ _ ⟨g461, rfl, hI462, hF463, v464, rfl, hr465⟩
          refine At.sti ?_
          have hF466 := Fr.tr hF0 hF463 rfl rfl
          have zv467 : ((-1) : Int32).toInt = (-1) := rfl
          refine At.enter rfl ?_
          refine r_ireti ?_
          obtain ⟨v468, hv468⟩ : ∃ v, gI g0 1 0 = v := ⟨_, rfl⟩
          have rv468 := RgF.at hI0.2.1 (p := 1) (b := 0) rfl
          rw [hv468] at rv468
          dsimp only at rv468
          have tv468 := congrArg Int32.toInt hv468
          have x469 := HI.eqI hI0 (p := 1) (b := 0) (hv468)
          have x470 := HI.eqI hI0 (p := 1) (b := 0) (hv468)
          exact ⟨_, rfl, hI462, hF466, _, rfl, trivial, ⟨⟨by omega, by omega, by omega, by omega, by omega⟩, (by intro i i0 i1; refine Eq.trans ?_ (if_neg (show ¬ ((a2.toInt = 0 ∧ -1 ≤ a3.toInt ∧ a3.toInt ≤ 11 ∧ 0 ≤ a1.toInt ∧ a1.toInt < (gI g0 1 0).toInt) ∧ i = a1.toInt) from by omega)).symm; refine (eA_ti ((hF463.2.1 2 (by decide)))).trans ?_; (first | rfl | exact eA_ix (by omega) | omega)), (by intro i i0 i1; refine Eq.trans ?_ (if_neg (show ¬ ((a2.toInt = 1 ∧ 1 ≤ a3.toInt ∧ a3.toInt ≤ 9 ∧ 0 ≤ a1.toInt ∧ a1.toInt < (gI g0 1 0).toInt) ∧ i = a1.toInt) from by omega)).symm; refine (eA_ti ((hF463.2.1 3 (by decide)))).trans ?_; (first | rfl | exact eA_ix (by omega) | omega)), (by intro i i0 i1; refine Eq.trans ?_ (if_neg (show ¬ ((a2.toInt = 2 ∧ 0 ≤ a3.toInt ∧ a3.toInt ≤ 99 ∧ 0 ≤ a1.toInt ∧ a1.toInt < (gI g0 1 0).toInt) ∧ i = a1.toInt) from by omega)).symm; refine (eA_ti ((hF463.2.1 4 (by decide)))).trans ?_; (first | rfl | exact eA_ix (by omega) | omega))⟩⟩
        · have c460_ : a2.toInt = 2 := en_i_ne_f c460
          exfalso; omega
      · have c459_ : a2.toInt = 1 := en_i_ne_f c459
        exfalso; omega
    · have c458_ : a3.toInt ≥ (-1) := en_i_lt_f c458
      refine At.enter rfl ?_
      refine r_iload_n rfl ?_
      refine r_iload_n rfl ?_
      refine r_ics 10 rfl (fun c471 => ?_) (fun c471 => ?_)
      · have c471_ : a3.toInt > 11 := en_i_gt_t c471
        refine At.enter rfl ?_
        refine r_iconst 0 rfl ?_
        refine Ar.fall 15 rfl ?_
        refine At.enter rfl ?_
        refine q_iretz (by decide) ?_
        refine At.enter rfl ?_
        refine r_iff 14 rfl (by decide) ?_
        refine At.enter rfl ?_
        refine r_iload_n rfl ?_
        refine r_iconst 1 rfl ?_
        refine r_ics 19 rfl (fun c472 => ?_) (fun c472 => ?_)
        · have c472_ : a2.toInt ≠ 1 := en_i_ne_t c472
          refine At.enter rfl ?_
          refine r_iload_n rfl ?_
          refine r_iconst 2 rfl ?_
          refine r_ics 31 rfl (fun c473 => ?_) (fun c473 => ?_)
          · have c473_ : a2.toInt ≠ 2 := en_i_ne_t c473
            refine At.enter rfl ?_
            refine r_iconst 0 rfl ?_
            refine Ar.fall 43 rfl ?_
            refine At.enter rfl ?_
            refine r_istore ([(4, .int 0), (0, .ref 0), (1, .int a1), (2, .int a2), (3, .int a3)]) rfl ?_
            refine r_iload rfl ?_
            refine r_iff 50 rfl (by decide) ?_
            refine At.enter rfl ?_
            refine r_aload_n rfl ?_
            refine r_iconst (-1) rfl ?_
            refine r_callV 55 rfl [.ref 0, .int (-1)] [] (Nat.le_of_ble_eq_true rfl) rfl (T_X10_refused_0 _ hI0 (-1) (by decide)) ?_
            rintro _ _ ⟨g474, rfl, hI475, hF476, v477, rfl, hr478⟩
            refine At.sti ?_
            have hF479 := Fr.tr hF0 hF476 rfl rfl
            have zv480 : ((-1) : Int32).toInt = (-1) := rfl
            refine At.enter rfl ?_
            refine r_ireti ?_
            obtain ⟨v481, hv481⟩ : ∃ v, gI g0 1 0 = v := ⟨_, rfl⟩
            have rv481 := RgF.at hI0.2.1 (p := 1) (b := 0) rfl
            rw [hv481] at rv481
            dsimp only at rv481
            have tv481 := congrArg Int32.toInt hv481
            have x482 := HI.eqI hI0 (p := 1) (b := 0) (hv481)
            have x483 := HI.eqI hI0 (p := 1) (b := 0) (hv481)
            exact ⟨_, rfl, hI475, hF479, _, rfl, trivial, ⟨⟨by omega, by omega, by omega, by omega, by omega⟩, (by intro i i0 i1; refine Eq.trans ?_ (if_neg (show ¬ ((a2.toInt = 0 ∧ -1 ≤ a3.toInt ∧ a3.toInt ≤ 11 ∧ 0 ≤ a1.toInt ∧ a1.toInt < (gI g0 1 0).toInt) ∧ i = a1.toInt) from by omega)).symm; refine (eA_ti ((hF476.2.1 2 (by decide)))).trans ?_; (first | rfl | exact eA_ix (by omega) | omega)), (by intro i i0 i1; refine Eq.trans ?_ (if_neg (show ¬ ((a2.toInt = 1 ∧ 1 ≤ a3.toInt ∧ a3.toInt ≤ 9 ∧ 0 ≤ a1.toInt ∧ a1.toInt < (gI g0 1 0).toInt) ∧ i = a1.toInt) from by omega)).symm; refine (eA_ti ((hF476.2.1 3 (by decide)))).trans ?_; (first | rfl | exact eA_ix (by omega) | omega)), (by intro i i0 i1; refine Eq.trans ?_ (if_neg (show ¬ ((a2.toInt = 2 ∧ 0 ≤ a3.toInt ∧ a3.toInt ≤ 99 ∧ 0 ≤ a1.toInt ∧ a1.toInt < (gI g0 1 0).toInt) ∧ i = a1.toInt) from by omega)).symm; refine (eA_ti ((hF476.2.1 4 (by decide)))).trans ?_; (first | rfl | exact eA_ix (by omega) | omega))⟩⟩
          · have c473_ : a2.toInt = 2 := en_i_ne_f c473
            exfalso; omega
        · have c472_ : a2.toInt = 1 := en_i_ne_f c472
          exfalso; omega
      · have c471_ : a3.toInt ≤ 11 := en_i_gt_f c471
        refine At.enter rfl ?_
        refine r_iconst 1 rfl ?_
        refine r_goto ?_
        refine At.enter rfl ?_
        refine q_iretz (by decide) ?_
        refine At.enter rfl ?_
        refine r_ift (by decide) ?_
        refine At.enter rfl ?_
        refine r_iconst 1 rfl ?_
        refine r_goto ?_
        refine At.enter rfl ?_
        refine r_istore ([(4, .int 1), (0, .ref 0), (1, .int a1), (2, .int a2), (3, .int a3)]) rfl ?_
        refine r_iload rfl ?_
        refine r_ift (by decide) ?_
        refine At.enter rfl ?_
        refine r_aload_n rfl ?_
        refine q_getR (Sh.ref hI0.1 kx_0 rfl) ?_
        refine r_iload_n rfl ?_
        refine q_inlV 64 rfl [.ref 1, .int a1] [] (Nat.le_of_ble_eq_true rfl) rfl ?_
        refine Ev.mk rfl rfl ⟨Nat.le_of_ble_eq_true rfl, Or.inr (q_rc hI0.1 kx_1 rfl)⟩ ?_
        show At _ none _ _ (0, [(0, .ref 1), (1, .int a1)], [], (_, _)) _
        refine At.enter rfl ?_
        refine r_iload_n rfl ?_
        refine r_ifs 4 rfl (fun c484 => ?_) (fun c484 => ?_)
        · have c484_ : a1.toInt < 0 := en_k_lt_t c484
          refine At.enter rfl ?_
          refine r_iconst 0 rfl ?_
          refine Ar.fall 17 rfl ?_
          refine At.enter rfl ?_
          refine q_iretz (by decide) ?_
          refine At.enter rfl ?_
          refine r_iff 67 rfl (by decide) ?_
          refine At.enter rfl ?_
          refine r_aload_n rfl ?_
          refine r_bipush (-2) rfl ?_
          refine r_callV 73 rfl [.ref 0, .int (-2)] [] (Nat.le_of_ble_eq_true rfl) rfl (T_X10_refused_0 _ hI0 (-2) (by decide)) ?_
          rintro _ _ ⟨g485, rfl, hI486, hF487, v488, rfl, hr489⟩
          refine At.sti ?_
          have hF490 := Fr.tr hF0 hF487 rfl rfl
          have zv491 : ((-2) : Int32).toInt = (-2) := rfl
          refine At.enter rfl ?_
          refine r_ireti ?_
          obtain ⟨v492, hv492⟩ : ∃ v, gI g0 1 0 = v := ⟨_, rfl⟩
          have rv492 := RgF.at hI0.2.1 (p := 1) (b := 0) rfl
          rw [hv492] at rv492
          dsimp only at rv492
          have tv492 := congrArg Int32.toInt hv492
          have x493 := HI.eqI hI0 (p := 1) (b := 0) (hv492)
          have x494 := HI.eqI hI0 (p := 1) (b := 0) (hv492)
          exact ⟨_, rfl, hI486, hF490, _, rfl, trivial, ⟨⟨by omega, by omega, by omega, by omega, by omega⟩, (by intro i i0 i1; refine Eq.trans ?_ (if_neg (show ¬ ((a2.toInt = 0 ∧ -1 ≤ a3.toInt ∧ a3.toInt ≤ 11 ∧ 0 ≤ a1.toInt ∧ a1.toInt < (gI g0 1 0).toInt) ∧ i = a1.toInt) from by omega)).symm; refine (eA_ti ((hF487.2.1 2 (by decide)))).trans ?_; (first | rfl | exact eA_ix (by omega) | omega)), (by intro i i0 i1; refine Eq.trans ?_ (if_neg (show ¬ ((a2.toInt = 1 ∧ 1 ≤ a3.toInt ∧ a3.toInt ≤ 9 ∧ 0 ≤ a1.toInt ∧ a1.toInt < (gI g0 1 0).toInt) ∧ i = a1.toInt) from by omega)).symm; refine (eA_ti ((hF487.2.1 3 (by decide)))).trans ?_; (first | rfl | exact eA_ix (by omega) | omega)), (by intro i i0 i1; refine Eq.trans ?_ (if_neg (show ¬ ((a2.toInt = 2 ∧ 0 ≤ a3.toInt ∧ a3.toInt ≤ 99 ∧ 0 ≤ a1.toInt ∧ a1.toInt < (gI g0 1 0).toInt) ∧ i = a1.toInt) from by omega)).symm; refine (eA_ti ((hF487.2.1 4 (by decide)))).trans ?_; (first | rfl | exact eA_ix (by omega) | omega))⟩⟩
        · have c484_ : a1.toInt ≥ 0 := en_k_lt_f c484
          refine At.enter rfl ?_
          refine r_iload_n rfl ?_
          refine r_aload_n rfl ?_
          obtain ⟨v495, hv495⟩ : ∃ v, gI g0 1 0 = v := ⟨_, rfl⟩
          have rv495 := RgF.at hI0.2.1 (p := 1) (b := 0) rfl
          rw [hv495] at rv495
          dsimp only at rv495
          refine q_getI (Sh.int hI0.1 kx_1 rfl) v495 hv495 ?_
          have bv497 := q_bnd a1
          have bv498 := q_bnd v495
          refine r_ics 12 rfl (fun c496 => ?_) (fun c496 => ?_)
          · have c496_ : a1.toInt ≥ v495.toInt := en_i_ge_t c496
            refine At.enter rfl ?_
            refine r_iconst 0 rfl ?_
            refine Ar.fall 17 rfl ?_
            refine At.enter rfl ?_
            refine q_iretz (by decide) ?_
            refine At.enter rfl ?_
            refine r_iff 67 rfl (by decide) ?_
            refine At.enter rfl ?_
            refine r_aload_n rfl ?_
            refine r_bipush (-2) rfl ?_
            refine r_callV 73 rfl [.ref 0, .int (-2)] [] (Nat.le_of_ble_eq_true rfl) rfl (T_X10_refused_0 _ hI0 (-2) (by decide)) ?_
            rintro _ _ ⟨g499, rfl, hI500, hF501, v502, rfl, hr503⟩
            refine At.sti ?_
            have hF504 := Fr.tr hF0 hF501 rfl rfl
            have zv505 : ((-2) : Int32).toInt = (-2) := rfl
            refine At.enter rfl ?_
            refine r_ireti ?_
            have x506 := HI.eqI hI0 (p := 1) (b := 0) (hv495)
            have x507 := HI.eqI hI0 (p := 1) (b := 0) (hv495)
            exact ⟨_, rfl, hI500, hF504, _, rfl, trivial, ⟨⟨by omega, by omega, by omega, by omega, by omega⟩, (by intro i i0 i1; refine Eq.trans ?_ (if_neg (show ¬ ((a2.toInt = 0 ∧ -1 ≤ a3.toInt ∧ a3.toInt ≤ 11 ∧ 0 ≤ a1.toInt ∧ a1.toInt < (gI g0 1 0).toInt) ∧ i = a1.toInt) from by omega)).symm; refine (eA_ti ((hF501.2.1 2 (by decide)))).trans ?_; (first | rfl | exact eA_ix (by omega) | omega)), (by intro i i0 i1; refine Eq.trans ?_ (if_neg (show ¬ ((a2.toInt = 1 ∧ 1 ≤ a3.toInt ∧ a3.toInt ≤ 9 ∧ 0 ≤ a1.toInt ∧ a1.toInt < (gI g0 1 0).toInt) ∧ i = a1.toInt) from by omega)).symm; refine (eA_ti ((hF501.2.1 3 (by decide)))).trans ?_; (first | rfl | exact eA_ix (by omega) | omega)), (by intro i i0 i1; refine Eq.trans ?_ (if_neg (show ¬ ((a2.toInt = 2 ∧ 0 ≤ a3.toInt ∧ a3.toInt ≤ 99 ∧ 0 ≤ a1.toInt ∧ a1.toInt < (gI g0 1 0).toInt) ∧ i = a1.toInt) from by omega)).symm; refine (eA_ti ((hF501.2.1 4 (by decide)))).trans ?_; (first | rfl | exact eA_ix (by omega) | omega))⟩⟩
          · have c496_ : a1.toInt < v495.toInt := en_i_ge_f c496
            refine At.enter rfl ?_
            refine r_iconst 1 rfl ?_
            refine r_goto ?_
            refine At.enter rfl ?_
            refine q_iretz (by decide) ?_
            refine At.enter rfl ?_
            refine r_ift (by decide) ?_
            refine At.enter rfl ?_
            refine r_iload_n rfl ?_
            refine r_ifs 78 rfl (fun c508 => ?_) (fun c508 => ?_)
            · have c508_ : a2.toInt ≠ 0 := en_k_ne_t c508
              exfalso; omega
            · have c508_ : a2.toInt = 0 := en_k_ne_f c508
              refine At.enter rfl ?_
              refine r_aload_n rfl ?_
              refine q_getR (Sh.ref hI0.1 kx_0 rfl) ?_
              refine q_getR (Sh.ref hI0.1 kx_1 rfl) ?_
              refine r_goto ?_
              refine At.enter rfl ?_
              refine r_astore ([(5, .ref 2), (4, .int 1), (0, .ref 0), (1, .int a1), (2, .int a2), (3, .int a3)]) rfl ?_
              refine r_aload rfl ?_
              refine r_iload_n rfl ?_
              obtain ⟨v509, hv509⟩ : ∃ v, eA g0 2 a1.toInt = v := ⟨_, rfl⟩
              refine q_iald (Sh.arr hI0.1 ka_2) a1.toInt rfl (by omega) v509 hv509 ?_
              refine r_istore ([(6, .int v509), (5, .ref 2), (4, .int 1), (0, .ref 0), (1, .int a1), (2, .int a2), (3, .int a3)]) rfl ?_
              refine r_aload rfl ?_
              refine r_iload_n rfl ?_
              refine r_iload_n rfl ?_
              refine q_iast (Sh.arr hI0.1 ka_2) (a1.toInt) rfl (by omega) ?_
              have hI510 := HI.wA0 hI0 ka_2 (p := 2) rfl rfl (a1.toInt) (a3)
              have hF511 := Fr.wA (p := 2) (j := a1.toInt) (v := a3) hF0 rfl
              refine r_aload_n rfl ?_
              refine r_callV 127 rfl [.ref 0] [] (Nat.le_of_ble_eq_true rfl) rfl (T_X10_changed_0 _ hI510) ?_
              rintro _ _ ⟨g512, rfl, hI513, hF514, rfl⟩
              refine At.stn ?_
              have hF517 := Fr.tr hF511 hF514 rfl rfl
              refine At.enter rfl ?_
              refine r_aload_n rfl ?_
              refine r_iload rfl ?_
              refine q_inlV 133 rfl [.ref 0, .int v509] [] (Nat.le_of_ble_eq_true rfl) rfl ?_
              refine Ev.mk rfl rfl ⟨Nat.le_of_ble_eq_true rfl, Or.inr (q_rc hI513.1 kx_0 rfl)⟩ ?_
              show At _ none _ _ (0, [(0, .ref 0), (1, .int v509)], [], (_, _)) _
              refine At.enter rfl ?_
              refine r_aload_n rfl ?_
              refine r_iconst 0 rfl ?_
              refine q_putI (Sh.int hI513.1 kx_0 rfl) rfl ?_
              have hI518 := HI.wI0 hI513 kx_0 rfl (p := 0) (b := 17) (v := 0) rfl
              have hF519 := Fr.wI (p := 0) (b := 17) (v := 0) hF517 rfl
              refine r_iload_n rfl ?_
              refine q_ireti ?_
              refine At.enter rfl ?_
              refine r_ireti ?_
              have x520 := HI.eqI hI0 (p := 1) (b := 0) (hv495)
              have y521 := congrArg Int32.toInt hv509
              have x522 := HI.eqI hI0 (p := 1) (b := 0) (hv495)
              exact ⟨_, rfl, hI518, hF519, _, rfl, trivial, ⟨⟨by omega, by omega, by omega, by omega, by omega⟩, (by intro i i0 i1; exact (Decidable.em ((a2.toInt = 0 ∧ -1 ≤ a3.toInt ∧ a3.toInt ≤ 11 ∧ 0 ≤ a1.toInt ∧ a1.toInt < (gI g0 1 0).toInt) ∧ i = a1.toInt)).elim (fun k16_ => by refine Eq.trans ?_ (if_pos k16_).symm; refine (eA_ti (((gA_sI).trans (hF514.2.1 2 (by decide))))).trans ?_; exact (Decidable.em (i = a1.toInt)).elim (fun k17_ => by refine (eA_eqT hI0.1 ka_2 k17_ (by first | decide | omega) (by first | decide | omega)).trans ?_; (first | (rfl) | (omega))) (fun k17_ => by refine (eA_neT hI0.1 ka_2 k17_ (by first | decide | omega) (by omega)).trans ?_; (first | rfl | exact eA_ix (by omega) | omega))) (fun k16_ => by refine Eq.trans ?_ (if_neg k16_).symm; refine (eA_ti (((gA_sI).trans (hF514.2.1 2 (by decide))))).trans ?_; exact (Decidable.em (i = a1.toInt)).elim (fun k18_ => by refine (eA_eqT hI0.1 ka_2 k18_ (by first | decide | omega) (by first | decide | omega)).trans ?_; (first | (rfl) | (omega))) (fun k18_ => by refine (eA_neT hI0.1 ka_2 k18_ (by first | decide | omega) (by omega)).trans ?_; (first | rfl | exact eA_ix (by omega) | omega)))), (by intro i i0 i1; refine Eq.trans ?_ (if_neg (show ¬ ((a2.toInt = 1 ∧ 1 ≤ a3.toInt ∧ a3.toInt ≤ 9 ∧ 0 ≤ a1.toInt ∧ a1.toInt < (gI g0 1 0).toInt) ∧ i = a1.toInt) from by omega)).symm; refine (eA_ti (((gA_sI).trans ((hF514.2.1 3 (by decide)).trans (gA_sA_ne (by decide)))))).trans ?_; (first | rfl | exact eA_ix (by omega) | omega)), (by intro i i0 i1; refine Eq.trans ?_ (if_neg (show ¬ ((a2.toInt = 2 ∧ 0 ≤ a3.toInt ∧ a3.toInt ≤ 99 ∧ 0 ≤ a1.toInt ∧ a1.toInt < (gI g0 1 0).toInt) ∧ i = a1.toInt) from by omega)).symm; refine (eA_ti (((gA_sI).trans ((hF514.2.1 4 (by decide)).trans (gA_sA_ne (by decide)))))).trans ?_; (first | rfl | exact eA_ix (by omega) | omega))⟩⟩

def F_X10_of_0 : List (Nat × Nat) := []
def A_X10_of_0 : List Nat := []
set_option maxRecDepth 100000 in
set_option maxHeartbeats 4000000 in
theorem T_X10_of_0 (d : Nat) {N : Nat} {g0 : List en_E} (hI0 : HI g0) (a1 : Int32) (a2 : Int32) : Ev (d + 3) 106 [.ref 0, .int a1, .int a2] (g0, N) (fun w h' => ∃ g', h' = (g', N) ∧ HI g' ∧ Fr F_X10_of_0 A_X10_of_0 g0 g' ∧ ∃ r : Int32, w = some (.int r) ∧ True ∧ ((¬ (0 ≤ a1.toInt ∧ a1.toInt < (gI g0 1 0).toInt) ∨ a2.toInt < 0 ∨ 3 < a2.toInt → r.toInt = -1) ∧ (0 ≤ a1.toInt ∧ a1.toInt < (gI g0 1 0).toInt ∧ a2.toInt = 3 → r.toInt = NX g0 a1.toInt) ∧ (0 ≤ a1.toInt ∧ a1.toInt < (gI g0 1 0).toInt ∧ a2.toInt = 0 → r.toInt = (eA g0 2 a1.toInt).toInt) ∧ (0 ≤ a1.toInt ∧ a1.toInt < (gI g0 1 0).toInt ∧ a2.toInt = 1 → r.toInt = (eA g0 3 a1.toInt).toInt) ∧ (0 ≤ a1.toInt ∧ a1.toInt < (gI g0 1 0).toInt ∧ a2.toInt = 2 → r.toInt = (eA g0 4 a1.toInt).toInt))) := by
  have hF0 : Fr F_X10_of_0 A_X10_of_0 g0 g0 := Fr.rf
  refine Ev.mk rfl rfl ⟨Nat.le_of_ble_eq_true rfl, Or.inr (q_rc hI0.1 kx_0 rfl)⟩ ?_
  show At _ none _ _ (0, [(0, .ref 0), (1, .int a1), (2, .int a2)], [], (_, _)) _
  refine At.enter rfl ?_
  refine r_aload_n rfl ?_
  refine q_getR (Sh.ref hI0.1 kx_0 rfl) ?_
  refine r_iload_n rfl ?_
  refine q_inlV 8 rfl [.ref 1, .int a1] [] (Nat.le_of_ble_eq_true rfl) rfl ?_
  refine Ev.mk rfl rfl ⟨Nat.le_of_ble_eq_true rfl, Or.inr (q_rc hI0.1 kx_1 rfl)⟩ ?_
  show At _ none _ _ (0, [(0, .ref 1), (1, .int a1)], [], (_, _)) _
  refine At.enter rfl ?_
  refine r_iload_n rfl ?_
  refine r_ifs 4 rfl (fun c33 => ?_) (fun c33 => ?_)
  · have c33_ : a1.toInt < 0 := en_k_lt_t c33
    refine At.enter rfl ?_
    refine r_iconst 0 rfl ?_
    refine Ar.fall 17 rfl ?_
    refine At.enter rfl ?_
    refine q_iretz (by decide) ?_
    refine At.enter rfl ?_
    refine r_iff 11 rfl (by decide) ?_
    refine At.enter rfl ?_
    refine r_iconst (-1) rfl ?_
    refine r_ireti ?_
    have zv34 : ((-1) : Int32).toInt = (-1) := rfl
    obtain ⟨v35, hv35⟩ : ∃ v, gI g0 1 0 = v := ⟨_, rfl⟩
    have rv35 := RgF.at hI0.2.1 (p := 1) (b := 0) rfl
    rw [hv35] at rv35
    dsimp only at rv35
    have tv35 := congrArg Int32.toInt hv35
    have x36 := HI.eqI hI0 (p := 1) (b := 0) (hv35)
    exact ⟨_, rfl, hI0, hF0, _, rfl, trivial, ⟨by omega, by omega, by omega, by omega, by omega⟩⟩
  · have c33_ : a1.toInt ≥ 0 := en_k_lt_f c33
    refine At.enter rfl ?_
    refine r_iload_n rfl ?_
    refine r_aload_n rfl ?_
    obtain ⟨v37, hv37⟩ : ∃ v, gI g0 1 0 = v := ⟨_, rfl⟩
    have rv37 := RgF.at hI0.2.1 (p := 1) (b := 0) rfl
    rw [hv37] at rv37
    dsimp only at rv37
    refine q_getI (Sh.int hI0.1 kx_1 rfl) v37 hv37 ?_
    have bv39 := q_bnd a1
    have bv40 := q_bnd v37
    refine r_ics 12 rfl (fun c38 => ?_) (fun c38 => ?_)
    · have c38_ : a1.toInt ≥ v37.toInt := en_i_ge_t c38
      refine At.enter rfl ?_
      refine r_iconst 0 rfl ?_
      refine Ar.fall 17 rfl ?_
      refine At.enter rfl ?_
      refine q_iretz (by decide) ?_
      refine At.enter rfl ?_
      refine r_iff 11 rfl (by decide) ?_
      refine At.enter rfl ?_
      refine r_iconst (-1) rfl ?_
      refine r_ireti ?_
      have zv41 : ((-1) : Int32).toInt = (-1) := rfl
      have x42 := HI.eqI hI0 (p := 1) (b := 0) (hv37)
      exact ⟨_, rfl, hI0, hF0, _, rfl, trivial, ⟨by omega, by omega, by omega, by omega, by omega⟩⟩
    · have c38_ : a1.toInt < v37.toInt := en_i_ge_f c38
      refine At.enter rfl ?_
      refine r_iconst 1 rfl ?_
      refine r_goto ?_
      refine At.enter rfl ?_
      refine q_iretz (by decide) ?_
      refine At.enter rfl ?_
      refine r_ift (by decide) ?_
      refine At.enter rfl ?_
      refine r_iload_n rfl ?_
      by_cases c43_0 : a2.toInt = 0
      · refine r_tsw 44 (by rw [c43_0]; rfl) ?_
        refine At.enter rfl ?_
        refine r_aload_n rfl ?_
        refine q_getR (Sh.ref hI0.1 kx_0 rfl) ?_
        refine q_getR (Sh.ref hI0.1 kx_1 rfl) ?_
        refine r_iload_n rfl ?_
        obtain ⟨v44, hv44⟩ : ∃ v, eA g0 2 a1.toInt = v := ⟨_, rfl⟩
        refine q_iald (Sh.arr hI0.1 ka_2) a1.toInt rfl (by omega) v44 hv44 ?_
        refine r_ireti ?_
        have x45 := HI.eqI hI0 (p := 1) (b := 0) (hv37)
        have y46 := congrArg Int32.toInt hv44
        exact ⟨_, rfl, hI0, hF0, _, rfl, trivial, ⟨by omega, by omega, by omega, by omega, by omega⟩⟩
      by_cases c43_1 : a2.toInt = 1
      · refine r_tsw 54 (by rw [c43_1]; rfl) ?_
        refine At.enter rfl ?_
        refine r_aload_n rfl ?_
        refine q_getR (Sh.ref hI0.1 kx_0 rfl) ?_
        refine q_getR (Sh.ref hI0.1 kx_1 rfl) ?_
        refine r_iload_n rfl ?_
        obtain ⟨v47, hv47⟩ : ∃ v, eA g0 3 a1.toInt = v := ⟨_, rfl⟩
        refine q_iald (Sh.arr hI0.1 ka_3) a1.toInt rfl (by omega) v47 hv47 ?_
        refine r_ireti ?_
        have x48 := HI.eqI hI0 (p := 1) (b := 0) (hv37)
        have y49 := congrArg Int32.toInt hv47
        exact ⟨_, rfl, hI0, hF0, _, rfl, trivial, ⟨by omega, by omega, by omega, by omega, by omega⟩⟩
      by_cases c43_2 : a2.toInt = 2
      · refine r_tsw 64 (by rw [c43_2]; rfl) ?_
        refine At.enter rfl ?_
        refine r_aload_n rfl ?_
        refine q_getR (Sh.ref hI0.1 kx_0 rfl) ?_
        refine q_getR (Sh.ref hI0.1 kx_1 rfl) ?_
        refine r_iload_n rfl ?_
        obtain ⟨v50, hv50⟩ : ∃ v, eA g0 4 a1.toInt = v := ⟨_, rfl⟩
        refine q_iald (Sh.arr hI0.1 ka_4) a1.toInt rfl (by omega) v50 hv50 ?_
        refine r_ireti ?_
        have x51 := HI.eqI hI0 (p := 1) (b := 0) (hv37)
        have y52 := congrArg Int32.toInt hv50
        exact ⟨_, rfl, hI0, hF0, _, rfl, trivial, ⟨by omega, by omega, by omega, by omega, by omega⟩⟩
      by_cases c43_3 : a2.toInt = 3
      · refine r_tsw 74 (by rw [c43_3]; rfl) ?_
        refine At.enter rfl ?_
        refine r_aload_n rfl ?_
        refine q_getR (Sh.ref hI0.1 kx_0 rfl) ?_
        refine r_iload_n rfl ?_
        refine r_callV 82 rfl [.ref 1, .int a1] [] (Nat.le_of_ble_eq_true rfl) rfl (T_X0_next_1 _ hI0 a1) ?_
        rintro _ _ ⟨g53, rfl, hI54, hF55, v56, rfl, hr57⟩
        refine At.sti ?_
        have hF58 := Fr.tr hF0 hF55 rfl rfl
        refine At.enter rfl ?_
        refine r_ireti ?_
        have x59 := HI.eqI hI0 (p := 1) (b := 0) (hv37)
        exact ⟨_, rfl, hI54, hF58, _, rfl, trivial, ⟨by omega, by omega, by omega, by omega, by omega⟩⟩
      have c60 : a2.toInt < 0 ∨ 3 < a2.toInt := by omega
      refine r_tsw 83 (by unfold en_sw; rw [if_pos c60]; rfl) ?_
      refine At.enter rfl ?_
      refine r_iconst (-1) rfl ?_
      refine r_ireti ?_
      have zv61 : ((-1) : Int32).toInt = (-1) := rfl
      have x62 := HI.eqI hI0 (p := 1) (b := 0) (hv37)
      exact ⟨_, rfl, hI0, hF0, _, rfl, trivial, ⟨by omega, by omega, by omega, by omega, by omega⟩⟩

def F_X10_load_0 : List (Nat × Nat) := [(0, 14), (0, 17), (1, 4), (220, 2), (222, 2), (223, 5), (223, 10)]
def A_X10_load_0 : List Nat := [5, 230]
set_option maxRecDepth 100000 in
set_option maxHeartbeats 4000000 in
theorem T_X10_load_0 (d : Nat) {N : Nat} {g0 : List en_E} (hI0 : HI g0) (a1 : Int32) (a2 : Int32) (a3 : Int32) (a4 : Int32) (a5 : Int32) (a6 : Int32) : Ev (d + 3) 107 [.ref 0, .int a1, .int a2, .int a3, .int a4, .int a5, .int a6] (g0, N) (fun w h' => ∃ g', h' = (g', N) ∧ HI g' ∧ Fr F_X10_load_0 A_X10_load_0 g0 g' ∧ ∃ r : Int32, w = some (.int r) ∧ ((-5) ≤ r.toInt ∧ r.toInt ≤ 7)) := by
  have hF0 : Fr F_X10_load_0 A_X10_load_0 g0 g0 := Fr.rf
  refine Ev.mk rfl rfl ⟨Nat.le_of_ble_eq_true rfl, Or.inr (q_rc hI0.1 kx_0 rfl)⟩ ?_
  show At _ none _ _ (0, [(0, .ref 0), (1, .int a1), (2, .int a2), (3, .int a3), (4, .int a4), (5, .int a5), (6, .int a6)], [], (_, _)) _
  refine At.enter rfl ?_
  refine r_aload_n rfl ?_
  refine r_iload_n rfl ?_
  refine r_iload_n rfl ?_
  refine r_iload_n rfl ?_
  refine r_iload rfl ?_
  refine r_iload rfl ?_
  refine r_iload rfl ?_
  refine r_callV 13 rfl [.ref 0, .int a1, .int a2, .int a3, .int a4, .int a5, .int a6] [] (Nat.le_of_ble_eq_true rfl) rfl (T_X10_whyNoLoad_0 _ hI0 a1 a2 a3 a4 a5 a6) ?_
  rintro _ _ ⟨g55, rfl, hI56, hF57, v58, rfl, hr59⟩
  refine At.sti ?_
  have hF60 := Fr.tr hF0 hF57 rfl rfl
  refine At.enter rfl ?_
  refine r_istore ([(7, .int v58), (0, .ref 0), (1, .int a1), (2, .int a2), (3, .int a3), (4, .int a4), (5, .int a5), (6, .int a6)]) rfl ?_
  refine r_iload rfl ?_
  refine r_ifs 20 rfl (fun c61 => ?_) (fun c61 => ?_)
  · have c61_ : v58.toInt = 0 := en_k_eq_t c61
    refine At.enter rfl ?_
    refine r_aload_n rfl ?_
    refine r_callV 31 rfl [.ref 0] [] (Nat.le_of_ble_eq_true rfl) rfl (T_X10_changed_0 _ hI56) ?_
    rintro _ _ ⟨g62, rfl, hI63, hF64, rfl⟩
    refine At.stn ?_
    have hF67 := Fr.tr hF60 hF64 rfl rfl
    refine At.enter rfl ?_
    refine r_aload_n rfl ?_
    refine r_aload_n rfl ?_
    refine q_getR (Sh.ref hI63.1 kx_0 rfl) ?_
    refine r_iload_n rfl ?_
    refine r_iload_n rfl ?_
    refine r_iload_n rfl ?_
    refine r_iload rfl ?_
    refine r_iload rfl ?_
    refine r_iload rfl ?_
    refine r_callV 48 rfl [.ref 1, .int a1, .int a2, .int a3, .int a4, .int a5, .int a6] [.ref 0] (Nat.le_of_ble_eq_true rfl) rfl (T_X0_addLoad_1 _ hI63 a1 a2 a3 a4 a5 a6) ?_
    rintro _ _ ⟨g68, rfl, hI69, hF70, v71, rfl, hr72⟩
    refine At.sti ?_
    have hF73 := Fr.tr hF67 hF70 rfl rfl
    refine At.enter rfl ?_
    refine q_inlV 51 rfl [.ref 0, .int v71] [] (Nat.le_of_ble_eq_true rfl) rfl ?_
    refine Ev.mk rfl rfl ⟨Nat.le_of_ble_eq_true rfl, Or.inr (q_rc hI69.1 kx_0 rfl)⟩ ?_
    show At _ none _ _ (0, [(0, .ref 0), (1, .int v71)], [], (_, _)) _
    refine At.enter rfl ?_
    refine r_aload_n rfl ?_
    refine r_iconst 0 rfl ?_
    refine q_putI (Sh.int hI69.1 kx_0 rfl) rfl ?_
    have hI74 := HI.wI0 hI69 kx_0 rfl (p := 0) (b := 17) (v := 0) rfl
    have hF75 := Fr.wI (p := 0) (b := 17) (v := 0) hF73 rfl
    refine r_iload_n rfl ?_
    refine q_ireti ?_
    refine At.enter rfl ?_
    refine r_ireti ?_
    exact ⟨_, rfl, hI74, hF75, _, rfl, by omega⟩
  · have c61_ : v58.toInt ≠ 0 := en_k_eq_f c61
    refine At.enter rfl ?_
    refine r_aload_n rfl ?_
    refine r_iload rfl ?_
    refine r_callV 26 rfl [.ref 0, .int v58] [] (Nat.le_of_ble_eq_true rfl) rfl (T_X10_refused_0 _ hI56 v58 (by omega)) ?_
    rintro _ _ ⟨g76, rfl, hI77, hF78, v79, rfl, hr80⟩
    refine At.sti ?_
    have hF81 := Fr.tr hF60 hF78 rfl rfl
    refine At.enter rfl ?_
    refine r_ireti ?_
    exact ⟨_, rfl, hI77, hF81, _, rfl, by omega⟩

def F_X10_fact_0 : List (Nat × Nat) := []
def A_X10_fact_0 : List Nat := []
set_option maxRecDepth 100000 in
set_option maxHeartbeats 4000000 in
theorem T_X10_fact_0 (d : Nat) {N : Nat} {g0 : List en_E} (hI0 : HI g0) (a1 : Int32) (a2 : Int32) : Ev (d + 2) 108 [.ref 0, .int a1, .int a2] (g0, N) (fun w h' => ∃ g', h' = (g', N) ∧ HI g' ∧ Fr F_X10_fact_0 A_X10_fact_0 g0 g' ∧ ∃ r : Int32, w = some (.int r) ∧ True) := by
  have hF0 : Fr F_X10_fact_0 A_X10_fact_0 g0 g0 := Fr.rf
  refine Ev.mk rfl rfl ⟨Nat.le_of_ble_eq_true rfl, Or.inr (q_rc hI0.1 kx_0 rfl)⟩ ?_
  show At _ none _ _ (0, [(0, .ref 0), (1, .int a1), (2, .int a2)], [], (_, _)) _
  refine At.enter rfl ?_
  refine r_aload_n rfl ?_
  refine q_getR (Sh.ref hI0.1 kx_0 rfl) ?_
  refine r_iload_n rfl ?_
  refine q_inlV 8 rfl [.ref 1, .int a1] [] (Nat.le_of_ble_eq_true rfl) rfl ?_
  refine Ev.mk rfl rfl ⟨Nat.le_of_ble_eq_true rfl, Or.inr (q_rc hI0.1 kx_1 rfl)⟩ ?_
  show At _ none _ _ (0, [(0, .ref 1), (1, .int a1)], [], (_, _)) _
  refine At.enter rfl ?_
  refine r_iload_n rfl ?_
  refine r_ifs 4 rfl (fun c27 => ?_) (fun c27 => ?_)
  · have c27_ : a1.toInt < 0 := en_k_lt_t c27
    refine At.enter rfl ?_
    refine r_iconst 0 rfl ?_
    refine Ar.fall 17 rfl ?_
    refine At.enter rfl ?_
    refine q_iretz (by decide) ?_
    refine At.enter rfl ?_
    refine r_ift (by decide) ?_
    refine At.enter rfl ?_
    refine r_iconst (-1) rfl ?_
    refine Ar.fall 33 rfl ?_
    refine At.enter rfl ?_
    refine r_ireti ?_
    exact ⟨_, rfl, hI0, hF0, _, rfl, trivial⟩
  · have c27_ : a1.toInt ≥ 0 := en_k_lt_f c27
    refine At.enter rfl ?_
    refine r_iload_n rfl ?_
    refine r_aload_n rfl ?_
    obtain ⟨v28, hv28⟩ : ∃ v, gI g0 1 4 = v := ⟨_, rfl⟩
    have rv28 := RgF.at hI0.2.1 (p := 1) (b := 4) rfl
    rw [hv28] at rv28
    dsimp only at rv28
    refine q_getI (Sh.int hI0.1 kx_1 rfl) v28 hv28 ?_
    have bv30 := q_bnd a1
    have bv31 := q_bnd v28
    refine r_ics 12 rfl (fun c29 => ?_) (fun c29 => ?_)
    · have c29_ : a1.toInt ≥ v28.toInt := en_i_ge_t c29
      refine At.enter rfl ?_
      refine r_iconst 0 rfl ?_
      refine Ar.fall 17 rfl ?_
      refine At.enter rfl ?_
      refine q_iretz (by decide) ?_
      refine At.enter rfl ?_
      refine r_ift (by decide) ?_
      refine At.enter rfl ?_
      refine r_iconst (-1) rfl ?_
      refine Ar.fall 33 rfl ?_
      refine At.enter rfl ?_
      refine r_ireti ?_
      exact ⟨_, rfl, hI0, hF0, _, rfl, trivial⟩
    · have c29_ : a1.toInt < v28.toInt := en_i_ge_f c29
      refine At.enter rfl ?_
      refine r_iconst 1 rfl ?_
      refine r_goto ?_
      refine At.enter rfl ?_
      refine q_iretz (by decide) ?_
      refine At.enter rfl ?_
      refine r_iff 11 rfl (by decide) ?_
      refine At.enter rfl ?_
      refine r_iload_n rfl ?_
      refine r_iconst 0 rfl ?_
      refine r_iconst 5 rfl ?_
      refine q_inlS 17 rfl [.int a2, .int 0, .int 5] [] (Nat.le_of_ble_eq_true rfl) rfl ?_
      refine Ev.mk rfl rfl ⟨Nat.le_of_ble_eq_true rfl, Or.inl rfl⟩ ?_
      show At _ none _ _ (0, [(0, .int a2), (1, .int 0), (2, .int 5)], [], (_, _)) _
      refine At.enter rfl ?_
      refine r_iload_n rfl ?_
      refine r_iload_n rfl ?_
      refine r_ics 5 rfl (fun c32 => ?_) (fun c32 => ?_)
      · have c32_ : a2.toInt < 0 := en_i_lt_t c32
        refine At.enter rfl ?_
        refine r_iconst 0 rfl ?_
        refine Ar.fall 15 rfl ?_
        refine At.enter rfl ?_
        refine q_iretz (by decide) ?_
        refine At.enter rfl ?_
        refine r_ift (by decide) ?_
        refine At.enter rfl ?_
        refine r_iconst (-1) rfl ?_
        refine Ar.fall 33 rfl ?_
        refine At.enter rfl ?_
        refine r_ireti ?_
        exact ⟨_, rfl, hI0, hF0, _, rfl, trivial⟩
      · have c32_ : a2.toInt ≥ 0 := en_i_lt_f c32
        refine At.enter rfl ?_
        refine r_iload_n rfl ?_
        refine r_iload_n rfl ?_
        refine r_ics 10 rfl (fun c33 => ?_) (fun c33 => ?_)
        · have c33_ : a2.toInt > 5 := en_i_gt_t c33
          refine At.enter rfl ?_
          refine r_iconst 0 rfl ?_
          refine Ar.fall 15 rfl ?_
          refine At.enter rfl ?_
          refine q_iretz (by decide) ?_
          refine At.enter rfl ?_
          refine r_ift (by decide) ?_
          refine At.enter rfl ?_
          refine r_iconst (-1) rfl ?_
          refine Ar.fall 33 rfl ?_
          refine At.enter rfl ?_
          refine r_ireti ?_
          exact ⟨_, rfl, hI0, hF0, _, rfl, trivial⟩
        · have c33_ : a2.toInt ≤ 5 := en_i_gt_f c33
          refine At.enter rfl ?_
          refine r_iconst 1 rfl ?_
          refine r_goto ?_
          refine At.enter rfl ?_
          refine q_iretz (by decide) ?_
          refine At.enter rfl ?_
          refine r_iff 20 rfl (by decide) ?_
          refine At.enter rfl ?_
          refine r_aload_n rfl ?_
          refine q_getR (Sh.ref hI0.1 kx_0 rfl) ?_
          refine r_iload_n rfl ?_
          refine r_iload_n rfl ?_
          refine r_callV 29 rfl [.ref 1, .int a1, .int a2] [] (Nat.le_of_ble_eq_true rfl) rfl (T_X0_about_1 _ hI0 a1 a2) ?_
          rintro _ _ ⟨g34, rfl, hI35, hF36, v37, rfl, hr38⟩
          refine At.sti ?_
          have hF39 := Fr.tr hF0 hF36 rfl rfl
          refine At.enter rfl ?_
          refine r_goto ?_
          refine At.enter rfl ?_
          refine r_ireti ?_
          exact ⟨_, rfl, hI35, hF39, _, rfl, trivial⟩

def F_X10_drop_0 : List (Nat × Nat) := [(0, 14), (0, 17), (1, 4), (220, 2), (222, 2), (223, 5), (223, 10)]
def A_X10_drop_0 : List Nat := [5, 230]
set_option maxRecDepth 100000 in
set_option maxHeartbeats 4000000 in
theorem T_X10_drop_0 (d : Nat) {N : Nat} {g0 : List en_E} (hI0 : HI g0) (a1 : Int32) : Ev (d + 3) 109 [.ref 0, .int a1] (g0, N) (fun w h' => ∃ g', h' = (g', N) ∧ HI g' ∧ Fr F_X10_drop_0 A_X10_drop_0 g0 g' ∧ ∃ r : Int32, w = some (.int r) ∧ ((-2) ≤ r.toInt ∧ r.toInt ≤ 8)) := by
  have hF0 : Fr F_X10_drop_0 A_X10_drop_0 g0 g0 := Fr.rf
  refine Ev.mk rfl rfl ⟨Nat.le_of_ble_eq_true rfl, Or.inr (q_rc hI0.1 kx_0 rfl)⟩ ?_
  show At _ none _ _ (0, [(0, .ref 0), (1, .int a1)], [], (_, _)) _
  refine At.enter rfl ?_
  refine r_aload_n rfl ?_
  refine q_getR (Sh.ref hI0.1 kx_0 rfl) ?_
  refine r_iload_n rfl ?_
  refine q_inlV 8 rfl [.ref 1, .int a1] [] (Nat.le_of_ble_eq_true rfl) rfl ?_
  refine Ev.mk rfl rfl ⟨Nat.le_of_ble_eq_true rfl, Or.inr (q_rc hI0.1 kx_1 rfl)⟩ ?_
  show At _ none _ _ (0, [(0, .ref 1), (1, .int a1)], [], (_, _)) _
  refine At.enter rfl ?_
  refine r_iload_n rfl ?_
  refine r_ifs 4 rfl (fun c69 => ?_) (fun c69 => ?_)
  · have c69_ : a1.toInt < 0 := en_k_lt_t c69
    refine At.enter rfl ?_
    refine r_iconst 0 rfl ?_
    refine Ar.fall 17 rfl ?_
    refine At.enter rfl ?_
    refine q_iretz (by decide) ?_
    refine At.enter rfl ?_
    refine r_iff 11 rfl (by decide) ?_
    refine At.enter rfl ?_
    refine r_aload_n rfl ?_
    refine r_bipush (-2) rfl ?_
    refine r_callV 17 rfl [.ref 0, .int (-2)] [] (Nat.le_of_ble_eq_true rfl) rfl (T_X10_refused_0 _ hI0 (-2) (by decide)) ?_
    rintro _ _ ⟨g70, rfl, hI71, hF72, v73, rfl, hr74⟩
    refine At.sti ?_
    have hF75 := Fr.tr hF0 hF72 rfl rfl
    have zv76 : ((-2) : Int32).toInt = (-2) := rfl
    refine At.enter rfl ?_
    refine r_ireti ?_
    exact ⟨_, rfl, hI71, hF75, _, rfl, by omega⟩
  · have c69_ : a1.toInt ≥ 0 := en_k_lt_f c69
    refine At.enter rfl ?_
    refine r_iload_n rfl ?_
    refine r_aload_n rfl ?_
    obtain ⟨v77, hv77⟩ : ∃ v, gI g0 1 4 = v := ⟨_, rfl⟩
    have rv77 := RgF.at hI0.2.1 (p := 1) (b := 4) rfl
    rw [hv77] at rv77
    dsimp only at rv77
    refine q_getI (Sh.int hI0.1 kx_1 rfl) v77 hv77 ?_
    have bv79 := q_bnd a1
    have bv80 := q_bnd v77
    refine r_ics 12 rfl (fun c78 => ?_) (fun c78 => ?_)
    · have c78_ : a1.toInt ≥ v77.toInt := en_i_ge_t c78
      refine At.enter rfl ?_
      refine r_iconst 0 rfl ?_
      refine Ar.fall 17 rfl ?_
      refine At.enter rfl ?_
      refine q_iretz (by decide) ?_
      refine At.enter rfl ?_
      refine r_iff 11 rfl (by decide) ?_
      refine At.enter rfl ?_
      refine r_aload_n rfl ?_
      refine r_bipush (-2) rfl ?_
      refine r_callV 17 rfl [.ref 0, .int (-2)] [] (Nat.le_of_ble_eq_true rfl) rfl (T_X10_refused_0 _ hI0 (-2) (by decide)) ?_
      rintro _ _ ⟨g81, rfl, hI82, hF83, v84, rfl, hr85⟩
      refine At.sti ?_
      have hF86 := Fr.tr hF0 hF83 rfl rfl
      have zv87 : ((-2) : Int32).toInt = (-2) := rfl
      refine At.enter rfl ?_
      refine r_ireti ?_
      exact ⟨_, rfl, hI82, hF86, _, rfl, by omega⟩
    · have c78_ : a1.toInt < v77.toInt := en_i_ge_f c78
      refine At.enter rfl ?_
      refine r_iconst 1 rfl ?_
      refine r_goto ?_
      refine At.enter rfl ?_
      refine q_iretz (by decide) ?_
      refine At.enter rfl ?_
      refine r_ift (by decide) ?_
      refine At.enter rfl ?_
      refine r_aload_n rfl ?_
      refine q_getR (Sh.ref hI0.1 kx_0 rfl) ?_
      refine r_iload_n rfl ?_
      refine r_callV 26 rfl [.ref 1, .int a1] [] (Nat.le_of_ble_eq_true rfl) rfl (T_X0_removeLoad_1 _ hI0 a1) ?_
      rintro _ _ ⟨g88, rfl, hI89, hF90, rfl⟩
      refine At.stn ?_
      have hF93 := Fr.tr hF0 hF90 rfl rfl
      refine At.enter rfl ?_
      refine r_aload_n rfl ?_
      refine r_callV 30 rfl [.ref 0] [] (Nat.le_of_ble_eq_true rfl) rfl (T_X10_changed_0 _ hI89) ?_
      rintro _ _ ⟨g94, rfl, hI95, hF96, rfl⟩
      refine At.stn ?_
      have hF99 := Fr.tr hF93 hF96 rfl rfl
      refine At.enter rfl ?_
      refine r_aload_n rfl ?_
      refine r_aload_n rfl ?_
      refine q_getR (Sh.ref hI95.1 kx_0 rfl) ?_
      obtain ⟨v100, hv100⟩ : ∃ v, gI g88 1 4 = v := ⟨_, rfl⟩
      have rv100 := RgF.at hI89.2.1 (p := 1) (b := 4) rfl
      rw [hv100] at rv100
      dsimp only at rv100
      refine q_getI (Sh.int hI95.1 kx_1 rfl) v100 ((hF96.1 1 4 (by decide)).trans hv100) ?_
      refine q_inlV 41 rfl [.ref 0, .int v100] [] (Nat.le_of_ble_eq_true rfl) rfl ?_
      refine Ev.mk rfl rfl ⟨Nat.le_of_ble_eq_true rfl, Or.inr (q_rc hI95.1 kx_0 rfl)⟩ ?_
      show At _ none _ _ (0, [(0, .ref 0), (1, .int v100)], [], (_, _)) _
      refine At.enter rfl ?_
      refine r_aload_n rfl ?_
      refine r_iconst 0 rfl ?_
      refine q_putI (Sh.int hI95.1 kx_0 rfl) rfl ?_
      have hI101 := HI.wI0 hI95 kx_0 rfl (p := 0) (b := 17) (v := 0) rfl
      have hF102 := Fr.wI (p := 0) (b := 17) (v := 0) hF99 rfl
      refine r_iload_n rfl ?_
      refine q_ireti ?_
      refine At.enter rfl ?_
      refine r_ireti ?_
      exact ⟨_, rfl, hI101, hF102, _, rfl, by omega⟩

def F_X10_terms_0 : List (Nat × Nat) := [(0, 14), (0, 17), (1, 10), (1, 11), (220, 2), (222, 2), (223, 5), (223, 10)]
def A_X10_terms_0 : List Nat := [230]
set_option maxRecDepth 100000 in
set_option maxHeartbeats 4000000 in
theorem T_X10_terms_0 (d : Nat) {N : Nat} {g0 : List en_E} (hI0 : HI g0) (a1 : Int32) (a2 : Int32) : Ev (d + 3) 110 [.ref 0, .int a1, .int a2] (g0, N) (fun w h' => ∃ g', h' = (g', N) ∧ HI g' ∧ Fr F_X10_terms_0 A_X10_terms_0 g0 g' ∧ ∃ r : Int32, w = some (.int r) ∧ True ∧ (((a1.toInt = 0 ∧ 0 ≤ a2.toInt ∧ a2.toInt ≤ 99) → r.toInt = (gI g0 1 10).toInt ∧ (gI g' 1 10).toInt = a2.toInt ∧ (gI g' 1 11).toInt = (gI g0 1 11).toInt) ∧ ((a1.toInt = 1 ∧ 1 ≤ a2.toInt ∧ a2.toInt ≤ 4) → r.toInt = (gI g0 1 11).toInt ∧ (gI g' 1 11).toInt = a2.toInt ∧ (gI g' 1 10).toInt = (gI g0 1 10).toInt) ∧ (¬ (a1.toInt = 0 ∧ 0 ≤ a2.toInt ∧ a2.toInt ≤ 99) ∧ ¬ (a1.toInt = 1 ∧ 1 ≤ a2.toInt ∧ a2.toInt ≤ 4) → r.toInt = -1 ∧ (gI g' 1 10).toInt = (gI g0 1 10).toInt ∧ (gI g' 1 11).toInt = (gI g0 1 11).toInt))) := by
  have hF0 : Fr F_X10_terms_0 A_X10_terms_0 g0 g0 := Fr.rf
  refine Ev.mk rfl rfl ⟨Nat.le_of_ble_eq_true rfl, Or.inr (q_rc hI0.1 kx_0 rfl)⟩ ?_
  show At _ none _ _ (0, [(0, .ref 0), (1, .int a1), (2, .int a2)], [], (_, _)) _
  refine At.enter rfl ?_
  refine r_iload_n rfl ?_
  refine r_ifs 4 rfl (fun c131 => ?_) (fun c131 => ?_)
  · have c131_ : a1.toInt ≠ 0 := en_k_ne_t c131
    refine At.enter rfl ?_
    refine r_iload_n rfl ?_
    refine r_iconst 1 rfl ?_
    refine r_ics 38 rfl (fun c132 => ?_) (fun c132 => ?_)
    · have c132_ : a1.toInt ≠ 1 := en_i_ne_t c132
      refine At.enter rfl ?_
      refine r_aload_n rfl ?_
      refine r_iconst (-1) rfl ?_
      refine r_callV 71 rfl [.ref 0, .int (-1)] [] (Nat.le_of_ble_eq_true rfl) rfl (T_X10_refused_0 _ hI0 (-1) (by decide)) ?_
      rintro _ _ ⟨g133, rfl, hI134, hF135, v136, rfl, hr137⟩
      refine At.sti ?_
      have hF138 := Fr.tr hF0 hF135 rfl rfl
      have zv139 : ((-1) : Int32).toInt = (-1) := rfl
      refine At.enter rfl ?_
      refine r_ireti ?_
      obtain ⟨v140, hv140⟩ : ∃ v, gI g0 1 10 = v := ⟨_, rfl⟩
      have tv140 := congrArg Int32.toInt hv140
      have x141 := HI.eqI hI134 (p := 1) (b := 10) (((hF135.1 1 10 (by decide)).trans hv140))
      obtain ⟨v142, hv142⟩ : ∃ v, gI g0 1 11 = v := ⟨_, rfl⟩
      have tv142 := congrArg Int32.toInt hv142
      have x143 := HI.eqI hI134 (p := 1) (b := 11) (((hF135.1 1 11 (by decide)).trans hv142))
      have x144 := HI.eqI hI0 (p := 1) (b := 10) (hv140)
      have x145 := HI.eqI hI0 (p := 1) (b := 11) (hv142)
      exact ⟨_, rfl, hI134, hF138, _, rfl, trivial, (by omega)⟩
    · have c132_ : a1.toInt = 1 := en_i_ne_f c132
      refine At.enter rfl ?_
      refine r_iload_n rfl ?_
      refine r_iconst 1 rfl ?_
      refine r_iconst 4 rfl ?_
      refine q_inlS 44 rfl [.int a2, .int 1, .int 4] [] (Nat.le_of_ble_eq_true rfl) rfl ?_
      refine Ev.mk rfl rfl ⟨Nat.le_of_ble_eq_true rfl, Or.inl rfl⟩ ?_
      show At _ none _ _ (0, [(0, .int a2), (1, .int 1), (2, .int 4)], [], (_, _)) _
      refine At.enter rfl ?_
      refine r_iload_n rfl ?_
      refine r_iload_n rfl ?_
      refine r_ics 5 rfl (fun c146 => ?_) (fun c146 => ?_)
      · have c146_ : a2.toInt < 1 := en_i_lt_t c146
        refine At.enter rfl ?_
        refine r_iconst 0 rfl ?_
        refine Ar.fall 15 rfl ?_
        refine At.enter rfl ?_
        refine q_iretz (by decide) ?_
        refine At.enter rfl ?_
        refine r_ift (by decide) ?_
        refine At.enter rfl ?_
        refine r_aload_n rfl ?_
        refine r_iconst (-1) rfl ?_
        refine r_callV 71 rfl [.ref 0, .int (-1)] [] (Nat.le_of_ble_eq_true rfl) rfl (T_X10_refused_0 _ hI0 (-1) (by decide)) ?_
        rintro _ _ ⟨g147, rfl, hI148, hF149, v150, rfl, hr151⟩
        refine At.sti ?_
        have hF152 := Fr.tr hF0 hF149 rfl rfl
        have zv153 : ((-1) : Int32).toInt = (-1) := rfl
        refine At.enter rfl ?_
        refine r_ireti ?_
        obtain ⟨v154, hv154⟩ : ∃ v, gI g0 1 10 = v := ⟨_, rfl⟩
        have tv154 := congrArg Int32.toInt hv154
        have x155 := HI.eqI hI148 (p := 1) (b := 10) (((hF149.1 1 10 (by decide)).trans hv154))
        obtain ⟨v156, hv156⟩ : ∃ v, gI g0 1 11 = v := ⟨_, rfl⟩
        have tv156 := congrArg Int32.toInt hv156
        have x157 := HI.eqI hI148 (p := 1) (b := 11) (((hF149.1 1 11 (by decide)).trans hv156))
        have x158 := HI.eqI hI0 (p := 1) (b := 10) (hv154)
        have x159 := HI.eqI hI0 (p := 1) (b := 11) (hv156)
        exact ⟨_, rfl, hI148, hF152, _, rfl, trivial, (by omega)⟩
      · have c146_ : a2.toInt ≥ 1 := en_i_lt_f c146
        refine At.enter rfl ?_
        refine r_iload_n rfl ?_
        refine r_iload_n rfl ?_
        refine r_ics 10 rfl (fun c160 => ?_) (fun c160 => ?_)
        · have c160_ : a2.toInt > 4 := en_i_gt_t c160
          refine At.enter rfl ?_
          refine r_iconst 0 rfl ?_
          refine Ar.fall 15 rfl ?_
          refine At.enter rfl ?_
          refine q_iretz (by decide) ?_
          refine At.enter rfl ?_
          refine r_ift (by decide) ?_
          refine At.enter rfl ?_
          refine r_aload_n rfl ?_
          refine r_iconst (-1) rfl ?_
          refine r_callV 71 rfl [.ref 0, .int (-1)] [] (Nat.le_of_ble_eq_true rfl) rfl (T_X10_refused_0 _ hI0 (-1) (by decide)) ?_
          rintro _ _ ⟨g161, rfl, hI162, hF163, v164, rfl, hr165⟩
          refine At.sti ?_
          have hF166 := Fr.tr hF0 hF163 rfl rfl
          have zv167 : ((-1) : Int32).toInt = (-1) := rfl
          refine At.enter rfl ?_
          refine r_ireti ?_
          obtain ⟨v168, hv168⟩ : ∃ v, gI g0 1 10 = v := ⟨_, rfl⟩
          have tv168 := congrArg Int32.toInt hv168
          have x169 := HI.eqI hI162 (p := 1) (b := 10) (((hF163.1 1 10 (by decide)).trans hv168))
          obtain ⟨v170, hv170⟩ : ∃ v, gI g0 1 11 = v := ⟨_, rfl⟩
          have tv170 := congrArg Int32.toInt hv170
          have x171 := HI.eqI hI162 (p := 1) (b := 11) (((hF163.1 1 11 (by decide)).trans hv170))
          have x172 := HI.eqI hI0 (p := 1) (b := 10) (hv168)
          have x173 := HI.eqI hI0 (p := 1) (b := 11) (hv170)
          exact ⟨_, rfl, hI162, hF166, _, rfl, trivial, (by omega)⟩
        · have c160_ : a2.toInt ≤ 4 := en_i_gt_f c160
          refine At.enter rfl ?_
          refine r_iconst 1 rfl ?_
          refine r_goto ?_
          refine At.enter rfl ?_
          refine q_iretz (by decide) ?_
          refine At.enter rfl ?_
          refine r_iff 47 rfl (by decide) ?_
          refine At.enter rfl ?_
          refine r_aload_n rfl ?_
          refine q_getR (Sh.ref hI0.1 kx_0 rfl) ?_
          obtain ⟨v174, hv174⟩ : ∃ v, gI g0 1 11 = v := ⟨_, rfl⟩
          refine q_getI (Sh.int hI0.1 kx_1 rfl) v174 hv174 ?_
          refine r_istore_n ([(3, .int v174), (0, .ref 0), (1, .int a1), (2, .int a2)]) rfl ?_
          refine r_aload_n rfl ?_
          refine q_getR (Sh.ref hI0.1 kx_0 rfl) ?_
          refine r_iload_n rfl ?_
          refine q_putI (Sh.int hI0.1 kx_1 rfl) rfl ?_
          have hI175 := HI.wI0 hI0 kx_1 rfl (p := 1) (b := 11) (v := a2) rfl
          have hF176 := Fr.wI (p := 1) (b := 11) (v := a2) hF0 rfl
          refine r_goto ?_
          refine At.enter rfl ?_
          refine r_aload_n rfl ?_
          refine r_callV 76 rfl [.ref 0] [] (Nat.le_of_ble_eq_true rfl) rfl (T_X10_changed_0 _ hI175) ?_
          rintro _ _ ⟨g177, rfl, hI178, hF179, rfl⟩
          refine At.stn ?_
          have hF182 := Fr.tr hF176 hF179 rfl rfl
          refine At.enter rfl ?_
          refine r_aload_n rfl ?_
          refine r_iload_n rfl ?_
          refine q_inlV 81 rfl [.ref 0, .int v174] [] (Nat.le_of_ble_eq_true rfl) rfl ?_
          refine Ev.mk rfl rfl ⟨Nat.le_of_ble_eq_true rfl, Or.inr (q_rc hI178.1 kx_0 rfl)⟩ ?_
          show At _ none _ _ (0, [(0, .ref 0), (1, .int v174)], [], (_, _)) _
          refine At.enter rfl ?_
          refine r_aload_n rfl ?_
          refine r_iconst 0 rfl ?_
          refine q_putI (Sh.int hI178.1 kx_0 rfl) rfl ?_
          have hI183 := HI.wI0 hI178 kx_0 rfl (p := 0) (b := 17) (v := 0) rfl
          have hF184 := Fr.wI (p := 0) (b := 17) (v := 0) hF182 rfl
          refine r_iload_n rfl ?_
          refine q_ireti ?_
          refine At.enter rfl ?_
          refine r_ireti ?_
          obtain ⟨v185, hv185⟩ : ∃ v, gI g0 1 10 = v := ⟨_, rfl⟩
          have tv185 := congrArg Int32.toInt hv185
          have x186 := HI.eqI hI183 (p := 1) (b := 10) ((((gI_sI_ne (by decide)).trans ((hF179.1 1 10 (by decide)).trans (gI_sI_ne (by decide)))).trans hv185))
          have x187 := HI.eqI hI183 (p := 1) (b := 11) (((gI_sI_ne (by decide)).trans ((hF179.1 1 11 (by decide)).trans (gI_sI_eq hI0.1 kx_1 rfl _))))
          have x188 := HI.eqI hI0 (p := 1) (b := 10) (hv185)
          have x189 := HI.eqI hI0 (p := 1) (b := 11) (hv174)
          exact ⟨_, rfl, hI183, hF184, _, rfl, trivial, (by omega)⟩
  · have c131_ : a1.toInt = 0 := en_k_ne_f c131
    refine At.enter rfl ?_
    refine r_iload_n rfl ?_
    refine r_iconst 0 rfl ?_
    refine r_bipush 99 rfl ?_
    refine q_inlS 11 rfl [.int a2, .int 0, .int 99] [] (Nat.le_of_ble_eq_true rfl) rfl ?_
    refine Ev.mk rfl rfl ⟨Nat.le_of_ble_eq_true rfl, Or.inl rfl⟩ ?_
    show At _ none _ _ (0, [(0, .int a2), (1, .int 0), (2, .int 99)], [], (_, _)) _
    refine At.enter rfl ?_
    refine r_iload_n rfl ?_
    refine r_iload_n rfl ?_
    refine r_ics 5 rfl (fun c190 => ?_) (fun c190 => ?_)
    · have c190_ : a2.toInt < 0 := en_i_lt_t c190
      refine At.enter rfl ?_
      refine r_iconst 0 rfl ?_
      refine Ar.fall 15 rfl ?_
      refine At.enter rfl ?_
      refine q_iretz (by decide) ?_
      refine At.enter rfl ?_
      refine r_ift (by decide) ?_
      refine At.enter rfl ?_
      refine r_iload_n rfl ?_
      refine r_iconst 1 rfl ?_
      refine r_ics 38 rfl (fun c191 => ?_) (fun c191 => ?_)
      · have c191_ : a1.toInt ≠ 1 := en_i_ne_t c191
        refine At.enter rfl ?_
        refine r_aload_n rfl ?_
        refine r_iconst (-1) rfl ?_
        refine r_callV 71 rfl [.ref 0, .int (-1)] [] (Nat.le_of_ble_eq_true rfl) rfl (T_X10_refused_0 _ hI0 (-1) (by decide)) ?_
        rintro _ _ ⟨g192, rfl, hI193, hF194, v195, rfl, hr196⟩
        refine At.sti ?_
        have hF197 := Fr.tr hF0 hF194 rfl rfl
        have zv198 : ((-1) : Int32).toInt = (-1) := rfl
        refine At.enter rfl ?_
        refine r_ireti ?_
        obtain ⟨v199, hv199⟩ : ∃ v, gI g0 1 10 = v := ⟨_, rfl⟩
        have tv199 := congrArg Int32.toInt hv199
        have x200 := HI.eqI hI193 (p := 1) (b := 10) (((hF194.1 1 10 (by decide)).trans hv199))
        obtain ⟨v201, hv201⟩ : ∃ v, gI g0 1 11 = v := ⟨_, rfl⟩
        have tv201 := congrArg Int32.toInt hv201
        have x202 := HI.eqI hI193 (p := 1) (b := 11) (((hF194.1 1 11 (by decide)).trans hv201))
        have x203 := HI.eqI hI0 (p := 1) (b := 10) (hv199)
        have x204 := HI.eqI hI0 (p := 1) (b := 11) (hv201)
        exact ⟨_, rfl, hI193, hF197, _, rfl, trivial, (by omega)⟩
      · have c191_ : a1.toInt = 1 := en_i_ne_f c191
        exfalso; omega
    · have c190_ : a2.toInt ≥ 0 := en_i_lt_f c190
      refine At.enter rfl ?_
      refine r_iload_n rfl ?_
      refine r_iload_n rfl ?_
      refine r_ics 10 rfl (fun c205 => ?_) (fun c205 => ?_)
      · have c205_ : a2.toInt > 99 := en_i_gt_t c205
        refine At.enter rfl ?_
        refine r_iconst 0 rfl ?_
        refine Ar.fall 15 rfl ?_
        refine At.enter rfl ?_
        refine q_iretz (by decide) ?_
        refine At.enter rfl ?_
        refine r_ift (by decide) ?_
        refine At.enter rfl ?_
        refine r_iload_n rfl ?_
        refine r_iconst 1 rfl ?_
        refine r_ics 38 rfl (fun c206 => ?_) (fun c206 => ?_)
        · have c206_ : a1.toInt ≠ 1 := en_i_ne_t c206
          refine At.enter rfl ?_
          refine r_aload_n rfl ?_
          refine r_iconst (-1) rfl ?_
          refine r_callV 71 rfl [.ref 0, .int (-1)] [] (Nat.le_of_ble_eq_true rfl) rfl (T_X10_refused_0 _ hI0 (-1) (by decide)) ?_
          rintro _ _ ⟨g207, rfl, hI208, hF209, v210, rfl, hr211⟩
          refine At.sti ?_
          have hF212 := Fr.tr hF0 hF209 rfl rfl
          have zv213 : ((-1) : Int32).toInt = (-1) := rfl
          refine At.enter rfl ?_
          refine r_ireti ?_
          obtain ⟨v214, hv214⟩ : ∃ v, gI g0 1 10 = v := ⟨_, rfl⟩
          have tv214 := congrArg Int32.toInt hv214
          have x215 := HI.eqI hI208 (p := 1) (b := 10) (((hF209.1 1 10 (by decide)).trans hv214))
          obtain ⟨v216, hv216⟩ : ∃ v, gI g0 1 11 = v := ⟨_, rfl⟩
          have tv216 := congrArg Int32.toInt hv216
          have x217 := HI.eqI hI208 (p := 1) (b := 11) (((hF209.1 1 11 (by decide)).trans hv216))
          have x218 := HI.eqI hI0 (p := 1) (b := 10) (hv214)
          have x219 := HI.eqI hI0 (p := 1) (b := 11) (hv216)
          exact ⟨_, rfl, hI208, hF212, _, rfl, trivial, (by omega)⟩
        · have c206_ : a1.toInt = 1 := en_i_ne_f c206
          exfalso; omega
      · have c205_ : a2.toInt ≤ 99 := en_i_gt_f c205
        refine At.enter rfl ?_
        refine r_iconst 1 rfl ?_
        refine r_goto ?_
        refine At.enter rfl ?_
        refine q_iretz (by decide) ?_
        refine At.enter rfl ?_
        refine r_iff 14 rfl (by decide) ?_
        refine At.enter rfl ?_
        refine r_aload_n rfl ?_
        refine q_getR (Sh.ref hI0.1 kx_0 rfl) ?_
        obtain ⟨v220, hv220⟩ : ∃ v, gI g0 1 10 = v := ⟨_, rfl⟩
        refine q_getI (Sh.int hI0.1 kx_1 rfl) v220 hv220 ?_
        refine r_istore_n ([(3, .int v220), (0, .ref 0), (1, .int a1), (2, .int a2)]) rfl ?_
        refine r_aload_n rfl ?_
        refine q_getR (Sh.ref hI0.1 kx_0 rfl) ?_
        refine r_iload_n rfl ?_
        refine q_putI (Sh.int hI0.1 kx_1 rfl) rfl ?_
        have hI221 := HI.wI0 hI0 kx_1 rfl (p := 1) (b := 10) (v := a2) rfl
        have hF222 := Fr.wI (p := 1) (b := 10) (v := a2) hF0 rfl
        refine r_goto ?_
        refine At.enter rfl ?_
        refine r_aload_n rfl ?_
        refine r_callV 76 rfl [.ref 0] [] (Nat.le_of_ble_eq_true rfl) rfl (T_X10_changed_0 _ hI221) ?_
        rintro _ _ ⟨g223, rfl, hI224, hF225, rfl⟩
        refine At.stn ?_
        have hF228 := Fr.tr hF222 hF225 rfl rfl
        refine At.enter rfl ?_
        refine r_aload_n rfl ?_
        refine r_iload_n rfl ?_
        refine q_inlV 81 rfl [.ref 0, .int v220] [] (Nat.le_of_ble_eq_true rfl) rfl ?_
        refine Ev.mk rfl rfl ⟨Nat.le_of_ble_eq_true rfl, Or.inr (q_rc hI224.1 kx_0 rfl)⟩ ?_
        show At _ none _ _ (0, [(0, .ref 0), (1, .int v220)], [], (_, _)) _
        refine At.enter rfl ?_
        refine r_aload_n rfl ?_
        refine r_iconst 0 rfl ?_
        refine q_putI (Sh.int hI224.1 kx_0 rfl) rfl ?_
        have hI229 := HI.wI0 hI224 kx_0 rfl (p := 0) (b := 17) (v := 0) rfl
        have hF230 := Fr.wI (p := 0) (b := 17) (v := 0) hF228 rfl
        refine r_iload_n rfl ?_
        refine q_ireti ?_
        refine At.enter rfl ?_
        refine r_ireti ?_
        have x231 := HI.eqI hI229 (p := 1) (b := 10) (((gI_sI_ne (by decide)).trans ((hF225.1 1 10 (by decide)).trans (gI_sI_eq hI0.1 kx_1 rfl _))))
        obtain ⟨v232, hv232⟩ : ∃ v, gI g0 1 11 = v := ⟨_, rfl⟩
        have tv232 := congrArg Int32.toInt hv232
        have x233 := HI.eqI hI229 (p := 1) (b := 11) ((((gI_sI_ne (by decide)).trans ((hF225.1 1 11 (by decide)).trans (gI_sI_ne (by decide)))).trans hv232))
        have x234 := HI.eqI hI0 (p := 1) (b := 10) (hv220)
        have x235 := HI.eqI hI0 (p := 1) (b := 11) (hv232)
        exact ⟨_, rfl, hI229, hF230, _, rfl, trivial, (by omega)⟩
