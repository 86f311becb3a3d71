def F_X2_costOf_223 : List (Nat × Nat) := [(185, 3), (223, 5), (223, 6)]
def A_X2_costOf_223 : List Nat := [224, 226]
set_option maxRecDepth 100000 in
set_option maxHeartbeats 4000000 in
theorem T_X2_costOf_223 (d : Nat) {N : Nat} {g0 : List en_E} (hI0 : HI g0) (a1 : Int32) : Ev (d + 6) 39 [.ref 223, .int a1] (g0, N) (fun w h' => ∃ g', h' = (g', N) ∧ HI g' ∧ Fr F_X2_costOf_223 A_X2_costOf_223 g0 g' ∧ ∃ r : Int32, w = some (.int r) ∧ True) := by
  have hF0 : Fr F_X2_costOf_223 A_X2_costOf_223 g0 g0 := Fr.rf
  refine Ev.mk rfl rfl ⟨Nat.le_of_ble_eq_true rfl, Or.inr (q_rc hI0.1 kx_223 rfl)⟩ ?_
  show At _ none _ _ (0, [(0, .ref 223), (1, .int a1)], [], (_, _)) _
  refine At.enter rfl ?_
  refine r_aload_n rfl ?_
  refine r_callV 4 rfl [.ref 223] [] (Nat.le_of_ble_eq_true rfl) rfl (T_X2_begin_223 _ hI0) ?_
  rintro _ _ ⟨g25, rfl, hI26, hF27, rfl⟩
  refine At.stn ?_
  have hF30 := Fr.tr hF0 hF27 rfl rfl
  refine At.enter rfl ?_
  refine r_aload_n rfl ?_
  refine r_iload_n rfl ?_
  refine r_iconst (-1) rfl ?_
  refine r_callV 10 rfl [.ref 223, .int a1, .int (-1)] [] (Nat.le_of_ble_eq_true rfl) rfl (T_X2_costBeside_223 _ hI26 a1 (-1)) ?_
  rintro _ _ ⟨g31, rfl, hI32, hF33, v34, rfl, hr35⟩
  refine At.sti ?_
  have hF36 := Fr.tr hF30 hF33 rfl rfl
  refine At.enter rfl ?_
  refine r_ireti ?_
  exact ⟨_, rfl, hI32, hF36, _, rfl, trivial⟩

def F_X2_incomeOf_223 : List (Nat × Nat) := [(185, 3), (223, 5), (223, 6), (223, 7), (223, 8), (223, 9)]
def A_X2_incomeOf_223 : List Nat := [224, 225, 226]
set_option maxRecDepth 100000 in
set_option maxHeartbeats 4000000 in
theorem T_X2_incomeOf_223 (d : Nat) {N : Nat} {g0 : List en_E} (hI0 : HI g0) (a1 : Int32) (h_a1 : 0 ≤ a1.toInt ∧ a1.toInt ≤ 11) : Ev (d + 7) 40 [.ref 223, .int a1] (g0, N) (fun w h' => ∃ g', h' = (g', N) ∧ HI g' ∧ Fr F_X2_incomeOf_223 A_X2_incomeOf_223 g0 g' ∧ ∃ r : Int32, w = some (.int r) ∧ True) := by
  have hF0 : Fr F_X2_incomeOf_223 A_X2_incomeOf_223 g0 g0 := Fr.rf
  refine Ev.mk rfl rfl ⟨Nat.le_of_ble_eq_true rfl, Or.inr (q_rc hI0.1 kx_223 rfl)⟩ ?_
  show At _ none _ _ (0, [(0, .ref 223), (1, .int a1)], [], (_, _)) _
  refine At.enter rfl ?_
  refine r_aload_n rfl ?_
  refine r_callV 4 rfl [.ref 223] [] (Nat.le_of_ble_eq_true rfl) rfl (T_X2_begin_223 _ hI0) ?_
  rintro _ _ ⟨g27, rfl, hI28, hF29, rfl⟩
  refine At.stn ?_
  have hF32 := Fr.tr hF0 hF29 rfl rfl
  refine At.enter rfl ?_
  refine r_aload_n rfl ?_
  refine r_iload_n rfl ?_
  refine r_callV 9 rfl [.ref 223, .int a1] [] (Nat.le_of_ble_eq_true rfl) rfl (T_X2_seekAnswer_223 _ hI28 a1 (by omega)) ?_
  rintro _ _ ⟨g33, rfl, hI34, hF35, rfl⟩
  refine At.stn ?_
  have hF38 := Fr.tr hF32 hF35 rfl rfl
  refine At.enter rfl ?_
  refine r_aload_n rfl ?_
  obtain ⟨v39, hv39⟩ : ∃ v, gI g33 223 9 = v := ⟨_, rfl⟩
  refine q_getI (Sh.int hI34.1 kx_223 rfl) v39 hv39 ?_
  refine r_ireti ?_
  exact ⟨_, rfl, hI34, hF38, _, rfl, trivial⟩

def F_X2_answerOf_223 : List (Nat × Nat) := [(185, 3), (223, 5), (223, 6), (223, 7), (223, 8), (223, 9)]
def A_X2_answerOf_223 : List Nat := [224, 225, 226]
set_option maxRecDepth 100000 in
set_option maxHeartbeats 4000000 in
theorem T_X2_answerOf_223 (d : Nat) {N : Nat} {g0 : List en_E} (hI0 : HI g0) (a1 : Int32) (h_a1 : 0 ≤ a1.toInt ∧ a1.toInt ≤ 11) (a2 : Int32) : Ev (d + 7) 41 [.ref 223, .int a1, .int a2] (g0, N) (fun w h' => ∃ g', h' = (g', N) ∧ HI g' ∧ Fr F_X2_answerOf_223 A_X2_answerOf_223 g0 g' ∧ ∃ r : Int32, w = some (.int r) ∧ True) := by
  have hF0 : Fr F_X2_answerOf_223 A_X2_answerOf_223 g0 g0 := Fr.rf
  refine Ev.mk rfl rfl ⟨Nat.le_of_ble_eq_true rfl, Or.inr (q_rc hI0.1 kx_223 rfl)⟩ ?_
  show At _ none _ _ (0, [(0, .ref 223), (1, .int a1), (2, .int a2)], [], (_, _)) _
  refine At.enter rfl ?_
  refine r_aload_n rfl ?_
  refine r_callV 4 rfl [.ref 223] [] (Nat.le_of_ble_eq_true rfl) rfl (T_X2_begin_223 _ hI0) ?_
  rintro _ _ ⟨g31, rfl, hI32, hF33, rfl⟩
  refine At.stn ?_
  have hF36 := Fr.tr hF0 hF33 rfl rfl
  refine At.enter rfl ?_
  refine r_aload_n rfl ?_
  refine r_iload_n rfl ?_
  refine r_callV 9 rfl [.ref 223, .int a1] [] (Nat.le_of_ble_eq_true rfl) rfl (T_X2_seekAnswer_223 _ hI32 a1 (by omega)) ?_
  rintro _ _ ⟨g37, rfl, hI38, hF39, rfl⟩
  refine At.stn ?_
  have hF42 := Fr.tr hF36 hF39 rfl rfl
  refine At.enter rfl ?_
  refine r_iload_n rfl ?_
  refine r_ifs 13 rfl (fun c43 => ?_) (fun c43 => ?_)
  · have c43_ : a2.toInt ≠ 0 := en_k_ne_t c43
    refine At.enter rfl ?_
    refine r_aload_n rfl ?_
    obtain ⟨v44, hv44⟩ : ∃ v, gI g37 223 8 = v := ⟨_, rfl⟩
    refine q_getI (Sh.int hI38.1 kx_223 rfl) v44 hv44 ?_
    refine Ar.fall 24 rfl ?_
    refine At.enter rfl ?_
    refine r_ireti ?_
    exact ⟨_, rfl, hI38, hF42, _, rfl, trivial⟩
  · have c43_ : a2.toInt = 0 := en_k_ne_f c43
    refine At.enter rfl ?_
    refine r_aload_n rfl ?_
    obtain ⟨v45, hv45⟩ : ∃ v, gI g37 223 7 = v := ⟨_, rfl⟩
    refine q_getI (Sh.int hI38.1 kx_223 rfl) v45 hv45 ?_
    refine r_goto ?_
    refine At.enter rfl ?_
    refine r_ireti ?_
    exact ⟨_, rfl, hI38, hF42, _, rfl, trivial⟩

def F_X2_settled_223 : List (Nat × Nat) := []
def A_X2_settled_223 : List Nat := []
set_option maxRecDepth 100000 in
set_option maxHeartbeats 4000000 in
theorem T_X2_settled_223 (d : Nat) {N : Nat} {g0 : List en_E} (hI0 : HI g0) (a1 : Int32) : Ev (d + 2) 44 [.ref 223, .int a1] (g0, N) (fun w h' => ∃ g', h' = (g', N) ∧ HI g' ∧ Fr F_X2_settled_223 A_X2_settled_223 g0 g' ∧ ∃ r : Int32, w = some (.int r) ∧ True) := by
  have hF0 : Fr F_X2_settled_223 A_X2_settled_223 g0 g0 := Fr.rf
  refine Ev.mk rfl rfl ⟨Nat.le_of_ble_eq_true rfl, Or.inr (q_rc hI0.1 kx_223 rfl)⟩ ?_
  show At _ none _ _ (0, [(0, .ref 223), (1, .int a1)], [], (_, _)) _
  refine At.enter rfl ?_
  refine r_aload_n rfl ?_
  refine q_getR (Sh.ref hI0.1 kx_223 rfl) ?_
  refine r_iload_n rfl ?_
  refine q_inlV 8 rfl [.ref 1, .int a1] [] (Nat.le_of_ble_eq_true rfl) rfl ?_
  refine Ev.mk rfl rfl ⟨Nat.le_of_ble_eq_true rfl, Or.inr (q_rc hI0.1 kx_1 rfl)⟩ ?_
  show At _ none _ _ (0, [(0, .ref 1), (1, .int a1)], [], (_, _)) _
  refine At.enter rfl ?_
  refine r_iload_n rfl ?_
  refine r_ifs 4 rfl (fun c17 => ?_) (fun c17 => ?_)
  · have c17_ : a1.toInt < 0 := en_k_lt_t c17
    refine At.enter rfl ?_
    refine r_iconst 0 rfl ?_
    refine Ar.fall 17 rfl ?_
    refine At.enter rfl ?_
    refine q_iretz (by decide) ?_
    refine At.enter rfl ?_
    refine r_ift (by decide) ?_
    refine At.enter rfl ?_
    refine r_aload_n rfl ?_
    obtain ⟨v18, hv18⟩ : ∃ v, gI g0 223 11 = v := ⟨_, rfl⟩
    refine q_getI (Sh.int hI0.1 kx_223 rfl) v18 hv18 ?_
    refine Ar.fall 24 rfl ?_
    refine At.enter rfl ?_
    refine r_ireti ?_
    exact ⟨_, rfl, hI0, hF0, _, rfl, trivial⟩
  · have c17_ : a1.toInt ≥ 0 := en_k_lt_f c17
    refine At.enter rfl ?_
    refine r_iload_n rfl ?_
    refine r_aload_n rfl ?_
    obtain ⟨v19, hv19⟩ : ∃ v, gI g0 1 0 = v := ⟨_, rfl⟩
    have rv19 := RgF.at hI0.2.1 (p := 1) (b := 0) rfl
    rw [hv19] at rv19
    dsimp only at rv19
    refine q_getI (Sh.int hI0.1 kx_1 rfl) v19 hv19 ?_
    have bv21 := q_bnd a1
    have bv22 := q_bnd v19
    refine r_ics 12 rfl (fun c20 => ?_) (fun c20 => ?_)
    · have c20_ : a1.toInt ≥ v19.toInt := en_i_ge_t c20
      refine At.enter rfl ?_
      refine r_iconst 0 rfl ?_
      refine Ar.fall 17 rfl ?_
      refine At.enter rfl ?_
      refine q_iretz (by decide) ?_
      refine At.enter rfl ?_
      refine r_ift (by decide) ?_
      refine At.enter rfl ?_
      refine r_aload_n rfl ?_
      obtain ⟨v23, hv23⟩ : ∃ v, gI g0 223 11 = v := ⟨_, rfl⟩
      refine q_getI (Sh.int hI0.1 kx_223 rfl) v23 hv23 ?_
      refine Ar.fall 24 rfl ?_
      refine At.enter rfl ?_
      refine r_ireti ?_
      exact ⟨_, rfl, hI0, hF0, _, rfl, trivial⟩
    · have c20_ : a1.toInt < v19.toInt := en_i_ge_f c20
      refine At.enter rfl ?_
      refine r_iconst 1 rfl ?_
      refine r_goto ?_
      refine At.enter rfl ?_
      refine q_iretz (by decide) ?_
      refine At.enter rfl ?_
      refine r_iff 11 rfl (by decide) ?_
      refine At.enter rfl ?_
      refine r_aload_n rfl ?_
      refine q_getR (Sh.ref hI0.1 kx_223 rfl) ?_
      refine r_iload_n rfl ?_
      obtain ⟨v24, hv24⟩ : ∃ v, eA g0 227 a1.toInt = v := ⟨_, rfl⟩
      refine q_iald (Sh.arr hI0.1 ka_227) a1.toInt rfl (by omega) v24 hv24 ?_
      refine r_goto ?_
      refine At.enter rfl ?_
      refine r_ireti ?_
      exact ⟨_, rfl, hI0, hF0, _, rfl, trivial⟩

def F_X10_refused_0 : List (Nat × Nat) := [(0, 17)]
def A_X10_refused_0 : List Nat := [230]
set_option maxRecDepth 100000 in
set_option maxHeartbeats 4000000 in
theorem T_X10_refused_0 (d : Nat) {N : Nat} {g0 : List en_E} (hI0 : HI g0) (a1 : Int32) (h_a1 : (-6) ≤ a1.toInt ∧ a1.toInt ≤ 0) : Ev (d + 2) 144 [.ref 0, .int a1] (g0, N) (fun w h' => ∃ g', h' = (g', N) ∧ HI g' ∧ Fr F_X10_refused_0 A_X10_refused_0 g0 g' ∧ ∃ r : Int32, w = some (.int r) ∧ ((-6) ≤ r.toInt ∧ r.toInt ≤ 0) ∧ (r.toInt = a1.toInt)) := by
  have hF0 : Fr F_X10_refused_0 A_X10_refused_0 g0 g0 := Fr.rf
  refine Ev.mk rfl rfl ⟨Nat.le_of_ble_eq_true rfl, Or.inr (q_rc hI0.1 kx_0 rfl)⟩ ?_
  show At _ none _ _ (0, [(0, .ref 0), (1, .int a1)], [], (_, _)) _
  refine At.enter rfl ?_
  refine r_aload_n rfl ?_
  refine r_iload_n rfl ?_
  refine q_putI (Sh.int hI0.1 kx_0 rfl) rfl ?_
  have hI21 := HI.wI0 hI0 kx_0 rfl (p := 0) (b := 17) (v := a1) rfl
  have hF22 := Fr.wI (p := 0) (b := 17) (v := a1) hF0 rfl
  refine r_iload_n rfl ?_
  refine q_ineg (-a1.toInt) rfl (by omega) (fun v23 hv23 => ?_)
  refine r_iconst 0 rfl ?_
  refine r_bipush 6 rfl ?_
  refine q_inlS 13 rfl [.int v23, .int 0, .int 6] [] (Nat.le_of_ble_eq_true rfl) rfl ?_
  refine Ev.mk rfl rfl ⟨Nat.le_of_ble_eq_true rfl, Or.inl rfl⟩ ?_
  show At _ none _ _ (0, [(0, .int v23), (1, .int 0), (2, .int 6)], [], (_, _)) _
  refine At.enter rfl ?_
  refine r_iload_n rfl ?_
  refine r_iload_n rfl ?_
  refine r_ics 5 rfl (fun c24 => ?_) (fun c24 => ?_)
  · have c24_ : v23.toInt < 0 := en_i_lt_t c24
    exfalso; omega
  · have c24_ : v23.toInt ≥ 0 := en_i_lt_f c24
    refine At.enter rfl ?_
    refine r_iload_n rfl ?_
    refine r_iload_n rfl ?_
    refine r_ics 10 rfl (fun c25 => ?_) (fun c25 => ?_)
    · have c25_ : v23.toInt > 6 := en_i_gt_t c25
      exfalso; omega
    · have c25_ : v23.toInt ≤ 6 := en_i_gt_f c25
      refine At.enter rfl ?_
      refine r_iconst 1 rfl ?_
      refine r_goto ?_
      refine At.enter rfl ?_
      refine q_iretz (by decide) ?_
      refine At.enter rfl ?_
      refine r_iff 16 rfl (by decide) ?_
      refine At.enter rfl ?_
      refine r_aload_n rfl ?_
      refine q_getR (Sh.ref hI21.1 kx_0 rfl) ?_
      refine r_iload_n rfl ?_
      refine q_ineg (-a1.toInt) rfl (by omega) (fun v26 hv26 => ?_)
      refine r_dup2 ⟨rfl, rfl⟩ ?_
      obtain ⟨v27, hv27⟩ : ∃ v, eA g0 230 ((-1) * a1.toInt) = v := ⟨_, rfl⟩
      refine q_iald (Sh.arr hI21.1 ka_230) ((-1) * a1.toInt) (by omega) (by omega) v27 ((eA_c (gA_sI)).trans hv27) ?_
      refine r_iconst 1 rfl ?_
      refine q_iaddO (fun v28 _ => ?_)
      refine q_iast (Sh.arr hI21.1 ka_230) (((-1) * a1.toInt)) (by omega) (by omega) ?_
      have hI29 := HI.wA0 hI21 ka_230 (p := 230) rfl rfl (((-1) * a1.toInt)) (v28)
      have hF30 := Fr.wA (p := 230) (j := ((-1) * a1.toInt)) (v := v28) hF22 rfl
      refine Ar.fall 27 rfl ?_
      refine At.enter rfl ?_
      refine r_iload_n rfl ?_
      refine r_ireti ?_
      exact ⟨_, rfl, hI29, hF30, _, rfl, by omega, (by omega)⟩

def F_X10_changed_0 : List (Nat × Nat) := [(0, 14), (220, 2), (222, 2), (223, 5), (223, 10)]
def A_X10_changed_0 : List Nat := []
set_option maxRecDepth 100000 in
set_option maxHeartbeats 4000000 in
theorem T_X10_changed_0 (d : Nat) {N : Nat} {g0 : List en_E} (hI0 : HI g0) : Ev (d + 2) 146 [.ref 0] (g0, N) (fun w h' => ∃ g', h' = (g', N) ∧ HI g' ∧ Fr F_X10_changed_0 A_X10_changed_0 g0 g' ∧ w = none) := by
  have hF0 : Fr F_X10_changed_0 A_X10_changed_0 g0 g0 := Fr.rf
  refine Ev.mk rfl rfl ⟨Nat.le_of_ble_eq_true rfl, Or.inr (q_rc hI0.1 kx_0 rfl)⟩ ?_
  show At _ none _ _ (0, [(0, .ref 0)], [], (_, _)) _
  refine At.enter rfl ?_
  refine r_aload_n rfl ?_
  refine r_iconst 0 rfl ?_
  refine q_putI (Sh.int hI0.1 kx_0 rfl) rfl ?_
  have hI21 := HI.wI0 hI0 kx_0 rfl (p := 0) (b := 14) (v := 0) rfl
  have hF22 := Fr.wI (p := 0) (b := 14) (v := 0) hF0 rfl
  refine r_aload_n rfl ?_
  refine q_getR (Sh.ref hI21.1 kx_0 rfl) ?_
  refine q_inlV 12 rfl [.ref 220] [] (Nat.le_of_ble_eq_true rfl) rfl ?_
  refine Ev.mk rfl rfl ⟨Nat.le_of_ble_eq_true rfl, Or.inr (q_rc hI21.1 kx_220 rfl)⟩ ?_
  show At _ none _ _ (0, [(0, .ref 220)], [], (_, _)) _
  refine At.enter rfl ?_
  refine r_aload_n rfl ?_
  refine r_iconst (-1) rfl ?_
  refine q_putI (Sh.int hI21.1 kx_220 rfl) rfl ?_
  have hI23 := HI.wI0 hI21 kx_220 rfl (p := 220) (b := 2) (v := (-1)) rfl
  have hF24 := Fr.wI (p := 220) (b := 2) (v := (-1)) hF22 rfl
  refine q_vret ?_
  refine At.enter rfl ?_
  refine r_aload_n rfl ?_
  refine q_getR (Sh.ref hI23.1 kx_0 rfl) ?_
  refine q_inlV 19 rfl [.ref 222] [] (Nat.le_of_ble_eq_true rfl) rfl ?_
  refine Ev.mk rfl rfl ⟨Nat.le_of_ble_eq_true rfl, Or.inr (q_rc hI23.1 kx_222 rfl)⟩ ?_
  show At _ none _ _ (0, [(0, .ref 222)], [], (_, _)) _
  refine At.enter rfl ?_
  refine r_aload_n rfl ?_
  refine r_iconst 0 rfl ?_
  refine q_putI (Sh.int hI23.1 kx_222 rfl) rfl ?_
  have hI25 := HI.wI0 hI23 kx_222 rfl (p := 222) (b := 2) (v := 0) rfl
  have hF26 := Fr.wI (p := 222) (b := 2) (v := 0) hF24 rfl
  refine q_vret ?_
  refine At.enter rfl ?_
  refine r_aload_n rfl ?_
  refine q_getR (Sh.ref hI25.1 kx_0 rfl) ?_
  refine q_inlV 26 rfl [.ref 223] [] (Nat.le_of_ble_eq_true rfl) rfl ?_
  refine Ev.mk rfl rfl ⟨Nat.le_of_ble_eq_true rfl, Or.inr (q_rc hI25.1 kx_223 rfl)⟩ ?_
  show At _ none _ _ (0, [(0, .ref 223)], [], (_, _)) _
  refine At.enter rfl ?_
  refine r_aload_n rfl ?_
  refine r_iconst 0 rfl ?_
  refine q_putI (Sh.int hI25.1 kx_223 rfl) rfl ?_
  have hI27 := HI.wI0 hI25 kx_223 rfl (p := 223) (b := 5) (v := 0) rfl
  have hF28 := Fr.wI (p := 223) (b := 5) (v := 0) hF26 rfl
  refine r_aload_n rfl ?_
  refine r_iconst 0 rfl ?_
  refine q_putI (Sh.int hI27.1 kx_223 rfl) rfl ?_
  have hI29 := HI.wI0 hI27 kx_223 rfl (p := 223) (b := 10) (v := 0) rfl
  have hF30 := Fr.wI (p := 223) (b := 10) (v := 0) hF28 rfl
  refine q_vret ?_
  refine At.enter rfl ?_
  refine r_vret ?_
  exact ⟨_, rfl, hI29, hF30, rfl⟩

def F_X10_whyNoLoad_0 : List (Nat × Nat) := []
def A_X10_whyNoLoad_0 : List Nat := []
set_option maxRecDepth 100000 in
set_option maxHeartbeats 4000000 in
theorem T_X10_whyNoLoad_0 (d : Nat) {N : Nat} {g0 : List en_E} (hI0 : HI g0) (a1 : Int32) (a2 : Int32) (a3 : Int32) (a4 : Int32) (a5 : Int32) (a6 : Int32) : Ev (d + 2) 149 [.ref 0, .int a1, .int a2, .int a3, .int a4, .int a5, .int a6] (g0, N) (fun w h' => ∃ g', h' = (g', N) ∧ HI g' ∧ Fr F_X10_whyNoLoad_0 A_X10_whyNoLoad_0 g0 g' ∧ ∃ r : Int32, w = some (.int r) ∧ ((-5) ≤ r.toInt ∧ r.toInt ≤ 0)) := by
  have hF0 : Fr F_X10_whyNoLoad_0 A_X10_whyNoLoad_0 g0 g0 := Fr.rf
  refine Ev.mk rfl rfl ⟨Nat.le_of_ble_eq_true rfl, Or.inr (q_rc hI0.1 kx_0 rfl)⟩ ?_
  show At _ none _ _ (0, [(0, .ref 0), (1, .int a1), (2, .int a2), (3, .int a3), (4, .int a4), (5, .int a5), (6, .int a6)], [], (_, _)) _
  refine At.enter rfl ?_
  refine r_iload_n rfl ?_
  refine r_iconst 1 rfl ?_
  refine r_bipush 9 rfl ?_
  refine q_inlS 7 rfl [.int a1, .int 1, .int 9] [] (Nat.le_of_ble_eq_true rfl) rfl ?_
  refine Ev.mk rfl rfl ⟨Nat.le_of_ble_eq_true rfl, Or.inl rfl⟩ ?_
  show At _ none _ _ (0, [(0, .int a1), (1, .int 1), (2, .int 9)], [], (_, _)) _
  refine At.enter rfl ?_
  refine r_iload_n rfl ?_
  refine r_iload_n rfl ?_
  refine r_ics 5 rfl (fun c37 => ?_) (fun c37 => ?_)
  · have c37_ : a1.toInt < 1 := en_i_lt_t c37
    refine At.enter rfl ?_
    refine r_iconst 0 rfl ?_
    refine Ar.fall 15 rfl ?_
    refine At.enter rfl ?_
    refine q_iretz (by decide) ?_
    refine At.enter rfl ?_
    refine r_ift (by decide) ?_
    refine At.enter rfl ?_
    refine r_iconst (-1) rfl ?_
    refine r_ireti ?_
    exact ⟨_, rfl, hI0, hF0, _, rfl, by decide⟩
  · have c37_ : a1.toInt ≥ 1 := en_i_lt_f c37
    refine At.enter rfl ?_
    refine r_iload_n rfl ?_
    refine r_iload_n rfl ?_
    refine r_ics 10 rfl (fun c38 => ?_) (fun c38 => ?_)
    · have c38_ : a1.toInt > 9 := en_i_gt_t c38
      refine At.enter rfl ?_
      refine r_iconst 0 rfl ?_
      refine Ar.fall 15 rfl ?_
      refine At.enter rfl ?_
      refine q_iretz (by decide) ?_
      refine At.enter rfl ?_
      refine r_ift (by decide) ?_
      refine At.enter rfl ?_
      refine r_iconst (-1) rfl ?_
      refine r_ireti ?_
      exact ⟨_, rfl, hI0, hF0, _, rfl, by decide⟩
    · have c38_ : a1.toInt ≤ 9 := en_i_gt_f c38
      refine At.enter rfl ?_
      refine r_iconst 1 rfl ?_
      refine r_goto ?_
      refine At.enter rfl ?_
      refine q_iretz (by decide) ?_
      refine At.enter rfl ?_
      refine r_iff 10 rfl (by decide) ?_
      refine At.enter rfl ?_
      refine r_iload rfl ?_
      refine r_iconst 0 rfl ?_
      refine r_bipush 99 rfl ?_
      refine q_inlS 18 rfl [.int a4, .int 0, .int 99] [] (Nat.le_of_ble_eq_true rfl) rfl ?_
      refine Ev.mk rfl rfl ⟨Nat.le_of_ble_eq_true rfl, Or.inl rfl⟩ ?_
      show At _ none _ _ (0, [(0, .int a4), (1, .int 0), (2, .int 99)], [], (_, _)) _
      refine At.enter rfl ?_
      refine r_iload_n rfl ?_
      refine r_iload_n rfl ?_
      refine r_ics 5 rfl (fun c39 => ?_) (fun c39 => ?_)
      · have c39_ : a4.toInt < 0 := en_i_lt_t c39
        refine At.enter rfl ?_
        refine r_iconst 0 rfl ?_
        refine Ar.fall 15 rfl ?_
        refine At.enter rfl ?_
        refine q_iretz (by decide) ?_
        refine At.enter rfl ?_
        refine r_ift (by decide) ?_
        refine At.enter rfl ?_
        refine r_iconst (-1) rfl ?_
        refine r_ireti ?_
        exact ⟨_, rfl, hI0, hF0, _, rfl, by decide⟩
      · have c39_ : a4.toInt ≥ 0 := en_i_lt_f c39
        refine At.enter rfl ?_
        refine r_iload_n rfl ?_
        refine r_iload_n rfl ?_
        refine r_ics 10 rfl (fun c40 => ?_) (fun c40 => ?_)
        · have c40_ : a4.toInt > 99 := en_i_gt_t c40
          refine At.enter rfl ?_
          refine r_iconst 0 rfl ?_
          refine Ar.fall 15 rfl ?_
          refine At.enter rfl ?_
          refine q_iretz (by decide) ?_
          refine At.enter rfl ?_
          refine r_ift (by decide) ?_
          refine At.enter rfl ?_
          refine r_iconst (-1) rfl ?_
          refine r_ireti ?_
          exact ⟨_, rfl, hI0, hF0, _, rfl, by decide⟩
        · have c40_ : a4.toInt ≤ 99 := en_i_gt_f c40
          refine At.enter rfl ?_
          refine r_iconst 1 rfl ?_
          refine r_goto ?_
          refine At.enter rfl ?_
          refine q_iretz (by decide) ?_
          refine At.enter rfl ?_
          refine r_iff 21 rfl (by decide) ?_
          refine At.enter rfl ?_
          refine r_iload rfl ?_
          refine r_iconst 0 rfl ?_
          refine r_bipush 9 rfl ?_
          refine q_inlS 29 rfl [.int a5, .int 0, .int 9] [] (Nat.le_of_ble_eq_true rfl) rfl ?_
          refine Ev.mk rfl rfl ⟨Nat.le_of_ble_eq_true rfl, Or.inl rfl⟩ ?_
          show At _ none _ _ (0, [(0, .int a5), (1, .int 0), (2, .int 9)], [], (_, _)) _
          refine At.enter rfl ?_
          refine r_iload_n rfl ?_
          refine r_iload_n rfl ?_
          refine r_ics 5 rfl (fun c41 => ?_) (fun c41 => ?_)
          · have c41_ : a5.toInt < 0 := en_i_lt_t c41
            refine At.enter rfl ?_
            refine r_iconst 0 rfl ?_
            refine Ar.fall 15 rfl ?_
            refine At.enter rfl ?_
            refine q_iretz (by decide) ?_
            refine At.enter rfl ?_
            refine r_ift (by decide) ?_
            refine At.enter rfl ?_
            refine r_iconst (-1) rfl ?_
            refine r_ireti ?_
            exact ⟨_, rfl, hI0, hF0, _, rfl, by decide⟩
          · have c41_ : a5.toInt ≥ 0 := en_i_lt_f c41
            refine At.enter rfl ?_
            refine r_iload_n rfl ?_
            refine r_iload_n rfl ?_
            refine r_ics 10 rfl (fun c42 => ?_) (fun c42 => ?_)
            · have c42_ : a5.toInt > 9 := en_i_gt_t c42
              refine At.enter rfl ?_
              refine r_iconst 0 rfl ?_
              refine Ar.fall 15 rfl ?_
              refine At.enter rfl ?_
              refine q_iretz (by decide) ?_
              refine At.enter rfl ?_
              refine r_ift (by decide) ?_
              refine At.enter rfl ?_
              refine r_iconst (-1) rfl ?_
              refine r_ireti ?_
              exact ⟨_, rfl, hI0, hF0, _, rfl, by decide⟩
            · have c42_ : a5.toInt ≤ 9 := en_i_gt_f c42
              refine At.enter rfl ?_
              refine r_iconst 1 rfl ?_
              refine r_goto ?_
              refine At.enter rfl ?_
              refine q_iretz (by decide) ?_
              refine At.enter rfl ?_
              refine r_iff 32 rfl (by decide) ?_
              refine At.enter rfl ?_
              refine r_iload rfl ?_
              refine r_iconst 0 rfl ?_
              refine r_sipush 9999 rfl ?_
              refine q_inlS 41 rfl [.int a6, .int 0, .int 9999] [] (Nat.le_of_ble_eq_true rfl) rfl ?_
              refine Ev.mk rfl rfl ⟨Nat.le_of_ble_eq_true rfl, Or.inl rfl⟩ ?_
              show At _ none _ _ (0, [(0, .int a6), (1, .int 0), (2, .int 9999)], [], (_, _)) _
              refine At.enter rfl ?_
              refine r_iload_n rfl ?_
              refine r_iload_n rfl ?_
              refine r_ics 5 rfl (fun c43 => ?_) (fun c43 => ?_)
              · have c43_ : a6.toInt < 0 := en_i_lt_t c43
                refine At.enter rfl ?_
                refine r_iconst 0 rfl ?_
                refine Ar.fall 15 rfl ?_
                refine At.enter rfl ?_
                refine q_iretz (by decide) ?_
                refine At.enter rfl ?_
                refine r_iff 44 rfl (by decide) ?_
                refine At.enter rfl ?_
                refine r_iconst (-1) rfl ?_
                refine r_ireti ?_
                exact ⟨_, rfl, hI0, hF0, _, rfl, by decide⟩
              · have c43_ : a6.toInt ≥ 0 := en_i_lt_f c43
                refine At.enter rfl ?_
                refine r_iload_n rfl ?_
                refine r_iload_n rfl ?_
                refine r_ics 10 rfl (fun c44 => ?_) (fun c44 => ?_)
                · have c44_ : a6.toInt > 9999 := en_i_gt_t c44
                  refine At.enter rfl ?_
                  refine r_iconst 0 rfl ?_
                  refine Ar.fall 15 rfl ?_
                  refine At.enter rfl ?_
                  refine q_iretz (by decide) ?_
                  refine At.enter rfl ?_
                  refine r_iff 44 rfl (by decide) ?_
                  refine At.enter rfl ?_
                  refine r_iconst (-1) rfl ?_
                  refine r_ireti ?_
                  exact ⟨_, rfl, hI0, hF0, _, rfl, by decide⟩
                · have c44_ : a6.toInt ≤ 9999 := en_i_gt_f c44
                  refine At.enter rfl ?_
                  refine r_iconst 1 rfl ?_
                  refine r_goto ?_
                  refine At.enter rfl ?_
                  refine q_iretz (by decide) ?_
                  refine At.enter rfl ?_
                  refine r_ift (by decide) ?_
                  refine At.enter rfl ?_
                  refine r_aload_n rfl ?_
                  refine q_getR (Sh.ref hI0.1 kx_0 rfl) ?_
                  refine r_iload_n rfl ?_
                  refine q_inlV 54 rfl [.ref 1, .int a2] [] (Nat.le_of_ble_eq_true rfl) rfl ?_
                  refine Ev.mk rfl rfl ⟨Nat.le_of_ble_eq_true rfl, Or.inr (q_rc hI0.1 kx_1 rfl)⟩ ?_
                  show At _ none _ _ (0, [(0, .ref 1), (1, .int a2)], [], (_, _)) _
                  refine At.enter rfl ?_
                  refine r_iload_n rfl ?_
                  refine r_ifs 4 rfl (fun c45 => ?_) (fun c45 => ?_)
                  · have c45_ : a2.toInt < 0 := en_k_lt_t c45
                    refine At.enter rfl ?_
                    refine r_iconst 0 rfl ?_
                    refine Ar.fall 17 rfl ?_
                    refine At.enter rfl ?_
                    refine q_iretz (by decide) ?_
                    refine At.enter rfl ?_
                    refine r_ift (by decide) ?_
                    refine At.enter rfl ?_
                    refine r_bipush (-2) rfl ?_
                    refine r_ireti ?_
                    exact ⟨_, rfl, hI0, hF0, _, rfl, by decide⟩
                  · have c45_ : a2.toInt ≥ 0 := en_k_lt_f c45
                    refine At.enter rfl ?_
                    refine r_iload_n rfl ?_
                    refine r_aload_n rfl ?_
                    obtain ⟨v46, hv46⟩ : ∃ v, gI g0 1 0 = v := ⟨_, rfl⟩
                    have rv46 := RgF.at hI0.2.1 (p := 1) (b := 0) rfl
                    rw [hv46] at rv46
                    dsimp only at rv46
                    refine q_getI (Sh.int hI0.1 kx_1 rfl) v46 hv46 ?_
                    have bv48 := q_bnd a2
                    have bv49 := q_bnd v46
                    refine r_ics 12 rfl (fun c47 => ?_) (fun c47 => ?_)
                    · have c47_ : a2.toInt ≥ v46.toInt := en_i_ge_t c47
                      refine At.enter rfl ?_
                      refine r_iconst 0 rfl ?_
                      refine Ar.fall 17 rfl ?_
                      refine At.enter rfl ?_
                      refine q_iretz (by decide) ?_
                      refine At.enter rfl ?_
                      refine r_ift (by decide) ?_
                      refine At.enter rfl ?_
                      refine r_bipush (-2) rfl ?_
                      refine r_ireti ?_
                      exact ⟨_, rfl, hI0, hF0, _, rfl, by decide⟩
                    · have c47_ : a2.toInt < v46.toInt := en_i_ge_f c47
                      refine At.enter rfl ?_
                      refine r_iconst 1 rfl ?_
                      refine r_goto ?_
                      refine At.enter rfl ?_
                      refine q_iretz (by decide) ?_
                      refine At.enter rfl ?_
                      refine r_iff 57 rfl (by decide) ?_
                      refine At.enter rfl ?_
                      refine r_aload_n rfl ?_
                      refine q_getR (Sh.ref hI0.1 kx_0 rfl) ?_
                      refine r_iload_n rfl ?_
                      refine q_inlV 65 rfl [.ref 1, .int a3] [] (Nat.le_of_ble_eq_true rfl) rfl ?_
                      refine Ev.mk rfl rfl ⟨Nat.le_of_ble_eq_true rfl, Or.inr (q_rc hI0.1 kx_1 rfl)⟩ ?_
                      show At _ none _ _ (0, [(0, .ref 1), (1, .int a3)], [], (_, _)) _
                      refine At.enter rfl ?_
                      refine r_iload_n rfl ?_
                      refine r_ifs 4 rfl (fun c50 => ?_) (fun c50 => ?_)
                      · have c50_ : a3.toInt < 0 := en_k_lt_t c50
                        refine At.enter rfl ?_
                        refine r_iconst 0 rfl ?_
                        refine Ar.fall 17 rfl ?_
                        refine At.enter rfl ?_
                        refine q_iretz (by decide) ?_
                        refine At.enter rfl ?_
                        refine r_iff 68 rfl (by decide) ?_
                        refine At.enter rfl ?_
                        refine r_bipush (-2) rfl ?_
                        refine r_ireti ?_
                        exact ⟨_, rfl, hI0, hF0, _, rfl, by decide⟩
                      · have c50_ : a3.toInt ≥ 0 := en_k_lt_f c50
                        refine At.enter rfl ?_
                        refine r_iload_n rfl ?_
                        refine r_aload_n rfl ?_
                        refine q_getI (Sh.int hI0.1 kx_1 rfl) v46 hv46 ?_
                        have bv52 := q_bnd a3
                        refine r_ics 12 rfl (fun c51 => ?_) (fun c51 => ?_)
                        · have c51_ : a3.toInt ≥ v46.toInt := en_i_ge_t c51
                          refine At.enter rfl ?_
                          refine r_iconst 0 rfl ?_
                          refine Ar.fall 17 rfl ?_
                          refine At.enter rfl ?_
                          refine q_iretz (by decide) ?_
                          refine At.enter rfl ?_
                          refine r_iff 68 rfl (by decide) ?_
                          refine At.enter rfl ?_
                          refine r_bipush (-2) rfl ?_
                          refine r_ireti ?_
                          exact ⟨_, rfl, hI0, hF0, _, rfl, by decide⟩
                        · have c51_ : a3.toInt < v46.toInt := en_i_ge_f c51
                          refine At.enter rfl ?_
                          refine r_iconst 1 rfl ?_
                          refine r_goto ?_
                          refine At.enter rfl ?_
                          refine q_iretz (by decide) ?_
                          refine At.enter rfl ?_
                          refine r_ift (by decide) ?_
                          refine At.enter rfl ?_
                          refine r_aload_n rfl ?_
                          refine q_getR (Sh.ref hI0.1 kx_0 rfl) ?_
                          obtain ⟨v53, hv53⟩ : ∃ v, gI g0 1 4 = v := ⟨_, rfl⟩
                          have rv53 := RgF.at hI0.2.1 (p := 1) (b := 4) rfl
                          rw [hv53] at rv53
                          dsimp only at rv53
                          refine q_getI (Sh.int hI0.1 kx_1 rfl) v53 hv53 ?_
                          refine r_bipush 8 rfl ?_
                          refine r_ics 83 rfl (fun c54 => ?_) (fun c54 => ?_)
                          · have c54_ : v53.toInt < 8 := en_i_lt_t c54
                            refine At.enter rfl ?_
                            refine r_iconst 0 rfl ?_
                            refine Ar.fall 89 rfl ?_
                            refine At.enter rfl ?_
                            refine r_ireti ?_
                            exact ⟨_, rfl, hI0, hF0, _, rfl, by decide⟩
                          · have c54_ : v53.toInt ≥ 8 := en_i_lt_f c54
                            refine At.enter rfl ?_
                            refine r_bipush (-5) rfl ?_
                            refine r_goto ?_
                            refine At.enter rfl ?_
                            refine r_ireti ?_
                            exact ⟨_, rfl, hI0, hF0, _, rfl, by decide⟩

def F_X0_addLoad_1 : List (Nat × Nat) := [(1, 4)]
def A_X0_addLoad_1 : List Nat := [5]
set_option maxRecDepth 100000 in
set_option maxHeartbeats 4000000 in
theorem T_X0_addLoad_1 (d : Nat) {N : Nat} {g0 : List en_E} (hI0 : HI g0) (a1 : Int32) (a2 : Int32) (a3 : Int32) (a4 : Int32) (a5 : Int32) (a6 : Int32) : Ev (d + 1) 6 [.ref 1, .int a1, .int a2, .int a3, .int a4, .int a5, .int a6] (g0, N) (fun w h' => ∃ g', h' = (g', N) ∧ HI g' ∧ Fr F_X0_addLoad_1 A_X0_addLoad_1 g0 g' ∧ ∃ r : Int32, w = some (.int r) ∧ ((-1) ≤ r.toInt ∧ r.toInt ≤ 7)) := by
  have hF0 : Fr F_X0_addLoad_1 A_X0_addLoad_1 g0 g0 := Fr.rf
  refine Ev.mk rfl rfl ⟨Nat.le_of_ble_eq_true rfl, Or.inr (q_rc hI0.1 kx_1 rfl)⟩ ?_
  show At _ none _ _ (0, [(0, .ref 1), (1, .int a1), (2, .int a2), (3, .int a3), (4, .int a4), (5, .int a5), (6, .int a6)], [], (_, _)) _
  refine At.enter rfl ?_
  refine r_aload_n rfl ?_
  obtain ⟨v51, hv51⟩ : ∃ v, gI g0 1 4 = v := ⟨_, rfl⟩
  have rv51 := RgF.at hI0.2.1 (p := 1) (b := 4) rfl
  rw [hv51] at rv51
  dsimp only at rv51
  refine q_getI (Sh.int hI0.1 kx_1 rfl) v51 hv51 ?_
  refine r_bipush 8 rfl ?_
  refine r_ics 9 rfl (fun c52 => ?_) (fun c52 => ?_)
  · have c52_ : v51.toInt < 8 := en_i_lt_t c52
    refine At.enter rfl ?_
    refine r_aload_n rfl ?_
    refine q_getI (Sh.int hI0.1 kx_1 rfl) v51 hv51 ?_
    refine r_bipush 6 rfl ?_
    refine q_imul (v51.toInt * 6) rfl (by omega) (fun v53 hv53 => ?_)
    refine r_istore ([(7, .int v53), (0, .ref 1), (1, .int a1), (2, .int a2), (3, .int a3), (4, .int a4), (5, .int a5), (6, .int a6)]) rfl ?_
    refine r_aload_n rfl ?_
    refine q_getR (Sh.ref hI0.1 kx_1 rfl) ?_
    refine r_iload rfl ?_
    refine r_iconst 0 rfl ?_
    refine q_iadd (v53.toInt + 0) rfl (by omega) (fun v54 hv54 => ?_)
    refine r_iload_n rfl ?_
    refine q_iast (Sh.arr hI0.1 ka_5) ((6 * v51.toInt)) (by omega) (by omega) ?_
    have hI55 := HI.wA0 hI0 ka_5 (p := 5) rfl rfl ((6 * v51.toInt)) (a1)
    have hF56 := Fr.wA (p := 5) (j := (6 * v51.toInt)) (v := a1) hF0 rfl
    refine r_aload_n rfl ?_
    refine q_getR (Sh.ref hI55.1 kx_1 rfl) ?_
    refine r_iload rfl ?_
    refine r_iconst 1 rfl ?_
    refine q_iadd (v53.toInt + 1) rfl (by omega) (fun v57 hv57 => ?_)
    refine r_iload_n rfl ?_
    refine q_iast (Sh.arr hI55.1 ka_5) ((6 * v51.toInt + 1)) (by omega) (by omega) ?_
    have hI58 := HI.wA0 hI55 ka_5 (p := 5) rfl rfl ((6 * v51.toInt + 1)) (a2)
    have hF59 := Fr.wA (p := 5) (j := (6 * v51.toInt + 1)) (v := a2) hF56 rfl
    refine r_aload_n rfl ?_
    refine q_getR (Sh.ref hI58.1 kx_1 rfl) ?_
    refine r_iload rfl ?_
    refine r_iconst 2 rfl ?_
    refine q_iadd (v53.toInt + 2) rfl (by omega) (fun v60 hv60 => ?_)
    refine r_iload_n rfl ?_
    refine q_iast (Sh.arr hI58.1 ka_5) ((6 * v51.toInt + 2)) (by omega) (by omega) ?_
    have hI61 := HI.wA0 hI58 ka_5 (p := 5) rfl rfl ((6 * v51.toInt + 2)) (a3)
    have hF62 := Fr.wA (p := 5) (j := (6 * v51.toInt + 2)) (v := a3) hF59 rfl
    refine r_aload_n rfl ?_
    refine q_getR (Sh.ref hI61.1 kx_1 rfl) ?_
    refine r_iload rfl ?_
    refine r_iconst 3 rfl ?_
    refine q_iadd (v53.toInt + 3) rfl (by omega) (fun v63 hv63 => ?_)
    refine r_iload rfl ?_
    refine q_iast (Sh.arr hI61.1 ka_5) ((6 * v51.toInt + 3)) (by omega) (by omega) ?_
    have hI64 := HI.wA0 hI61 ka_5 (p := 5) rfl rfl ((6 * v51.toInt + 3)) (a4)
    have hF65 := Fr.wA (p := 5) (j := (6 * v51.toInt + 3)) (v := a4) hF62 rfl
    refine r_aload_n rfl ?_
    refine q_getR (Sh.ref hI64.1 kx_1 rfl) ?_
    refine r_iload rfl ?_
    refine r_iconst 4 rfl ?_
    refine q_iadd (v53.toInt + 4) rfl (by omega) (fun v66 hv66 => ?_)
    refine r_iload rfl ?_
    refine q_iast (Sh.arr hI64.1 ka_5) ((6 * v51.toInt + 4)) (by omega) (by omega) ?_
    have hI67 := HI.wA0 hI64 ka_5 (p := 5) rfl rfl ((6 * v51.toInt + 4)) (a5)
    have hF68 := Fr.wA (p := 5) (j := (6 * v51.toInt + 4)) (v := a5) hF65 rfl
    refine r_aload_n rfl ?_
    refine q_getR (Sh.ref hI67.1 kx_1 rfl) ?_
    refine r_iload rfl ?_
    refine r_iconst 5 rfl ?_
    refine q_iadd (v53.toInt + 5) rfl (by omega) (fun v69 hv69 => ?_)
    refine r_iload rfl ?_
    refine q_iast (Sh.arr hI67.1 ka_5) ((6 * v51.toInt + 5)) (by omega) (by omega) ?_
    have hI70 := HI.wA0 hI67 ka_5 (p := 5) rfl rfl ((6 * v51.toInt + 5)) (a6)
    have hF71 := Fr.wA (p := 5) (j := (6 * v51.toInt + 5)) (v := a6) hF68 rfl
    refine r_aload_n rfl ?_
    refine r_dup rfl ?_
    refine q_getI (Sh.int hI70.1 kx_1 rfl) v51 (((gI_sW).trans ((gI_sW).trans ((gI_sW).trans ((gI_sW).trans ((gI_sW).trans (gI_sW)))))).trans hv51) ?_
    refine r_iconst 1 rfl ?_
    refine q_iadd (v51.toInt + 1) rfl (by omega) (fun v72 hv72 => ?_)
    refine q_putI (Sh.int hI70.1 kx_1 rfl) rfl ?_
    have hI73 := HI.wI1 hI70 kx_1 rfl (p := 1) (b := 4) (v := v72) rfl (by dsimp only; omega)
    have hF74 := Fr.wI (p := 1) (b := 4) (v := v72) hF71 rfl
    refine r_aload_n rfl ?_
    refine q_getI (Sh.int hI73.1 kx_1 rfl) v72 (gI_sI_eq hI70.1 kx_1 rfl _) ?_
    refine r_iconst 1 rfl ?_
    refine q_isub (v72.toInt - 1) rfl (by omega) (fun v75 hv75 => ?_)
    refine r_ireti ?_
    exact ⟨_, rfl, hI73, hF74, _, rfl, by omega⟩
  · have c52_ : v51.toInt ≥ 8 := en_i_lt_f c52
    refine At.enter rfl ?_
    refine r_iconst (-1) rfl ?_
    refine r_ireti ?_
    exact ⟨_, rfl, hI0, hF0, _, rfl, by decide⟩

def F_X0_removeLoad_1 : List (Nat × Nat) := [(1, 4)]
def A_X0_removeLoad_1 : List Nat := [5]
set_option maxRecDepth 100000 in
set_option maxHeartbeats 4000000 in
theorem T_X0_removeLoad_1 (d : Nat) {N : Nat} {g0 : List en_E} (hI0 : HI g0) (a1 : Int32) : Ev (d + 2) 7 [.ref 1, .int a1] (g0, N) (fun w h' => ∃ g', h' = (g', N) ∧ HI g' ∧ Fr F_X0_removeLoad_1 A_X0_removeLoad_1 g0 g' ∧ w = none) := by
  have hF0 : Fr F_X0_removeLoad_1 A_X0_removeLoad_1 g0 g0 := Fr.rf
  refine Ev.mk rfl rfl ⟨Nat.le_of_ble_eq_true rfl, Or.inr (q_rc hI0.1 kx_1 rfl)⟩ ?_
  show At _ none _ _ (0, [(0, .ref 1), (1, .int a1)], [], (_, _)) _
  refine At.enter rfl ?_
  refine r_aload_n rfl ?_
  refine r_iload_n rfl ?_
  refine q_inlV 5 rfl [.ref 1, .int a1] [] (Nat.le_of_ble_eq_true rfl) rfl ?_
  refine Ev.mk rfl rfl ⟨Nat.le_of_ble_eq_true rfl, Or.inr (q_rc hI0.1 kx_1 rfl)⟩ ?_
  show At _ none _ _ (0, [(0, .ref 1), (1, .int a1)], [], (_, _)) _
  refine At.enter rfl ?_
  refine r_iload_n rfl ?_
  refine r_ifs 4 rfl (fun c31 => ?_) (fun c31 => ?_)
  · have c31_ : a1.toInt < 0 := en_k_lt_t c31
    refine At.enter rfl ?_
    refine r_iconst 0 rfl ?_
    refine Ar.fall 17 rfl ?_
    refine At.enter rfl ?_
    refine q_iretz (by decide) ?_
    refine At.enter rfl ?_
    refine r_ift (by decide) ?_
    refine At.enter rfl ?_
    refine r_vret ?_
    exact ⟨_, rfl, hI0, hF0, rfl⟩
  · have c31_ : a1.toInt ≥ 0 := en_k_lt_f c31
    refine At.enter rfl ?_
    refine r_iload_n rfl ?_
    refine r_aload_n rfl ?_
    obtain ⟨v32, hv32⟩ : ∃ v, gI g0 1 4 = v := ⟨_, rfl⟩
    have rv32 := RgF.at hI0.2.1 (p := 1) (b := 4) rfl
    rw [hv32] at rv32
    dsimp only at rv32
    refine q_getI (Sh.int hI0.1 kx_1 rfl) v32 hv32 ?_
    have bv34 := q_bnd a1
    have bv35 := q_bnd v32
    refine r_ics 12 rfl (fun c33 => ?_) (fun c33 => ?_)
    · have c33_ : a1.toInt ≥ v32.toInt := en_i_ge_t c33
      refine At.enter rfl ?_
      refine r_iconst 0 rfl ?_
      refine Ar.fall 17 rfl ?_
      refine At.enter rfl ?_
      refine q_iretz (by decide) ?_
      refine At.enter rfl ?_
      refine r_ift (by decide) ?_
      refine At.enter rfl ?_
      refine r_vret ?_
      exact ⟨_, rfl, hI0, hF0, rfl⟩
    · have c33_ : a1.toInt < v32.toInt := en_i_ge_f c33
      refine At.enter rfl ?_
      refine r_iconst 1 rfl ?_
      refine r_goto ?_
      refine At.enter rfl ?_
      refine q_iretz (by decide) ?_
      refine At.enter rfl ?_
      refine r_iff 8 rfl (by decide) ?_
      refine At.enter rfl ?_
      refine r_iload_n rfl ?_
      refine r_iconst 1 rfl ?_
      refine q_iadd (a1.toInt + 1) rfl (by omega) (fun v36 hv36 => ?_)
      refine r_bipush 6 rfl ?_
      refine q_imul (v36.toInt * 6) rfl (by omega) (fun v37 hv37 => ?_)
      refine r_istore_n ([(2, .int v37), (0, .ref 1), (1, .int a1)]) rfl ?_
      refine r_aload_n rfl ?_
      refine q_getR (Sh.ref hI0.1 kx_1 rfl) ?_
      refine r_iload_n rfl ?_
      refine r_aload_n rfl ?_
      refine q_getR (Sh.ref hI0.1 kx_1 rfl) ?_
      refine r_iload_n rfl ?_
      refine r_bipush 6 rfl ?_
      refine q_imul (a1.toInt * 6) rfl (by omega) (fun v38 hv38 => ?_)
      refine r_aload_n rfl ?_
      refine q_getI (Sh.int hI0.1 kx_1 rfl) v32 hv32 ?_
      refine r_bipush 6 rfl ?_
      refine q_imul (v32.toInt * 6) rfl (by omega) (fun v39 hv39 => ?_)
      refine r_iload_n rfl ?_
      refine q_isub (v39.toInt - v37.toInt) rfl (by omega) (fun v40 hv40 => ?_)
      refine q_cpy rfl (Nat.le_of_ble_eq_true rfl) (Sh.arr hI0.1 ka_5) (Sh.arr hI0.1 ka_5) ⟨by omega, by omega, by omega, by omega, by omega⟩ ?_
      have hI41 := HI.cpy0 hI0 ka_5 ka_5 rfl rfl ((v37 : Int32).toInt.toNat) ((v38 : Int32).toInt.toNat) ((v40 : Int32).toInt.toNat) (by omega) (by omega)
      have hF42 := Fr.cpy (p0 := 5) (p1 := 5) hF0 rfl ((v37 : Int32).toInt.toNat) ((v38 : Int32).toInt.toNat) ((v40 : Int32).toInt.toNat)
      refine r_aload_n rfl ?_
      refine r_dup rfl ?_
      refine q_getI (Sh.int hI41.1 kx_1 rfl) v32 ((gI_sW).trans hv32) ?_
      refine r_iconst 1 rfl ?_
      refine q_isub (v32.toInt - 1) rfl (by omega) (fun v43 hv43 => ?_)
      refine q_putI (Sh.int hI41.1 kx_1 rfl) rfl ?_
      have hI44 := HI.wI1 hI41 kx_1 rfl (p := 1) (b := 4) (v := v43) rfl (by dsimp only; omega)
      have hF45 := Fr.wI (p := 1) (b := 4) (v := v43) hF42 rfl
      refine Ar.fall 50 rfl ?_
      refine At.enter rfl ?_
      refine r_vret ?_
      exact ⟨_, rfl, hI44, hF45, rfl⟩

def F_X10_stand_0 : List (Nat × Nat) := [(0, 14), (0, 17), (1, 0), (220, 2), (222, 2), (223, 5), (223, 10)]
def A_X10_stand_0 : List Nat := [2, 3, 4, 230]
set_option maxRecDepth 100000 in
set_option maxHeartbeats 4000000 in
theorem T_X10_stand_0 (d : Nat) {N : Nat} {g0 : List en_E} (hI0 : HI g0) (a1 : Int32) (a2 : Int32) (a3 : Int32) : Ev (d + 3) 104 [.ref 0, .int a1, .int a2, .int a3] (g0, N) (fun w h' => ∃ g', h' = (g', N) ∧ HI g' ∧ Fr F_X10_stand_0 A_X10_stand_0 g0 g' ∧ ∃ r : Int32, w = some (.int r) ∧ ((-5) ≤ r.toInt ∧ r.toInt ≤ 11) ∧ ((¬ (-1 ≤ a1.toInt ∧ a1.toInt ≤ 11 ∧ 1 ≤ a2.toInt ∧ a2.toInt ≤ 9 ∧ 0 ≤ a3.toInt ∧ a3.toInt ≤ 99) → r.toInt = -1 ∧ (gI g' 1 0).toInt = (gI g0 1 0).toInt) ∧ ((-1 ≤ a1.toInt ∧ a1.toInt ≤ 11 ∧ 1 ≤ a2.toInt ∧ a2.toInt ≤ 9 ∧ 0 ≤ a3.toInt ∧ a3.toInt ≤ 99) ∧ 12 ≤ (gI g0 1 0).toInt → r.toInt = -5 ∧ (gI g' 1 0).toInt = (gI g0 1 0).toInt) ∧ ((-1 ≤ a1.toInt ∧ a1.toInt ≤ 11 ∧ 1 ≤ a2.toInt ∧ a2.toInt ≤ 9 ∧ 0 ≤ a3.toInt ∧ a3.toInt ≤ 99) ∧ (gI g0 1 0).toInt < 12 → r.toInt = (gI g0 1 0).toInt ∧ (gI g' 1 0).toInt = (gI g0 1 0).toInt + 1))) := by
  have hF0 : Fr F_X10_stand_0 A_X10_stand_0 g0 g0 := Fr.rf
  refine Ev.mk rfl rfl ⟨Nat.le_of_ble_eq_true rfl, Or.inr (q_rc hI0.1 kx_0 rfl)⟩ ?_
  show At _ none _ _ (0, [(0, .ref 0), (1, .int a1), (2, .int a2), (3, .int a3)], [], (_, _)) _
  refine At.enter rfl ?_
  refine r_iload_n rfl ?_
  refine r_iconst (-1) rfl ?_
  refine r_bipush 11 rfl ?_
  refine q_inlS 7 rfl [.int a1, .int (-1), .int 11] [] (Nat.le_of_ble_eq_true rfl) rfl ?_
  refine Ev.mk rfl rfl ⟨Nat.le_of_ble_eq_true rfl, Or.inl rfl⟩ ?_
  show At _ none _ _ (0, [(0, .int a1), (1, .int (-1)), (2, .int 11)], [], (_, _)) _
  refine At.enter rfl ?_
  refine r_iload_n rfl ?_
  refine r_iload_n rfl ?_
  refine r_ics 5 rfl (fun c153 => ?_) (fun c153 => ?_)
  · have c153_ : a1.toInt < (-1) := en_i_lt_t c153
    refine At.enter rfl ?_
    refine r_iconst 0 rfl ?_
    refine Ar.fall 15 rfl ?_
    refine At.enter rfl ?_
    refine q_iretz (by decide) ?_
    refine At.enter rfl ?_
    refine r_ift (by decide) ?_
    refine At.enter rfl ?_
    refine r_aload_n rfl ?_
    refine r_iconst (-1) rfl ?_
    refine r_callV 29 rfl [.ref 0, .int (-1)] [] (Nat.le_of_ble_eq_true rfl) rfl (T_X10_refused_0 _ hI0 (-1) (by decide)) ?_
    rintro _ _ ⟨g154, rfl, hI155, hF156, v157, rfl, hr158⟩
    refine At.sti ?_
    have hF159 := Fr.tr hF0 hF156 rfl rfl
    have zv160 : ((-1) : Int32).toInt = (-1) := rfl
    refine At.enter rfl ?_
    refine r_ireti ?_
    obtain ⟨v161, hv161⟩ : ∃ v, eA g0 233 0 = v := ⟨_, rfl⟩
    have tv161 := congrArg Int32.toInt hv161
    have wv161 := HI.t0 hI0
    rw [hv161] at wv161
    have tv161 := congrArg Int32.toInt hv161
    have x162 := HI.eqA hI155 (p := 233) (j := 0) (((eA_c (hF156.2.1 233 (by decide))).trans hv161))
    obtain ⟨v163, hv163⟩ : ∃ v, eA g0 233 4 = v := ⟨_, rfl⟩
    have wv163 := HI.t4 hI0
    rw [hv163] at wv163
    have tv163 := congrArg Int32.toInt hv163
    have x164 := HI.eqA hI155 (p := 233) (j := 4) (((eA_c (hF156.2.1 233 (by decide))).trans hv163))
    obtain ⟨v165, hv165⟩ : ∃ v, eA g0 233 5 = v := ⟨_, rfl⟩
    have wv165 := HI.t5 hI0
    rw [hv165] at wv165
    have tv165 := congrArg Int32.toInt hv165
    have x166 := HI.eqA hI155 (p := 233) (j := 5) (((eA_c (hF156.2.1 233 (by decide))).trans hv165))
    obtain ⟨v167, hv167⟩ : ∃ v, eA g0 233 6 = v := ⟨_, rfl⟩
    have wv167 := HI.t6 hI0
    rw [hv167] at wv167
    have tv167 := congrArg Int32.toInt hv167
    have x168 := HI.eqA hI155 (p := 233) (j := 6) (((eA_c (hF156.2.1 233 (by decide))).trans hv167))
    have x169 := HI.eqA hI0 (p := 233) (j := 0) (hv161)
    have x170 := HI.eqA hI0 (p := 233) (j := 4) (hv163)
    have x171 := HI.eqA hI0 (p := 233) (j := 5) (hv165)
    have x172 := HI.eqA hI0 (p := 233) (j := 6) (hv167)
    exact ⟨_, rfl, hI155, hF159, _, rfl, by omega, ⟨by omega, by omega, by omega, by omega⟩⟩
  · have c153_ : a1.toInt ≥ (-1) := en_i_lt_f c153
    refine At.enter rfl ?_
    refine r_iload_n rfl ?_
    refine r_iload_n rfl ?_
    refine r_ics 10 rfl (fun c173 => ?_) (fun c173 => ?_)
    · have c173_ : a1.toInt > 11 := en_i_gt_t c173
      refine At.enter rfl ?_
      refine r_iconst 0 rfl ?_
      refine Ar.fall 15 rfl ?_
      refine At.enter rfl ?_
      refine q_iretz (by decide) ?_
      refine At.enter rfl ?_
      refine r_ift (by decide) ?_
      refine At.enter rfl ?_
      refine r_aload_n rfl ?_
      refine r_iconst (-1) rfl ?_
      refine r_callV 29 rfl [.ref 0, .int (-1)] [] (Nat.le_of_ble_eq_true rfl) rfl (T_X10_refused_0 _ hI0 (-1) (by decide)) ?_
      rintro _ _ ⟨g174, rfl, hI175, hF176, v177, rfl, hr178⟩
      refine At.sti ?_
      have hF179 := Fr.tr hF0 hF176 rfl rfl
      have zv180 : ((-1) : Int32).toInt = (-1) := rfl
      refine At.enter rfl ?_
      refine r_ireti ?_
      obtain ⟨v181, hv181⟩ : ∃ v, eA g0 233 0 = v := ⟨_, rfl⟩
      have tv181 := congrArg Int32.toInt hv181
      have wv181 := HI.t0 hI0
      rw [hv181] at wv181
      have tv181 := congrArg Int32.toInt hv181
      have x182 := HI.eqA hI175 (p := 233) (j := 0) (((eA_c (hF176.2.1 233 (by decide))).trans hv181))
      obtain ⟨v183, hv183⟩ : ∃ v, eA g0 233 4 = v := ⟨_, rfl⟩
      have wv183 := HI.t4 hI0
      rw [hv183] at wv183
      have tv183 := congrArg Int32.toInt hv183
      have x184 := HI.eqA hI175 (p := 233) (j := 4) (((eA_c (hF176.2.1 233 (by decide))).trans hv183))
      obtain ⟨v185, hv185⟩ : ∃ v, eA g0 233 5 = v := ⟨_, rfl⟩
      have wv185 := HI.t5 hI0
      rw [hv185] at wv185
      have tv185 := congrArg Int32.toInt hv185
      have x186 := HI.eqA hI175 (p := 233) (j := 5) (((eA_c (hF176.2.1 233 (by decide))).trans hv185))
      obtain ⟨v187, hv187⟩ : ∃ v, eA g0 233 6 = v := ⟨_, rfl⟩
      have wv187 := HI.t6 hI0
      rw [hv187] at wv187
      have tv187 := congrArg Int32.toInt hv187
      have x188 := HI.eqA hI175 (p := 233) (j := 6) (((eA_c (hF176.2.1 233 (by decide))).trans hv187))
      have x189 := HI.eqA hI0 (p := 233) (j := 0) (hv181)
      have x190 := HI.eqA hI0 (p := 233) (j := 4) (hv183)
      have x191 := HI.eqA hI0 (p := 233) (j := 5) (hv185)
      have x192 := HI.eqA hI0 (p := 233) (j := 6) (hv187)
      exact ⟨_, rfl, hI175, hF179, _, rfl, by omega, ⟨by omega, by omega, by omega, by omega⟩⟩
    · have c173_ : a1.toInt ≤ 11 := en_i_gt_f c173
      refine At.enter rfl ?_
      refine r_iconst 1 rfl ?_
      refine r_goto ?_
      refine At.enter rfl ?_
      refine q_iretz (by decide) ?_
      refine At.enter rfl ?_
      refine r_iff 10 rfl (by decide) ?_
      refine At.enter rfl ?_
      refine r_iload_n rfl ?_
      refine q_inlS 14 rfl [.int a2] [] (Nat.le_of_ble_eq_true rfl) rfl ?_
      refine Ev.mk rfl rfl ⟨Nat.le_of_ble_eq_true rfl, Or.inl rfl⟩ ?_
      show At _ none _ _ (0, [(0, .int a2)], [], (_, _)) _
      refine At.enter rfl ?_
      refine r_iload_n rfl ?_
      refine r_iconst 1 rfl ?_
      refine r_bipush 9 rfl ?_
      refine q_inlS 7 rfl [.int a2, .int 1, .int 9] [] (Nat.le_of_ble_eq_true rfl) rfl ?_
      refine Ev.mk rfl rfl ⟨Nat.le_of_ble_eq_true rfl, Or.inl rfl⟩ ?_
      show At _ none _ _ (0, [(0, .int a2), (1, .int 1), (2, .int 9)], [], (_, _)) _
      refine At.enter rfl ?_
      refine r_iload_n rfl ?_
      refine r_iload_n rfl ?_
      refine r_ics 5 rfl (fun c193 => ?_) (fun c193 => ?_)
      · have c193_ : a2.toInt < 1 := en_i_lt_t c193
        refine At.enter rfl ?_
        refine r_iconst 0 rfl ?_
        refine Ar.fall 15 rfl ?_
        refine At.enter rfl ?_
        refine q_iretz (by decide) ?_
        refine At.enter rfl ?_
        refine q_iretz (by decide) ?_
        refine At.enter rfl ?_
        refine r_ift (by decide) ?_
        refine At.enter rfl ?_
        refine r_aload_n rfl ?_
        refine r_iconst (-1) rfl ?_
        refine r_callV 29 rfl [.ref 0, .int (-1)] [] (Nat.le_of_ble_eq_true rfl) rfl (T_X10_refused_0 _ hI0 (-1) (by decide)) ?_
        rintro _ _ ⟨g194, rfl, hI195, hF196, v197, rfl, hr198⟩
        refine At.sti ?_
        have hF199 := Fr.tr hF0 hF196 rfl rfl
        have zv200 : ((-1) : Int32).toInt = (-1) := rfl
        refine At.enter rfl ?_
        refine r_ireti ?_
        obtain ⟨v201, hv201⟩ : ∃ v, eA g0 233 0 = v := ⟨_, rfl⟩
        have tv201 := congrArg Int32.toInt hv201
        have wv201 := HI.t0 hI0
        rw [hv201] at wv201
        have tv201 := congrArg Int32.toInt hv201
        have x202 := HI.eqA hI195 (p := 233) (j := 0) (((eA_c (hF196.2.1 233 (by decide))).trans hv201))
        obtain ⟨v203, hv203⟩ : ∃ v, eA g0 233 4 = v := ⟨_, rfl⟩
        have wv203 := HI.t4 hI0
        rw [hv203] at wv203
        have tv203 := congrArg Int32.toInt hv203
        have x204 := HI.eqA hI195 (p := 233) (j := 4) (((eA_c (hF196.2.1 233 (by decide))).trans hv203))
        obtain ⟨v205, hv205⟩ : ∃ v, eA g0 233 5 = v := ⟨_, rfl⟩
        have wv205 := HI.t5 hI0
        rw [hv205] at wv205
        have tv205 := congrArg Int32.toInt hv205
        have x206 := HI.eqA hI195 (p := 233) (j := 5) (((eA_c (hF196.2.1 233 (by decide))).trans hv205))
        obtain ⟨v207, hv207⟩ : ∃ v, eA g0 233 6 = v := ⟨_, rfl⟩
        have wv207 := HI.t6 hI0
        rw [hv207] at wv207
        have tv207 := congrArg Int32.toInt hv207
        have x208 := HI.eqA hI195 (p := 233) (j := 6) (((eA_c (hF196.2.1 233 (by decide))).trans hv207))
        have x209 := HI.eqA hI0 (p := 233) (j := 0) (hv201)
        have x210 := HI.eqA hI0 (p := 233) (j := 4) (hv203)
        have x211 := HI.eqA hI0 (p := 233) (j := 5) (hv205)
        have x212 := HI.eqA hI0 (p := 233) (j := 6) (hv207)
        exact ⟨_, rfl, hI195, hF199, _, rfl, by omega, ⟨by omega, by omega, by omega, by omega⟩⟩
      · have c193_ : a2.toInt ≥ 1 := en_i_lt_f c193
        refine At.enter rfl ?_
        refine r_iload_n rfl ?_
        refine r_iload_n rfl ?_
        refine r_ics 10 rfl (fun c213 => ?_) (fun c213 => ?_)
        · have c213_ : a2.toInt > 9 := en_i_gt_t c213
          refine At.enter rfl ?_
          refine r_iconst 0 rfl ?_
          refine Ar.fall 15 rfl ?_
          refine At.enter rfl ?_
          refine q_iretz (by decide) ?_
          refine At.enter rfl ?_
          refine q_iretz (by decide) ?_
          refine At.enter rfl ?_
          refine r_ift (by decide) ?_
          refine At.enter rfl ?_
          refine r_aload_n rfl ?_
          refine r_iconst (-1) rfl ?_
          refine r_callV 29 rfl [.ref 0, .int (-1)] [] (Nat.le_of_ble_eq_true rfl) rfl (T_X10_refused_0 _ hI0 (-1) (by decide)) ?_
          rintro _ _ ⟨g214, rfl, hI215, hF216, v217, rfl, hr218⟩
          refine At.sti ?_
          have hF219 := Fr.tr hF0 hF216 rfl rfl
          have zv220 : ((-1) : Int32).toInt = (-1) := rfl
          refine At.enter rfl ?_
          refine r_ireti ?_
          obtain ⟨v221, hv221⟩ : ∃ v, eA g0 233 0 = v := ⟨_, rfl⟩
          have tv221 := congrArg Int32.toInt hv221
          have wv221 := HI.t0 hI0
          rw [hv221] at wv221
          have tv221 := congrArg Int32.toInt hv221
          have x222 := HI.eqA hI215 (p := 233) (j := 0) (((eA_c (hF216.2.1 233 (by decide))).trans hv221))
          obtain ⟨v223, hv223⟩ : ∃ v, eA g0 233 4 = v := ⟨_, rfl⟩
          have wv223 := HI.t4 hI0
          rw [hv223] at wv223
          have tv223 := congrArg Int32.toInt hv223
          have x224 := HI.eqA hI215 (p := 233) (j := 4) (((eA_c (hF216.2.1 233 (by decide))).trans hv223))
          obtain ⟨v225, hv225⟩ : ∃ v, eA g0 233 5 = v := ⟨_, rfl⟩
          have wv225 := HI.t5 hI0
          rw [hv225] at wv225
          have tv225 := congrArg Int32.toInt hv225
          have x226 := HI.eqA hI215 (p := 233) (j := 5) (((eA_c (hF216.2.1 233 (by decide))).trans hv225))
          obtain ⟨v227, hv227⟩ : ∃ v, eA g0 233 6 = v := ⟨_, rfl⟩
          have wv227 := HI.t6 hI0
          rw [hv227] at wv227
          have tv227 := congrArg Int32.toInt hv227
          have x228 := HI.eqA hI215 (p := 233) (j := 6) (((eA_c (hF216.2.1 233 (by decide))).trans hv227))
          have x229 := HI.eqA hI0 (p := 233) (j := 0) (hv221)
          have x230 := HI.eqA hI0 (p := 233) (j := 4) (hv223)
          have x231 := HI.eqA hI0 (p := 233) (j := 5) (hv225)
          have x232 := HI.eqA hI0 (p := 233) (j := 6) (hv227)
          exact ⟨_, rfl, hI215, hF219, _, rfl, by omega, ⟨by omega, by omega, by omega, by omega⟩⟩
        · have c213_ : a2.toInt ≤ 9 := en_i_gt_f c213
          refine At.enter rfl ?_
          refine r_iconst 1 rfl ?_
          refine r_goto ?_
          refine At.enter rfl ?_
          refine q_iretz (by decide) ?_
          refine At.enter rfl ?_
          refine q_iretz (by decide) ?_
          refine At.enter rfl ?_
          refine r_iff 17 rfl (by decide) ?_
          refine At.enter rfl ?_
          refine r_iload_n rfl ?_
          refine q_inlS 21 rfl [.int a3] [] (Nat.le_of_ble_eq_true rfl) rfl ?_
          refine Ev.mk rfl rfl ⟨Nat.le_of_ble_eq_true rfl, Or.inl rfl⟩ ?_
          show At _ none _ _ (0, [(0, .int a3)], [], (_, _)) _
          refine At.enter rfl ?_
          refine r_iload_n rfl ?_
          refine r_iconst 0 rfl ?_
          refine r_bipush 99 rfl ?_
          refine q_inlS 7 rfl [.int a3, .int 0, .int 99] [] (Nat.le_of_ble_eq_true rfl) rfl ?_
          refine Ev.mk rfl rfl ⟨Nat.le_of_ble_eq_true rfl, Or.inl rfl⟩ ?_
          show At _ none _ _ (0, [(0, .int a3), (1, .int 0), (2, .int 99)], [], (_, _)) _
          refine At.enter rfl ?_
          refine r_iload_n rfl ?_
          refine r_iload_n rfl ?_
          refine r_ics 5 rfl (fun c233 => ?_) (fun c233 => ?_)
          · have c233_ : a3.toInt < 0 := en_i_lt_t c233
            refine At.enter rfl ?_
            refine r_iconst 0 rfl ?_
            refine Ar.fall 15 rfl ?_
            refine At.enter rfl ?_
            refine q_iretz (by decide) ?_
            refine At.enter rfl ?_
            refine q_iretz (by decide) ?_
            refine At.enter rfl ?_
            refine r_iff 24 rfl (by decide) ?_
            refine At.enter rfl ?_
            refine r_aload_n rfl ?_
            refine r_iconst (-1) rfl ?_
            refine r_callV 29 rfl [.ref 0, .int (-1)] [] (Nat.le_of_ble_eq_true rfl) rfl (T_X10_refused_0 _ hI0 (-1) (by decide)) ?_
            rintro _ _ ⟨g234, rfl, hI235, hF236, v237, rfl, hr238⟩
            refine At.sti ?_
            have hF239 := Fr.tr hF0 hF236 rfl rfl
            have zv240 : ((-1) : Int32).toInt = (-1) := rfl
            refine At.enter rfl ?_
            refine r_ireti ?_
            obtain ⟨v241, hv241⟩ : ∃ v, eA g0 233 0 = v := ⟨_, rfl⟩
            have tv241 := congrArg Int32.toInt hv241
            have wv241 := HI.t0 hI0
            rw [hv241] at wv241
            have tv241 := congrArg Int32.toInt hv241
            have x242 := HI.eqA hI235 (p := 233) (j := 0) (((eA_c (hF236.2.1 233 (by decide))).trans hv241))
            obtain ⟨v243, hv243⟩ : ∃ v, eA g0 233 4 = v := ⟨_, rfl⟩
            have wv243 := HI.t4 hI0
            rw [hv243] at wv243
            have tv243 := congrArg Int32.toInt hv243
            have x244 := HI.eqA hI235 (p := 233) (j := 4) (((eA_c (hF236.2.1 233 (by decide))).trans hv243))
            obtain ⟨v245, hv245⟩ : ∃ v, eA g0 233 5 = v := ⟨_, rfl⟩
            have wv245 := HI.t5 hI0
            rw [hv245] at wv245
            have tv245 := congrArg Int32.toInt hv245
            have x246 := HI.eqA hI235 (p := 233) (j := 5) (((eA_c (hF236.2.1 233 (by decide))).trans hv245))
            obtain ⟨v247, hv247⟩ : ∃ v, eA g0 233 6 = v := ⟨_, rfl⟩
            have wv247 := HI.t6 hI0
            rw [hv247] at wv247
            have tv247 := congrArg Int32.toInt hv247
            have x248 := HI.eqA hI235 (p := 233) (j := 6) (((eA_c (hF236.2.1 233 (by decide))).trans hv247))
            have x249 := HI.eqA hI0 (p := 233) (j := 0) (hv241)
            have x250 := HI.eqA hI0 (p := 233) (j := 4) (hv243)
            have x251 := HI.eqA hI0 (p := 233) (j := 5) (hv245)
            have x252 := HI.eqA hI0 (p := 233) (j := 6) (hv247)
            exact ⟨_, rfl, hI235, hF239, _, rfl, by omega, ⟨by omega, by omega, by omega, by omega⟩⟩
          · have c233_ : a3.toInt ≥ 0 := en_i_lt_f c233
            refine At.enter rfl ?_
            refine r_iload_n rfl ?_
            refine r_iload_n rfl ?_
            refine r_ics 10 rfl (fun c253 => ?_) (fun c253 => ?_)
            · have c253_ : a3.toInt > 99 := en_i_gt_t c253
              refine At.enter rfl ?_
              refine r_iconst 0 rfl ?_
              refine Ar.fall 15 rfl ?_
              refine At.enter rfl ?_
              refine q_iretz (by decide) ?_
              refine At.enter rfl ?_
              refine q_iretz (by decide) ?_
              refine At.enter rfl ?_
              refine r_iff 24 rfl (by decide) ?_
              refine At.enter rfl ?_
              refine r_aload_n rfl ?_
              refine r_iconst (-1) rfl ?_
              refine r_callV 29 rfl [.ref 0, .int (-1)] [] (Nat.le_of_ble_eq_true rfl) rfl (T_X10_refused_0 _ hI0 (-1) (by decide)) ?_
              rintro _ _ ⟨g254, rfl, hI255, hF256, v257, rfl, hr258⟩
              refine At.sti ?_
              have hF259 := Fr.tr hF0 hF256 rfl rfl
              have zv260 : ((-1) : Int32).toInt = (-1) := rfl
              refine At.enter rfl ?_
              refine r_ireti ?_
              obtain ⟨v261, hv261⟩ : ∃ v, eA g0 233 0 = v := ⟨_, rfl⟩
              have tv261 := congrArg Int32.toInt hv261
              have wv261 := HI.t0 hI0
              rw [hv261] at wv261
              have tv261 := congrArg Int32.toInt hv261
              have x262 := HI.eqA hI255 (p := 233) (j := 0) (((eA_c (hF256.2.1 233 (by decide))).trans hv261))
              obtain ⟨v263, hv263⟩ : ∃ v, eA g0 233 4 = v := ⟨_, rfl⟩
              have wv263 := HI.t4 hI0
              rw [hv263] at wv263
              have tv263 := congrArg Int32.toInt hv263
              have x264 := HI.eqA hI255 (p := 233) (j := 4) (((eA_c (hF256.2.1 233 (by decide))).trans hv263))
              obtain ⟨v265, hv265⟩ : ∃ v, eA g0 233 5 = v := ⟨_, rfl⟩
              have wv265 := HI.t5 hI0
              rw [hv265] at wv265
              have tv265 := congrArg Int32.toInt hv265
              have x266 := HI.eqA hI255 (p := 233) (j := 5) (((eA_c (hF256.2.1 233 (by decide))).trans hv265))
              obtain ⟨v267, hv267⟩ : ∃ v, eA g0 233 6 = v := ⟨_, rfl⟩
              have wv267 := HI.t6 hI0
              rw [hv267] at wv267
              have tv267 := congrArg Int32.toInt hv267
              have x268 := HI.eqA hI255 (p := 233) (j := 6) (((eA_c (hF256.2.1 233 (by decide))).trans hv267))
              have x269 := HI.eqA hI0 (p := 233) (j := 0) (hv261)
              have x270 := HI.eqA hI0 (p := 233) (j := 4) (hv263)
              have x271 := HI.eqA hI0 (p := 233) (j := 5) (hv265)
              have x272 := HI.eqA hI0 (p := 233) (j := 6) (hv267)
              exact ⟨_, rfl, hI255, hF259, _, rfl, by omega, ⟨by omega, by omega, by omega, by omega⟩⟩
            · have c253_ : a3.toInt ≤ 99 := en_i_gt_f c253
              refine At.enter rfl ?_
              refine r_iconst 1 rfl ?_
              refine r_goto ?_
              refine At.enter rfl ?_
              refine q_iretz (by decide) ?_
              refine At.enter rfl ?_
              refine q_iretz (by decide) ?_
              refine At.enter rfl ?_
              refine r_ift (by decide) ?_
              refine At.enter rfl ?_
              refine r_aload_n rfl ?_
              refine q_getR (Sh.ref hI0.1 kx_0 rfl) ?_
              obtain ⟨v273, hv273⟩ : ∃ v, gI g0 1 0 = v := ⟨_, rfl⟩
              have rv273 := RgF.at hI0.2.1 (p := 1) (b := 0) rfl
              rw [hv273] at rv273
              dsimp only at rv273
              refine q_getI (Sh.int hI0.1 kx_1 rfl) v273 hv273 ?_
              refine r_bipush 12 rfl ?_
              refine r_ics 42 rfl (fun c274 => ?_) (fun c274 => ?_)
              · have c274_ : v273.toInt < 12 := en_i_lt_t c274
                refine At.enter rfl ?_
                refine r_aload_n rfl ?_
                refine r_callV 53 rfl [.ref 0] [] (Nat.le_of_ble_eq_true rfl) rfl (T_X10_changed_0 _ hI0) ?_
                rintro _ _ ⟨g275, rfl, hI276, hF277, rfl⟩
                refine At.stn ?_
                have hF280 := Fr.tr hF0 hF277 rfl rfl
                refine At.enter rfl ?_
                refine r_aload_n rfl ?_
                refine r_aload_n rfl ?_
                refine q_getR (Sh.ref hI276.1 kx_0 rfl) ?_
                refine r_iload_n rfl ?_
                refine r_iload_n rfl ?_
                refine r_iload_n rfl ?_
                refine q_inlV 64 rfl [.ref 1, .int a1, .int a2, .int a3] [.ref 0] (Nat.le_of_ble_eq_true rfl) rfl ?_
                refine Ev.mk rfl rfl ⟨Nat.le_of_ble_eq_true rfl, Or.inr (q_rc hI276.1 kx_1 rfl)⟩ ?_
                show At _ none _ _ (0, [(0, .ref 1), (1, .int a1), (2, .int a2), (3, .int a3)], [], (_, _)) _
                refine At.enter rfl ?_
                refine r_aload_n rfl ?_
                refine q_getI (Sh.int hI276.1 kx_1 rfl) v273 ((hF277.1 1 0 (by decide)).trans hv273) ?_
                refine r_bipush 12 rfl ?_
                refine r_ics 9 rfl (fun c281 => ?_) (fun c281 => ?_)
                · have c281_ : v273.toInt < 12 := en_i_lt_t c281
                  refine At.enter rfl ?_
                  refine r_aload_n rfl ?_
                  refine q_getR (Sh.ref hI276.1 kx_1 rfl) ?_
                  refine r_aload_n rfl ?_
                  refine q_getI (Sh.int hI276.1 kx_1 rfl) v273 ((hF277.1 1 0 (by decide)).trans hv273) ?_
                  refine r_iload_n rfl ?_
                  refine q_iast (Sh.arr hI276.1 ka_2) (v273.toInt) rfl (by omega) ?_
                  have hI282 := HI.wA0 hI276 ka_2 (p := 2) rfl rfl (v273.toInt) (a1)
                  have hF283 := Fr.wA (p := 2) (j := v273.toInt) (v := a1) hF280 rfl
                  refine r_aload_n rfl ?_
                  refine q_getR (Sh.ref hI282.1 kx_1 rfl) ?_
                  refine r_aload_n rfl ?_
                  refine q_getI (Sh.int hI282.1 kx_1 rfl) v273 (((gI_sW).trans (hF277.1 1 0 (by decide))).trans hv273) ?_
                  refine r_iload_n rfl ?_
                  refine q_iast (Sh.arr hI282.1 ka_3) (v273.toInt) rfl (by omega) ?_
                  have hI284 := HI.wA0 hI282 ka_3 (p := 3) rfl rfl (v273.toInt) (a2)
                  have hF285 := Fr.wA (p := 3) (j := v273.toInt) (v := a2) hF283 rfl
                  refine r_aload_n rfl ?_
                  refine q_getR (Sh.ref hI284.1 kx_1 rfl) ?_
                  refine r_aload_n rfl ?_
                  refine q_getI (Sh.int hI284.1 kx_1 rfl) v273 (((gI_sW).trans ((gI_sW).trans (hF277.1 1 0 (by decide)))).trans hv273) ?_
                  refine r_iload_n rfl ?_
                  refine q_iast (Sh.arr hI284.1 ka_4) (v273.toInt) rfl (by omega) ?_
                  have hI286 := HI.wA0 hI284 ka_4 (p := 4) rfl rfl (v273.toInt) (a3)
                  have hF287 := Fr.wA (p := 4) (j := v273.toInt) (v := a3) hF285 rfl
                  refine r_aload_n rfl ?_
                  refine r_dup rfl ?_
                  refine q_getI (Sh.int hI286.1 kx_1 rfl) v273 (((gI_sW).trans ((gI_sW).trans ((gI_sW).trans (hF277.1 1 0 (by decide))))).trans hv273) ?_
                  refine r_iconst 1 rfl ?_
                  refine q_iadd (v273.toInt + 1) rfl (by omega) (fun v288 hv288 => ?_)
                  refine q_putI (Sh.int hI286.1 kx_1 rfl) rfl ?_
                  have hI289 := HI.wI1 hI286 kx_1 rfl (p := 1) (b := 0) (v := v288) rfl (by dsimp only; omega)
                  have hF290 := Fr.wI (p := 1) (b := 0) (v := v288) hF287 rfl
                  refine r_aload_n rfl ?_
                  refine q_getI (Sh.int hI289.1 kx_1 rfl) v288 (gI_sI_eq hI286.1 kx_1 rfl _) ?_
                  refine r_iconst 1 rfl ?_
                  refine q_isub (v288.toInt - 1) rfl (by omega) (fun v291 hv291 => ?_)
                  refine q_ireti ?_
                  refine At.enter rfl ?_
                  refine q_inlV 67 rfl [.ref 0, .int v291] [] (Nat.le_of_ble_eq_true rfl) rfl ?_
                  refine Ev.mk rfl rfl ⟨Nat.le_of_ble_eq_true rfl, Or.inr (q_rc hI289.1 kx_0 rfl)⟩ ?_
                  show At _ none _ _ (0, [(0, .ref 0), (1, .int v291)], [], (_, _)) _
                  refine At.enter rfl ?_
                  refine r_aload_n rfl ?_
                  refine r_iconst 0 rfl ?_
                  refine q_putI (Sh.int hI289.1 kx_0 rfl) rfl ?_
                  have hI292 := HI.wI0 hI289 kx_0 rfl (p := 0) (b := 17) (v := 0) rfl
                  have hF293 := Fr.wI (p := 0) (b := 17) (v := 0) hF290 rfl
                  refine r_iload_n rfl ?_
                  refine q_ireti ?_
                  refine At.enter rfl ?_
                  refine r_ireti ?_
                  obtain ⟨v294, hv294⟩ : ∃ v, eA g0 233 0 = v := ⟨_, rfl⟩
                  have tv294 := congrArg Int32.toInt hv294
                  have wv294 := HI.t0 hI0
                  rw [hv294] at wv294
                  have tv294 := congrArg Int32.toInt hv294
                  have x295 := HI.eqA hI292 (p := 233) (j := 0) ((((eA_c gA_sI).trans ((eA_c gA_sI).trans ((eA_c (gA_sA_ne (by decide))).trans ((eA_c (gA_sA_ne (by decide))).trans ((eA_c (gA_sA_ne (by decide))).trans (eA_c (hF277.2.1 233 (by decide)))))))).trans hv294))
                  obtain ⟨v296, hv296⟩ : ∃ v, eA g0 233 4 = v := ⟨_, rfl⟩
                  have wv296 := HI.t4 hI0
                  rw [hv296] at wv296
                  have tv296 := congrArg Int32.toInt hv296
                  have x297 := HI.eqA hI292 (p := 233) (j := 4) ((((eA_c gA_sI).trans ((eA_c gA_sI).trans ((eA_c (gA_sA_ne (by decide))).trans ((eA_c (gA_sA_ne (by decide))).trans ((eA_c (gA_sA_ne (by decide))).trans (eA_c (hF277.2.1 233 (by decide)))))))).trans hv296))
                  obtain ⟨v298, hv298⟩ : ∃ v, eA g0 233 5 = v := ⟨_, rfl⟩
                  have wv298 := HI.t5 hI0
                  rw [hv298] at wv298
                  have tv298 := congrArg Int32.toInt hv298
                  have x299 := HI.eqA hI292 (p := 233) (j := 5) ((((eA_c gA_sI).trans ((eA_c gA_sI).trans ((eA_c (gA_sA_ne (by decide))).trans ((eA_c (gA_sA_ne (by decide))).trans ((eA_c (gA_sA_ne (by decide))).trans (eA_c (hF277.2.1 233 (by decide)))))))).trans hv298))
                  obtain ⟨v300, hv300⟩ : ∃ v, eA g0 233 6 = v := ⟨_, rfl⟩
                  have wv300 := HI.t6 hI0
                  rw [hv300] at wv300
                  have tv300 := congrArg Int32.toInt hv300
                  have x301 := HI.eqA hI292 (p := 233) (j := 6) ((((eA_c gA_sI).trans ((eA_c gA_sI).trans ((eA_c (gA_sA_ne (by decide))).trans ((eA_c (gA_sA_ne (by decide))).trans ((eA_c (gA_sA_ne (by decide))).trans (eA_c (hF277.2.1 233 (by decide)))))))).trans hv300))
                  have x302 := HI.eqA hI0 (p := 233) (j := 0) (hv294)
                  have x303 := HI.eqA hI0 (p := 233) (j := 4) (hv296)
                  have x304 := HI.eqA hI0 (p := 233) (j := 5) (hv298)
                  have x305 := HI.eqA hI0 (p := 233) (j := 6) (hv300)
                  exact ⟨_, rfl, hI292, hF293, _, rfl, by omega, ⟨by omega, by omega, by omega, by omega⟩⟩
                · have c281_ : v273.toInt ≥ 12 := en_i_lt_f c281
                  exfalso; omega
              · have c274_ : v273.toInt ≥ 12 := en_i_lt_f c274
                refine At.enter rfl ?_
                refine r_aload_n rfl ?_
                refine r_bipush (-5) rfl ?_
                refine r_callV 48 rfl [.ref 0, .int (-5)] [] (Nat.le_of_ble_eq_true rfl) rfl (T_X10_refused_0 _ hI0 (-5) (by decide)) ?_
                rintro _ _ ⟨g306, rfl, hI307, hF308, v309, rfl, hr310⟩
                refine At.sti ?_
                have hF311 := Fr.tr hF0 hF308 rfl rfl
                have zv312 : ((-5) : Int32).toInt = (-5) := rfl
                refine At.enter rfl ?_
                refine r_ireti ?_
                obtain ⟨v313, hv313⟩ : ∃ v, eA g0 233 0 = v := ⟨_, rfl⟩
                have tv313 := congrArg Int32.toInt hv313
                have wv313 := HI.t0 hI0
                rw [hv313] at wv313
                have tv313 := congrArg Int32.toInt hv313
                have x314 := HI.eqA hI307 (p := 233) (j := 0) (((eA_c (hF308.2.1 233 (by decide))).trans hv313))
                obtain ⟨v315, hv315⟩ : ∃ v, eA g0 233 4 = v := ⟨_, rfl⟩
                have wv315 := HI.t4 hI0
                rw [hv315] at wv315
                have tv315 := congrArg Int32.toInt hv315
                have x316 := HI.eqA hI307 (p := 233) (j := 4) (((eA_c (hF308.2.1 233 (by decide))).trans hv315))
                obtain ⟨v317, hv317⟩ : ∃ v, eA g0 233 5 = v := ⟨_, rfl⟩
                have wv317 := HI.t5 hI0
                rw [hv317] at wv317
                have tv317 := congrArg Int32.toInt hv317
                have x318 := HI.eqA hI307 (p := 233) (j := 5) (((eA_c (hF308.2.1 233 (by decide))).trans hv317))
                obtain ⟨v319, hv319⟩ : ∃ v, eA g0 233 6 = v := ⟨_, rfl⟩
                have wv319 := HI.t6 hI0
                rw [hv319] at wv319
                have tv319 := congrArg Int32.toInt hv319
                have x320 := HI.eqA hI307 (p := 233) (j := 6) (((eA_c (hF308.2.1 233 (by decide))).trans hv319))
                have x321 := HI.eqA hI0 (p := 233) (j := 0) (hv313)
                have x322 := HI.eqA hI0 (p := 233) (j := 4) (hv315)
                have x323 := HI.eqA hI0 (p := 233) (j := 5) (hv317)
                have x324 := HI.eqA hI0 (p := 233) (j := 6) (hv319)
                exact ⟨_, rfl, hI307, hF311, _, rfl, by omega, ⟨by omega, by omega, by omega, by omega⟩⟩

def F_X10_put_0 : List (Nat × Nat) := [(0, 14), (0, 17), (220, 2), (222, 2), (223, 5), (223, 10)]
def A_X10_put_0 : List Nat := [2, 3, 4, 230]
set_option maxRecDepth 100000 in
set_option maxHeartbeats 4000000 in
theorem T_X10_put_0 (d : Nat) {N : Nat} {g0 : List en_E} (hI0 : HI g0) (a1 : Int32) (a2 : Int32) (a3 : Int32) : Ev (d + 3) 105 [.ref 0, .int a1, .int a2, .int a3] (g0, N) (fun w h' => ∃ g', h' = (g', N) ∧ HI g' ∧ Fr F_X10_put_0 A_X10_put_0 g0 g' ∧ ∃ r : Int32, w = some (.int r) ∧ True) := by
  have hF0 : Fr F_X10_put_0 A_X10_put_0 g0 g0 := Fr.rf
  refine Ev.mk rfl rfl ⟨Nat.le_of_ble_eq_true rfl, Or.inr (q_rc hI0.1 kx_0 rfl)⟩ ?_
  show At _ none _ _ (0, [(0, .ref 0), (1, .int a1), (2, .int a2), (3, .int a3)], [], (_, _)) _
  refine At.enter rfl ?_
  refine r_iload_n rfl ?_
  refine r_ifs 4 rfl (fun c319 => ?_) (fun c319 => ?_)
  · have c319_ : a2.toInt ≠ 0 := en_k_ne_t c319
    refine At.enter rfl ?_
    refine r_iload_n rfl ?_
    refine r_iconst 1 rfl ?_
    refine r_ics 19 rfl (fun c320 => ?_) (fun c320 => ?_)
    · have c320_ : a2.toInt ≠ 1 := en_i_ne_t c320
      refine At.enter rfl ?_
      refine r_iload_n rfl ?_
      refine r_iconst 2 rfl ?_
      refine r_ics 31 rfl (fun c321 => ?_) (fun c321 => ?_)
      · have c321_ : a2.toInt ≠ 2 := en_i_ne_t c321
        refine At.enter rfl ?_
        refine r_iconst 0 rfl ?_
        refine Ar.fall 43 rfl ?_
        refine At.enter rfl ?_
        refine r_istore ([(4, .int 0), (0, .ref 0), (1, .int a1), (2, .int a2), (3, .int a3)]) rfl ?_
        refine r_iload rfl ?_
        refine r_iff 50 rfl (by decide) ?_
        refine At.enter rfl ?_
        refine r_aload_n rfl ?_
        refine r_iconst (-1) rfl ?_
        refine r_callV 55 rfl [.ref 0, .int (-1)] [] (Nat.le_of_ble_eq_true rfl) rfl (T_X10_refused_0 _ hI0 (-1) (by decide)) ?_
        rintro _ _ ⟨g322, rfl, hI323, hF324, v325, rfl, hr326⟩
        refine At.sti ?_
        have hF327 := Fr.tr hF0 hF324 rfl rfl
        have zv328 : ((-1) : Int32).toInt = (-1) := rfl
        refine At.enter rfl ?_
        refine r_ireti ?_
        exact ⟨_, rfl, hI323, hF327, _, rfl, trivial⟩
      · have c321_ : a2.toInt = 2 := en_i_ne_f c321
        refine At.enter rfl ?_
        refine r_iload_n rfl ?_
        refine q_inlS 35 rfl [.int a3] [] (Nat.le_of_ble_eq_true rfl) rfl ?_
        refine Ev.mk rfl rfl ⟨Nat.le_of_ble_eq_true rfl, Or.inl rfl⟩ ?_
        show At _ none _ _ (0, [(0, .int a3)], [], (_, _)) _
        refine At.enter rfl ?_
        refine r_iload_n rfl ?_
        refine r_iconst 0 rfl ?_
        refine r_bipush 99 rfl ?_
        refine q_inlS 7 rfl [.int a3, .int 0, .int 99] [] (Nat.le_of_ble_eq_true rfl) rfl ?_
        refine Ev.mk rfl rfl ⟨Nat.le_of_ble_eq_true rfl, Or.inl rfl⟩ ?_
        show At _ none _ _ (0, [(0, .int a3), (1, .int 0), (2, .int 99)], [], (_, _)) _
        refine At.enter rfl ?_
        refine r_iload_n rfl ?_
        refine r_iload_n rfl ?_
        refine r_ics 5 rfl (fun c329 => ?_) (fun c329 => ?_)
        · have c329_ : a3.toInt < 0 := en_i_lt_t c329
          refine At.enter rfl ?_
          refine r_iconst 0 rfl ?_
          refine Ar.fall 15 rfl ?_
          refine At.enter rfl ?_
          refine q_iretz (by decide) ?_
          refine At.enter rfl ?_
          refine q_iretz (by decide) ?_
          refine At.enter rfl ?_
          refine r_ift (by decide) ?_
          refine At.enter rfl ?_
          refine r_iconst 0 rfl ?_
          refine Ar.fall 43 rfl ?_
          refine At.enter rfl ?_
          refine r_istore ([(4, .int 0), (0, .ref 0), (1, .int a1), (2, .int a2), (3, .int a3)]) rfl ?_
          refine r_iload rfl ?_
          refine r_iff 50 rfl (by decide) ?_
          refine At.enter rfl ?_
          refine r_aload_n rfl ?_
          refine r_iconst (-1) rfl ?_
          refine r_callV 55 rfl [.ref 0, .int (-1)] [] (Nat.le_of_ble_eq_true rfl) rfl (T_X10_refused_0 _ hI0 (-1) (by decide)) ?_
          rintro _ _ ⟨g330, rfl, hI331, hF332, v333, rfl, hr334⟩
          refine At.sti ?_
          have hF335 := Fr.tr hF0 hF332 rfl rfl
          have zv336 : ((-1) : Int32).toInt = (-1) := rfl
          refine At.enter rfl ?_
          refine r_ireti ?_
          exact ⟨_, rfl, hI331, hF335, _, rfl, trivial⟩
        · have c329_ : a3.toInt ≥ 0 := en_i_lt_f c329
          refine At.enter rfl ?_
          refine r_iload_n rfl ?_
          refine r_iload_n rfl ?_
          refine r_ics 10 rfl (fun c337 => ?_) (fun c337 => ?_)
          · have c337_ : a3.toInt > 99 := en_i_gt_t c337
            refine At.enter rfl ?_
            refine r_iconst 0 rfl ?_
            refine Ar.fall 15 rfl ?_
            refine At.enter rfl ?_
            refine q_iretz (by decide) ?_
            refine At.enter rfl ?_
            refine q_iretz (by decide) ?_
            refine At.enter rfl ?_
            refine r_ift (by decide) ?_
            refine At.enter rfl ?_
            refine r_iconst 0 rfl ?_
            refine Ar.fall 43 rfl ?_
            refine At.enter rfl ?_
            refine r_istore ([(4, .int 0), (0, .ref 0), (1, .int a1), (2, .int a2), (3, .int a3)]) rfl ?_
            refine r_iload rfl ?_
            refine r_iff 50 rfl (by decide) ?_
            refine At.enter rfl ?_
            refine r_aload_n rfl ?_
            refine r_iconst (-1) rfl ?_
            refine r_callV 55 rfl [.ref 0, .int (-1)] [] (Nat.le_of_ble_eq_true rfl) rfl (T_X10_refused_0 _ hI0 (-1) (by decide)) ?_
            rintro _ _ ⟨g338, rfl, hI339, hF340, v341, rfl, hr342⟩
            refine At.sti ?_
            have hF343 := Fr.tr hF0 hF340 rfl rfl
            have zv344 : ((-1) : Int32).toInt = (-1) := rfl
            refine At.enter rfl ?_
            refine r_ireti ?_
            exact ⟨_, rfl, hI339, hF343, _, rfl, trivial⟩
          · have c337_ : a3.toInt ≤ 99 := en_i_gt_f c337
            refine At.enter rfl ?_
            refine r_iconst 1 rfl ?_
            refine r_goto ?_
            refine At.enter rfl ?_
            refine q_iretz (by decide) ?_
            refine At.enter rfl ?_
            refine q_iretz (by decide) ?_
            refine At.enter rfl ?_
            refine r_iff 38 rfl (by decide) ?_
            refine At.enter rfl ?_
            refine r_iconst 1 rfl ?_
            refine r_goto ?_
            refine At.enter rfl ?_
            refine r_istore ([(4, .int 1), (0, .ref 0), (1, .int a1), (2, .int a2), (3, .int a3)]) rfl ?_
            refine r_iload rfl ?_
            refine r_ift (by decide) ?_
            refine At.enter rfl ?_
            refine r_aload_n rfl ?_
            refine q_getR (Sh.ref hI0.1 kx_0 rfl) ?_
            refine r_iload_n rfl ?_
            refine q_inlV 64 rfl [.ref 1, .int a1] [] (Nat.le_of_ble_eq_true rfl) rfl ?_
            refine Ev.mk rfl rfl ⟨Nat.le_of_ble_eq_true rfl, Or.inr (q_rc hI0.1 kx_1 rfl)⟩ ?_
            show At _ none _ _ (0, [(0, .ref 1), (1, .int a1)], [], (_, _)) _
            refine At.enter rfl ?_
            refine r_iload_n rfl ?_
            refine r_ifs 4 rfl (fun c345 => ?_) (fun c345 => ?_)
            · have c345_ : a1.toInt < 0 := en_k_lt_t c345
              refine At.enter rfl ?_
              refine r_iconst 0 rfl ?_
              refine Ar.fall 17 rfl ?_
              refine At.enter rfl ?_
              refine q_iretz (by decide) ?_
              refine At.enter rfl ?_
              refine r_iff 67 rfl (by decide) ?_
              refine At.enter rfl ?_
              refine r_aload_n rfl ?_
              refine r_bipush (-2) rfl ?_
              refine r_callV 73 rfl [.ref 0, .int (-2)] [] (Nat.le_of_ble_eq_true rfl) rfl (T_X10_refused_0 _ hI0 (-2) (by decide)) ?_
              rintro _ _ ⟨g346, rfl, hI347, hF348, v349, rfl, hr350⟩
              refine At.sti ?_
              have hF351 := Fr.tr hF0 hF348 rfl rfl
              have zv352 : ((-2) : Int32).toInt = (-2) := rfl
              refine At.enter rfl ?_
              refine r_ireti ?_
              exact ⟨_, rfl, hI347, hF351, _, rfl, trivial⟩
            · have c345_ : a1.toInt ≥ 0 := en_k_lt_f c345
              refine At.enter rfl ?_
              refine r_iload_n rfl ?_
              refine r_aload_n rfl ?_
              obtain ⟨v353, hv353⟩ : ∃ v, gI g0 1 0 = v := ⟨_, rfl⟩
              have rv353 := RgF.at hI0.2.1 (p := 1) (b := 0) rfl
              rw [hv353] at rv353
              dsimp only at rv353
              refine q_getI (Sh.int hI0.1 kx_1 rfl) v353 hv353 ?_
              have bv355 := q_bnd a1
              have bv356 := q_bnd v353
              refine r_ics 12 rfl (fun c354 => ?_) (fun c354 => ?_)
              · have c354_ : a1.toInt ≥ v353.toInt := en_i_ge_t c354
                refine At.enter rfl ?_
                refine r_iconst 0 rfl ?_
                refine Ar.fall 17 rfl ?_
                refine At.enter rfl ?_
                refine q_iretz (by decide) ?_
                refine At.enter rfl ?_
                refine r_iff 67 rfl (by decide) ?_
                refine At.enter rfl ?_
                refine r_aload_n rfl ?_
                refine r_bipush (-2) rfl ?_
                refine r_callV 73 rfl [.ref 0, .int (-2)] [] (Nat.le_of_ble_eq_true rfl) rfl (T_X10_refused_0 _ hI0 (-2) (by decide)) ?_
                rintro _ _ ⟨g357, rfl, hI358, hF359, v360, rfl, hr361⟩
                refine At.sti ?_
                have hF362 := Fr.tr hF0 hF359 rfl rfl
                have zv363 : ((-2) : Int32).toInt = (-2) := rfl
                refine At.enter rfl ?_
                refine r_ireti ?_
                exact ⟨_, rfl, hI358, hF362, _, rfl, trivial⟩
              · have c354_ : a1.toInt < v353.toInt := en_i_ge_f c354
                refine At.enter rfl ?_
                refine r_iconst 1 rfl ?_
                refine r_goto ?_
                refine At.enter rfl ?_
                refine q_iretz (by decide) ?_
                refine At.enter rfl ?_
                refine r_ift (by decide) ?_
                refine At.enter rfl ?_
                refine r_iload_n rfl ?_
                refine r_ifs 78 rfl (fun c364 => ?_) (fun c364 => ?_)
                · have c364_ : a2.toInt ≠ 0 := en_k_ne_t c364
                  refine At.enter rfl ?_
                  refine r_iload_n rfl ?_
                  refine r_iconst 1 rfl ?_
                  refine r_ics 93 rfl (fun c365 => ?_) (fun c365 => ?_)
                  · have c365_ : a2.toInt ≠ 1 := en_i_ne_t c365
                    refine At.enter rfl ?_
                    refine r_aload_n rfl ?_
                    refine q_getR (Sh.ref hI0.1 kx_0 rfl) ?_
                    refine q_getR (Sh.ref hI0.1 kx_1 rfl) ?_
                    refine Ar.fall 110 rfl ?_
                    refine At.enter rfl ?_
                    refine r_astore ([(5, .ref 4), (4, .int 1), (0, .ref 0), (1, .int a1), (2, .int a2), (3, .int a3)]) rfl ?_
                    refine r_aload rfl ?_
                    refine r_iload_n rfl ?_
                    obtain ⟨v366, hv366⟩ : ∃ v, eA g0 4 a1.toInt = v := ⟨_, rfl⟩
                    refine q_iald (Sh.arr hI0.1 ka_4) a1.toInt rfl (by omega) v366 hv366 ?_
                    refine r_istore ([(6, .int v366), (5, .ref 4), (4, .int 1), (0, .ref 0), (1, .int a1), (2, .int a2), (3, .int a3)]) rfl ?_
                    refine r_aload rfl ?_
                    refine r_iload_n rfl ?_
                    refine r_iload_n rfl ?_
                    refine q_iast (Sh.arr hI0.1 ka_4) (a1.toInt) rfl (by omega) ?_
                    have hI367 := HI.wA0 hI0 ka_4 (p := 4) rfl rfl (a1.toInt) (a3)
                    have hF368 := Fr.wA (p := 4) (j := a1.toInt) (v := a3) hF0 rfl
                    refine r_aload_n rfl ?_
                    refine r_callV 127 rfl [.ref 0] [] (Nat.le_of_ble_eq_true rfl) rfl (T_X10_changed_0 _ hI367) ?_
                    rintro _ _ ⟨g369, rfl, hI370, hF371, rfl⟩
                    refine At.stn ?_
                    have hF374 := Fr.tr hF368 hF371 rfl rfl
                    refine At.enter rfl ?_
                    refine r_aload_n rfl ?_
                    refine r_iload rfl ?_
                    refine q_inlV 133 rfl [.ref 0, .int v366] [] (Nat.le_of_ble_eq_true rfl) rfl ?_
                    refine Ev.mk rfl rfl ⟨Nat.le_of_ble_eq_true rfl, Or.inr (q_rc hI370.1 kx_0 rfl)⟩ ?_
                    show At _ none _ _ (0, [(0, .ref 0), (1, .int v366)], [], (_, _)) _
                    refine At.enter rfl ?_
                    refine r_aload_n rfl ?_
                    refine r_iconst 0 rfl ?_
                    refine q_putI (Sh.int hI370.1 kx_0 rfl) rfl ?_
                    have hI375 := HI.wI0 hI370 kx_0 rfl (p := 0) (b := 17) (v := 0) rfl
                    have hF376 := Fr.wI (p := 0) (b := 17) (v := 0) hF374 rfl
                    refine r_iload_n rfl ?_
                    refine q_ireti ?_
                    refine At.enter rfl ?_
                    refine r_ireti ?_
                    exact ⟨_, rfl, hI375, hF376, _, rfl, trivial⟩
                  · have c365_ : a2.toInt = 1 := en_i_ne_f c365
                    exfalso; omega
                · have c364_ : a2.toInt = 0 := en_k_ne_f c364
                  exfalso; omega
    · have c320_ : a2.toInt = 1 := en_i_ne_f c320
      refine At.enter rfl ?_
      refine r_iload_n rfl ?_
      refine q_inlS 23 rfl [.int a3] [] (Nat.le_of_ble_eq_true rfl) rfl ?_
      refine Ev.mk rfl rfl ⟨Nat.le_of_ble_eq_true rfl, Or.inl rfl⟩ ?_
      show At _ none _ _ (0, [(0, .int a3)], [], (_, _)) _
      refine At.enter rfl ?_
      refine r_iload_n rfl ?_
      refine r_iconst 1 rfl ?_
      refine r_bipush 9 rfl ?_
      refine q_inlS 7 rfl [.int a3, .int 1, .int 9] [] (Nat.le_of_ble_eq_true rfl) rfl ?_
      refine Ev.mk rfl rfl ⟨Nat.le_of_ble_eq_true rfl, Or.inl rfl⟩ ?_
      show At _ none _ _ (0, [(0, .int a3), (1, .int 1), (2, .int 9)], [], (_, _)) _
      refine At.enter rfl ?_
      refine r_iload_n rfl ?_
      refine r_iload_n rfl ?_
      refine r_ics 5 rfl (fun c377 => ?_) (fun c377 => ?_)
      · have c377_ : a3.toInt < 1 := en_i_lt_t c377
        refine At.enter rfl ?_
        refine r_iconst 0 rfl ?_
        refine Ar.fall 15 rfl ?_
        refine At.enter rfl ?_
        refine q_iretz (by decide) ?_
        refine At.enter rfl ?_
        refine q_iretz (by decide) ?_
        refine At.enter rfl ?_
        refine r_iff 26 rfl (by decide) ?_
        refine At.enter rfl ?_
        refine r_iload_n rfl ?_
        refine r_iconst 2 rfl ?_
        refine r_ics 31 rfl (fun c378 => ?_) (fun c378 => ?_)
        · have c378_ : a2.toInt ≠ 2 := en_i_ne_t c378
          refine At.enter rfl ?_
          refine r_iconst 0 rfl ?_
          refine Ar.fall 43 rfl ?_
          refine At.enter rfl ?_
          refine r_istore ([(4, .int 0), (0, .ref 0), (1, .int a1), (2, .int a2), (3, .int a3)]) rfl ?_
          refine r_iload rfl ?_
          refine r_iff 50 rfl (by decide) ?_
          refine At.enter rfl ?_
          refine r_aload_n rfl ?_
          refine r_iconst (-1) rfl ?_
          refine r_callV 55 rfl [.ref 0, .int (-1)] [] (Nat.le_of_ble_eq_true rfl) rfl (T_X10_refused_0 _ hI0 (-1) (by decide)) ?_
          rintro _ _ ⟨g379, rfl, hI380, hF381, v382, rfl, hr383⟩
          refine At.sti ?_
          have hF384 := Fr.tr hF0 hF381 rfl rfl
          have zv385 : ((-1) : Int32).toInt = (-1) := rfl
          refine At.enter rfl ?_
          refine r_ireti ?_
          exact ⟨_, rfl, hI380, hF384, _, rfl, trivial⟩
        · have c378_ : a2.toInt = 2 := en_i_ne_f c378
          exfalso; omega
      · have c377_ : a3.toInt ≥ 1 := en_i_lt_f c377
        refine At.enter rfl ?_
        refine r_iload_n rfl ?_
        refine r_iload_n rfl ?_
        refine r_ics 10 rfl (fun c386 => ?_) (fun c386 => ?_)
        · have c386_ : a3.toInt > 9 := en_i_gt_t c386
          refine At.enter rfl ?_
          refine r_iconst 0 rfl ?_
          refine Ar.fall 15 rfl ?_
          refine At.enter rfl ?_
          refine q_iretz (by decide) ?_
          refine At.enter rfl ?_
          refine q_iretz (by decide) ?_
          refine At.enter rfl ?_
          refine r_iff 26 rfl (by decide) ?_
          refine At.enter rfl ?_
          refine r_iload_n rfl ?_
          refine r_iconst 2 rfl ?_
          refine r_ics 31 rfl (fun c387 => ?_) (fun c387 => ?_)
          · have c387_ : a2.toInt ≠ 2 := en_i_ne_t c387
            refine At.enter rfl ?_
            refine r_iconst 0 rfl ?_
            refine Ar.fall 43 rfl ?_
            refine At.enter rfl ?_
            refine r_istore ([(4, .int 0), (0, .ref 0), (1, .int a1), (2, .int a2), (3, .int a3)]) rfl ?_
            refine r_iload rfl ?_
            refine r_iff 50 rfl (by decide) ?_
            refine At.enter rfl ?_
            refine r_aload_n rfl ?_
            refine r_iconst (-1) rfl ?_
            refine r_callV 55 rfl [.ref 0, .int (-1)] [] (Nat.le_of_ble_eq_true rfl) rfl (T_X10_refused_0 _ hI0 (-1) (by decide)) ?_
            rintro _ _ ⟨g388, rfl, hI389, hF390, v391, rfl, hr392⟩
            refine At.sti ?_
            have hF393 := Fr.tr hF0 hF390 rfl rfl
            have zv394 : ((-1) : Int32).toInt = (-1) := rfl
            refine At.enter rfl ?_
            refine r_ireti ?_
            exact ⟨_, rfl, hI389, hF393, _, rfl, trivial⟩
          · have c387_ : a2.toInt = 2 := en_i_ne_f c387
            exfalso; omega
        · have c386_ : a3.toInt ≤ 9 := en_i_gt_f c386
          refine At.enter rfl ?_
          refine r_iconst 1 rfl ?_
          refine r_goto ?_
          refine At.enter rfl ?_
          refine q_iretz (by decide) ?_
          refine At.enter rfl ?_
          refine q_iretz (by decide) ?_
          refine At.enter rfl ?_
          refine r_ift (by decide) ?_
          refine At.enter rfl ?_
          refine r_iconst 1 rfl ?_
          refine r_goto ?_
          refine At.enter rfl ?_
          refine r_istore ([(4, .int 1), (0, .ref 0), (1, .int a1), (2, .int a2), (3, .int a3)]) rfl ?_
          refine r_iload rfl ?_
          refine r_ift (by decide) ?_
          refine At.enter rfl ?_
          refine r_aload_n rfl ?_
          refine q_getR (Sh.ref hI0.1 kx_0 rfl) ?_
          refine r_iload_n rfl ?_
          refine q_inlV 64 rfl [.ref 1, .int a1] [] (Nat.le_of_ble_eq_true rfl) rfl ?_
          refine Ev.mk rfl rfl ⟨Nat.le_of_ble_eq_true rfl, Or.inr (q_rc hI0.1 kx_1 rfl)⟩ ?_
          show At _ none _ _ (0, [(0, .ref 1), (1, .int a1)], [], (_, _)) _
          refine At.enter rfl ?_
          refine r_iload_n rfl ?_
          refine r_ifs 4 rfl (fun c395 => ?_) (fun c395 => ?_)
          · have c395_ : a1.toInt < 0 := en_k_lt_t c395
            refine At.enter rfl ?_
            refine r_iconst 0 rfl ?_
            refine Ar.fall 17 rfl ?_
            refine At.enter rfl ?_
            refine q_iretz (by decide) ?_
            refine At.enter rfl ?_
            refine r_iff 67 rfl (by decide) ?_
            refine At.enter rfl ?_
            refine r_aload_n rfl ?_
            refine r_bipush (-2) rfl ?_
            refine r_callV 73 rfl [.ref 0, .int (-2)] [] (Nat.le_of_ble_eq_true rfl) rfl (T_X10_refused_0 _ hI0 (-2) (by decide)) ?_
            rintro _ _ ⟨g396, rfl, hI397, hF398, v399, rfl, hr400⟩
            refine At.sti ?_
            have hF401 := Fr.tr hF0 hF398 rfl rfl
            have zv402 : ((-2) : Int32).toInt = (-2) := rfl
            refine At.enter rfl ?_
            refine r_ireti ?_
            exact ⟨_, rfl, hI397, hF401, _, rfl, trivial⟩
          · have c395_ : a1.toInt ≥ 0 := en_k_lt_f c395
            refine At.enter rfl ?_
            refine r_iload_n rfl ?_
            refine r_aload_n rfl ?_
            obtain ⟨v403, hv403⟩ : ∃ v, gI g0 1 0 = v := ⟨_, rfl⟩
            have rv403 := RgF.at hI0.2.1 (p := 1) (b := 0) rfl
            rw [hv403] at rv403
            dsimp only at rv403
            refine q_getI (Sh.int hI0.1 kx_1 rfl) v403 hv403 ?_
            have bv405 := q_bnd a1
            have bv406 := q_bnd v403
            refine r_ics 12 rfl (fun c404 => ?_) (fun c404 => ?_)
            · have c404_ : a1.toInt ≥ v403.toInt := en_i_ge_t c404
              refine At.enter rfl ?_
              refine r_iconst 0 rfl ?_
              refine Ar.fall 17 rfl ?_
              refine At.enter rfl ?_
              refine q_iretz (by decide) ?_
              refine At.enter rfl ?_
              refine r_iff 67 rfl (by decide) ?_
              refine At.enter rfl ?_
              refine r_aload_n rfl ?_
              refine r_bipush (-2) rfl ?_
              refine r_callV 73 rfl [.ref 0, .int (-2)] [] (Nat.le_of_ble_eq_true rfl) rfl (T_X10_refused_0 _ hI0 (-2) (by decide)) ?_
              rintro _ _ ⟨g407, rfl, hI408, hF409, v410, rfl, hr411⟩
              refine At.sti ?_
              have hF412 := Fr.tr hF0 hF409 rfl rfl
              have zv413 : ((-2) : Int32).toInt = (-2) := rfl
              refine At.enter rfl ?_
              refine r_ireti ?_
              exact ⟨_, rfl, hI408, hF412, _, rfl, trivial⟩
            · have c404_ : a1.toInt < v403.toInt := en_i_ge_f c404
              refine At.enter rfl ?_
              refine r_iconst 1 rfl ?_
              refine r_goto ?_
              refine At.enter rfl ?_
              refine q_iretz (by decide) ?_
              refine At.enter rfl ?_
              refine r_ift (by decide) ?_
              refine At.enter rfl ?_
              refine r_iload_n rfl ?_
              refine r_ifs 78 rfl (fun c414 => ?_) (fun c414 => ?_)
              · have c414_ : a2.toInt ≠ 0 := en_k_ne_t c414
                refine At.enter rfl ?_
                refine r_iload_n rfl ?_
                refine r_iconst 1 rfl ?_
                refine r_ics 93 rfl (fun c415 => ?_) (fun c415 => ?_)
                · have c415_ : a2.toInt ≠ 1 := en_i_ne_t c415
                  exfalso; omega
                · have c415_ : a2.toInt = 1 := en_i_ne_f c415
                  refine At.enter rfl ?_
                  refine r_aload_n rfl ?_
                  refine q_getR (Sh.ref hI0.1 kx_0 rfl) ?_
                  refine q_getR (Sh.ref hI0.1 kx_1 rfl) ?_
                  refine r_goto ?_
                  refine At.enter rfl ?_
                  refine r_astore ([(5, .ref 3), (4, .int 1), (0, .ref 0), (1, .int a1), (2, .int a2), (3, .int a3)]) rfl ?_
                  refine r_aload rfl ?_
                  refine r_iload_n rfl ?_
                  obtain ⟨v416, hv416⟩ : ∃ v, eA g0 3 a1.toInt = v := ⟨_, rfl⟩
                  refine q_iald (Sh.arr hI0.1 ka_3) a1.toInt rfl (by omega) v416 hv416 ?_
                  refine r_istore ([(6, .int v416), (5, .ref 3), (4, .int 1), (0, .ref 0), (1, .int a1), (2, .int a2), (3, .int a3)]) rfl ?_
                  refine r_aload rfl ?_
                  refine r_iload_n rfl ?_
                  refine r_iload_n rfl ?_
                  refine q_iast (Sh.arr hI0.1 ka_3) (a1.toInt) rfl (by omega) ?_
                  have hI417 := HI.wA0 hI0 ka_3 (p := 3) rfl rfl (a1.toInt) (a3)
                  have hF418 := Fr.wA (p := 3) (j := a1.toInt) (v := a3) hF0 rfl
                  refine r_aload_n rfl ?_
                  refine r_callV 127 rfl [.ref 0] [] (Nat.le_of_ble_eq_true rfl) rfl (T_X10_changed_0 _ hI417) ?_
                  rintro _ _ ⟨g419, rfl, hI420, hF421, rfl⟩
                  refine At.stn ?_
                  have hF424 := Fr.tr hF418 hF421 rfl rfl
                  refine At.enter rfl ?_
                  refine r_aload_n rfl ?_
                  refine r_iload rfl ?_
                  refine q_inlV 133 rfl [.ref 0, .int v416] [] (Nat.le_of_ble_eq_true rfl) rfl ?_
                  refine Ev.mk rfl rfl ⟨Nat.le_of_ble_eq_true rfl, Or.inr (q_rc hI420.1 kx_0 rfl)⟩ ?_
                  show At _ none _ _ (0, [(0, .ref 0), (1, .int v416)], [], (_, _)) _
                  refine At.enter rfl ?_
                  refine r_aload_n rfl ?_
                  refine r_iconst 0 rfl ?_
                  refine q_putI (Sh.int hI420.1 kx_0 rfl) rfl ?_
                  have hI425 := HI.wI0 hI420 kx_0 rfl (p := 0) (b := 17) (v := 0) rfl
                  have hF426 := Fr.wI (p := 0) (b := 17) (v := 0) hF424 rfl
                  refine r_iload_n rfl ?_
                  refine q_ireti ?_
                  refine At.enter rfl ?_
                  refine r_ireti ?_
                  exact ⟨_, rfl, hI425, hF426, _, rfl, trivial⟩
              · have c414_ : a2.toInt = 0 := en_k_ne_f c414
                exfalso; omega
  · have c319_ : a2.toInt = 0 := en_k_ne_f c319
    refine At.enter rfl ?_
    refine r_iload_n rfl ?_
    refine r_iconst (-1) rfl ?_
    refine r_bipush 11 rfl ?_
    refine q_inlS 11 rfl [.int a3, .int (-1), .int 11] [] (Nat.le_of_ble_eq_true rfl) rfl ?_
    refine Ev.mk rfl rfl ⟨Nat.le_of_ble_eq_true rfl, Or.inl rfl⟩ ?_
    show At _ none _ _ (0, [(0, .int a3), (1, .int (-1)), (2, .int 11)], [], (_, _)) _
    refine At.enter rfl ?_
    refine r_iload_n rfl ?_
    refine r_iload_n rfl ?_
    refine r_ics 5 rfl (fun c427 => ?_) (fun c427 => ?_)
    · have c427_ : a3.toInt < (-1) := en_i_lt_t c427
      refine At.enter rfl ?_
      refine r_iconst 0 rfl ?_
      refine Ar.fall 15 rfl ?_
      refine At.enter rfl ?_
      refine q_iretz (by decide) ?_
      refine At.enter rfl ?_
      refine r_iff 14 rfl (by decide) ?_
      refine At.enter rfl ?_
      refine r_iload_n rfl ?_
      refine r_iconst 1 rfl ?_
      refine r_ics 19 rfl (fun c428 => ?_) (fun c428 => ?_)
      · have c428_ : a2.toInt ≠ 1 := en_i_ne_t c428
        refine At.enter rfl ?_
        refine r_iload_n rfl ?_
        refine r_iconst 2 rfl ?_
        refine r_ics 31 rfl (fun c429 => ?_) (fun c429 => ?_)
        · have c429_ : a2.toInt ≠ 2 := en_i_ne_t c429
          refine At.enter rfl ?_
          refine r_iconst 0 rfl ?_
          refine Ar.fall 43 rfl ?_
          refine At.enter rfl ?_
          refine r_istore ([(4, .int 0), (0, .ref 0), (1, .int a1), (2, .int a2), (3, .int a3)]) rfl ?_
          refine r_iload rfl ?_
          refine r_iff 50 rfl (by decide) ?_
          refine At.enter rfl ?_
          refine r_aload_n rfl ?_
          refine r_iconst (-1) rfl ?_
          refine r_callV 55 rfl [.ref 0, .int (-1)] [] (Nat.le_of_ble_eq_true rfl) rfl (T_X10_refused_0 _ hI0 (-1) (by decide)) ?_
          rintro _ _ ⟨g430, rfl, hI431, hF432, v433, rfl, hr434⟩
          refine At.sti ?_
          have hF435 := Fr.tr hF0 hF432 rfl rfl
          have zv436 : ((-1) : Int32).toInt = (-1) := rfl
          refine At.enter rfl ?_
          refine r_ireti ?_
          exact ⟨_, rfl, hI431, hF435, _, rfl, trivial⟩
        · have c429_ : a2.toInt = 2 := en_i_ne_f c429
          exfalso; omega
      · have c428_ : a2.toInt = 1 := en_i_ne_f c428
        exfalso; omega
    · have c427_ : a3.toInt ≥ (-1) := en_i_lt_f c427
      refine At.enter rfl ?_
      refine r_iload_n rfl ?_
      refine r_iload_n rfl ?_
      refine r_ics 10 rfl (fun c437 => ?_) (fun c437 => ?_)
      · have c437_ : a3.toInt > 11 := en_i_gt_t c437
        refine At.enter rfl ?_
        refine r_iconst 0 rfl ?_
        refine Ar.fall 15 rfl ?_
        refine At.enter rfl ?_
        refine q_iretz (by decide) ?_
        refine At.enter rfl ?_
        refine r_iff 14 rfl (by decide) ?_
        refine At.enter rfl ?_
        refine r_iload_n rfl ?_
        refine r_iconst 1 rfl ?_
        refine r_ics 19 rfl (fun c438 => ?_) (fun c438 => ?_)
        · have c438_ : a2.toInt ≠ 1 := en_i_ne_t c438
          refine At.enter rfl ?_
          refine r_iload_n rfl ?_
          refine r_iconst 2 rfl ?_
          refine r_ics 31 rfl (fun c439 => ?_) (fun c439 => ?_)
          · have c439_ : a2.toInt ≠ 2 := en_i_ne_t c439
            refine At.enter rfl ?_
            refine r_iconst 0 rfl ?_
            refine Ar.fall 43 rfl ?_
            refine At.enter rfl ?_
            refine r_istore ([(4, .int 0), (0, .ref 0), (1, .int a1), (2, .int a2), (3, .int a3)]) rfl ?_
            refine r_iload rfl ?_
            refine r_iff 50 rfl (by decide) ?_
            refine At.enter rfl ?_
            refine r_aload_n rfl ?_
            refine r_iconst (-1) rfl ?_
            refine r_callV 55 rfl [.ref 0, .int (-1)] [] (Nat.le_of_ble_eq_true rfl) rfl (T_X10_refused_0 _ hI0 (-1) (by decide)) ?_
            rintro _ _ ⟨g440, rfl, hI441, hF442, v443, rfl, hr444⟩
            refine At.sti ?_
            have hF445 := Fr.tr hF0 hF442 rfl rfl
            have zv446 : ((-1) : Int32).toInt = (-1) := rfl
            refine At.enter rfl ?_
            refine r_ireti ?_
            exact ⟨_, rfl, hI441, hF445, _, rfl, trivial⟩
          · have c439_ : a2.toInt = 2 := en_i_ne_f c439
            exfalso; omega
        · have c438_ : a2.toInt = 1 := en_i_ne_f c438
          exfalso; omega
      · have c437_ : a3.toInt ≤ 11 := en_i_gt_f c437
        refine At.enter rfl ?_
        refine r_iconst 1 rfl ?_
        refine r_goto ?_
        refine At.enter rfl ?_
        refine q_iretz (by decide) ?_
        refine At.enter rfl ?_
        refine r_ift (by decide) ?_
        refine At.enter rfl ?_
        refine r_iconst 1 rfl ?_
        refine r_goto ?_
        refine At.enter rfl ?_
        refine r_istore ([(4, .int 1), (0, .ref 0), (1, .int a1), (2, .int a2), (3, .int a3)]) rfl ?_
        refine r_iload rfl ?_
        refine r_ift (by decide) ?_
        refine At.enter rfl ?_
        refine r_aload_n rfl ?_
        refine q_getR (Sh.ref hI0.1 kx_0 rfl) ?_
        refine r_iload_n rfl ?_
        refine q_inlV 64 rfl [.ref 1, .int a1] [] (Nat.le_of_ble_eq_true rfl) rfl ?_
        refine Ev.mk rfl rfl ⟨Nat.le_of_ble_eq_true rfl, Or.inr (q_rc hI0.1 kx_1 rfl)⟩ ?_
        show At _ none _ _ (0, [(0, .ref 1), (1, .int a1)], [], (_, _)) _
        refine At.enter rfl ?_
        refine r_iload_n rfl ?_
        refine r_ifs 4 rfl (fun c447 => ?_) (fun c447 => ?_)
        · have c447_ : a1.toInt < 0 := en_k_lt_t c447
          refine At.enter rfl ?_
          refine r_iconst 0 rfl ?_
          refine Ar.fall 17 rfl ?_
          refine At.enter rfl ?_
          refine q_iretz (by decide) ?_
          refine At.enter rfl ?_
          refine r_iff 67 rfl (by decide) ?_
          refine At.enter rfl ?_
          refine r_aload_n rfl ?_
          refine r_bipush (-2) rfl ?_
          refine r_callV 73 rfl [.ref 0, .int (-2)] [] (Nat.le_of_ble_eq_true rfl) rfl (T_X10_refused_0 _ hI0 (-2) (by decide)) ?_
          rintro _ _ ⟨g448, rfl, hI449, hF450, v451, rfl, hr452⟩
          refine At.sti ?_
          have hF453 := Fr.tr hF0 hF450 rfl rfl
          have zv454 : ((-2) : Int32).toInt = (-2) := rfl
          refine At.enter rfl ?_
          refine r_ireti ?_
          exact ⟨_, rfl, hI449, hF453, _, rfl, trivial⟩
        · have c447_ : a1.toInt ≥ 0 := en_k_lt_f c447
          refine At.enter rfl ?_
          refine r_iload_n rfl ?_
          refine r_aload_n rfl ?_
          obtain ⟨v455, hv455⟩ : ∃ v, gI g0 1 0 = v := ⟨_, rfl⟩
          have rv455 := RgF.at hI0.2.1 (p := 1) (b := 0) rfl
          rw [hv455] at rv455
          dsimp only at rv455
          refine q_getI (Sh.int hI0.1 kx_1 rfl) v455 hv455 ?_
          have bv457 := q_bnd a1
          have bv458 := q_bnd v455
          refine r_ics 12 rfl (fun c456 => ?_) (fun c456 => ?_)
          · have c456_ : a1.toInt ≥ v455.toInt := en_i_ge_t c456
            refine At.enter rfl ?_
            refine r_iconst 0 rfl ?_
            refine Ar.fall 17 rfl ?_
            refine At.enter rfl ?_
            refine q_iretz (by decide) ?_
            refine At.enter rfl ?_
            refine r_iff 67 rfl (by decide) ?_
            refine At.enter rfl ?_
            refine r_aload_n rfl ?_
            refine r_bipush (-2) rfl ?_
            refine r_callV 73 rfl [.ref 0, .int (-2)] [] (Nat.le_of_ble_eq_true rfl) rfl (T_X10_refused_0 _ hI0 (-2) (by decide)) ?_
            rintro _ _ ⟨g459, rfl, hI460, hF461, v462, rfl, hr463⟩
            refine At.sti ?_
            have hF464 := Fr.tr hF0 hF461 rfl rfl
            have zv465 : ((-2) : Int32).toInt = (-2) := rfl
            refine At.enter rfl ?_
            refine r_ireti ?_
            exact ⟨_, rfl, hI460, hF464, _, rfl, trivial⟩
          · have c456_ : a1.toInt < v455.toInt := en_i_ge_f c456
            refine At.enter rfl ?_
            refine r_iconst 1 rfl ?_
            refine r_goto ?_
            refine At.enter rfl ?_
            refine q_iretz (by decide) ?_
            refine At.enter rfl ?_
            refine r_ift (by decide) ?_
            refine At.enter rfl ?_
            refine r_iload_n rfl ?_
            refine r_ifs 78 rfl (fun c466 => ?_) (fun c466 => ?_)
            · have c466_ : a2.toInt ≠ 0 := en_k_ne_t c466
              exfalso; omega
            · have c466_ : a2.toInt = 0 := en_k_ne_f c466
              refine At.enter rfl ?_
              refine r_aload_n rfl ?_
              refine q_getR (Sh.ref hI0.1 kx_0 rfl) ?_
              refine q_getR (Sh.ref hI0.1 kx_1 rfl) ?_
              refine r_goto ?_
              refine At.enter rfl ?_
              refine r_astore ([(5, .ref 2), (4, .int 1), (0, .ref 0), (1, .int a1), (2, .int a2), (3, .int a3)]) rfl ?_
              refine r_aload rfl ?_
              refine r_iload_n rfl ?_
              obtain ⟨v467, hv467⟩ : ∃ v, eA g0 2 a1.toInt = v := ⟨_, rfl⟩
              refine q_iald (Sh.arr hI0.1 ka_2) a1.toInt rfl (by omega) v467 hv467 ?_
              refine r_istore ([(6, .int v467), (5, .ref 2), (4, .int 1), (0, .ref 0), (1, .int a1), (2, .int a2), (3, .int a3)]) rfl ?_
              refine r_aload rfl ?_
              refine r_iload_n rfl ?_
              refine r_iload_n rfl ?_
              refine q_iast (Sh.arr hI0.1 ka_2) (a1.toInt) rfl (by omega) ?_
              have hI468 := HI.wA0 hI0 ka_2 (p := 2) rfl rfl (a1.toInt) (a3)
              have hF469 := Fr.wA (p := 2) (j := a1.toInt) (v := a3) hF0 rfl
              refine r_aload_n rfl ?_
              refine r_callV 127 rfl [.ref 0] [] (Nat.le_of_ble_eq_true rfl) rfl (T_X10_changed_0 _ hI468) ?_
              rintro _ _ ⟨g470, rfl, hI471, hF472, rfl⟩
              refine At.stn ?_
              have hF475 := Fr.tr hF469 hF472 rfl rfl
              refine At.enter rfl ?_
              refine r_aload_n rfl ?_
              refine r_iload rfl ?_
              refine q_inlV 133 rfl [.ref 0, .int v467] [] (Nat.le_of_ble_eq_true rfl) rfl ?_
              refine Ev.mk rfl rfl ⟨Nat.le_of_ble_eq_true rfl, Or.inr (q_rc hI471.1 kx_0 rfl)⟩ ?_
              show At _ none _ _ (0, [(0, .ref 0), (1, .int v467)], [], (_, _)) _
              refine At.enter rfl ?_
              refine r_aload_n rfl ?_
              refine r_iconst 0 rfl ?_
              refine q_putI (Sh.int hI471.1 kx_0 rfl) rfl ?_
              have hI476 := HI.wI0 hI471 kx_0 rfl (p := 0) (b := 17) (v := 0) rfl
              have hF477 := Fr.wI (p := 0) (b := 17) (v := 0) hF475 rfl
              refine r_iload_n rfl ?_
              refine q_ireti ?_
              refine At.enter rfl ?_
              refine r_ireti ?_
              exact ⟨_, rfl, hI476, hF477, _, rfl, trivial⟩

def F_X10_of_0 : List (Nat × Nat) := []
def A_X10_of_0 : List Nat := []
set_option maxRecDepth 100000 in
set_option maxHeartbeats 4000000 in
theorem T_X10_of_0 (d : Nat) {N : Nat} {g0 : List en_E} (hI0 : HI g0) (a1 : Int32) (a2 : Int32) : Ev (d + 3) 106 [.ref 0, .int a1, .int a2] (g0, N) (fun w h' => ∃ g', h' = (g', N) ∧ HI g' ∧ Fr F_X10_of_0 A_X10_of_0 g0 g' ∧ ∃ r : Int32, w = some (.int r) ∧ True) := by
  have hF0 : Fr F_X10_of_0 A_X10_of_0 g0 g0 := Fr.rf
  refine Ev.mk rfl rfl ⟨Nat.le_of_ble_eq_true rfl, Or.inr (q_rc hI0.1 kx_0 rfl)⟩ ?_
  show At _ none _ _ (0, [(0, .ref 0), (1, .int a1), (2, .int a2)], [], (_, _)) _
  refine At.enter rfl ?_
  refine r_aload_n rfl ?_
  refine q_getR (Sh.ref hI0.1 kx_0 rfl) ?_
  refine r_iload_n rfl ?_
  refine q_inlV 8 rfl [.ref 1, .int a1] [] (Nat.le_of_ble_eq_true rfl) rfl ?_
  refine Ev.mk rfl rfl ⟨Nat.le_of_ble_eq_true rfl, Or.inr (q_rc hI0.1 kx_1 rfl)⟩ ?_
  show At _ none _ _ (0, [(0, .ref 1), (1, .int a1)], [], (_, _)) _
  refine At.enter rfl ?_
  refine r_iload_n rfl ?_
  refine r_ifs 4 rfl (fun c33 => ?_) (fun c33 => ?_)
  · have c33_ : a1.toInt < 0 := en_k_lt_t c33
    refine At.enter rfl ?_
    refine r_iconst 0 rfl ?_
    refine Ar.fall 17 rfl ?_
    refine At.enter rfl ?_
    refine q_iretz (by decide) ?_
    refine At.enter rfl ?_
    refine r_iff 11 rfl (by decide) ?_
    refine At.enter rfl ?_
    refine r_iconst (-1) rfl ?_
    refine r_ireti ?_
    exact ⟨_, rfl, hI0, hF0, _, rfl, trivial⟩
  · have c33_ : a1.toInt ≥ 0 := en_k_lt_f c33
    refine At.enter rfl ?_
    refine r_iload_n rfl ?_
    refine r_aload_n rfl ?_
    obtain ⟨v34, hv34⟩ : ∃ v, gI g0 1 0 = v := ⟨_, rfl⟩
    have rv34 := RgF.at hI0.2.1 (p := 1) (b := 0) rfl
    rw [hv34] at rv34
    dsimp only at rv34
    refine q_getI (Sh.int hI0.1 kx_1 rfl) v34 hv34 ?_
    have bv36 := q_bnd a1
    have bv37 := q_bnd v34
    refine r_ics 12 rfl (fun c35 => ?_) (fun c35 => ?_)
    · have c35_ : a1.toInt ≥ v34.toInt := en_i_ge_t c35
      refine At.enter rfl ?_
      refine r_iconst 0 rfl ?_
      refine Ar.fall 17 rfl ?_
      refine At.enter rfl ?_
      refine q_iretz (by decide) ?_
      refine At.enter rfl ?_
      refine r_iff 11 rfl (by decide) ?_
      refine At.enter rfl ?_
      refine r_iconst (-1) rfl ?_
      refine r_ireti ?_
      exact ⟨_, rfl, hI0, hF0, _, rfl, trivial⟩
    · have c35_ : a1.toInt < v34.toInt := en_i_ge_f c35
      refine At.enter rfl ?_
      refine r_iconst 1 rfl ?_
      refine r_goto ?_
      refine At.enter rfl ?_
      refine q_iretz (by decide) ?_
      refine At.enter rfl ?_
      refine r_ift (by decide) ?_
      refine At.enter rfl ?_
      refine r_iload_n rfl ?_
      by_cases c38_0 : a2.toInt = 0
      · refine r_tsw 44 (by rw [c38_0]; rfl) ?_
        refine At.enter rfl ?_
        refine r_aload_n rfl ?_
        refine q_getR (Sh.ref hI0.1 kx_0 rfl) ?_
        refine q_getR (Sh.ref hI0.1 kx_1 rfl) ?_
        refine r_iload_n rfl ?_
        obtain ⟨v39, hv39⟩ : ∃ v, eA g0 2 a1.toInt = v := ⟨_, rfl⟩
        refine q_iald (Sh.arr hI0.1 ka_2) a1.toInt rfl (by omega) v39 hv39 ?_
        refine r_ireti ?_
        exact ⟨_, rfl, hI0, hF0, _, rfl, trivial⟩
      by_cases c38_1 : a2.toInt = 1
      · refine r_tsw 54 (by rw [c38_1]; rfl) ?_
        refine At.enter rfl ?_
        refine r_aload_n rfl ?_
        refine q_getR (Sh.ref hI0.1 kx_0 rfl) ?_
        refine q_getR (Sh.ref hI0.1 kx_1 rfl) ?_
        refine r_iload_n rfl ?_
        obtain ⟨v40, hv40⟩ : ∃ v, eA g0 3 a1.toInt = v := ⟨_, rfl⟩
        refine q_iald (Sh.arr hI0.1 ka_3) a1.toInt rfl (by omega) v40 hv40 ?_
        refine r_ireti ?_
        exact ⟨_, rfl, hI0, hF0, _, rfl, trivial⟩
      by_cases c38_2 : a2.toInt = 2
      · refine r_tsw 64 (by rw [c38_2]; rfl) ?_
        refine At.enter rfl ?_
        refine r_aload_n rfl ?_
        refine q_getR (Sh.ref hI0.1 kx_0 rfl) ?_
        refine q_getR (Sh.ref hI0.1 kx_1 rfl) ?_
        refine r_iload_n rfl ?_
        obtain ⟨v41, hv41⟩ : ∃ v, eA g0 4 a1.toInt = v := ⟨_, rfl⟩
        refine q_iald (Sh.arr hI0.1 ka_4) a1.toInt rfl (by omega) v41 hv41 ?_
        refine r_ireti ?_
        exact ⟨_, rfl, hI0, hF0, _, rfl, trivial⟩
      by_cases c38_3 : a2.toInt = 3
      · refine r_tsw 74 (by rw [c38_3]; rfl) ?_
        refine At.enter rfl ?_
        refine r_aload_n rfl ?_
        refine q_getR (Sh.ref hI0.1 kx_0 rfl) ?_
        refine r_iload_n rfl ?_
        refine r_callV 82 rfl [.ref 1, .int a1] [] (Nat.le_of_ble_eq_true rfl) rfl (T_X0_next_1 _ hI0 a1) ?_
        rintro _ _ ⟨g42, rfl, hI43, hF44, v45, rfl, hr46⟩
        refine At.sti ?_
        have hF47 := Fr.tr hF0 hF44 rfl rfl
        refine At.enter rfl ?_
        refine r_ireti ?_
        exact ⟨_, rfl, hI43, hF47, _, rfl, trivial⟩
      have c48 : a2.toInt < 0 ∨ 3 < a2.toInt := by omega
      refine r_tsw 83 (by unfold en_sw; rw [if_pos c48]; rfl) ?_
      refine At.enter rfl ?_
      refine r_iconst (-1) rfl ?_
      refine r_ireti ?_
      exact ⟨_, rfl, hI0, hF0, _, rfl, trivial⟩

def F_X10_load_0 : List (Nat × Nat) := [(0, 14), (0, 17), (1, 4), (220, 2), (222, 2), (223, 5), (223, 10)]
def A_X10_load_0 : List Nat := [5, 230]
set_option maxRecDepth 100000 in
set_option maxHeartbeats 4000000 in
theorem T_X10_load_0 (d : Nat) {N : Nat} {g0 : List en_E} (hI0 : HI g0) (a1 : Int32) (a2 : Int32) (a3 : Int32) (a4 : Int32) (a5 : Int32) (a6 : Int32) : Ev (d + 3) 107 [.ref 0, .int a1, .int a2, .int a3, .int a4, .int a5, .int a6] (g0, N) (fun w h' => ∃ g', h' = (g', N) ∧ HI g' ∧ Fr F_X10_load_0 A_X10_load_0 g0 g' ∧ ∃ r : Int32, w = some (.int r) ∧ ((-5) ≤ r.toInt ∧ r.toInt ≤ 7)) := by
  have hF0 : Fr F_X10_load_0 A_X10_load_0 g0 g0 := Fr.rf
  refine Ev.mk rfl rfl ⟨Nat.le_of_ble_eq_true rfl, Or.inr (q_rc hI0.1 kx_0 rfl)⟩ ?_
  show At _ none _ _ (0, [(0, .ref 0), (1, .int a1), (2, .int a2), (3, .int a3), (4, .int a4), (5, .int a5), (6, .int a6)], [], (_, _)) _
  refine At.enter rfl ?_
  refine r_aload_n rfl ?_
  refine r_iload_n rfl ?_
  refine r_iload_n rfl ?_
  refine r_iload_n rfl ?_
  refine r_iload rfl ?_
  refine r_iload rfl ?_
  refine r_iload rfl ?_
  refine r_callV 13 rfl [.ref 0, .int a1, .int a2, .int a3, .int a4, .int a5, .int a6] [] (Nat.le_of_ble_eq_true rfl) rfl (T_X10_whyNoLoad_0 _ hI0 a1 a2 a3 a4 a5 a6) ?_
  rintro _ _ ⟨g55, rfl, hI56, hF57, v58, rfl, hr59⟩
  refine At.sti ?_
  have hF60 := Fr.tr hF0 hF57 rfl rfl
  refine At.enter rfl ?_
  refine r_istore ([(7, .int v58), (0, .ref 0), (1, .int a1), (2, .int a2), (3, .int a3), (4, .int a4), (5, .int a5), (6, .int a6)]) rfl ?_
  refine r_iload rfl ?_
  refine r_ifs 20 rfl (fun c61 => ?_) (fun c61 => ?_)
  · have c61_ : v58.toInt = 0 := en_k_eq_t c61
    refine At.enter rfl ?_
    refine r_aload_n rfl ?_
    refine r_callV 31 rfl [.ref 0] [] (Nat.le_of_ble_eq_true rfl) rfl (T_X10_changed_0 _ hI56) ?_
    rintro _ _ ⟨g62, rfl, hI63, hF64, rfl⟩
    refine At.stn ?_
    have hF67 := Fr.tr hF60 hF64 rfl rfl
    refine At.enter rfl ?_
    refine r_aload_n rfl ?_
    refine r_aload_n rfl ?_
    refine q_getR (Sh.ref hI63.1 kx_0 rfl) ?_
    refine r_iload_n rfl ?_
    refine r_iload_n rfl ?_
    refine r_iload_n rfl ?_
    refine r_iload rfl ?_
    refine r_iload rfl ?_
    refine r_iload rfl ?_
    refine r_callV 48 rfl [.ref 1, .int a1, .int a2, .int a3, .int a4, .int a5, .int a6] [.ref 0] (Nat.le_of_ble_eq_true rfl) rfl (T_X0_addLoad_1 _ hI63 a1 a2 a3 a4 a5 a6) ?_
    rintro _ _ ⟨g68, rfl, hI69, hF70, v71, rfl, hr72⟩
    refine At.sti ?_
    have hF73 := Fr.tr hF67 hF70 rfl rfl
    refine At.enter rfl ?_
    refine q_inlV 51 rfl [.ref 0, .int v71] [] (Nat.le_of_ble_eq_true rfl) rfl ?_
    refine Ev.mk rfl rfl ⟨Nat.le_of_ble_eq_true rfl, Or.inr (q_rc hI69.1 kx_0 rfl)⟩ ?_
    show At _ none _ _ (0, [(0, .ref 0), (1, .int v71)], [], (_, _)) _
    refine At.enter rfl ?_
    refine r_aload_n rfl ?_
    refine r_iconst 0 rfl ?_
    refine q_putI (Sh.int hI69.1 kx_0 rfl) rfl ?_
    have hI74 := HI.wI0 hI69 kx_0 rfl (p := 0) (b := 17) (v := 0) rfl
    have hF75 := Fr.wI (p := 0) (b := 17) (v := 0) hF73 rfl
    refine r_iload_n rfl ?_
    refine q_ireti ?_
    refine At.enter rfl ?_
    refine r_ireti ?_
    exact ⟨_, rfl, hI74, hF75, _, rfl, by omega⟩
  · have c61_ : v58.toInt ≠ 0 := en_k_eq_f c61
    refine At.enter rfl ?_
    refine r_aload_n rfl ?_
    refine r_iload rfl ?_
    refine r_callV 26 rfl [.ref 0, .int v58] [] (Nat.le_of_ble_eq_true rfl) rfl (T_X10_refused_0 _ hI56 v58 (by omega)) ?_
    rintro _ _ ⟨g76, rfl, hI77, hF78, v79, rfl, hr80⟩
    refine At.sti ?_
    have hF81 := Fr.tr hF60 hF78 rfl rfl
    refine At.enter rfl ?_
    refine r_ireti ?_
    exact ⟨_, rfl, hI77, hF81, _, rfl, by omega⟩

def F_X10_fact_0 : List (Nat × Nat) := []
def A_X10_fact_0 : List Nat := []
set_option maxRecDepth 100000 in
set_option maxHeartbeats 4000000 in
theorem T_X10_fact_0 (d : Nat) {N : Nat} {g0 : List en_E} (hI0 : HI g0) (a1 : Int32) (a2 : Int32) : Ev (d + 2) 108 [.ref 0, .int a1, .int a2] (g0, N) (fun w h' => ∃ g', h' = (g', N) ∧ HI g' ∧ Fr F_X10_fact_0 A_X10_fact_0 g0 g' ∧ ∃ r : Int32, w = some (.int r) ∧ True) := by
  have hF0 : Fr F_X10_fact_0 A_X10_fact_0 g0 g0 := Fr.rf
  refine Ev.mk rfl rfl ⟨Nat.le_of_ble_eq_true rfl, Or.inr (q_rc hI0.1 kx_0 rfl)⟩ ?_
  show At _ none _ _ (0, [(0, .ref 0), (1, .int a1), (2, .int a2)], [], (_, _)) _
  refine At.enter rfl ?_
  refine r_aload_n rfl ?_
  refine q_getR (Sh.ref hI0.1 kx_0 rfl) ?_
  refine r_iload_n rfl ?_
  refine q_inlV 8 rfl [.ref 1, .int a1] [] (Nat.le_of_ble_eq_true rfl) rfl ?_
  refine Ev.mk rfl rfl ⟨Nat.le_of_ble_eq_true rfl, Or.inr (q_rc hI0.1 kx_1 rfl)⟩ ?_
  show At _ none _ _ (0, [(0, .ref 1), (1, .int a1)], [], (_, _)) _
  refine At.enter rfl ?_
  refine r_iload_n rfl ?_
  refine r_ifs 4 rfl (fun c27 => ?_) (fun c27 => ?_)
  · have c27_ : a1.toInt < 0 := en_k_lt_t c27
    refine At.enter rfl ?_
    refine r_iconst 0 rfl ?_
    refine Ar.fall 17 rfl ?_
    refine At.enter rfl ?_
    refine q_iretz (by decide) ?_
    refine At.enter rfl ?_
    refine r_ift (by decide) ?_
    refine At.enter rfl ?_
    refine r_iconst (-1) rfl ?_
    refine Ar.fall 33 rfl ?_
    refine At.enter rfl ?_
    refine r_ireti ?_
    exact ⟨_, rfl, hI0, hF0, _, rfl, trivial⟩
  · have c27_ : a1.toInt ≥ 0 := en_k_lt_f c27
    refine At.enter rfl ?_
    refine r_iload_n rfl ?_
    refine r_aload_n rfl ?_
    obtain ⟨v28, hv28⟩ : ∃ v, gI g0 1 4 = v := ⟨_, rfl⟩
    have rv28 := RgF.at hI0.2.1 (p := 1) (b := 4) rfl
    rw [hv28] at rv28
    dsimp only at rv28
    refine q_getI (Sh.int hI0.1 kx_1 rfl) v28 hv28 ?_
    have bv30 := q_bnd a1
    have bv31 := q_bnd v28
    refine r_ics 12 rfl (fun c29 => ?_) (fun c29 => ?_)
    · have c29_ : a1.toInt ≥ v28.toInt := en_i_ge_t c29
      refine At.enter rfl ?_
      refine r_iconst 0 rfl ?_
      refine Ar.fall 17 rfl ?_
      refine At.enter rfl ?_
      refine q_iretz (by decide) ?_
      refine At.enter rfl ?_
      refine r_ift (by decide) ?_
      refine At.enter rfl ?_
      refine r_iconst (-1) rfl ?_
      refine Ar.fall 33 rfl ?_
      refine At.enter rfl ?_
      refine r_ireti ?_
      exact ⟨_, rfl, hI0, hF0, _, rfl, trivial⟩
    · have c29_ : a1.toInt < v28.toInt := en_i_ge_f c29
      refine At.enter rfl ?_
      refine r_iconst 1 rfl ?_
      refine r_goto ?_
      refine At.enter rfl ?_
      refine q_iretz (by decide) ?_
      refine At.enter rfl ?_
      refine r_iff 11 rfl (by decide) ?_
      refine At.enter rfl ?_
      refine r_iload_n rfl ?_
      refine r_iconst 0 rfl ?_
      refine r_iconst 5 rfl ?_
      refine q_inlS 17 rfl [.int a2, .int 0, .int 5] [] (Nat.le_of_ble_eq_true rfl) rfl ?_
      refine Ev.mk rfl rfl ⟨Nat.le_of_ble_eq_true rfl, Or.inl rfl⟩ ?_
      show At _ none _ _ (0, [(0, .int a2), (1, .int 0), (2, .int 5)], [], (_, _)) _
      refine At.enter rfl ?_
      refine r_iload_n rfl ?_
      refine r_iload_n rfl ?_
      refine r_ics 5 rfl (fun c32 => ?_) (fun c32 => ?_)
      · have c32_ : a2.toInt < 0 := en_i_lt_t c32
        refine At.enter rfl ?_
        refine r_iconst 0 rfl ?_
        refine Ar.fall 15 rfl ?_
        refine At.enter rfl ?_
        refine q_iretz (by decide) ?_
        refine At.enter rfl ?_
        refine r_ift (by decide) ?_
        refine At.enter rfl ?_
        refine r_iconst (-1) rfl ?_
        refine Ar.fall 33 rfl ?_
        refine At.enter rfl ?_
        refine r_ireti ?_
        exact ⟨_, rfl, hI0, hF0, _, rfl, trivial⟩
      · have c32_ : a2.toInt ≥ 0 := en_i_lt_f c32
        refine At.enter rfl ?_
        refine r_iload_n rfl ?_
        refine r_iload_n rfl ?_
        refine r_ics 10 rfl (fun c33 => ?_) (fun c33 => ?_)
        · have c33_ : a2.toInt > 5 := en_i_gt_t c33
          refine At.enter rfl ?_
          refine r_iconst 0 rfl ?_
          refine Ar.fall 15 rfl ?_
          refine At.enter rfl ?_
          refine q_iretz (by decide) ?_
          refine At.enter rfl ?_
          refine r_ift (by decide) ?_
          refine At.enter rfl ?_
          refine r_iconst (-1) rfl ?_
          refine Ar.fall 33 rfl ?_
          refine At.enter rfl ?_
          refine r_ireti ?_
          exact ⟨_, rfl, hI0, hF0, _, rfl, trivial⟩
        · have c33_ : a2.toInt ≤ 5 := en_i_gt_f c33
          refine At.enter rfl ?_
          refine r_iconst 1 rfl ?_
          refine r_goto ?_
          refine At.enter rfl ?_
          refine q_iretz (by decide) ?_
          refine At.enter rfl ?_
          refine r_iff 20 rfl (by decide) ?_
          refine At.enter rfl ?_
          refine r_aload_n rfl ?_
          refine q_getR (Sh.ref hI0.1 kx_0 rfl) ?_
          refine r_iload_n rfl ?_
          refine r_iload_n rfl ?_
          refine r_callV 29 rfl [.ref 1, .int a1, .int a2] [] (Nat.le_of_ble_eq_true rfl) rfl (T_X0_about_1 _ hI0 a1 a2) ?_
          rintro _ _ ⟨g34, rfl, hI35, hF36, v37, rfl, hr38⟩
          refine At.sti ?_
          have hF39 := Fr.tr hF0 hF36 rfl rfl
          refine At.enter rfl ?_
          refine r_goto ?_
          refine At.enter rfl ?_
          refine r_ireti ?_
          exact ⟨_, rfl, hI35, hF39, _, rfl, trivial⟩

def F_X10_drop_0 : List (Nat × Nat) := [(0, 14), (0, 17), (1, 4), (220, 2), (222, 2), (223, 5), (223, 10)]
def A_X10_drop_0 : List Nat := [5, 230]
set_option maxRecDepth 100000 in
set_option maxHeartbeats 4000000 in
theorem T_X10_drop_0 (d : Nat) {N : Nat} {g0 : List en_E} (hI0 : HI g0) (a1 : Int32) : Ev (d + 3) 109 [.ref 0, .int a1] (g0, N) (fun w h' => ∃ g', h' = (g', N) ∧ HI g' ∧ Fr F_X10_drop_0 A_X10_drop_0 g0 g' ∧ ∃ r : Int32, w = some (.int r) ∧ ((-2) ≤ r.toInt ∧ r.toInt ≤ 8)) := by
  have hF0 : Fr F_X10_drop_0 A_X10_drop_0 g0 g0 := Fr.rf
  refine Ev.mk rfl rfl ⟨Nat.le_of_ble_eq_true rfl, Or.inr (q_rc hI0.1 kx_0 rfl)⟩ ?_
  show At _ none _ _ (0, [(0, .ref 0), (1, .int a1)], [], (_, _)) _
  refine At.enter rfl ?_
  refine r_aload_n rfl ?_
  refine q_getR (Sh.ref hI0.1 kx_0 rfl) ?_
  refine r_iload_n rfl ?_
  refine q_inlV 8 rfl [.ref 1, .int a1] [] (Nat.le_of_ble_eq_true rfl) rfl ?_
  refine Ev.mk rfl rfl ⟨Nat.le_of_ble_eq_true rfl, Or.inr (q_rc hI0.1 kx_1 rfl)⟩ ?_
  show At _ none _ _ (0, [(0, .ref 1), (1, .int a1)], [], (_, _)) _
  refine At.enter rfl ?_
  refine r_iload_n rfl ?_
  refine r_ifs 4 rfl (fun c69 => ?_) (fun c69 => ?_)
  · have c69_ : a1.toInt < 0 := en_k_lt_t c69
    refine At.enter rfl ?_
    refine r_iconst 0 rfl ?_
    refine Ar.fall 17 rfl ?_
    refine At.enter rfl ?_
    refine q_iretz (by decide) ?_
    refine At.enter rfl ?_
    refine r_iff 11 rfl (by decide) ?_
    refine At.enter rfl ?_
    refine r_aload_n rfl ?_
    refine r_bipush (-2) rfl ?_
    refine r_callV 17 rfl [.ref 0, .int (-2)] [] (Nat.le_of_ble_eq_true rfl) rfl (T_X10_refused_0 _ hI0 (-2) (by decide)) ?_
    rintro _ _ ⟨g70, rfl, hI71, hF72, v73, rfl, hr74⟩
    refine At.sti ?_
    have hF75 := Fr.tr hF0 hF72 rfl rfl
    have zv76 : ((-2) : Int32).toInt = (-2) := rfl
    refine At.enter rfl ?_
    refine r_ireti ?_
    exact ⟨_, rfl, hI71, hF75, _, rfl, by omega⟩
  · have c69_ : a1.toInt ≥ 0 := en_k_lt_f c69
    refine At.enter rfl ?_
    refine r_iload_n rfl ?_
    refine r_aload_n rfl ?_
    obtain ⟨v77, hv77⟩ : ∃ v, gI g0 1 4 = v := ⟨_, rfl⟩
    have rv77 := RgF.at hI0.2.1 (p := 1) (b := 4) rfl
    rw [hv77] at rv77
    dsimp only at rv77
    refine q_getI (Sh.int hI0.1 kx_1 rfl) v77 hv77 ?_
    have bv79 := q_bnd a1
    have bv80 := q_bnd v77
    refine r_ics 12 rfl (fun c78 => ?_) (fun c78 => ?_)
    · have c78_ : a1.toInt ≥ v77.toInt := en_i_ge_t c78
      refine At.enter rfl ?_
      refine r_iconst 0 rfl ?_
      refine Ar.fall 17 rfl ?_
      refine At.enter rfl ?_
      refine q_iretz (by decide) ?_
      refine At.enter rfl ?_
      refine r_iff 11 rfl (by decide) ?_
      refine At.enter rfl ?_
      refine r_aload_n rfl ?_
      refine r_bipush (-2) rfl ?_
      refine r_callV 17 rfl [.ref 0, .int (-2)] [] (Nat.le_of_ble_eq_true rfl) rfl (T_X10_refused_0 _ hI0 (-2) (by decide)) ?_
      rintro _ _ ⟨g81, rfl, hI82, hF83, v84, rfl, hr85⟩
      refine At.sti ?_
      have hF86 := Fr.tr hF0 hF83 rfl rfl
      have zv87 : ((-2) : Int32).toInt = (-2) := rfl
      refine At.enter rfl ?_
      refine r_ireti ?_
      exact ⟨_, rfl, hI82, hF86, _, rfl, by omega⟩
    · have c78_ : a1.toInt < v77.toInt := en_i_ge_f c78
      refine At.enter rfl ?_
      refine r_iconst 1 rfl ?_
      refine r_goto ?_
      refine At.enter rfl ?_
      refine q_iretz (by decide) ?_
      refine At.enter rfl ?_
      refine r_ift (by decide) ?_
      refine At.enter rfl ?_
      refine r_aload_n rfl ?_
      refine q_getR (Sh.ref hI0.1 kx_0 rfl) ?_
      refine r_iload_n rfl ?_
      refine r_callV 26 rfl [.ref 1, .int a1] [] (Nat.le_of_ble_eq_true rfl) rfl (T_X0_removeLoad_1 _ hI0 a1) ?_
      rintro _ _ ⟨g88, rfl, hI89, hF90, rfl⟩
      refine At.stn ?_
      have hF93 := Fr.tr hF0 hF90 rfl rfl
      refine At.enter rfl ?_
      refine r_aload_n rfl ?_
      refine r_callV 30 rfl [.ref 0] [] (Nat.le_of_ble_eq_true rfl) rfl (T_X10_changed_0 _ hI89) ?_
      rintro _ _ ⟨g94, rfl, hI95, hF96, rfl⟩
      refine At.stn ?_
      have hF99 := Fr.tr hF93 hF96 rfl rfl
      refine At.enter rfl ?_
      refine r_aload_n rfl ?_
      refine r_aload_n rfl ?_
      refine q_getR (Sh.ref hI95.1 kx_0 rfl) ?_
      obtain ⟨v100, hv100⟩ : ∃ v, gI g88 1 4 = v := ⟨_, rfl⟩
      have rv100 := RgF.at hI89.2.1 (p := 1) (b := 4) rfl
      rw [hv100] at rv100
      dsimp only at rv100
      refine q_getI (Sh.int hI95.1 kx_1 rfl) v100 ((hF96.1 1 4 (by decide)).trans hv100) ?_
      refine q_inlV 41 rfl [.ref 0, .int v100] [] (Nat.le_of_ble_eq_true rfl) rfl ?_
      refine Ev.mk rfl rfl ⟨Nat.le_of_ble_eq_true rfl, Or.inr (q_rc hI95.1 kx_0 rfl)⟩ ?_
      show At _ none _ _ (0, [(0, .ref 0), (1, .int v100)], [], (_, _)) _
      refine At.enter rfl ?_
      refine r_aload_n rfl ?_
      refine r_iconst 0 rfl ?_
      refine q_putI (Sh.int hI95.1 kx_0 rfl) rfl ?_
      have hI101 := HI.wI0 hI95 kx_0 rfl (p := 0) (b := 17) (v := 0) rfl
      have hF102 := Fr.wI (p := 0) (b := 17) (v := 0) hF99 rfl
      refine r_iload_n rfl ?_
      refine q_ireti ?_
      refine At.enter rfl ?_
      refine r_ireti ?_
      exact ⟨_, rfl, hI101, hF102, _, rfl, by omega⟩

def F_X10_terms_0 : List (Nat × Nat) := [(0, 14), (0, 17), (1, 10), (1, 11), (220, 2), (222, 2), (223, 5), (223, 10)]
def A_X10_terms_0 : List Nat := [230]
set_option maxRecDepth 100000 in
set_option maxHeartbeats 4000000 in
theorem T_X10_terms_0 (d : Nat) {N : Nat} {g0 : List en_E} (hI0 : HI g0) (a1 : Int32) (a2 : Int32) : Ev (d + 3) 110 [.ref 0, .int a1, .int a2] (g0, N) (fun w h' => ∃ g', h' = (g', N) ∧ HI g' ∧ Fr F_X10_terms_0 A_X10_terms_0 g0 g' ∧ ∃ r : Int32, w = some (.int r) ∧ True ∧ (((a1.toInt = 0 ∧ 0 ≤ a2.toInt ∧ a2.toInt ≤ 99) → r.toInt = (gI g0 1 10).toInt ∧ (gI g' 1 10).toInt = a2.toInt ∧ (gI g' 1 11).toInt = (gI g0 1 11).toInt) ∧ ((a1.toInt = 1 ∧ 1 ≤ a2.toInt ∧ a2.toInt ≤ 4) → r.toInt = (gI g0 1 11).toInt ∧ (gI g' 1 11).toInt = a2.toInt ∧ (gI g' 1 10).toInt = (gI g0 1 10).toInt) ∧ (¬ (a1.toInt = 0 ∧ 0 ≤ a2.toInt ∧ a2.toInt ≤ 99) ∧ ¬ (a1.toInt = 1 ∧ 1 ≤ a2.toInt ∧ a2.toInt ≤ 4) → r.toInt = -1 ∧ (gI g' 1 10).toInt = (gI g0 1 10).toInt ∧ (gI g' 1 11).toInt = (gI g0 1 11).toInt))) := by
  have hF0 : Fr F_X10_terms_0 A_X10_terms_0 g0 g0 := Fr.rf
  refine Ev.mk rfl rfl ⟨Nat.le_of_ble_eq_true rfl, Or.inr (q_rc hI0.1 kx_0 rfl)⟩ ?_
  show At _ none _ _ (0, [(0, .ref 0), (1, .int a1), (2, .int a2)], [], (_, _)) _
  refine At.enter rfl ?_
  refine r_iload_n rfl ?_
  refine r_ifs 4 rfl (fun c131 => ?_) (fun c131 => ?_)
  · have c131_ : a1.toInt ≠ 0 := en_k_ne_t c131
    refine At.enter rfl ?_
    refine r_iload_n rfl ?_
    refine r_iconst 1 rfl ?_
    refine r_ics 38 rfl (fun c132 => ?_) (fun c132 => ?_)
    · have c132_ : a1.toInt ≠ 1 := en_i_ne_t c132
      refine At.enter rfl ?_
      refine r_aload_n rfl ?_
      refine r_iconst (-1) rfl ?_
      refine r_callV 71 rfl [.ref 0, .int (-1)] [] (Nat.le_of_ble_eq_true rfl) rfl (T_X10_refused_0 _ hI0 (-1) (by decide)) ?_
      rintro _ _ ⟨g133, rfl, hI134, hF135, v136, rfl, hr137⟩
      refine At.sti ?_
      have hF138 := Fr.tr hF0 hF135 rfl rfl
      have zv139 : ((-1) : Int32).toInt = (-1) := rfl
      refine At.enter rfl ?_
      refine r_ireti ?_
      obtain ⟨v140, hv140⟩ : ∃ v, eA g0 233 5 = v := ⟨_, rfl⟩
      have wv140 := HI.t5 hI0
      rw [hv140] at wv140
      have tv140 := congrArg Int32.toInt hv140
      have x141 := HI.eqA hI134 (p := 233) (j := 5) (((eA_c (hF135.2.1 233 (by decide))).trans hv140))
      obtain ⟨v142, hv142⟩ : ∃ v, eA g0 233 6 = v := ⟨_, rfl⟩
      have wv142 := HI.t6 hI0
      rw [hv142] at wv142
      have tv142 := congrArg Int32.toInt hv142
      have x143 := HI.eqA hI134 (p := 233) (j := 6) (((eA_c (hF135.2.1 233 (by decide))).trans hv142))
      obtain ⟨v144, hv144⟩ : ∃ v, eA g0 233 0 = v := ⟨_, rfl⟩
      have tv144 := congrArg Int32.toInt hv144
      have wv144 := HI.t0 hI0
      rw [hv144] at wv144
      have tv144 := congrArg Int32.toInt hv144
      have x145 := HI.eqA hI134 (p := 233) (j := 0) (((eA_c (hF135.2.1 233 (by decide))).trans hv144))
      obtain ⟨v146, hv146⟩ : ∃ v, eA g0 233 4 = v := ⟨_, rfl⟩
      have wv146 := HI.t4 hI0
      rw [hv146] at wv146
      have tv146 := congrArg Int32.toInt hv146
      have x147 := HI.eqA hI134 (p := 233) (j := 4) (((eA_c (hF135.2.1 233 (by decide))).trans hv146))
      have x148 := HI.eqA hI0 (p := 233) (j := 5) (hv140)
      have x149 := HI.eqA hI0 (p := 233) (j := 6) (hv142)
      have x150 := HI.eqA hI0 (p := 233) (j := 0) (hv144)
      have x151 := HI.eqA hI0 (p := 233) (j := 4) (hv146)
      exact ⟨_, rfl, hI134, hF138, _, rfl, trivial, ⟨by omega, by omega, by omega⟩⟩
    · have c132_ : a1.toInt = 1 := en_i_ne_f c132
      refine At.enter rfl ?_
      refine r_iload_n rfl ?_
      refine r_iconst 1 rfl ?_
      refine r_iconst 4 rfl ?_
      refine q_inlS 44 rfl [.int a2, .int 1, .int 4] [] (Nat.le_of_ble_eq_true rfl) rfl ?_
      refine Ev.mk rfl rfl ⟨Nat.le_of_ble_eq_true rfl, Or.inl rfl⟩ ?_
      show At _ none _ _ (0, [(0, .int a2), (1, .int 1), (2, .int 4)], [], (_, _)) _
      refine At.enter rfl ?_
      refine r_iload_n rfl ?_
      refine r_iload_n rfl ?_
      refine r_ics 5 rfl (fun c152 => ?_) (fun c152 => ?_)
      · have c152_ : a2.toInt < 1 := en_i_lt_t c152
        refine At.enter rfl ?_
        refine r_iconst 0 rfl ?_
        refine Ar.fall 15 rfl ?_
        refine At.enter rfl ?_
        refine q_iretz (by decide) ?_
        refine At.enter rfl ?_
        refine r_ift (by decide) ?_
        refine At.enter rfl ?_
        refine r_aload_n rfl ?_
        refine r_iconst (-1) rfl ?_
        refine r_callV 71 rfl [.ref 0, .int (-1)] [] (Nat.le_of_ble_eq_true rfl) rfl (T_X10_refused_0 _ hI0 (-1) (by decide)) ?_
        rintro _ _ ⟨g153, rfl, hI154, hF155, v156, rfl, hr157⟩
        refine At.sti ?_
        have hF158 := Fr.tr hF0 hF155 rfl rfl
        have zv159 : ((-1) : Int32).toInt = (-1) := rfl
        refine At.enter rfl ?_
        refine r_ireti ?_
        obtain ⟨v160, hv160⟩ : ∃ v, eA g0 233 5 = v := ⟨_, rfl⟩
        have wv160 := HI.t5 hI0
        rw [hv160] at wv160
        have tv160 := congrArg Int32.toInt hv160
        have x161 := HI.eqA hI154 (p := 233) (j := 5) (((eA_c (hF155.2.1 233 (by decide))).trans hv160))
        obtain ⟨v162, hv162⟩ : ∃ v, eA g0 233 6 = v := ⟨_, rfl⟩
        have wv162 := HI.t6 hI0
        rw [hv162] at wv162
        have tv162 := congrArg Int32.toInt hv162
        have x163 := HI.eqA hI154 (p := 233) (j := 6) (((eA_c (hF155.2.1 233 (by decide))).trans hv162))
        obtain ⟨v164, hv164⟩ : ∃ v, eA g0 233 0 = v := ⟨_, rfl⟩
        have tv164 := congrArg Int32.toInt hv164
        have wv164 := HI.t0 hI0
        rw [hv164] at wv164
        have tv164 := congrArg Int32.toInt hv164
        have x165 := HI.eqA hI154 (p := 233) (j := 0) (((eA_c (hF155.2.1 233 (by decide))).trans hv164))
        obtain ⟨v166, hv166⟩ : ∃ v, eA g0 233 4 = v := ⟨_, rfl⟩
        have wv166 := HI.t4 hI0
        rw [hv166] at wv166
        have tv166 := congrArg Int32.toInt hv166
        have x167 := HI.eqA hI154 (p := 233) (j := 4) (((eA_c (hF155.2.1 233 (by decide))).trans hv166))
        have x168 := HI.eqA hI0 (p := 233) (j := 5) (hv160)
        have x169 := HI.eqA hI0 (p := 233) (j := 6) (hv162)
        have x170 := HI.eqA hI0 (p := 233) (j := 0) (hv164)
        have x171 := HI.eqA hI0 (p := 233) (j := 4) (hv166)
        exact ⟨_, rfl, hI154, hF158, _, rfl, trivial, ⟨by omega, by omega, by omega⟩⟩
      · have c152_ : a2.toInt ≥ 1 := en_i_lt_f c152
        refine At.enter rfl ?_
        refine r_iload_n rfl ?_
        refine r_iload_n rfl ?_
        refine r_ics 10 rfl (fun c172 => ?_) (fun c172 => ?_)
        · have c172_ : a2.toInt > 4 := en_i_gt_t c172
          refine At.enter rfl ?_
          refine r_iconst 0 rfl ?_
          refine Ar.fall 15 rfl ?_
          refine At.enter rfl ?_
          refine q_iretz (by decide) ?_
          refine At.enter rfl ?_
          refine r_ift (by decide) ?_
          refine At.enter rfl ?_
          refine r_aload_n rfl ?_
          refine r_iconst (-1) rfl ?_
          refine r_callV 71 rfl [.ref 0, .int (-1)] [] (Nat.le_of_ble_eq_true rfl) rfl (T_X10_refused_0 _ hI0 (-1) (by decide)) ?_
          rintro _ _ ⟨g173, rfl, hI174, hF175, v176, rfl, hr177⟩
          refine At.sti ?_
          have hF178 := Fr.tr hF0 hF175 rfl rfl
          have zv179 : ((-1) : Int32).toInt = (-1) := rfl
          refine At.enter rfl ?_
          refine r_ireti ?_
          obtain ⟨v180, hv180⟩ : ∃ v, eA g0 233 5 = v := ⟨_, rfl⟩
          have wv180 := HI.t5 hI0
          rw [hv180] at wv180
          have tv180 := congrArg Int32.toInt hv180
          have x181 := HI.eqA hI174 (p := 233) (j := 5) (((eA_c (hF175.2.1 233 (by decide))).trans hv180))
          obtain ⟨v182, hv182⟩ : ∃ v, eA g0 233 6 = v := ⟨_, rfl⟩
          have wv182 := HI.t6 hI0
          rw [hv182] at wv182
          have tv182 := congrArg Int32.toInt hv182
          have x183 := HI.eqA hI174 (p := 233) (j := 6) (((eA_c (hF175.2.1 233 (by decide))).trans hv182))
          obtain ⟨v184, hv184⟩ : ∃ v, eA g0 233 0 = v := ⟨_, rfl⟩
          have tv184 := congrArg Int32.toInt hv184
          have wv184 := HI.t0 hI0
          rw [hv184] at wv184
          have tv184 := congrArg Int32.toInt hv184
          have x185 := HI.eqA hI174 (p := 233) (j := 0) (((eA_c (hF175.2.1 233 (by decide))).trans hv184))
          obtain ⟨v186, hv186⟩ : ∃ v, eA g0 233 4 = v := ⟨_, rfl⟩
          have wv186 := HI.t4 hI0
          rw [hv186] at wv186
          have tv186 := congrArg Int32.toInt hv186
          have x187 := HI.eqA hI174 (p := 233) (j := 4) (((eA_c (hF175.2.1 233 (by decide))).trans hv186))
          have x188 := HI.eqA hI0 (p := 233) (j := 5) (hv180)
          have x189 := HI.eqA hI0 (p := 233) (j := 6) (hv182)
          have x190 := HI.eqA hI0 (p := 233) (j := 0) (hv184)
          have x191 := HI.eqA hI0 (p := 233) (j := 4) (hv186)
          exact ⟨_, rfl, hI174, hF178, _, rfl, trivial, ⟨by omega, by omega, by omega⟩⟩
        · have c172_ : a2.toInt ≤ 4 := en_i_gt_f c172
          refine At.enter rfl ?_
          refine r_iconst 1 rfl ?_
          refine r_goto ?_
          refine At.enter rfl ?_
          refine q_iretz (by decide) ?_
          refine At.enter rfl ?_
          refine r_iff 47 rfl (by decide) ?_
          refine At.enter rfl ?_
          refine r_aload_n rfl ?_
          refine q_getR (Sh.ref hI0.1 kx_0 rfl) ?_
          obtain ⟨v192, hv192⟩ : ∃ v, gI g0 1 11 = v := ⟨_, rfl⟩
          refine q_getI (Sh.int hI0.1 kx_1 rfl) v192 hv192 ?_
          refine r_istore_n ([(3, .int v192), (0, .ref 0), (1, .int a1), (2, .int a2)]) rfl ?_
          refine r_aload_n rfl ?_
          refine q_getR (Sh.ref hI0.1 kx_0 rfl) ?_
          refine r_iload_n rfl ?_
          refine q_putI (Sh.int hI0.1 kx_1 rfl) rfl ?_
          have hI193 := HI.wI0 hI0 kx_1 rfl (p := 1) (b := 11) (v := a2) rfl
          have hF194 := Fr.wI (p := 1) (b := 11) (v := a2) hF0 rfl
          refine r_goto ?_
          refine At.enter rfl ?_
          refine r_aload_n rfl ?_
          refine r_callV 76 rfl [.ref 0] [] (Nat.le_of_ble_eq_true rfl) rfl (T_X10_changed_0 _ hI193) ?_
          rintro _ _ ⟨g195, rfl, hI196, hF197, rfl⟩
          refine At.stn ?_
          have hF200 := Fr.tr hF194 hF197 rfl rfl
          refine At.enter rfl ?_
          refine r_aload_n rfl ?_
          refine r_iload_n rfl ?_
          refine q_inlV 81 rfl [.ref 0, .int v192] [] (Nat.le_of_ble_eq_true rfl) rfl ?_
          refine Ev.mk rfl rfl ⟨Nat.le_of_ble_eq_true rfl, Or.inr (q_rc hI196.1 kx_0 rfl)⟩ ?_
          show At _ none _ _ (0, [(0, .ref 0), (1, .int v192)], [], (_, _)) _
          refine At.enter rfl ?_
          refine r_aload_n rfl ?_
          refine r_iconst 0 rfl ?_
          refine q_putI (Sh.int hI196.1 kx_0 rfl) rfl ?_
          have hI201 := HI.wI0 hI196 kx_0 rfl (p := 0) (b := 17) (v := 0) rfl
          have hF202 := Fr.wI (p := 0) (b := 17) (v := 0) hF200 rfl
          refine r_iload_n rfl ?_
          refine q_ireti ?_
          refine At.enter rfl ?_
          refine r_ireti ?_
          obtain ⟨v203, hv203⟩ : ∃ v, eA g0 233 5 = v := ⟨_, rfl⟩
          have wv203 := HI.t5 hI0
          rw [hv203] at wv203
          have tv203 := congrArg Int32.toInt hv203
          have x204 := HI.eqA hI201 (p := 233) (j := 5) ((((eA_c gA_sI).trans ((eA_c (hF197.2.1 233 (by decide))).trans (eA_c gA_sI))).trans hv203))
          obtain ⟨v205, hv205⟩ : ∃ v, eA g0 233 6 = v := ⟨_, rfl⟩
          have wv205 := HI.t6 hI0
          rw [hv205] at wv205
          have tv205 := congrArg Int32.toInt hv205
          have x206 := HI.eqA hI201 (p := 233) (j := 6) ((((eA_c gA_sI).trans ((eA_c (hF197.2.1 233 (by decide))).trans (eA_c gA_sI))).trans hv205))
          obtain ⟨v207, hv207⟩ : ∃ v, eA g0 233 0 = v := ⟨_, rfl⟩
          have tv207 := congrArg Int32.toInt hv207
          have wv207 := HI.t0 hI0
          rw [hv207] at wv207
          have tv207 := congrArg Int32.toInt hv207
          have x208 := HI.eqA hI201 (p := 233) (j := 0) ((((eA_c gA_sI).trans ((eA_c (hF197.2.1 233 (by decide))).trans (eA_c gA_sI))).trans hv207))
          obtain ⟨v209, hv209⟩ : ∃ v, eA g0 233 4 = v := ⟨_, rfl⟩
          have wv209 := HI.t4 hI0
          rw [hv209] at wv209
          have tv209 := congrArg Int32.toInt hv209
          have x210 := HI.eqA hI201 (p := 233) (j := 4) ((((eA_c gA_sI).trans ((eA_c (hF197.2.1 233 (by decide))).trans (eA_c gA_sI))).trans hv209))
          have x211 := HI.eqA hI0 (p := 233) (j := 5) (hv203)
          have x212 := HI.eqA hI0 (p := 233) (j := 6) (hv205)
          have x213 := HI.eqA hI0 (p := 233) (j := 0) (hv207)
          have x214 := HI.eqA hI0 (p := 233) (j := 4) (hv209)
          exact ⟨_, rfl, hI201, hF202, _, rfl, trivial, ⟨by omega, by omega, by omega⟩⟩
  · have c131_ : a1.toInt = 0 := en_k_ne_f c131
    refine At.enter rfl ?_
    refine r_iload_n rfl ?_
    refine r_iconst 0 rfl ?_
    refine r_bipush 99 rfl ?_
    refine q_inlS 11 rfl [.int a2, .int 0, .int 99] [] (Nat.le_of_ble_eq_true rfl) rfl ?_
    refine Ev.mk rfl rfl ⟨Nat.le_of_ble_eq_true rfl, Or.inl rfl⟩ ?_
    show At _ none _ _ (0, [(0, .int a2), (1, .int 0), (2, .int 99)], [], (_, _)) _
    refine At.enter rfl ?_
    refine r_iload_n rfl ?_
    refine r_iload_n rfl ?_
    refine r_ics 5 rfl (fun c215 => ?_) (fun c215 => ?_)
    · have c215_ : a2.toInt < 0 := en_i_lt_t c215
      refine At.enter rfl ?_
      refine r_iconst 0 rfl ?_
      refine Ar.fall 15 rfl ?_
      refine At.enter rfl ?_
      refine q_iretz (by decide) ?_
      refine At.enter rfl ?_
      refine r_ift (by decide) ?_
      refine At.enter rfl ?_
      refine r_iload_n rfl ?_
      refine r_iconst 1 rfl ?_
      refine r_ics 38 rfl (fun c216 => ?_) (fun c216 => ?_)
      · have c216_ : a1.toInt ≠ 1 := en_i_ne_t c216
        refine At.enter rfl ?_
        refine r_aload_n rfl ?_
        refine r_iconst (-1) rfl ?_
        refine r_callV 71 rfl [.ref 0, .int (-1)] [] (Nat.le_of_ble_eq_true rfl) rfl (T_X10_refused_0 _ hI0 (-1) (by decide)) ?_
        rintro _ _ ⟨g217, rfl, hI218, hF219, v220, rfl, hr221⟩
        refine At.sti ?_
        have hF222 := Fr.tr hF0 hF219 rfl rfl
        have zv223 : ((-1) : Int32).toInt = (-1) := rfl
        refine At.enter rfl ?_
        refine r_ireti ?_
        obtain ⟨v224, hv224⟩ : ∃ v, eA g0 233 5 = v := ⟨_, rfl⟩
        have wv224 := HI.t5 hI0
        rw [hv224] at wv224
        have tv224 := congrArg Int32.toInt hv224
        have x225 := HI.eqA hI218 (p := 233) (j := 5) (((eA_c (hF219.2.1 233 (by decide))).trans hv224))
        obtain ⟨v226, hv226⟩ : ∃ v, eA g0 233 6 = v := ⟨_, rfl⟩
        have wv226 := HI.t6 hI0
        rw [hv226] at wv226
        have tv226 := congrArg Int32.toInt hv226
        have x227 := HI.eqA hI218 (p := 233) (j := 6) (((eA_c (hF219.2.1 233 (by decide))).trans hv226))
        obtain ⟨v228, hv228⟩ : ∃ v, eA g0 233 0 = v := ⟨_, rfl⟩
        have tv228 := congrArg Int32.toInt hv228
        have wv228 := HI.t0 hI0
        rw [hv228] at wv228
        have tv228 := congrArg Int32.toInt hv228
        have x229 := HI.eqA hI218 (p := 233) (j := 0) (((eA_c (hF219.2.1 233 (by decide))).trans hv228))
        obtain ⟨v230, hv230⟩ : ∃ v, eA g0 233 4 = v := ⟨_, rfl⟩
        have wv230 := HI.t4 hI0
        rw [hv230] at wv230
        have tv230 := congrArg Int32.toInt hv230
        have x231 := HI.eqA hI218 (p := 233) (j := 4) (((eA_c (hF219.2.1 233 (by decide))).trans hv230))
        have x232 := HI.eqA hI0 (p := 233) (j := 5) (hv224)
        have x233 := HI.eqA hI0 (p := 233) (j := 6) (hv226)
        have x234 := HI.eqA hI0 (p := 233) (j := 0) (hv228)
        have x235 := HI.eqA hI0 (p := 233) (j := 4) (hv230)
        exact ⟨_, rfl, hI218, hF222, _, rfl, trivial, ⟨by omega, by omega, by omega⟩⟩
      · have c216_ : a1.toInt = 1 := en_i_ne_f c216
        exfalso; omega
    · have c215_ : a2.toInt ≥ 0 := en_i_lt_f c215
      refine At.enter rfl ?_
      refine r_iload_n rfl ?_
      refine r_iload_n rfl ?_
      refine r_ics 10 rfl (fun c236 => ?_) (fun c236 => ?_)
      · have c236_ : a2.toInt > 99 := en_i_gt_t c236
        refine At.enter rfl ?_
        refine r_iconst 0 rfl ?_
        refine Ar.fall 15 rfl ?_
        refine At.enter rfl ?_
        refine q_iretz (by decide) ?_
        refine At.enter rfl ?_
        refine r_ift (by decide) ?_
        refine At.enter rfl ?_
        refine r_iload_n rfl ?_
        refine r_iconst 1 rfl ?_
        refine r_ics 38 rfl (fun c237 => ?_) (fun c237 => ?_)
        · have c237_ : a1.toInt ≠ 1 := en_i_ne_t c237
          refine At.enter rfl ?_
          refine r_aload_n rfl ?_
          refine r_iconst (-1) rfl ?_
          refine r_callV 71 rfl [.ref 0, .int (-1)] [] (Nat.le_of_ble_eq_true rfl) rfl (T_X10_refused_0 _ hI0 (-1) (by decide)) ?_
          rintro _ _ ⟨g238, rfl, hI239, hF240, v241, rfl, hr242⟩
          refine At.sti ?_
          have hF243 := Fr.tr hF0 hF240 rfl rfl
          have zv244 : ((-1) : Int32).toInt = (-1) := rfl
          refine At.enter rfl ?_
          refine r_ireti ?_
          obtain ⟨v245, hv245⟩ : ∃ v, eA g0 233 5 = v := ⟨_, rfl⟩
          have wv245 := HI.t5 hI0
          rw [hv245] at wv245
          have tv245 := congrArg Int32.toInt hv245
          have x246 := HI.eqA hI239 (p := 233) (j := 5) (((eA_c (hF240.2.1 233 (by decide))).trans hv245))
          obtain ⟨v247, hv247⟩ : ∃ v, eA g0 233 6 = v := ⟨_, rfl⟩
          have wv247 := HI.t6 hI0
          rw [hv247] at wv247
          have tv247 := congrArg Int32.toInt hv247
          have x248 := HI.eqA hI239 (p := 233) (j := 6) (((eA_c (hF240.2.1 233 (by decide))).trans hv247))
          obtain ⟨v249, hv249⟩ : ∃ v, eA g0 233 0 = v := ⟨_, rfl⟩
          have tv249 := congrArg Int32.toInt hv249
          have wv249 := HI.t0 hI0
          rw [hv249] at wv249
          have tv249 := congrArg Int32.toInt hv249
          have x250 := HI.eqA hI239 (p := 233) (j := 0) (((eA_c (hF240.2.1 233 (by decide))).trans hv249))
          obtain ⟨v251, hv251⟩ : ∃ v, eA g0 233 4 = v := ⟨_, rfl⟩
          have wv251 := HI.t4 hI0
          rw [hv251] at wv251
          have tv251 := congrArg Int32.toInt hv251
          have x252 := HI.eqA hI239 (p := 233) (j := 4) (((eA_c (hF240.2.1 233 (by decide))).trans hv251))
          have x253 := HI.eqA hI0 (p := 233) (j := 5) (hv245)
          have x254 := HI.eqA hI0 (p := 233) (j := 6) (hv247)
          have x255 := HI.eqA hI0 (p := 233) (j := 0) (hv249)
          have x256 := HI.eqA hI0 (p := 233) (j := 4) (hv251)
          exact ⟨_, rfl, hI239, hF243, _, rfl, trivial, ⟨by omega, by omega, by omega⟩⟩
        · have c237_ : a1.toInt = 1 := en_i_ne_f c237
          exfalso; omega
      · have c236_ : a2.toInt ≤ 99 := en_i_gt_f c236
        refine At.enter rfl ?_
        refine r_iconst 1 rfl ?_
        refine r_goto ?_
        refine At.enter rfl ?_
        refine q_iretz (by decide) ?_
        refine At.enter rfl ?_
        refine r_iff 14 rfl (by decide) ?_
        refine At.enter rfl ?_
        refine r_aload_n rfl ?_
        refine q_getR (Sh.ref hI0.1 kx_0 rfl) ?_
        obtain ⟨v257, hv257⟩ : ∃ v, gI g0 1 10 = v := ⟨_, rfl⟩
        refine q_getI (Sh.int hI0.1 kx_1 rfl) v257 hv257 ?_
        refine r_istore_n ([(3, .int v257), (0, .ref 0), (1, .int a1), (2, .int a2)]) rfl ?_
        refine r_aload_n rfl ?_
        refine q_getR (Sh.ref hI0.1 kx_0 rfl) ?_
        refine r_iload_n rfl ?_
        refine q_putI (Sh.int hI0.1 kx_1 rfl) rfl ?_
        have hI258 := HI.wI0 hI0 kx_1 rfl (p := 1) (b := 10) (v := a2) rfl
        have hF259 := Fr.wI (p := 1) (b := 10) (v := a2) hF0 rfl
        refine r_goto ?_
        refine At.enter rfl ?_
        refine r_aload_n rfl ?_
        refine r_callV 76 rfl [.ref 0] [] (Nat.le_of_ble_eq_true rfl) rfl (T_X10_changed_0 _ hI258) ?_
        rintro _ _ ⟨g260, rfl, hI261, hF262, rfl⟩
        refine At.stn ?_
        have hF265 := Fr.tr hF259 hF262 rfl rfl
        refine At.enter rfl ?_
        refine r_aload_n rfl ?_
        refine r_iload_n rfl ?_
        refine q_inlV 81 rfl [.ref 0, .int v257] [] (Nat.le_of_ble_eq_true rfl) rfl ?_
        refine Ev.mk rfl rfl ⟨Nat.le_of_ble_eq_true rfl, Or.inr (q_rc hI261.1 kx_0 rfl)⟩ ?_
        show At _ none _ _ (0, [(0, .ref 0), (1, .int v257)], [], (_, _)) _
        refine At.enter rfl ?_
        refine r_aload_n rfl ?_
        refine r_iconst 0 rfl ?_
        refine q_putI (Sh.int hI261.1 kx_0 rfl) rfl ?_
        have hI266 := HI.wI0 hI261 kx_0 rfl (p := 0) (b := 17) (v := 0) rfl
        have hF267 := Fr.wI (p := 0) (b := 17) (v := 0) hF265 rfl
        refine r_iload_n rfl ?_
        refine q_ireti ?_
        refine At.enter rfl ?_
        refine r_ireti ?_
        obtain ⟨v268, hv268⟩ : ∃ v, eA g0 233 5 = v := ⟨_, rfl⟩
        have wv268 := HI.t5 hI0
        rw [hv268] at wv268
        have tv268 := congrArg Int32.toInt hv268
        have x269 := HI.eqA hI266 (p := 233) (j := 5) ((((eA_c gA_sI).trans ((eA_c (hF262.2.1 233 (by decide))).trans (eA_c gA_sI))).trans hv268))
        obtain ⟨v270, hv270⟩ : ∃ v, eA g0 233 6 = v := ⟨_, rfl⟩
        have wv270 := HI.t6 hI0
        rw [hv270] at wv270
        have tv270 := congrArg Int32.toInt hv270
        have x271 := HI.eqA hI266 (p := 233) (j := 6) ((((eA_c gA_sI).trans ((eA_c (hF262.2.1 233 (by decide))).trans (eA_c gA_sI))).trans hv270))
        obtain ⟨v272, hv272⟩ : ∃ v, eA g0 233 0 = v := ⟨_, rfl⟩
        have tv272 := congrArg Int32.toInt hv272
        have wv272 := HI.t0 hI0
        rw [hv272] at wv272
        have tv272 := congrArg Int32.toInt hv272
        have x273 := HI.eqA hI266 (p := 233) (j := 0) ((((eA_c gA_sI).trans ((eA_c (hF262.2.1 233 (by decide))).trans (eA_c gA_sI))).trans hv272))
        obtain ⟨v274, hv274⟩ : ∃ v, eA g0 233 4 = v := ⟨_, rfl⟩
        have wv274 := HI.t4 hI0
        rw [hv274] at wv274
        have tv274 := congrArg Int32.toInt hv274
        have x275 := HI.eqA hI266 (p := 233) (j := 4) ((((eA_c gA_sI).trans ((eA_c (hF262.2.1 233 (by decide))).trans (eA_c gA_sI))).trans hv274))
        have x276 := HI.eqA hI0 (p := 233) (j := 5) (hv268)
        have x277 := HI.eqA hI0 (p := 233) (j := 6) (hv270)
        have x278 := HI.eqA hI0 (p := 233) (j := 0) (hv272)
        have x279 := HI.eqA hI0 (p := 233) (j := 4) (hv274)
        exact ⟨_, rfl, hI266, hF267, _, rfl, trivial, ⟨by omega, by omega, by omega⟩⟩
