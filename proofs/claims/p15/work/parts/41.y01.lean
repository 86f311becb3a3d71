def F_X0_addLoad_1 : List (Nat × Nat) := [(1, 4)]
def A_X0_addLoad_1 : List Nat := [5]
set_option maxRecDepth 100000 in
set_option maxHeartbeats 4000000 in
theorem T_X0_addLoad_1 (d : Nat) {N : Nat} {g0 : List en_E} (hI0 : HI g0) (a1 : Int32) (a2 : Int32) (a3 : Int32) (a4 : Int32) (a5 : Int32) (a6 : Int32) : Ev (d + 1) 6 [.ref 1, .int a1, .int a2, .int a3, .int a4, .int a5, .int a6] (g0, N) (fun w h' => ∃ g', h' = (g', N) ∧ HI g' ∧ Fr F_X0_addLoad_1 A_X0_addLoad_1 g0 g' ∧ ∃ r : Int32, w = some (.int r) ∧ ((-1) ≤ r.toInt ∧ r.toInt ≤ 7)) := by
  have hF0 : Fr F_X0_addLoad_1 A_X0_addLoad_1 g0 g0 := Fr.rf
  refine Ev.mk rfl rfl ⟨Nat.le_of_ble_eq_true rfl, Or.inr (q_rc hI0.1 kx_1 rfl)⟩ ?_
  show At _ none _ _ (0, [(0, .ref 1), (1, .int a1), (2, .int a2), (3, .int a3), (4, .int a4), (5, .int a5), (6, .int a6)], [], (_, _)) _
  refine At.enter rfl ?_
  refine r_aload_n rfl ?_
  obtain ⟨v51, hv51⟩ : ∃ v, gI g0 1 4 = v := ⟨_, rfl⟩
  have rv51 := RgF.at hI0.2.1 (p := 1) (b := 4) rfl
  rw [hv51] at rv51
  dsimp only at rv51
  refine q_getI (Sh.int hI0.1 kx_1 rfl) v51 hv51 ?_
  refine r_bipush 8 rfl ?_
  refine r_ics 9 rfl (fun c52 => ?_) (fun c52 => ?_)
  · have c52_ : v51.toInt < 8 := en_i_lt_t c52
    refine At.enter rfl ?_
    refine r_aload_n rfl ?_
    refine q_getI (Sh.int hI0.1 kx_1 rfl) v51 hv51 ?_
    refine r_bipush 6 rfl ?_
    refine q_imul (v51.toInt * 6) rfl (by omega) (fun v53 hv53 => ?_)
    refine r_istore ([(7, .int v53), (0, .ref 1), (1, .int a1), (2, .int a2), (3, .int a3), (4, .int a4), (5, .int a5), (6, .int a6)]) rfl ?_
    refine r_aload_n rfl ?_
    refine q_getR (Sh.ref hI0.1 kx_1 rfl) ?_
    refine r_iload rfl ?_
    refine r_iconst 0 rfl ?_
    refine q_iadd (v53.toInt + 0) rfl (by omega) (fun v54 hv54 => ?_)
    refine r_iload_n rfl ?_
    refine q_iast (Sh.arr hI0.1 ka_5) ((6 * v51.toInt)) (by omega) (by omega) ?_
    have hI55 := HI.wA0 hI0 ka_5 (p := 5) rfl rfl ((6 * v51.toInt)) (a1)
    have hF56 := Fr.wA (p := 5) (j := (6 * v51.toInt)) (v := a1) hF0 rfl
    refine r_aload_n rfl ?_
    refine q_getR (Sh.ref hI55.1 kx_1 rfl) ?_
    refine r_iload rfl ?_
    refine r_iconst 1 rfl ?_
    refine q_iadd (v53.toInt + 1) rfl (by omega) (fun v57 hv57 => ?_)
    refine r_iload_n rfl ?_
    refine q_iast (Sh.arr hI55.1 ka_5) ((6 * v51.toInt + 1)) (by omega) (by omega) ?_
    have hI58 := HI.wA0 hI55 ka_5 (p := 5) rfl rfl ((6 * v51.toInt + 1)) (a2)
    have hF59 := Fr.wA (p := 5) (j := (6 * v51.toInt + 1)) (v := a2) hF56 rfl
    refine r_aload_n rfl ?_
    refine q_getR (Sh.ref hI58.1 kx_1 rfl) ?_
    refine r_iload rfl ?_
    refine r_iconst 2 rfl ?_
    refine q_iadd (v53.toInt + 2) rfl (by omega) (fun v60 hv60 => ?_)
    refine r_iload_n rfl ?_
    refine q_iast (Sh.arr hI58.1 ka_5) ((6 * v51.toInt + 2)) (by omega) (by omega) ?_
    have hI61 := HI.wA0 hI58 ka_5 (p := 5) rfl rfl ((6 * v51.toInt + 2)) (a3)
    have hF62 := Fr.wA (p := 5) (j := (6 * v51.toInt + 2)) (v := a3) hF59 rfl
    refine r_aload_n rfl ?_
    refine q_getR (Sh.ref hI61.1 kx_1 rfl) ?_
    refine r_iload rfl ?_
    refine r_iconst 3 rfl ?_
    refine q_iadd (v53.toInt + 3) rfl (by omega) (fun v63 hv63 => ?_)
    refine r_iload rfl ?_
    refine q_iast (Sh.arr hI61.1 ka_5) ((6 * v51.toInt + 3)) (by omega) (by omega) ?_
    have hI64 := HI.wA0 hI61 ka_5 (p := 5) rfl rfl ((6 * v51.toInt + 3)) (a4)
    have hF65 := Fr.wA (p := 5) (j := (6 * v51.toInt + 3)) (v := a4) hF62 rfl
    refine r_aload_n rfl ?_
    refine q_getR (Sh.ref hI64.1 kx_1 rfl) ?_
    refine r_iload rfl ?_
    refine r_iconst 4 rfl ?_
    refine q_iadd (v53.toInt + 4) rfl (by omega) (fun v66 hv66 => ?_)
    refine r_iload rfl ?_
    refine q_iast (Sh.arr hI64.1 ka_5) ((6 * v51.toInt + 4)) (by omega) (by omega) ?_
    have hI67 := HI.wA0 hI64 ka_5 (p := 5) rfl rfl ((6 * v51.toInt + 4)) (a5)
    have hF68 := Fr.wA (p := 5) (j := (6 * v51.toInt + 4)) (v := a5) hF65 rfl
    refine r_aload_n rfl ?_
    refine q_getR (Sh.ref hI67.1 kx_1 rfl) ?_
    refine r_iload rfl ?_
    refine r_iconst 5 rfl ?_
    refine q_iadd (v53.toInt + 5) rfl (by omega) (fun v69 hv69 => ?_)
    refine r_iload rfl ?_
    refine q_iast (Sh.arr hI67.1 ka_5) ((6 * v51.toInt + 5)) (by omega) (by omega) ?_
    have hI70 := HI.wA0 hI67 ka_5 (p := 5) rfl rfl ((6 * v51.toInt + 5)) (a6)
    have hF71 := Fr.wA (p := 5) (j := (6 * v51.toInt + 5)) (v := a6) hF68 rfl
    refine r_aload_n rfl ?_
    refine r_dup rfl ?_
    refine q_getI (Sh.int hI70.1 kx_1 rfl) v51 (((gI_sW).trans ((gI_sW).trans ((gI_sW).trans ((gI_sW).trans ((gI_sW).trans (gI_sW)))))).trans hv51) ?_
    refine r_iconst 1 rfl ?_
    refine q_iadd (v51.toInt + 1) rfl (by omega) (fun v72 hv72 => ?_)
    refine q_putI (Sh.int hI70.1 kx_1 rfl) rfl ?_
    have hI73 := HI.wI1 hI70 kx_1 rfl (p := 1) (b := 4) (v := v72) rfl (by dsimp only; omega)
    have hF74 := Fr.wI (p := 1) (b := 4) (v := v72) hF71 rfl
    refine r_aload_n rfl ?_
    refine q_getI (Sh.int hI73.1 kx_1 rfl) v72 (gI_sI_eq hI70.1 kx_1 rfl _) ?_
    refine r_iconst 1 rfl ?_
    refine q_isub (v72.toInt - 1) rfl (by omega) (fun v75 hv75 => ?_)
    refine r_ireti ?_
    exact ⟨_, rfl, hI73, hF74, _, rfl, by omega⟩
  · have c52_ : v51.toInt ≥ 8 := en_i_lt_f c52
    refine At.enter rfl ?_
    refine r_iconst (-1) rfl ?_
    refine r_ireti ?_
    exact ⟨_, rfl, hI0, hF0, _, rfl, by decide⟩

def F_X0_removeLoad_1 : List (Nat × Nat) := [(1, 4)]
def A_X0_removeLoad_1 : List Nat := [5]
set_option maxRecDepth 100000 in
set_option maxHeartbeats 4000000 in
theorem T_X0_removeLoad_1 (d : Nat) {N : Nat} {g0 : List en_E} (hI0 : HI g0) (a1 : Int32) : Ev (d + 2) 7 [.ref 1, .int a1] (g0, N) (fun w h' => ∃ g', h' = (g', N) ∧ HI g' ∧ Fr F_X0_removeLoad_1 A_X0_removeLoad_1 g0 g' ∧ w = none) := by
  have hF0 : Fr F_X0_removeLoad_1 A_X0_removeLoad_1 g0 g0 := Fr.rf
  refine Ev.mk rfl rfl ⟨Nat.le_of_ble_eq_true rfl, Or.inr (q_rc hI0.1 kx_1 rfl)⟩ ?_
  show At _ none _ _ (0, [(0, .ref 1), (1, .int a1)], [], (_, _)) _
  refine At.enter rfl ?_
  refine r_aload_n rfl ?_
  refine r_iload_n rfl ?_
  refine q_inlV 5 rfl [.ref 1, .int a1] [] (Nat.le_of_ble_eq_true rfl) rfl ?_
  refine Ev.mk rfl rfl ⟨Nat.le_of_ble_eq_true rfl, Or.inr (q_rc hI0.1 kx_1 rfl)⟩ ?_
  show At _ none _ _ (0, [(0, .ref 1), (1, .int a1)], [], (_, _)) _
  refine At.enter rfl ?_
  refine r_iload_n rfl ?_
  refine r_ifs 4 rfl (fun c31 => ?_) (fun c31 => ?_)
  · have c31_ : a1.toInt < 0 := en_k_lt_t c31
    refine At.enter rfl ?_
    refine r_iconst 0 rfl ?_
    refine Ar.fall 17 rfl ?_
    refine At.enter rfl ?_
    refine q_iretz (by decide) ?_
    refine At.enter rfl ?_
    refine r_ift (by decide) ?_
    refine At.enter rfl ?_
    refine r_vret ?_
    exact ⟨_, rfl, hI0, hF0, rfl⟩
  · have c31_ : a1.toInt ≥ 0 := en_k_lt_f c31
    refine At.enter rfl ?_
    refine r_iload_n rfl ?_
    refine r_aload_n rfl ?_
    obtain ⟨v32, hv32⟩ : ∃ v, gI g0 1 4 = v := ⟨_, rfl⟩
    have rv32 := RgF.at hI0.2.1 (p := 1) (b := 4) rfl
    rw [hv32] at rv32
    dsimp only at rv32
    refine q_getI (Sh.int hI0.1 kx_1 rfl) v32 hv32 ?_
    have bv34 := q_bnd a1
    have bv35 := q_bnd v32
    refine r_ics 12 rfl (fun c33 => ?_) (fun c33 => ?_)
    · have c33_ : a1.toInt ≥ v32.toInt := en_i_ge_t c33
      refine At.enter rfl ?_
      refine r_iconst 0 rfl ?_
      refine Ar.fall 17 rfl ?_
      refine At.enter rfl ?_
      refine q_iretz (by decide) ?_
      refine At.enter rfl ?_
      refine r_ift (by decide) ?_
      refine At.enter rfl ?_
      refine r_vret ?_
      exact ⟨_, rfl, hI0, hF0, rfl⟩
    · have c33_ : a1.toInt < v32.toInt := en_i_ge_f c33
      refine At.enter rfl ?_
      refine r_iconst 1 rfl ?_
      refine r_goto ?_
      refine At.enter rfl ?_
      refine q_iretz (by decide) ?_
      refine At.enter rfl ?_
      refine r_iff 8 rfl (by decide) ?_
      refine At.enter rfl ?_
      refine r_iload_n rfl ?_
      refine r_iconst 1 rfl ?_
      refine q_iadd (a1.toInt + 1) rfl (by omega) (fun v36 hv36 => ?_)
      refine r_bipush 6 rfl ?_
      refine q_imul (v36.toInt * 6) rfl (by omega) (fun v37 hv37 => ?_)
      refine r_istore_n ([(2, .int v37), (0, .ref 1), (1, .int a1)]) rfl ?_
      refine r_aload_n rfl ?_
      refine q_getR (Sh.ref hI0.1 kx_1 rfl) ?_
      refine r_iload_n rfl ?_
      refine r_aload_n rfl ?_
      refine q_getR (Sh.ref hI0.1 kx_1 rfl) ?_
      refine r_iload_n rfl ?_
      refine r_bipush 6 rfl ?_
      refine q_imul (a1.toInt * 6) rfl (by omega) (fun v38 hv38 => ?_)
      refine r_aload_n rfl ?_
      refine q_getI (Sh.int hI0.1 kx_1 rfl) v32 hv32 ?_
      refine r_bipush 6 rfl ?_
      refine q_imul (v32.toInt * 6) rfl (by omega) (fun v39 hv39 => ?_)
      refine r_iload_n rfl ?_
      refine q_isub (v39.toInt - v37.toInt) rfl (by omega) (fun v40 hv40 => ?_)
      refine q_cpy rfl (Nat.le_of_ble_eq_true rfl) (Sh.arr hI0.1 ka_5) (Sh.arr hI0.1 ka_5) ⟨by omega, by omega, by omega, by omega, by omega⟩ ?_
      have hI41 := HI.cpy0 hI0 ka_5 ka_5 rfl rfl ((v37 : Int32).toInt.toNat) ((v38 : Int32).toInt.toNat) ((v40 : Int32).toInt.toNat) (by omega) (by omega)
      have hF42 := Fr.cpy (p0 := 5) (p1 := 5) hF0 rfl ((v37 : Int32).toInt.toNat) ((v38 : Int32).toInt.toNat) ((v40 : Int32).toInt.toNat)
      refine r_aload_n rfl ?_
      refine r_dup rfl ?_
      refine q_getI (Sh.int hI41.1 kx_1 rfl) v32 ((gI_sW).trans hv32) ?_
      refine r_iconst 1 rfl ?_
      refine q_isub (v32.toInt - 1) rfl (by omega) (fun v43 hv43 => ?_)
      refine q_putI (Sh.int hI41.1 kx_1 rfl) rfl ?_
      have hI44 := HI.wI1 hI41 kx_1 rfl (p := 1) (b := 4) (v := v43) rfl (by dsimp only; omega)
      have hF45 := Fr.wI (p := 1) (b := 4) (v := v43) hF42 rfl
      refine Ar.fall 50 rfl ?_
      refine At.enter rfl ?_
      refine r_vret ?_
      exact ⟨_, rfl, hI44, hF45, rfl⟩

def F_X10_stand_0 : List (Nat × Nat) := [(0, 14), (0, 17), (1, 0), (220, 2), (222, 2), (223, 5), (223, 10)]
def A_X10_stand_0 : List Nat := [2, 3, 4, 230]
theorem mf_X10_refused_0_1_0 : memF F_X10_refused_0 1 0 = false := by decide
theorem mf_X10_changed_0_1_0 : memF F_X10_changed_0 1 0 = false := by decide
set_option maxRecDepth 100000 in
set_option maxHeartbeats 4000000 in
theorem T_X10_stand_0 (d : Nat) {N : Nat} {g0 : List en_E} (hI0 : HI g0) (a1 : Int32) (a2 : Int32) (a3 : Int32) : Ev (d + 3) 104 [.ref 0, .int a1, .int a2, .int a3] (g0, N) (fun w h' => ∃ g', h' = (g', N) ∧ HI g' ∧ Fr F_X10_stand_0 A_X10_stand_0 g0 g' ∧ ∃ r : Int32, w = some (.int r) ∧ ((-5) ≤ r.toInt ∧ r.toInt ≤ 11) ∧ ((¬ (-1 ≤ a1.toInt ∧ a1.toInt ≤ 11 ∧ 1 ≤ a2.toInt ∧ a2.toInt ≤ 9 ∧ 0 ≤ a3.toInt ∧ a3.toInt ≤ 99) → r.toInt = -1 ∧ (gI g' 1 0).toInt = (gI g0 1 0).toInt) ∧ ((-1 ≤ a1.toInt ∧ a1.toInt ≤ 11 ∧ 1 ≤ a2.toInt ∧ a2.toInt ≤ 9 ∧ 0 ≤ a3.toInt ∧ a3.toInt ≤ 99) ∧ 12 ≤ (gI g0 1 0).toInt → r.toInt = -5 ∧ (gI g' 1 0).toInt = (gI g0 1 0).toInt) ∧ ((-1 ≤ a1.toInt ∧ a1.toInt ≤ 11 ∧ 1 ≤ a2.toInt ∧ a2.toInt ≤ 9 ∧ 0 ≤ a3.toInt ∧ a3.toInt ≤ 99) ∧ (gI g0 1 0).toInt < 12 → r.toInt = (gI g0 1 0).toInt ∧ (gI g' 1 0).toInt = (gI g0 1 0).toInt + 1))) := by
  have hF0 : Fr F_X10_stand_0 A_X10_stand_0 g0 g0 := Fr.rf
  refine Ev.mk rfl rfl ⟨Nat.le_of_ble_eq_true rfl, Or.inr (q_rc hI0.1 kx_0 rfl)⟩ ?_
  show At _ none _ _ (0, [(0, .ref 0), (1, .int a1), (2, .int a2), (3, .int a3)], [], (_, _)) _
  refine At.enter rfl ?_
  refine r_iload_n rfl ?_
  refine r_iconst (-1) rfl ?_
  refine r_bipush 11 rfl ?_
  refine q_inlS 7 rfl [.int a1, .int (-1), .int 11] [] (Nat.le_of_ble_eq_true rfl) rfl ?_
  refine Ev.mk rfl rfl ⟨Nat.le_of_ble_eq_true rfl, Or.inl rfl⟩ ?_
  show At _ none _ _ (0, [(0, .int a1), (1, .int (-1)), (2, .int 11)], [], (_, _)) _
  refine At.enter rfl ?_
  refine r_iload_n rfl ?_
  refine r_iload_n rfl ?_
  refine r_ics 5 rfl (fun c153 => ?_) (fun c153 => ?_)
  · have c153_ : a1.toInt < (-1) := en_i_lt_t c153
    refine At.enter rfl ?_
    refine r_iconst 0 rfl ?_
    refine Ar.fall 15 rfl ?_
    refine At.enter rfl ?_
    refine q_iretz (by decide) ?_
    refine At.enter rfl ?_
    refine r_ift (by decide) ?_
    refine At.enter rfl ?_
    refine r_aload_n rfl ?_
    refine r_iconst (-1) rfl ?_
    refine r_callV 29 rfl [.ref 0, .int (-1)] [] (Nat.le_of_ble_eq_true rfl) rfl (T_X10_refused_0 _ hI0 (-1) (by decide)) ?_
    rintro _ _ ⟨g154, rfl, hI155, hF156, v157, rfl, hr158⟩
    refine At.sti ?_
    have hF159 := Fr.tr hF0 hF156 rfl rfl
    have zv160 : ((-1) : Int32).toInt = (-1) := rfl
    refine At.enter rfl ?_
    refine r_ireti ?_
    obtain ⟨v161, hv161⟩ : ∃ v, gI g0 1 0 = v := ⟨_, rfl⟩
    have rv161 := RgF.at hI0.2.1 (p := 1) (b := 0) rfl
    rw [hv161] at rv161
    dsimp only at rv161
    have tv161 := congrArg Int32.toInt hv161
    have x162 := HI.eqI hI155 (p := 1) (b := 0) (((hF156.1 1 0 mf_X10_refused_0_1_0).trans hv161))
    exact ⟨_, rfl, hI155, hF159, _, rfl, by omega, (by omega)⟩
  · have c153_ : a1.toInt ≥ (-1) := en_i_lt_f c153
    refine At.enter rfl ?_
    refine r_iload_n rfl ?_
    refine r_iload_n rfl ?_
    refine r_ics 10 rfl (fun c164 => ?_) (fun c164 => ?_)
    · have c164_ : a1.toInt > 11 := en_i_gt_t c164
      refine At.enter rfl ?_
      refine r_iconst 0 rfl ?_
      refine Ar.fall 15 rfl ?_
      refine At.enter rfl ?_
      refine q_iretz (by decide) ?_
      refine At.enter rfl ?_
      refine r_ift (by decide) ?_
      refine At.enter rfl ?_
      refine r_aload_n rfl ?_
      refine r_iconst (-1) rfl ?_
      refine r_callV 29 rfl [.ref 0, .int (-1)] [] (Nat.le_of_ble_eq_true rfl) rfl (T_X10_refused_0 _ hI0 (-1) (by decide)) ?_
      rintro _ _ ⟨g165, rfl, hI166, hF167, v168, rfl, hr169⟩
      refine At.sti ?_
      have hF170 := Fr.tr hF0 hF167 rfl rfl
      have zv171 : ((-1) : Int32).toInt = (-1) := rfl
      refine At.enter rfl ?_
      refine r_ireti ?_
      obtain ⟨v172, hv172⟩ : ∃ v, gI g0 1 0 = v := ⟨_, rfl⟩
      have rv172 := RgF.at hI0.2.1 (p := 1) (b := 0) rfl
      rw [hv172] at rv172
      dsimp only at rv172
      have tv172 := congrArg Int32.toInt hv172
      have x173 := HI.eqI hI166 (p := 1) (b := 0) (((hF167.1 1 0 mf_X10_refused_0_1_0).trans hv172))
      exact ⟨_, rfl, hI166, hF170, _, rfl, by omega, (by omega)⟩
    · have c164_ : a1.toInt ≤ 11 := en_i_gt_f c164
      refine At.enter rfl ?_
      refine r_iconst 1 rfl ?_
      refine r_goto ?_
      refine At.enter rfl ?_
      refine q_iretz (by decide) ?_
      refine At.enter rfl ?_
      refine r_iff 10 rfl (by decide) ?_
      refine At.enter rfl ?_
      refine r_iload_n rfl ?_
      refine q_inlS 14 rfl [.int a2] [] (Nat.le_of_ble_eq_true rfl) rfl ?_
      refine Ev.mk rfl rfl ⟨Nat.le_of_ble_eq_true rfl, Or.inl rfl⟩ ?_
      show At _ none _ _ (0, [(0, .int a2)], [], (_, _)) _
      refine At.enter rfl ?_
      refine r_iload_n rfl ?_
      refine r_iconst 1 rfl ?_
      refine r_bipush 9 rfl ?_
      refine q_inlS 7 rfl [.int a2, .int 1, .int 9] [] (Nat.le_of_ble_eq_true rfl) rfl ?_
      refine Ev.mk rfl rfl ⟨Nat.le_of_ble_eq_true rfl, Or.inl rfl⟩ ?_
      show At _ none _ _ (0, [(0, .int a2), (1, .int 1), (2, .int 9)], [], (_, _)) _
      refine At.enter rfl ?_
      refine r_iload_n rfl ?_
      refine r_iload_n rfl ?_
      refine r_ics 5 rfl (fun c175 => ?_) (fun c175 => ?_)
      · have c175_ : a2.toInt < 1 := en_i_lt_t c175
        refine At.enter rfl ?_
        refine r_iconst 0 rfl ?_
        refine Ar.fall 15 rfl ?_
        refine At.enter rfl ?_
        refine q_iretz (by decide) ?_
        refine At.enter rfl ?_
        refine q_iretz (by decide) ?_
        refine At.enter rfl ?_
        refine r_ift (by decide) ?_
        refine At.enter rfl ?_
        refine r_aload_n rfl ?_
        refine r_iconst (-1) rfl ?_
        refine r_callV 29 rfl [.ref 0, .int (-1)] [] (Nat.le_of_ble_eq_true rfl) rfl (T_X10_refused_0 _ hI0 (-1) (by decide)) ?_
        rintro _ _ ⟨g176, rfl, hI177, hF178, v179, rfl, hr180⟩
        refine At.sti ?_
        have hF181 := Fr.tr hF0 hF178 rfl rfl
        have zv182 : ((-1) : Int32).toInt = (-1) := rfl
        refine At.enter rfl ?_
        refine r_ireti ?_
        obtain ⟨v183, hv183⟩ : ∃ v, gI g0 1 0 = v := ⟨_, rfl⟩
        have rv183 := RgF.at hI0.2.1 (p := 1) (b := 0) rfl
        rw [hv183] at rv183
        dsimp only at rv183
        have tv183 := congrArg Int32.toInt hv183
        have x184 := HI.eqI hI177 (p := 1) (b := 0) (((hF178.1 1 0 mf_X10_refused_0_1_0).trans hv183))
        exact ⟨_, rfl, hI177, hF181, _, rfl, by omega, (by omega)⟩
      · have c175_ : a2.toInt ≥ 1 := en_i_lt_f c175
        refine At.enter rfl ?_
        refine r_iload_n rfl ?_
        refine r_iload_n rfl ?_
        refine r_ics 10 rfl (fun c186 => ?_) (fun c186 => ?_)
        · have c186_ : a2.toInt > 9 := en_i_gt_t c186
          refine At.enter rfl ?_
          refine r_iconst 0 rfl ?_
          refine Ar.fall 15 rfl ?_
          refine At.enter rfl ?_
          refine q_iretz (by decide) ?_
          refine At.enter rfl ?_
          refine q_iretz (by decide) ?_
          refine At.enter rfl ?_
          refine r_ift (by decide) ?_
          refine At.enter rfl ?_
          refine r_aload_n rfl ?_
          refine r_iconst (-1) rfl ?_
          refine r_callV 29 rfl [.ref 0, .int (-1)] [] (Nat.le_of_ble_eq_true rfl) rfl (T_X10_refused_0 _ hI0 (-1) (by decide)) ?_
          rintro _ _ ⟨g187, rfl, hI188, hF189, v190, rfl, hr191⟩
          refine At.sti ?_
          have hF192 := Fr.tr hF0 hF189 rfl rfl
          have zv193 : ((-1) : Int32).toInt = (-1) := rfl
          refine At.enter rfl ?_
          refine r_ireti ?_
          obtain ⟨v194, hv194⟩ : ∃ v, gI g0 1 0 = v := ⟨_, rfl⟩
          have rv194 := RgF.at hI0.2.1 (p := 1) (b := 0) rfl
          rw [hv194] at rv194
          dsimp only at rv194
          have tv194 := congrArg Int32.toInt hv194
          have x195 := HI.eqI hI188 (p := 1) (b := 0) (((hF189.1 1 0 mf_X10_refused_0_1_0).trans hv194))
          exact ⟨_, rfl, hI188, hF192, _, rfl, by omega, (by omega)⟩
        · have c186_ : a2.toInt ≤ 9 := en_i_gt_f c186
          refine At.enter rfl ?_
          refine r_iconst 1 rfl ?_
          refine r_goto ?_
          refine At.enter rfl ?_
          refine q_iretz (by decide) ?_
          refine At.enter rfl ?_
          refine q_iretz (by decide) ?_
          refine At.enter rfl ?_
          refine r_iff 17 rfl (by decide) ?_
          refine At.enter rfl ?_
          refine r_iload_n rfl ?_
          refine q_inlS 21 rfl [.int a3] [] (Nat.le_of_ble_eq_true rfl) rfl ?_
          refine Ev.mk rfl rfl ⟨Nat.le_of_ble_eq_true rfl, Or.inl rfl⟩ ?_
          show At _ none _ _ (0, [(0, .int a3)], [], (_, _)) _
          refine At.enter rfl ?_
          refine r_iload_n rfl ?_
          refine r_iconst 0 rfl ?_
          refine r_bipush 99 rfl ?_
          refine q_inlS 7 rfl [.int a3, .int 0, .int 99] [] (Nat.le_of_ble_eq_true rfl) rfl ?_
          refine Ev.mk rfl rfl ⟨Nat.le_of_ble_eq_true rfl, Or.inl rfl⟩ ?_
          show At _ none _ _ (0, [(0, .int a3), (1, .int 0), (2, .int 99)], [], (_, _)) _
          refine At.enter rfl ?_
          refine r_iload_n rfl ?_
          refine r_iload_n rfl ?_
          refine r_ics 5 rfl (fun c197 => ?_) (fun c197 => ?_)
          · have c197_ : a3.toInt < 0 := en_i_lt_t c197
            refine At.enter rfl ?_
            refine r_iconst 0 rfl ?_
            refine Ar.fall 15 rfl ?_
            refine At.enter rfl ?_
            refine q_iretz (by decide) ?_
            refine At.enter rfl ?_
            refine q_iretz (by decide) ?_
            refine At.enter rfl ?_
            refine r_iff 24 rfl (by decide) ?_
            refine At.enter rfl ?_
            refine r_aload_n rfl ?_
            refine r_iconst (-1) rfl ?_
            refine r_callV 29 rfl [.ref 0, .int (-1)] [] (Nat.le_of_ble_eq_true rfl) rfl (T_X10_refused_0 _ hI0 (-1) (by decide)) ?_
            rintro _ _ ⟨g198, rfl, hI199, hF200, v201, rfl, hr202⟩
            refine At.sti ?_
            have hF203 := Fr.tr hF0 hF200 rfl rfl
            have zv204 : ((-1) : Int32).toInt = (-1) := rfl
            refine At.enter rfl ?_
            refine r_ireti ?_
            obtain ⟨v205, hv205⟩ : ∃ v, gI g0 1 0 = v := ⟨_, rfl⟩
            have rv205 := RgF.at hI0.2.1 (p := 1) (b := 0) rfl
            rw [hv205] at rv205
            dsimp only at rv205
            have tv205 := congrArg Int32.toInt hv205
            have x206 := HI.eqI hI199 (p := 1) (b := 0) (((hF200.1 1 0 mf_X10_refused_0_1_0).trans hv205))
            exact ⟨_, rfl, hI199, hF203, _, rfl, by omega, (by omega)⟩
          · have c197_ : a3.toInt ≥ 0 := en_i_lt_f c197
            refine At.enter rfl ?_
            refine r_iload_n rfl ?_
            refine r_iload_n rfl ?_
            refine r_ics 10 rfl (fun c208 => ?_) (fun c208 => ?_)
            · have c208_ : a3.toInt > 99 := en_i_gt_t c208
              refine At.enter rfl ?_
              refine r_iconst 0 rfl ?_
              refine Ar.fall 15 rfl ?_
              refine At.enter rfl ?_
              refine q_iretz (by decide) ?_
              refine At.enter rfl ?_
              refine q_iretz (by decide) ?_
              refine At.enter rfl ?_
              refine r_iff 24 rfl (by decide) ?_
              refine At.enter rfl ?_
              refine r_aload_n rfl ?_
              refine r_iconst (-1) rfl ?_
              refine r_callV 29 rfl [.ref 0, .int (-1)] [] (Nat.le_of_ble_eq_true rfl) rfl (T_X10_refused_0 _ hI0 (-1) (by decide)) ?_
              rintro _ _ ⟨g209, rfl, hI210, hF211, v212, rfl, hr213⟩
              refine At.sti ?_
              have hF214 := Fr.tr hF0 hF211 rfl rfl
              have zv215 : ((-1) : Int32).toInt = (-1) := rfl
              refine At.enter rfl ?_
              refine r_ireti ?_
              obtain ⟨v216, hv216⟩ : ∃ v, gI g0 1 0 = v := ⟨_, rfl⟩
              have rv216 := RgF.at hI0.2.1 (p := 1) (b := 0) rfl
              rw [hv216] at rv216
              dsimp only at rv216
              have tv216 := congrArg Int32.toInt hv216
              have x217 := HI.eqI hI210 (p := 1) (b := 0) (((hF211.1 1 0 mf_X10_refused_0_1_0).trans hv216))
              exact ⟨_, rfl, hI210, hF214, _, rfl, by omega, (by omega)⟩
            · have c208_ : a3.toInt ≤ 99 := en_i_gt_f c208
              refine At.enter rfl ?_
              refine r_iconst 1 rfl ?_
              refine r_goto ?_
              refine At.enter rfl ?_
              refine q_iretz (by decide) ?_
              refine At.enter rfl ?_
              refine q_iretz (by decide) ?_
              refine At.enter rfl ?_
              refine r_ift (by decide) ?_
              refine At.enter rfl ?_
              refine r_aload_n rfl ?_
              refine q_getR (Sh.ref hI0.1 kx_0 rfl) ?_
              obtain ⟨v219, hv219⟩ : ∃ v, gI g0 1 0 = v := ⟨_, rfl⟩
              have rv219 := RgF.at hI0.2.1 (p := 1) (b := 0) rfl
              rw [hv219] at rv219
              dsimp only at rv219
              refine q_getI (Sh.int hI0.1 kx_1 rfl) v219 hv219 ?_
              refine r_bipush 12 rfl ?_
              refine r_ics 42 rfl (fun c220 => ?_) (fun c220 => ?_)
              · have c220_ : v219.toInt < 12 := en_i_lt_t c220
                refine At.enter rfl ?_
                refine r_aload_n rfl ?_
                refine r_callV 53 rfl [.ref 0] [] (Nat.le_of_ble_eq_true rfl) rfl (T_X10_changed_0 _ hI0) ?_
                rintro _ _ ⟨g221, rfl, hI222, hF223, rfl⟩
                refine At.stn ?_
                have hF226 := Fr.tr hF0 hF223 rfl rfl
                refine At.enter rfl ?_
                refine r_aload_n rfl ?_
                refine r_aload_n rfl ?_
                refine q_getR (Sh.ref hI222.1 kx_0 rfl) ?_
                refine r_iload_n rfl ?_
                refine r_iload_n rfl ?_
                refine r_iload_n rfl ?_
                refine q_inlV 64 rfl [.ref 1, .int a1, .int a2, .int a3] [.ref 0] (Nat.le_of_ble_eq_true rfl) rfl ?_
                refine Ev.mk rfl rfl ⟨Nat.le_of_ble_eq_true rfl, Or.inr (q_rc hI222.1 kx_1 rfl)⟩ ?_
                show At _ none _ _ (0, [(0, .ref 1), (1, .int a1), (2, .int a2), (3, .int a3)], [], (_, _)) _
                refine At.enter rfl ?_
                refine r_aload_n rfl ?_
                refine q_getI (Sh.int hI222.1 kx_1 rfl) v219 ((hF223.1 1 0 mf_X10_changed_0_1_0).trans hv219) ?_
                refine r_bipush 12 rfl ?_
                refine r_ics 9 rfl (fun c227 => ?_) (fun c227 => ?_)
                · have c227_ : v219.toInt < 12 := en_i_lt_t c227
                  refine At.enter rfl ?_
                  refine r_aload_n rfl ?_
                  refine q_getR (Sh.ref hI222.1 kx_1 rfl) ?_
                  refine r_aload_n rfl ?_
                  refine q_getI (Sh.int hI222.1 kx_1 rfl) v219 ((hF223.1 1 0 mf_X10_changed_0_1_0).trans hv219) ?_
                  refine r_iload_n rfl ?_
                  refine q_iast (Sh.arr hI222.1 ka_2) (v219.toInt) rfl (by omega) ?_
                  have hI228 := HI.wA0 hI222 ka_2 (p := 2) rfl rfl (v219.toInt) (a1)
                  have hF229 := Fr.wA (p := 2) (j := v219.toInt) (v := a1) hF226 rfl
                  refine r_aload_n rfl ?_
                  refine q_getR (Sh.ref hI228.1 kx_1 rfl) ?_
                  refine r_aload_n rfl ?_
                  refine q_getI (Sh.int hI228.1 kx_1 rfl) v219 (((gI_sW).trans (hF223.1 1 0 mf_X10_changed_0_1_0)).trans hv219) ?_
                  refine r_iload_n rfl ?_
                  refine q_iast (Sh.arr hI228.1 ka_3) (v219.toInt) rfl (by omega) ?_
                  have hI230 := HI.wA0 hI228 ka_3 (p := 3) rfl rfl (v219.toInt) (a2)
                  have hF231 := Fr.wA (p := 3) (j := v219.toInt) (v := a2) hF229 rfl
                  refine r_aload_n rfl ?_
                  refine q_getR (Sh.ref hI230.1 kx_1 rfl) ?_
                  refine r_aload_n rfl ?_
                  refine q_getI (Sh.int hI230.1 kx_1 rfl) v219 (((gI_sW).trans ((gI_sW).trans (hF223.1 1 0 mf_X10_changed_0_1_0))).trans hv219) ?_
                  refine r_iload_n rfl ?_
                  refine q_iast (Sh.arr hI230.1 ka_4) (v219.toInt) rfl (by omega) ?_
                  have hI232 := HI.wA0 hI230 ka_4 (p := 4) rfl rfl (v219.toInt) (a3)
                  have hF233 := Fr.wA (p := 4) (j := v219.toInt) (v := a3) hF231 rfl
                  refine r_aload_n rfl ?_
                  refine r_dup rfl ?_
                  refine q_getI (Sh.int hI232.1 kx_1 rfl) v219 (((gI_sW).trans ((gI_sW).trans ((gI_sW).trans (hF223.1 1 0 mf_X10_changed_0_1_0)))).trans hv219) ?_
                  refine r_iconst 1 rfl ?_
                  refine q_iadd (v219.toInt + 1) rfl (by omega) (fun v234 hv234 => ?_)
                  refine q_putI (Sh.int hI232.1 kx_1 rfl) rfl ?_
                  have hI235 := HI.wI1 hI232 kx_1 rfl (p := 1) (b := 0) (v := v234) rfl (by dsimp only; omega)
                  have hF236 := Fr.wI (p := 1) (b := 0) (v := v234) hF233 rfl
                  refine r_aload_n rfl ?_
                  refine q_getI (Sh.int hI235.1 kx_1 rfl) v234 (gI_sI_eq hI232.1 kx_1 rfl _) ?_
                  refine r_iconst 1 rfl ?_
                  refine q_isub (v234.toInt - 1) rfl (by omega) (fun v237 hv237 => ?_)
                  refine q_ireti ?_
                  refine At.enter rfl ?_
                  refine q_inlV 67 rfl [.ref 0, .int v237] [] (Nat.le_of_ble_eq_true rfl) rfl ?_
                  refine Ev.mk rfl rfl ⟨Nat.le_of_ble_eq_true rfl, Or.inr (q_rc hI235.1 kx_0 rfl)⟩ ?_
                  show At _ none _ _ (0, [(0, .ref 0), (1, .int v237)], [], (_, _)) _
                  refine At.enter rfl ?_
                  refine r_aload_n rfl ?_
                  refine r_iconst 0 rfl ?_
                  refine q_putI (Sh.int hI235.1 kx_0 rfl) rfl ?_
                  have hI238 := HI.wI0 hI235 kx_0 rfl (p := 0) (b := 17) (v := 0) rfl
                  have hF239 := Fr.wI (p := 0) (b := 17) (v := 0) hF236 rfl
                  refine r_iload_n rfl ?_
                  refine q_ireti ?_
                  refine At.enter rfl ?_
                  refine r_ireti ?_
                  have x240 := HI.eqI hI238 (p := 1) (b := 0) (((gI_sI_ne (by decide)).trans (gI_sI_eq hI232.1 kx_1 rfl _)))
                  have x241 := HI.eqI hI0 (p := 1) (b := 0) (hv219)
                  exact ⟨_, rfl, hI238, hF239, _, rfl, by omega, (by omega)⟩
                · have c227_ : v219.toInt ≥ 12 := en_i_lt_f c227
                  exfalso; omega
              · have c220_ : v219.toInt ≥ 12 := en_i_lt_f c220
                refine At.enter rfl ?_
                refine r_aload_n rfl ?_
                refine r_bipush (-5) rfl ?_
                refine r_callV 48 rfl [.ref 0, .int (-5)] [] (Nat.le_of_ble_eq_true rfl) rfl (T_X10_refused_0 _ hI0 (-5) (by decide)) ?_
                rintro _ _ ⟨g242, rfl, hI243, hF244, v245, rfl, hr246⟩
                refine At.sti ?_
                have hF247 := Fr.tr hF0 hF244 rfl rfl
                have zv248 : ((-5) : Int32).toInt = (-5) := rfl
                refine At.enter rfl ?_
                refine r_ireti ?_
                have x249 := HI.eqI hI243 (p := 1) (b := 0) (((hF244.1 1 0 mf_X10_refused_0_1_0).trans hv219))
                have x250 := HI.eqI hI0 (p := 1) (b := 0) (hv219)
                exact ⟨_, rfl, hI243, hF247, _, rfl, by omega, (by omega)⟩
