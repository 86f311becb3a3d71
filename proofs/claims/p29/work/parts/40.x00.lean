def F_X10_hasBit_hb : List (Nat × Nat) := []
def A_X10_hasBit_hb : List Nat := []
set_option maxRecDepth 100000 in
set_option maxHeartbeats 4000000 in
theorem T_X10_hasBit_hb (d : Nat) {N : Nat} {g0 : List en_E} (hI0 : HI g0) (a0 : Int32) (a1 : Int32) : Ev (d + 1) 155 [.int a0, .int a1] (g0, N) (fun w h' => ∃ g', h' = (g', N) ∧ HI g' ∧ Fr F_X10_hasBit_hb A_X10_hasBit_hb g0 g' ∧ ∃ r : Int32, w = some (.int r) ∧ (0 ≤ r.toInt ∧ r.toInt ≤ 1) ∧ (BL (hbI a0 a1.toInt) r.toInt)) := by
  have hF0 : Fr F_X10_hasBit_hb A_X10_hasBit_hb g0 g0 := Fr.rf
  refine Ev.mk rfl rfl ⟨Nat.le_of_ble_eq_true rfl, Or.inl rfl⟩ ?_
  show At _ none _ _ (0, [(0, .int a0), (1, .int a1)], [], (_, _)) _
  refine At.enter rfl ?_
  refine r_iload_n rfl ?_
  refine r_iload_n rfl ?_
  refine q_ishrO (fun v7 hv7 => ?_)
  refine r_iconst 1 rfl ?_
  refine q_iandO (fun v8 hv8 => ?_)
  refine r_ifs 8 rfl (fun c9 => ?_) (fun c9 => ?_)
  · have c9_ : v8.toInt = 0 := en_k_eq_t c9
    refine At.enter rfl ?_
    refine r_iconst 0 rfl ?_
    refine Ar.fall 13 rfl ?_
    refine At.enter rfl ?_
    refine r_iretz (by decide) ?_
    have zv10 : (0 : Int32).toInt = 0 := rfl
    exact ⟨_, rfl, hI0, hF0, _, rfl, by decide, (Or.inr ⟨by omega, fun f => by first | exact absurd ((hbI.mk (by assumption) hv8).1.mpr f) (by omega) | exact absurd ((hbI.mk (by assumption) hv8).2.mpr f) (by omega)⟩)⟩
  · have c9_ : v8.toInt ≠ 0 := en_k_eq_f c9
    refine At.enter rfl ?_
    refine r_iconst 1 rfl ?_
    refine r_goto ?_
    refine At.enter rfl ?_
    refine r_iretz (by decide) ?_
    have zv11 : (1 : Int32).toInt = 1 := rfl
    exact ⟨_, rfl, hI0, hF0, _, rfl, by decide, (Or.inl ⟨by omega, (hbI.mk (by assumption) hv8).1.mp (by omega)⟩)⟩

def F_J6_bitCount_0f7a4 : List (Nat × Nat) := []
def A_J6_bitCount_0f7a4 : List Nat := []
set_option maxRecDepth 100000 in
set_option maxHeartbeats 4000000 in
theorem T_J6_bitCount_0f7a4 (d : Nat) {N : Nat} {g0 : List en_E} (hI0 : HI g0) (a0 : Int32) : Ev (d + 1) 265 [.int a0] (g0, N) (fun w h' => ∃ g', h' = (g', N) ∧ HI g' ∧ Fr F_J6_bitCount_0f7a4 A_J6_bitCount_0f7a4 g0 g' ∧ ∃ r : Int32, w = some (.int r) ∧ True) := by
  have hF0 : Fr F_J6_bitCount_0f7a4 A_J6_bitCount_0f7a4 g0 g0 := Fr.rf
  refine Ev.mk rfl rfl ⟨Nat.le_of_ble_eq_true rfl, Or.inl rfl⟩ ?_
  show At _ none _ _ (0, [(0, .int a0)], [], (_, _)) _
  refine At.enter rfl ?_
  refine r_iload_n rfl ?_
  refine r_iload_n rfl ?_
  refine r_iconst 1 rfl ?_
  refine q_iushrO (fun v31 hv31 => ?_)
  refine r_ldcw 1431655765 rfl ?_
  refine q_iandO (fun v32 hv32 => ?_)
  refine q_isubO (fun v33 _ => ?_)
  refine r_istore_n ([(0, .int v33)]) rfl ?_
  refine r_iload_n rfl ?_
  refine r_ldcw 858993459 rfl ?_
  refine q_iandO (fun v34 hv34 => ?_)
  refine r_iload_n rfl ?_
  refine r_iconst 2 rfl ?_
  refine q_iushrO (fun v35 hv35 => ?_)
  refine r_ldcw 858993459 rfl ?_
  refine q_iandO (fun v36 hv36 => ?_)
  refine q_iaddO (fun v37 _ => ?_)
  refine r_istore_n ([(0, .int v37)]) rfl ?_
  refine r_iload_n rfl ?_
  refine r_iload_n rfl ?_
  refine r_iconst 4 rfl ?_
  refine q_iushrO (fun v38 hv38 => ?_)
  refine q_iaddO (fun v39 _ => ?_)
  refine r_ldcw 252645135 rfl ?_
  refine q_iandO (fun v40 hv40 => ?_)
  refine r_istore_n ([(0, .int v40)]) rfl ?_
  refine r_iload_n rfl ?_
  refine r_iload_n rfl ?_
  refine r_bipush 8 rfl ?_
  refine q_iushrO (fun v41 hv41 => ?_)
  refine q_iaddO (fun v42 _ => ?_)
  refine r_istore_n ([(0, .int v42)]) rfl ?_
  refine r_iload_n rfl ?_
  refine r_iload_n rfl ?_
  refine r_bipush 16 rfl ?_
  refine q_iushrO (fun v43 hv43 => ?_)
  refine q_iaddO (fun v44 _ => ?_)
  refine r_istore_n ([(0, .int v44)]) rfl ?_
  refine r_iload_n rfl ?_
  refine r_bipush 63 rfl ?_
  refine q_iandO (fun v45 hv45 => ?_)
  refine r_ireti ?_
  exact ⟨_, rfl, hI0, hF0, _, rfl, trivial⟩

def F_X0_lawAt_1 : List (Nat × Nat) := []
def A_X0_lawAt_1 : List Nat := []
set_option maxRecDepth 100000 in
set_option maxHeartbeats 4000000 in
theorem T_X0_lawAt_1 (d : Nat) {N : Nat} {g0 : List en_E} (hI0 : HI g0) (a1 : Int32) : Ev (d + 1) 10 [.ref 1, .int a1] (g0, N) (fun w h' => ∃ g', h' = (g', N) ∧ HI g' ∧ Fr F_X0_lawAt_1 A_X0_lawAt_1 g0 g' ∧ ∃ r : Nat, w = some (.ref r) ∧ Lw r ∧ r = LATX a1.toInt ∧ KSM g0 g') := by
  have hF0 : Fr F_X0_lawAt_1 A_X0_lawAt_1 g0 g0 := Fr.rf
  refine Ev.mk rfl rfl ⟨Nat.le_of_ble_eq_true rfl, Or.inr (q_rc hI0.1 kx_1 rfl)⟩ ?_
  show At _ none _ _ (0, [(0, .ref 1), (1, .int a1)], [], (_, _)) _
  refine At.enter rfl ?_
  refine r_iload_n rfl ?_
  refine r_ifs 4 rfl (fun c7 => ?_) (fun c7 => ?_)
  · have c7_ : a1.toInt < 0 := en_k_lt_t c7
    refine At.enter rfl ?_
    refine r_null ?_
    refine Ar.fall 20 rfl ?_
    refine At.enter rfl ?_
    refine r_zstore_n ([(2, .null), (0, .ref 1), (1, .int a1)]) rfl ?_
    refine r_zload_n rfl ?_
    refine r_nnz 25 rfl ?_
    refine At.enter rfl ?_
    refine r_aload_n rfl ?_
    refine q_getR (Sh.ref hI0.1 kx_1 rfl) ?_
    refine r_goto ?_
    refine At.enter rfl ?_
    refine r_aret ?_
    exact ⟨_, rfl, hI0, hF0, _, rfl, rfl, (LATX_p (by omega)), KSM_rf⟩
  · have c7_ : a1.toInt ≥ 0 := en_k_lt_f c7
    refine At.enter rfl ?_
    refine r_iload_n rfl ?_
    refine r_bipush 6 rfl ?_
    refine r_ics 10 rfl (fun c8 => ?_) (fun c8 => ?_)
    · have c8_ : a1.toInt ≥ 6 := en_i_ge_t c8
      refine At.enter rfl ?_
      refine r_null ?_
      refine Ar.fall 20 rfl ?_
      refine At.enter rfl ?_
      refine r_zstore_n ([(2, .null), (0, .ref 1), (1, .int a1)]) rfl ?_
      refine r_zload_n rfl ?_
      refine r_nnz 25 rfl ?_
      refine At.enter rfl ?_
      refine r_aload_n rfl ?_
      refine q_getR (Sh.ref hI0.1 kx_1 rfl) ?_
      refine r_goto ?_
      refine At.enter rfl ?_
      refine r_aret ?_
      exact ⟨_, rfl, hI0, hF0, _, rfl, rfl, (LATX_p (by omega)), KSM_rf⟩
    · have c8_ : a1.toInt < 6 := en_i_ge_f c8
      refine At.enter rfl ?_
      refine r_aload_n rfl ?_
      refine q_getR (Sh.ref hI0.1 kx_1 rfl) ?_
      refine r_iload_n rfl ?_
      by_cases c9_0 : a1.toInt = 0
      · refine q_aald (Sh.rar hI0.1 ka_6) (by decide) 0 (by omega) (by decide) (some 16) rfl ?_
        refine r_goto ?_
        refine At.enter rfl ?_
        refine r_astore_n ([(2, .ref 16), (0, .ref 1), (1, .int a1)]) rfl ?_
        refine r_aload_n rfl ?_
        refine r_nnr ?_
        refine At.enter rfl ?_
        refine r_aload_n rfl ?_
        refine Ar.fall 33 rfl ?_
        refine At.enter rfl ?_
        refine r_aret ?_
        exact ⟨_, rfl, hI0, hF0, _, rfl, rfl, (LATX_p (by omega)), KSM_rf⟩
      by_cases c9_1 : a1.toInt = 1
      · refine q_aald (Sh.rar hI0.1 ka_6) (by decide) 1 (by omega) (by decide) (some 23) rfl ?_
        refine r_goto ?_
        refine At.enter rfl ?_
        refine r_astore_n ([(2, .ref 23), (0, .ref 1), (1, .int a1)]) rfl ?_
        refine r_aload_n rfl ?_
        refine r_nnr ?_
        refine At.enter rfl ?_
        refine r_aload_n rfl ?_
        refine Ar.fall 33 rfl ?_
        refine At.enter rfl ?_
        refine r_aret ?_
        exact ⟨_, rfl, hI0, hF0, _, rfl, rfl, (LATX_p (by omega)), KSM_rf⟩
      by_cases c9_2 : a1.toInt = 2
      · refine q_aald (Sh.rar hI0.1 ka_6) (by decide) 2 (by omega) (by decide) (some 30) rfl ?_
        refine r_goto ?_
        refine At.enter rfl ?_
        refine r_astore_n ([(2, .ref 30), (0, .ref 1), (1, .int a1)]) rfl ?_
        refine r_aload_n rfl ?_
        refine r_nnr ?_
        refine At.enter rfl ?_
        refine r_aload_n rfl ?_
        refine Ar.fall 33 rfl ?_
        refine At.enter rfl ?_
        refine r_aret ?_
        exact ⟨_, rfl, hI0, hF0, _, rfl, rfl, (LATX_p (by omega)), KSM_rf⟩
      by_cases c9_3 : a1.toInt = 3
      · refine q_aald (Sh.rar hI0.1 ka_6) (by decide) 3 (by omega) (by decide) (some 37) rfl ?_
        refine r_goto ?_
        refine At.enter rfl ?_
        refine r_astore_n ([(2, .ref 37), (0, .ref 1), (1, .int a1)]) rfl ?_
        refine r_aload_n rfl ?_
        refine r_nnr ?_
        refine At.enter rfl ?_
        refine r_aload_n rfl ?_
        refine Ar.fall 33 rfl ?_
        refine At.enter rfl ?_
        refine r_aret ?_
        exact ⟨_, rfl, hI0, hF0, _, rfl, rfl, (LATX_p (by omega)), KSM_rf⟩
      by_cases c9_4 : a1.toInt = 4
      · refine q_aald (Sh.rar hI0.1 ka_6) (by decide) 4 (by omega) (by decide) (some 44) rfl ?_
        refine r_goto ?_
        refine At.enter rfl ?_
        refine r_astore_n ([(2, .ref 44), (0, .ref 1), (1, .int a1)]) rfl ?_
        refine r_aload_n rfl ?_
        refine r_nnr ?_
        refine At.enter rfl ?_
        refine r_aload_n rfl ?_
        refine Ar.fall 33 rfl ?_
        refine At.enter rfl ?_
        refine r_aret ?_
        exact ⟨_, rfl, hI0, hF0, _, rfl, rfl, (LATX_p (by omega)), KSM_rf⟩
      have c9_5 : a1.toInt = 5 := by omega
      refine q_aald (Sh.rar hI0.1 ka_6) (by decide) 5 (by omega) (by decide) (some 51) rfl ?_
      refine r_goto ?_
      refine At.enter rfl ?_
      refine r_astore_n ([(2, .ref 51), (0, .ref 1), (1, .int a1)]) rfl ?_
      refine r_aload_n rfl ?_
      refine r_nnr ?_
      refine At.enter rfl ?_
      refine r_aload_n rfl ?_
      refine Ar.fall 33 rfl ?_
      refine At.enter rfl ?_
      refine r_aret ?_
      exact ⟨_, rfl, hI0, hF0, _, rfl, rfl, (LATX_p (by omega)), KSM_rf⟩

def F_X0_lawAt_59 : List (Nat × Nat) := []
def A_X0_lawAt_59 : List Nat := []
set_option maxRecDepth 100000 in
set_option maxHeartbeats 4000000 in
theorem T_X0_lawAt_59 (d : Nat) {N : Nat} {g0 : List en_E} (hI0 : HI g0) (a1 : Int32) : Ev (d + 1) 10 [.ref 59, .int a1] (g0, N) (fun w h' => ∃ g', h' = (g', N) ∧ HI g' ∧ Fr F_X0_lawAt_59 A_X0_lawAt_59 g0 g' ∧ ∃ r : Nat, w = some (.ref r) ∧ Lw r ∧ r = LATB 59 a1.toInt ∧ KSM g0 g') := by
  have hF0 : Fr F_X0_lawAt_59 A_X0_lawAt_59 g0 g0 := Fr.rf
  refine Ev.mk rfl rfl ⟨Nat.le_of_ble_eq_true rfl, Or.inr (q_rc hI0.1 kx_59 rfl)⟩ ?_
  show At _ none _ _ (0, [(0, .ref 59), (1, .int a1)], [], (_, _)) _
  refine At.enter rfl ?_
  refine r_iload_n rfl ?_
  refine r_ifs 4 rfl (fun c7 => ?_) (fun c7 => ?_)
  · have c7_ : a1.toInt < 0 := en_k_lt_t c7
    refine At.enter rfl ?_
    refine r_null ?_
    refine Ar.fall 20 rfl ?_
    refine At.enter rfl ?_
    refine r_zstore_n ([(2, .null), (0, .ref 59), (1, .int a1)]) rfl ?_
    refine r_zload_n rfl ?_
    refine r_nnz 25 rfl ?_
    refine At.enter rfl ?_
    refine r_aload_n rfl ?_
    refine q_getR (Sh.ref hI0.1 kx_59 rfl) ?_
    refine r_goto ?_
    refine At.enter rfl ?_
    refine r_aret ?_
    exact ⟨_, rfl, hI0, hF0, _, rfl, rfl, (LATB_p (by omega)), KSM_rf⟩
  · have c7_ : a1.toInt ≥ 0 := en_k_lt_f c7
    refine At.enter rfl ?_
    refine r_iload_n rfl ?_
    refine r_bipush 6 rfl ?_
    refine r_ics 10 rfl (fun c8 => ?_) (fun c8 => ?_)
    · have c8_ : a1.toInt ≥ 6 := en_i_ge_t c8
      refine At.enter rfl ?_
      refine r_null ?_
      refine Ar.fall 20 rfl ?_
      refine At.enter rfl ?_
      refine r_zstore_n ([(2, .null), (0, .ref 59), (1, .int a1)]) rfl ?_
      refine r_zload_n rfl ?_
      refine r_nnz 25 rfl ?_
      refine At.enter rfl ?_
      refine r_aload_n rfl ?_
      refine q_getR (Sh.ref hI0.1 kx_59 rfl) ?_
      refine r_goto ?_
      refine At.enter rfl ?_
      refine r_aret ?_
      exact ⟨_, rfl, hI0, hF0, _, rfl, rfl, (LATB_p (by omega)), KSM_rf⟩
    · have c8_ : a1.toInt < 6 := en_i_ge_f c8
      refine At.enter rfl ?_
      refine r_aload_n rfl ?_
      refine q_getR (Sh.ref hI0.1 kx_59 rfl) ?_
      refine r_iload_n rfl ?_
      by_cases c9_0 : a1.toInt = 0
      · refine q_aald (Sh.rar hI0.1 ka_64) (by decide) 0 (by omega) (by decide) (some 74) rfl ?_
        refine r_goto ?_
        refine At.enter rfl ?_
        refine r_astore_n ([(2, .ref 74), (0, .ref 59), (1, .int a1)]) rfl ?_
        refine r_aload_n rfl ?_
        refine r_nnr ?_
        refine At.enter rfl ?_
        refine r_aload_n rfl ?_
        refine Ar.fall 33 rfl ?_
        refine At.enter rfl ?_
        refine r_aret ?_
        exact ⟨_, rfl, hI0, hF0, _, rfl, rfl, (LATB_p (by omega)), KSM_rf⟩
      by_cases c9_1 : a1.toInt = 1
      · refine q_aald (Sh.rar hI0.1 ka_64) (by decide) 1 (by omega) (by decide) (some 81) rfl ?_
        refine r_goto ?_
        refine At.enter rfl ?_
        refine r_astore_n ([(2, .ref 81), (0, .ref 59), (1, .int a1)]) rfl ?_
        refine r_aload_n rfl ?_
        refine r_nnr ?_
        refine At.enter rfl ?_
        refine r_aload_n rfl ?_
        refine Ar.fall 33 rfl ?_
        refine At.enter rfl ?_
        refine r_aret ?_
        exact ⟨_, rfl, hI0, hF0, _, rfl, rfl, (LATB_p (by omega)), KSM_rf⟩
      by_cases c9_2 : a1.toInt = 2
      · refine q_aald (Sh.rar hI0.1 ka_64) (by decide) 2 (by omega) (by decide) (some 88) rfl ?_
        refine r_goto ?_
        refine At.enter rfl ?_
        refine r_astore_n ([(2, .ref 88), (0, .ref 59), (1, .int a1)]) rfl ?_
        refine r_aload_n rfl ?_
        refine r_nnr ?_
        refine At.enter rfl ?_
        refine r_aload_n rfl ?_
        refine Ar.fall 33 rfl ?_
        refine At.enter rfl ?_
        refine r_aret ?_
        exact ⟨_, rfl, hI0, hF0, _, rfl, rfl, (LATB_p (by omega)), KSM_rf⟩
      by_cases c9_3 : a1.toInt = 3
      · refine q_aald (Sh.rar hI0.1 ka_64) (by decide) 3 (by omega) (by decide) (some 95) rfl ?_
        refine r_goto ?_
        refine At.enter rfl ?_
        refine r_astore_n ([(2, .ref 95), (0, .ref 59), (1, .int a1)]) rfl ?_
        refine r_aload_n rfl ?_
        refine r_nnr ?_
        refine At.enter rfl ?_
        refine r_aload_n rfl ?_
        refine Ar.fall 33 rfl ?_
        refine At.enter rfl ?_
        refine r_aret ?_
        exact ⟨_, rfl, hI0, hF0, _, rfl, rfl, (LATB_p (by omega)), KSM_rf⟩
      by_cases c9_4 : a1.toInt = 4
      · refine q_aald (Sh.rar hI0.1 ka_64) (by decide) 4 (by omega) (by decide) (some 102) rfl ?_
        refine r_goto ?_
        refine At.enter rfl ?_
        refine r_astore_n ([(2, .ref 102), (0, .ref 59), (1, .int a1)]) rfl ?_
        refine r_aload_n rfl ?_
        refine r_nnr ?_
        refine At.enter rfl ?_
        refine r_aload_n rfl ?_
        refine Ar.fall 33 rfl ?_
        refine At.enter rfl ?_
        refine r_aret ?_
        exact ⟨_, rfl, hI0, hF0, _, rfl, rfl, (LATB_p (by omega)), KSM_rf⟩
      have c9_5 : a1.toInt = 5 := by omega
      refine q_aald (Sh.rar hI0.1 ka_64) (by decide) 5 (by omega) (by decide) (some 109) rfl ?_
      refine r_goto ?_
      refine At.enter rfl ?_
      refine r_astore_n ([(2, .ref 109), (0, .ref 59), (1, .int a1)]) rfl ?_
      refine r_aload_n rfl ?_
      refine r_nnr ?_
      refine At.enter rfl ?_
      refine r_aload_n rfl ?_
      refine Ar.fall 33 rfl ?_
      refine At.enter rfl ?_
      refine r_aret ?_
      exact ⟨_, rfl, hI0, hF0, _, rfl, rfl, (LATB_p (by omega)), KSM_rf⟩
