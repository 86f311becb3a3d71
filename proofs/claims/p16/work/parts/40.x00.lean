def F_J6_bitCount_0f7a4 : List (Nat × Nat) := []
def A_J6_bitCount_0f7a4 : List Nat := []
set_option maxRecDepth 100000 in
set_option maxHeartbeats 4000000 in
theorem T_J6_bitCount_0f7a4 (d : Nat) {N : Nat} {g0 : List en_E} (hI0 : HI g0) (a0 : Int32) : Ev (d + 1) 265 [.int a0] (g0, N) (fun w h' => ∃ g', h' = (g', N) ∧ HI g' ∧ Fr F_J6_bitCount_0f7a4 A_J6_bitCount_0f7a4 g0 g' ∧ ∃ r : Int32, w = some (.int r) ∧ True) := by
  have hF0 : Fr F_J6_bitCount_0f7a4 A_J6_bitCount_0f7a4 g0 g0 := Fr.rf
  refine Ev.mk rfl rfl ⟨Nat.le_of_ble_eq_true rfl, Or.inl rfl⟩ ?_
  show At _ none _ _ (0, [(0, .int a0)], [], (_, _)) _
  refine At.enter rfl ?_
  refine r_iload_n rfl ?_
  refine r_iload_n rfl ?_
  refine r_iconst 1 rfl ?_
  refine q_iushrO (fun v31 hv31 => ?_)
  refine r_ldcw 1431655765 rfl ?_
  refine q_iandO (fun v32 hv32 => ?_)
  refine q_isubO (fun v33 _ => ?_)
  refine r_istore_n ([(0, .int v33)]) rfl ?_
  refine r_iload_n rfl ?_
  refine r_ldcw 858993459 rfl ?_
  refine q_iandO (fun v34 hv34 => ?_)
  refine r_iload_n rfl ?_
  refine r_iconst 2 rfl ?_
  refine q_iushrO (fun v35 hv35 => ?_)
  refine r_ldcw 858993459 rfl ?_
  refine q_iandO (fun v36 hv36 => ?_)
  refine q_iaddO (fun v37 _ => ?_)
  refine r_istore_n ([(0, .int v37)]) rfl ?_
  refine r_iload_n rfl ?_
  refine r_iload_n rfl ?_
  refine r_iconst 4 rfl ?_
  refine q_iushrO (fun v38 hv38 => ?_)
  refine q_iaddO (fun v39 _ => ?_)
  refine r_ldcw 252645135 rfl ?_
  refine q_iandO (fun v40 hv40 => ?_)
  refine r_istore_n ([(0, .int v40)]) rfl ?_
  refine r_iload_n rfl ?_
  refine r_iload_n rfl ?_
  refine r_bipush 8 rfl ?_
  refine q_iushrO (fun v41 hv41 => ?_)
  refine q_iaddO (fun v42 _ => ?_)
  refine r_istore_n ([(0, .int v42)]) rfl ?_
  refine r_iload_n rfl ?_
  refine r_iload_n rfl ?_
  refine r_bipush 16 rfl ?_
  refine q_iushrO (fun v43 hv43 => ?_)
  refine q_iaddO (fun v44 _ => ?_)
  refine r_istore_n ([(0, .int v44)]) rfl ?_
  refine r_iload_n rfl ?_
  refine r_bipush 63 rfl ?_
  refine q_iandO (fun v45 hv45 => ?_)
  refine r_ireti ?_
  exact ⟨_, rfl, hI0, hF0, _, rfl, trivial⟩

def F_X0_lawAt_1 : List (Nat × Nat) := []
def A_X0_lawAt_1 : List Nat := []
set_option maxRecDepth 100000 in
set_option maxHeartbeats 4000000 in
theorem T_X0_lawAt_1 (d : Nat) {N : Nat} {g0 : List en_E} (hI0 : HI g0) (a1 : Int32) : Ev (d + 1) 10 [.ref 1, .int a1] (g0, N) (fun w h' => ∃ g', h' = (g', N) ∧ HI g' ∧ Fr F_X0_lawAt_1 A_X0_lawAt_1 g0 g' ∧ ∃ r : Nat, w = some (.ref r) ∧ Lw r) := by
  have hF0 : Fr F_X0_lawAt_1 A_X0_lawAt_1 g0 g0 := Fr.rf
  refine Ev.mk rfl rfl ⟨Nat.le_of_ble_eq_true rfl, Or.inr (q_rc hI0.1 kx_1 rfl)⟩ ?_
  show At _ none _ _ (0, [(0, .ref 1), (1, .int a1)], [], (_, _)) _
  refine At.enter rfl ?_
  refine r_iload_n rfl ?_
  refine r_ifs 4 rfl (fun c7 => ?_) (fun c7 => ?_)
  · have c7_ : a1.toInt < 0 := en_k_lt_t c7
    refine At.enter rfl ?_
    refine r_null ?_
    refine Ar.fall 20 rfl ?_
    refine At.enter rfl ?_
    refine r_zstore_n ([(2, .null), (0, .ref 1), (1, .int a1)]) rfl ?_
    refine r_zload_n rfl ?_
    refine r_nnz 25 rfl ?_
    refine At.enter rfl ?_
    refine r_aload_n rfl ?_
    refine q_getR (Sh.ref hI0.1 kx_1 rfl) ?_
    refine r_goto ?_
    refine At.enter rfl ?_
    refine r_aret ?_
    exact ⟨_, rfl, hI0, hF0, _, rfl, rfl⟩
  · have c7_ : a1.toInt ≥ 0 := en_k_lt_f c7
    refine At.enter rfl ?_
    refine r_iload_n rfl ?_
    refine r_bipush 6 rfl ?_
    refine r_ics 10 rfl (fun c8 => ?_) (fun c8 => ?_)
    · have c8_ : a1.toInt ≥ 6 := en_i_ge_t c8
      refine At.enter rfl ?_
      refine r_null ?_
      refine Ar.fall 20 rfl ?_
      refine At.enter rfl ?_
      refine r_zstore_n ([(2, .null), (0, .ref 1), (1, .int a1)]) rfl ?_
      refine r_zload_n rfl ?_
      refine r_nnz 25 rfl ?_
      refine At.enter rfl ?_
      refine r_aload_n rfl ?_
      refine q_getR (Sh.ref hI0.1 kx_1 rfl) ?_
      refine r_goto ?_
      refine At.enter rfl ?_
      refine r_aret ?_
      exact ⟨_, rfl, hI0, hF0, _, rfl, rfl⟩
    · have c8_ : a1.toInt < 6 := en_i_ge_f c8
      refine At.enter rfl ?_
      refine r_aload_n rfl ?_
      refine q_getR (Sh.ref hI0.1 kx_1 rfl) ?_
      refine r_iload_n rfl ?_
      by_cases c9_0 : a1.toInt = 0
      · refine q_aald (Sh.rar hI0.1 ka_6) (by decide) 0 (by omega) (by decide) (some 16) rfl ?_
        refine r_goto ?_
        refine At.enter rfl ?_
        refine r_astore_n ([(2, .ref 16), (0, .ref 1), (1, .int a1)]) rfl ?_
        refine r_aload_n rfl ?_
        refine r_nnr ?_
        refine At.enter rfl ?_
        refine r_aload_n rfl ?_
        refine Ar.fall 33 rfl ?_
        refine At.enter rfl ?_
        refine r_aret ?_
        exact ⟨_, rfl, hI0, hF0, _, rfl, rfl⟩
      by_cases c9_1 : a1.toInt = 1
      · refine q_aald (Sh.rar hI0.1 ka_6) (by decide) 1 (by omega) (by decide) (some 23) rfl ?_
        refine r_goto ?_
        refine At.enter rfl ?_
        refine r_astore_n ([(2, .ref 23), (0, .ref 1), (1, .int a1)]) rfl ?_
        refine r_aload_n rfl ?_
        refine r_nnr ?_
        refine At.enter rfl ?_
        refine r_aload_n rfl ?_
        refine Ar.fall 33 rfl ?_
        refine At.enter rfl ?_
        refine r_aret ?_
        exact ⟨_, rfl, hI0, hF0, _, rfl, rfl⟩
      by_cases c9_2 : a1.toInt = 2
      · refine q_aald (Sh.rar hI0.1 ka_6) (by decide) 2 (by omega) (by decide) (some 30) rfl ?_
        refine r_goto ?_
        refine At.enter rfl ?_
        refine r_astore_n ([(2, .ref 30), (0, .ref 1), (1, .int a1)]) rfl ?_
        refine r_aload_n rfl ?_
        refine r_nnr ?_
        refine At.enter rfl ?_
        refine r_aload_n rfl ?_
        refine Ar.fall 33 rfl ?_
        refine At.enter rfl ?_
        refine r_aret ?_
        exact ⟨_, rfl, hI0, hF0, _, rfl, rfl⟩
      by_cases c9_3 : a1.toInt = 3
      · refine q_aald (Sh.rar hI0.1 ka_6) (by decide) 3 (by omega) (by decide) (some 37) rfl ?_
        refine r_goto ?_
        refine At.enter rfl ?_
        refine r_astore_n ([(2, .ref 37), (0, .ref 1), (1, .int a1)]) rfl ?_
        refine r_aload_n rfl ?_
        refine r_nnr ?_
        refine At.enter rfl ?_
        refine r_aload_n rfl ?_
        refine Ar.fall 33 rfl ?_
        refine At.enter rfl ?_
        refine r_aret ?_
        exact ⟨_, rfl, hI0, hF0, _, rfl, rfl⟩
      by_cases c9_4 : a1.toInt = 4
      · refine q_aald (Sh.rar hI0.1 ka_6) (by decide) 4 (by omega) (by decide) (some 44) rfl ?_
        refine r_goto ?_
        refine At.enter rfl ?_
        refine r_astore_n ([(2, .ref 44), (0, .ref 1), (1, .int a1)]) rfl ?_
        refine r_aload_n rfl ?_
        refine r_nnr ?_
        refine At.enter rfl ?_
        refine r_aload_n rfl ?_
        refine Ar.fall 33 rfl ?_
        refine At.enter rfl ?_
        refine r_aret ?_
        exact ⟨_, rfl, hI0, hF0, _, rfl, rfl⟩
      have c9_5 : a1.toInt = 5 := by omega
      refine q_aald (Sh.rar hI0.1 ka_6) (by decide) 5 (by omega) (by decide) (some 51) rfl ?_
      refine r_goto ?_
      refine At.enter rfl ?_
      refine r_astore_n ([(2, .ref 51), (0, .ref 1), (1, .int a1)]) rfl ?_
      refine r_aload_n rfl ?_
      refine r_nnr ?_
      refine At.enter rfl ?_
      refine r_aload_n rfl ?_
      refine Ar.fall 33 rfl ?_
      refine At.enter rfl ?_
      refine r_aret ?_
      exact ⟨_, rfl, hI0, hF0, _, rfl, rfl⟩

def F_X0_lawAt_59 : List (Nat × Nat) := []
def A_X0_lawAt_59 : List Nat := []
set_option maxRecDepth 100000 in
set_option maxHeartbeats 4000000 in
theorem T_X0_lawAt_59 (d : Nat) {N : Nat} {g0 : List en_E} (hI0 : HI g0) (a1 : Int32) : Ev (d + 1) 10 [.ref 59, .int a1] (g0, N) (fun w h' => ∃ g', h' = (g', N) ∧ HI g' ∧ Fr F_X0_lawAt_59 A_X0_lawAt_59 g0 g' ∧ ∃ r : Nat, w = some (.ref r) ∧ Lw r) := by
  have hF0 : Fr F_X0_lawAt_59 A_X0_lawAt_59 g0 g0 := Fr.rf
  refine Ev.mk rfl rfl ⟨Nat.le_of_ble_eq_true rfl, Or.inr (q_rc hI0.1 kx_59 rfl)⟩ ?_
  show At _ none _ _ (0, [(0, .ref 59), (1, .int a1)], [], (_, _)) _
  refine At.enter rfl ?_
  refine r_iload_n rfl ?_
  refine r_ifs 4 rfl (fun c7 => ?_) (fun c7 => ?_)
  · have c7_ : a1.toInt < 0 := en_k_lt_t c7
    refine At.enter rfl ?_
    refine r_null ?_
    refine Ar.fall 20 rfl ?_
    refine At.enter rfl ?_
    refine r_zstore_n ([(2, .null), (0, .ref 59), (1, .int a1)]) rfl ?_
    refine r_zload_n rfl ?_
    refine r_nnz 25 rfl ?_
    refine At.enter rfl ?_
    refine r_aload_n rfl ?_
    refine q_getR (Sh.ref hI0.1 kx_59 rfl) ?_
    refine r_goto ?_
    refine At.enter rfl ?_
    refine r_aret ?_
    exact ⟨_, rfl, hI0, hF0, _, rfl, rfl⟩
  · have c7_ : a1.toInt ≥ 0 := en_k_lt_f c7
    refine At.enter rfl ?_
    refine r_iload_n rfl ?_
    refine r_bipush 6 rfl ?_
    refine r_ics 10 rfl (fun c8 => ?_) (fun c8 => ?_)
    · have c8_ : a1.toInt ≥ 6 := en_i_ge_t c8
      refine At.enter rfl ?_
      refine r_null ?_
      refine Ar.fall 20 rfl ?_
      refine At.enter rfl ?_
      refine r_zstore_n ([(2, .null), (0, .ref 59), (1, .int a1)]) rfl ?_
      refine r_zload_n rfl ?_
      refine r_nnz 25 rfl ?_
      refine At.enter rfl ?_
      refine r_aload_n rfl ?_
      refine q_getR (Sh.ref hI0.1 kx_59 rfl) ?_
      refine r_goto ?_
      refine At.enter rfl ?_
      refine r_aret ?_
      exact ⟨_, rfl, hI0, hF0, _, rfl, rfl⟩
    · have c8_ : a1.toInt < 6 := en_i_ge_f c8
      refine At.enter rfl ?_
      refine r_aload_n rfl ?_
      refine q_getR (Sh.ref hI0.1 kx_59 rfl) ?_
      refine r_iload_n rfl ?_
      by_cases c9_0 : a1.toInt = 0
      · refine q_aald (Sh.rar hI0.1 ka_64) (by decide) 0 (by omega) (by decide) (some 74) rfl ?_
        refine r_goto ?_
        refine At.enter rfl ?_
        refine r_astore_n ([(2, .ref 74), (0, .ref 59), (1, .int a1)]) rfl ?_
        refine r_aload_n rfl ?_
        refine r_nnr ?_
        refine At.enter rfl ?_
        refine r_aload_n rfl ?_
        refine Ar.fall 33 rfl ?_
        refine At.enter rfl ?_
        refine r_aret ?_
        exact ⟨_, rfl, hI0, hF0, _, rfl, rfl⟩
      by_cases c9_1 : a1.toInt = 1
      · refine q_aald (Sh.rar hI0.1 ka_64) (by decide) 1 (by omega) (by decide) (some 81) rfl ?_
        refine r_goto ?_
        refine At.enter rfl ?_
        refine r_astore_n ([(2, .ref 81), (0, .ref 59), (1, .int a1)]) rfl ?_
        refine r_aload_n rfl ?_
        refine r_nnr ?_
        refine At.enter rfl ?_
        refine r_aload_n rfl ?_
        refine Ar.fall 33 rfl ?_
        refine At.enter rfl ?_
        refine r_aret ?_
        exact ⟨_, rfl, hI0, hF0, _, rfl, rfl⟩
      by_cases c9_2 : a1.toInt = 2
      · refine q_aald (Sh.rar hI0.1 ka_64) (by decide) 2 (by omega) (by decide) (some 88) rfl ?_
        refine r_goto ?_
        refine At.enter rfl ?_
        refine r_astore_n ([(2, .ref 88), (0, .ref 59), (1, .int a1)]) rfl ?_
        refine r_aload_n rfl ?_
        refine r_nnr ?_
        refine At.enter rfl ?_
        refine r_aload_n rfl ?_
        refine Ar.fall 33 rfl ?_
        refine At.enter rfl ?_
        refine r_aret ?_
        exact ⟨_, rfl, hI0, hF0, _, rfl, rfl⟩
      by_cases c9_3 : a1.toInt = 3
      · refine q_aald (Sh.rar hI0.1 ka_64) (by decide) 3 (by omega) (by decide) (some 95) rfl ?_
        refine r_goto ?_
        refine At.enter rfl ?_
        refine r_astore_n ([(2, .ref 95), (0, .ref 59), (1, .int a1)]) rfl ?_
        refine r_aload_n rfl ?_
        refine r_nnr ?_
        refine At.enter rfl ?_
        refine r_aload_n rfl ?_
        refine Ar.fall 33 rfl ?_
        refine At.enter rfl ?_
        refine r_aret ?_
        exact ⟨_, rfl, hI0, hF0, _, rfl, rfl⟩
      by_cases c9_4 : a1.toInt = 4
      · refine q_aald (Sh.rar hI0.1 ka_64) (by decide) 4 (by omega) (by decide) (some 102) rfl ?_
        refine r_goto ?_
        refine At.enter rfl ?_
        refine r_astore_n ([(2, .ref 102), (0, .ref 59), (1, .int a1)]) rfl ?_
        refine r_aload_n rfl ?_
        refine r_nnr ?_
        refine At.enter rfl ?_
        refine r_aload_n rfl ?_
        refine Ar.fall 33 rfl ?_
        refine At.enter rfl ?_
        refine r_aret ?_
        exact ⟨_, rfl, hI0, hF0, _, rfl, rfl⟩
      have c9_5 : a1.toInt = 5 := by omega
      refine q_aald (Sh.rar hI0.1 ka_64) (by decide) 5 (by omega) (by decide) (some 109) rfl ?_
      refine r_goto ?_
      refine At.enter rfl ?_
      refine r_astore_n ([(2, .ref 109), (0, .ref 59), (1, .int a1)]) rfl ?_
      refine r_aload_n rfl ?_
      refine r_nnr ?_
      refine At.enter rfl ?_
      refine r_aload_n rfl ?_
      refine Ar.fall 33 rfl ?_
      refine At.enter rfl ?_
      refine r_aret ?_
      exact ⟨_, rfl, hI0, hF0, _, rfl, rfl⟩

def F_X0_lawAt_116 : List (Nat × Nat) := []
def A_X0_lawAt_116 : List Nat := []
set_option maxRecDepth 100000 in
set_option maxHeartbeats 4000000 in
theorem T_X0_lawAt_116 (d : Nat) {N : Nat} {g0 : List en_E} (hI0 : HI g0) (a1 : Int32) : Ev (d + 1) 10 [.ref 116, .int a1] (g0, N) (fun w h' => ∃ g', h' = (g', N) ∧ HI g' ∧ Fr F_X0_lawAt_116 A_X0_lawAt_116 g0 g' ∧ ∃ r : Nat, w = some (.ref r) ∧ Lw r) := by
  have hF0 : Fr F_X0_lawAt_116 A_X0_lawAt_116 g0 g0 := Fr.rf
  refine Ev.mk rfl rfl ⟨Nat.le_of_ble_eq_true rfl, Or.inr (q_rc hI0.1 kx_116 rfl)⟩ ?_
  show At _ none _ _ (0, [(0, .ref 116), (1, .int a1)], [], (_, _)) _
  refine At.enter rfl ?_
  refine r_iload_n rfl ?_
  refine r_ifs 4 rfl (fun c7 => ?_) (fun c7 => ?_)
  · have c7_ : a1.toInt < 0 := en_k_lt_t c7
    refine At.enter rfl ?_
    refine r_null ?_
    refine Ar.fall 20 rfl ?_
    refine At.enter rfl ?_
    refine r_zstore_n ([(2, .null), (0, .ref 116), (1, .int a1)]) rfl ?_
    refine r_zload_n rfl ?_
    refine r_nnz 25 rfl ?_
    refine At.enter rfl ?_
    refine r_aload_n rfl ?_
    refine q_getR (Sh.ref hI0.1 kx_116 rfl) ?_
    refine r_goto ?_
    refine At.enter rfl ?_
    refine r_aret ?_
    exact ⟨_, rfl, hI0, hF0, _, rfl, rfl⟩
  · have c7_ : a1.toInt ≥ 0 := en_k_lt_f c7
    refine At.enter rfl ?_
    refine r_iload_n rfl ?_
    refine r_bipush 6 rfl ?_
    refine r_ics 10 rfl (fun c8 => ?_) (fun c8 => ?_)
    · have c8_ : a1.toInt ≥ 6 := en_i_ge_t c8
      refine At.enter rfl ?_
      refine r_null ?_
      refine Ar.fall 20 rfl ?_
      refine At.enter rfl ?_
      refine r_zstore_n ([(2, .null), (0, .ref 116), (1, .int a1)]) rfl ?_
      refine r_zload_n rfl ?_
      refine r_nnz 25 rfl ?_
      refine At.enter rfl ?_
      refine r_aload_n rfl ?_
      refine q_getR (Sh.ref hI0.1 kx_116 rfl) ?_
      refine r_goto ?_
      refine At.enter rfl ?_
      refine r_aret ?_
      exact ⟨_, rfl, hI0, hF0, _, rfl, rfl⟩
    · have c8_ : a1.toInt < 6 := en_i_ge_f c8
      refine At.enter rfl ?_
      refine r_aload_n rfl ?_
      refine q_getR (Sh.ref hI0.1 kx_116 rfl) ?_
      refine r_iload_n rfl ?_
      by_cases c9_0 : a1.toInt = 0
      · refine q_aald (Sh.rar hI0.1 ka_121) (by decide) 0 (by omega) (by decide) (some 131) rfl ?_
        refine r_goto ?_
        refine At.enter rfl ?_
        refine r_astore_n ([(2, .ref 131), (0, .ref 116), (1, .int a1)]) rfl ?_
        refine r_aload_n rfl ?_
        refine r_nnr ?_
        refine At.enter rfl ?_
        refine r_aload_n rfl ?_
        refine Ar.fall 33 rfl ?_
        refine At.enter rfl ?_
        refine r_aret ?_
        exact ⟨_, rfl, hI0, hF0, _, rfl, rfl⟩
      by_cases c9_1 : a1.toInt = 1
      · refine q_aald (Sh.rar hI0.1 ka_121) (by decide) 1 (by omega) (by decide) (some 138) rfl ?_
        refine r_goto ?_
        refine At.enter rfl ?_
        refine r_astore_n ([(2, .ref 138), (0, .ref 116), (1, .int a1)]) rfl ?_
        refine r_aload_n rfl ?_
        refine r_nnr ?_
        refine At.enter rfl ?_
        refine r_aload_n rfl ?_
        refine Ar.fall 33 rfl ?_
        refine At.enter rfl ?_
        refine r_aret ?_
        exact ⟨_, rfl, hI0, hF0, _, rfl, rfl⟩
      by_cases c9_2 : a1.toInt = 2
      · refine q_aald (Sh.rar hI0.1 ka_121) (by decide) 2 (by omega) (by decide) (some 145) rfl ?_
        refine r_goto ?_
        refine At.enter rfl ?_
        refine r_astore_n ([(2, .ref 145), (0, .ref 116), (1, .int a1)]) rfl ?_
        refine r_aload_n rfl ?_
        refine r_nnr ?_
        refine At.enter rfl ?_
        refine r_aload_n rfl ?_
        refine Ar.fall 33 rfl ?_
        refine At.enter rfl ?_
        refine r_aret ?_
        exact ⟨_, rfl, hI0, hF0, _, rfl, rfl⟩
      by_cases c9_3 : a1.toInt = 3
      · refine q_aald (Sh.rar hI0.1 ka_121) (by decide) 3 (by omega) (by decide) (some 152) rfl ?_
        refine r_goto ?_
        refine At.enter rfl ?_
        refine r_astore_n ([(2, .ref 152), (0, .ref 116), (1, .int a1)]) rfl ?_
        refine r_aload_n rfl ?_
        refine r_nnr ?_
        refine At.enter rfl ?_
        refine r_aload_n rfl ?_
        refine Ar.fall 33 rfl ?_
        refine At.enter rfl ?_
        refine r_aret ?_
        exact ⟨_, rfl, hI0, hF0, _, rfl, rfl⟩
      by_cases c9_4 : a1.toInt = 4
      · refine q_aald (Sh.rar hI0.1 ka_121) (by decide) 4 (by omega) (by decide) (some 159) rfl ?_
        refine r_goto ?_
        refine At.enter rfl ?_
        refine r_astore_n ([(2, .ref 159), (0, .ref 116), (1, .int a1)]) rfl ?_
        refine r_aload_n rfl ?_
        refine r_nnr ?_
        refine At.enter rfl ?_
        refine r_aload_n rfl ?_
        refine Ar.fall 33 rfl ?_
        refine At.enter rfl ?_
        refine r_aret ?_
        exact ⟨_, rfl, hI0, hF0, _, rfl, rfl⟩
      have c9_5 : a1.toInt = 5 := by omega
      refine q_aald (Sh.rar hI0.1 ka_121) (by decide) 5 (by omega) (by decide) (some 166) rfl ?_
      refine r_goto ?_
      refine At.enter rfl ?_
      refine r_astore_n ([(2, .ref 166), (0, .ref 116), (1, .int a1)]) rfl ?_
      refine r_aload_n rfl ?_
      refine r_nnr ?_
      refine At.enter rfl ?_
      refine r_aload_n rfl ?_
      refine Ar.fall 33 rfl ?_
      refine At.enter rfl ?_
      refine r_aret ?_
      exact ⟨_, rfl, hI0, hF0, _, rfl, rfl⟩

def F_X4_become_law : List (Nat × Nat) := [(7, 0), (7, 3), (7, 4), (16, 0), (16, 3), (16, 4), (23, 0), (23, 3), (23, 4), (30, 0), (30, 3), (30, 4), (37, 0), (37, 3), (37, 4), (44, 0), (44, 3), (44, 4), (51, 0), (51, 3), (51, 4), (65, 0), (65, 3), (65, 4), (74, 0), (74, 3), (74, 4), (81, 0), (81, 3), (81, 4), (88, 0), (88, 3), (88, 4), (95, 0), (95, 3), (95, 4), (102, 0), (102, 3), (102, 4), (109, 0), (109, 3), (109, 4), (122, 0), (122, 3), (122, 4), (131, 0), (131, 3), (131, 4), (138, 0), (138, 3), (138, 4), (145, 0), (145, 3), (145, 4), (152, 0), (152, 3), (152, 4), (159, 0), (159, 3), (159, 4), (166, 0), (166, 3), (166, 4), (177, 0), (177, 3), (177, 4)]
def A_X4_become_law : List Nat := [8, 9, 10, 11, 12, 13, 17, 18, 19, 20, 21, 22, 24, 25, 26, 27, 28, 29, 31, 32, 33, 34, 35, 36, 38, 39, 40, 41, 42, 43, 45, 46, 47, 48, 49, 50, 52, 53, 54, 55, 56, 57, 66, 67, 68, 69, 70, 71, 75, 76, 77, 78, 79, 80, 82, 83, 84, 85, 86, 87, 89, 90, 91, 92, 93, 94, 96, 97, 98, 99, 100, 101, 103, 104, 105, 106, 107, 108, 110, 111, 112, 113, 114, 115, 123, 124, 125, 126, 127, 128, 132, 133, 134, 135, 136, 137, 139, 140, 141, 142, 143, 144, 146, 147, 148, 149, 150, 151, 153, 154, 155, 156, 157, 158, 160, 161, 162, 163, 164, 165, 167, 168, 169, 170, 171, 172, 178, 179, 180, 181, 182, 183]
set_option maxRecDepth 100000 in
set_option maxHeartbeats 4000000 in
theorem T_X4_become_law (d : Nat) {N : Nat} {g0 : List en_E} (hI0 : HI g0) (q0 : Nat) (hq0 : Lw q0) (q1 : Nat) (hq1 : Lw q1) : Ev (d + 1) 56 [.ref (q0), .ref (q1)] (g0, N) (fun w h' => ∃ g', h' = (g', N) ∧ HI g' ∧ Fr F_X4_become_law A_X4_become_law g0 g' ∧ w = none) := by
  have hF0 : Fr F_X4_become_law A_X4_become_law g0 g0 := Fr.rf
  refine Ev.mk rfl rfl ⟨Nat.le_of_ble_eq_true rfl, Or.inr (q_rc hI0.1 (Lw.ko hq0) rfl)⟩ ?_
  show At _ none _ _ (0, [(0, .ref (q0)), (1, .ref (q1))], [], (_, _)) _
  refine At.enter rfl ?_
  refine r_aload_n rfl ?_
  refine r_aload_n rfl ?_
  refine q_getI' (Sh.int hI0.1 (Lw.ko hq1) rfl) (fun v79 hv79 => ?_)
  have rv79 := RgF.at hI0.2.1 (Lw.r0 hq1)
  rw [hv79] at rv79
  dsimp only at rv79
  refine q_putI (Sh.int hI0.1 (Lw.ko hq0) rfl) rfl ?_
  have hI80 := HI.wI1 hI0 (Lw.ko hq0) rfl (p := q0) (b := 0) (v := v79) (Lw.r0 hq0) (by dsimp only; omega)
  have hF81 := Fr.wI (p := q0) (b := 0) (v := v79) hF0 (memA_all hq0 (P := fun q => memF F_X4_become_law q 0) rfl)
  refine r_aload_n rfl ?_
  refine q_getR (Sh.ref hI80.1 (Lw.ko hq1) rfl) ?_
  refine r_iconst 0 rfl ?_
  refine r_aload_n rfl ?_
  refine q_getR (Sh.ref hI80.1 (Lw.ko hq0) rfl) ?_
  refine r_iconst 0 rfl ?_
  refine r_sipush 400 rfl ?_
  have zv82 : (0 : Int32).toInt = 0 := rfl
  have zv83 : (0 : Int32).toInt = 0 := rfl
  have zv84 : (400 : Int32).toInt = 400 := rfl
  refine q_cpy rfl (Nat.le_of_ble_eq_true rfl) (Sh.arr hI80.1 (Lw.k1 hq1)) (Sh.arr hI80.1 (Lw.k1 hq0)) ⟨by omega, by omega, by omega, by omega, by omega⟩ ?_
  have hI85 := HI.cpy0 hI80 (Lw.k1 hq1) (Lw.k1 hq0) (Lw.a1 hq0) (Lw.w1 hq0) ((0 : Int32).toInt.toNat) ((0 : Int32).toInt.toNat) ((400 : Int32).toInt.toNat) (by omega) (by omega)
  have hF86 := Fr.cpy (p0 := q1 + 1) (p1 := q0 + 1) hF81 (memA_all hq0 (P := fun q => memA A_X4_become_law (q + 1)) rfl) ((0 : Int32).toInt.toNat) ((0 : Int32).toInt.toNat) ((400 : Int32).toInt.toNat)
  refine r_aload_n rfl ?_
  refine q_getR (Sh.ref hI85.1 (Lw.ko hq1) rfl) ?_
  refine r_iconst 0 rfl ?_
  refine r_aload_n rfl ?_
  refine q_getR (Sh.ref hI85.1 (Lw.ko hq0) rfl) ?_
  refine r_iconst 0 rfl ?_
  refine r_sipush 400 rfl ?_
  have zv87 : (0 : Int32).toInt = 0 := rfl
  have zv88 : (0 : Int32).toInt = 0 := rfl
  have zv89 : (400 : Int32).toInt = 400 := rfl
  refine q_cpy rfl (Nat.le_of_ble_eq_true rfl) (Sh.arr hI85.1 (Lw.k2 hq1)) (Sh.arr hI85.1 (Lw.k2 hq0)) ⟨by omega, by omega, by omega, by omega, by omega⟩ ?_
  have hI90 := HI.cpy0 hI85 (Lw.k2 hq1) (Lw.k2 hq0) (Lw.a2 hq0) (Lw.w2 hq0) ((0 : Int32).toInt.toNat) ((0 : Int32).toInt.toNat) ((400 : Int32).toInt.toNat) (by omega) (by omega)
  have hF91 := Fr.cpy (p0 := q1 + 2) (p1 := q0 + 2) hF86 (memA_all hq0 (P := fun q => memA A_X4_become_law (q + 2)) rfl) ((0 : Int32).toInt.toNat) ((0 : Int32).toInt.toNat) ((400 : Int32).toInt.toNat)
  refine r_aload_n rfl ?_
  refine r_aload_n rfl ?_
  refine q_getI' (Sh.int hI90.1 (Lw.ko hq1) rfl) (fun v92 hv92 => ?_)
  have rv92 := RgF.at hI90.2.1 (Lw.r3 hq1)
  rw [hv92] at rv92
  dsimp only at rv92
  refine q_putI (Sh.int hI90.1 (Lw.ko hq0) rfl) rfl ?_
  have hI93 := HI.wI1 hI90 (Lw.ko hq0) rfl (p := q0) (b := 3) (v := v92) (Lw.r3 hq0) (by dsimp only; omega)
  have hF94 := Fr.wI (p := q0) (b := 3) (v := v92) hF91 (memA_all hq0 (P := fun q => memF F_X4_become_law q 3) rfl)
  refine r_aload_n rfl ?_
  refine r_aload_n rfl ?_
  refine q_getI' (Sh.int hI93.1 (Lw.ko hq1) rfl) (fun v95 hv95 => ?_)
  refine q_putI (Sh.int hI93.1 (Lw.ko hq0) rfl) rfl ?_
  have hI96 := HI.wI0 hI93 (Lw.ko hq0) rfl (p := q0) (b := 4) (v := v95) (Lw.r4 hq0)
  have hF97 := Fr.wI (p := q0) (b := 4) (v := v95) hF94 (memA_all hq0 (P := fun q => memF F_X4_become_law q 4) rfl)
  refine r_aload_n rfl ?_
  refine q_getR (Sh.ref hI96.1 (Lw.ko hq1) rfl) ?_
  refine r_iconst 0 rfl ?_
  refine r_aload_n rfl ?_
  refine q_getR (Sh.ref hI96.1 (Lw.ko hq0) rfl) ?_
  refine r_iconst 0 rfl ?_
  refine r_bipush 12 rfl ?_
  have zv98 : (0 : Int32).toInt = 0 := rfl
  have zv99 : (0 : Int32).toInt = 0 := rfl
  have zv100 : (12 : Int32).toInt = 12 := rfl
  refine q_cpy rfl (Nat.le_of_ble_eq_true rfl) (Sh.arr hI96.1 (Lw.k3 hq1)) (Sh.arr hI96.1 (Lw.k3 hq0)) ⟨by omega, by omega, by omega, by omega, by omega⟩ ?_
  have hI101 := HI.cpy0 hI96 (Lw.k3 hq1) (Lw.k3 hq0) (Lw.a3 hq0) (Lw.w3 hq0) ((0 : Int32).toInt.toNat) ((0 : Int32).toInt.toNat) ((12 : Int32).toInt.toNat) (by omega) (by omega)
  have hF102 := Fr.cpy (p0 := q1 + 3) (p1 := q0 + 3) hF97 (memA_all hq0 (P := fun q => memA A_X4_become_law (q + 3)) rfl) ((0 : Int32).toInt.toNat) ((0 : Int32).toInt.toNat) ((12 : Int32).toInt.toNat)
  refine r_aload_n rfl ?_
  refine q_getR (Sh.ref hI101.1 (Lw.ko hq1) rfl) ?_
  refine r_iconst 0 rfl ?_
  refine r_aload_n rfl ?_
  refine q_getR (Sh.ref hI101.1 (Lw.ko hq0) rfl) ?_
  refine r_iconst 0 rfl ?_
  refine r_bipush 12 rfl ?_
  have zv103 : (0 : Int32).toInt = 0 := rfl
  have zv104 : (0 : Int32).toInt = 0 := rfl
  have zv105 : (12 : Int32).toInt = 12 := rfl
  refine q_cpy rfl (Nat.le_of_ble_eq_true rfl) (Sh.arr hI101.1 (Lw.k4 hq1)) (Sh.arr hI101.1 (Lw.k4 hq0)) ⟨by omega, by omega, by omega, by omega, by omega⟩ ?_
  have hI106 := HI.cpy0 hI101 (Lw.k4 hq1) (Lw.k4 hq0) (Lw.a4 hq0) (Lw.w4 hq0) ((0 : Int32).toInt.toNat) ((0 : Int32).toInt.toNat) ((12 : Int32).toInt.toNat) (by omega) (by omega)
  have hF107 := Fr.cpy (p0 := q1 + 4) (p1 := q0 + 4) hF102 (memA_all hq0 (P := fun q => memA A_X4_become_law (q + 4)) rfl) ((0 : Int32).toInt.toNat) ((0 : Int32).toInt.toNat) ((12 : Int32).toInt.toNat)
  refine r_aload_n rfl ?_
  refine q_getR (Sh.ref hI106.1 (Lw.ko hq1) rfl) ?_
  refine r_iconst 0 rfl ?_
  refine r_aload_n rfl ?_
  refine q_getR (Sh.ref hI106.1 (Lw.ko hq0) rfl) ?_
  refine r_iconst 0 rfl ?_
  refine r_bipush 12 rfl ?_
  have zv108 : (0 : Int32).toInt = 0 := rfl
  have zv109 : (0 : Int32).toInt = 0 := rfl
  have zv110 : (12 : Int32).toInt = 12 := rfl
  refine q_cpy rfl (Nat.le_of_ble_eq_true rfl) (Sh.arr hI106.1 (Lw.k5 hq1)) (Sh.arr hI106.1 (Lw.k5 hq0)) ⟨by omega, by omega, by omega, by omega, by omega⟩ ?_
  have hI111 := HI.cpy0 hI106 (Lw.k5 hq1) (Lw.k5 hq0) (Lw.a5 hq0) (Lw.w5 hq0) ((0 : Int32).toInt.toNat) ((0 : Int32).toInt.toNat) ((12 : Int32).toInt.toNat) (by omega) (by omega)
  have hF112 := Fr.cpy (p0 := q1 + 5) (p1 := q0 + 5) hF107 (memA_all hq0 (P := fun q => memA A_X4_become_law (q + 5)) rfl) ((0 : Int32).toInt.toNat) ((0 : Int32).toInt.toNat) ((12 : Int32).toInt.toNat)
  refine r_aload_n rfl ?_
  refine q_getR (Sh.ref hI111.1 (Lw.ko hq1) rfl) ?_
  refine r_iconst 0 rfl ?_
  refine r_aload_n rfl ?_
  refine q_getR (Sh.ref hI111.1 (Lw.ko hq0) rfl) ?_
  refine r_iconst 0 rfl ?_
  refine r_bipush 12 rfl ?_
  have zv113 : (0 : Int32).toInt = 0 := rfl
  have zv114 : (0 : Int32).toInt = 0 := rfl
  have zv115 : (12 : Int32).toInt = 12 := rfl
  refine q_cpy rfl (Nat.le_of_ble_eq_true rfl) (Sh.arr hI111.1 (Lw.k6 hq1)) (Sh.arr hI111.1 (Lw.k6 hq0)) ⟨by omega, by omega, by omega, by omega, by omega⟩ ?_
  have hI116 := HI.cpy0 hI111 (Lw.k6 hq1) (Lw.k6 hq0) (Lw.a6 hq0) (Lw.w6 hq0) ((0 : Int32).toInt.toNat) ((0 : Int32).toInt.toNat) ((12 : Int32).toInt.toNat) (by omega) (by omega)
  have hF117 := Fr.cpy (p0 := q1 + 6) (p1 := q0 + 6) hF112 (memA_all hq0 (P := fun q => memA A_X4_become_law (q + 6)) rfl) ((0 : Int32).toInt.toNat) ((0 : Int32).toInt.toNat) ((12 : Int32).toInt.toNat)
  refine r_vret ?_
  exact ⟨_, rfl, hI116, hF117, rfl⟩

def F_X0_about_1 : List (Nat × Nat) := []
def A_X0_about_1 : List Nat := []
set_option maxRecDepth 100000 in
set_option maxHeartbeats 4000000 in
theorem T_X0_about_1 (d : Nat) {N : Nat} {g0 : List en_E} (hI0 : HI g0) (a1 : Int32) (a2 : Int32) : Ev (d + 1) 11 [.ref 1, .int a1, .int a2] (g0, N) (fun w h' => ∃ g', h' = (g', N) ∧ HI g' ∧ Fr F_X0_about_1 A_X0_about_1 g0 g' ∧ ∃ r : Int32, w = some (.int r) ∧ True ∧ (ABX g0 a1.toInt a2.toInt r.toInt)) := by
  have hF0 : Fr F_X0_about_1 A_X0_about_1 g0 g0 := Fr.rf
  refine Ev.mk rfl rfl ⟨Nat.le_of_ble_eq_true rfl, Or.inr (q_rc hI0.1 kx_1 rfl)⟩ ?_
  show At _ none _ _ (0, [(0, .ref 1), (1, .int a1), (2, .int a2)], [], (_, _)) _
  refine At.enter rfl ?_
  refine r_iload_n rfl ?_
  refine r_ifs 4 rfl (fun c21 => ?_) (fun c21 => ?_)
  · have c21_ : a1.toInt < 0 := en_k_lt_t c21
    refine At.enter rfl ?_
    refine r_iconst (-1) rfl ?_
    refine Ar.fall 37 rfl ?_
    refine At.enter rfl ?_
    refine r_ireti ?_
    have zv22 : ((-1) : Int32).toInt = (-1) := rfl
    obtain ⟨v23, hv23⟩ : ∃ v, gI g0 1 4 = v := ⟨_, rfl⟩
    have rv23 := RgF.at hI0.2.1 (p := 1) (b := 4) rfl
    rw [hv23] at rv23
    dsimp only at rv23
    have tv23 := congrArg Int32.toInt hv23
    have x24 := HI.eqI hI0 (p := 1) (b := 4) (hv23)
    exact ⟨_, rfl, hI0, hF0, _, rfl, trivial, (ABX.mk (by omega) (by omega))⟩
  · have c21_ : a1.toInt ≥ 0 := en_k_lt_f c21
    refine At.enter rfl ?_
    refine r_iload_n rfl ?_
    refine r_aload_n rfl ?_
    obtain ⟨v25, hv25⟩ : ∃ v, gI g0 1 4 = v := ⟨_, rfl⟩
    have rv25 := RgF.at hI0.2.1 (p := 1) (b := 4) rfl
    rw [hv25] at rv25
    dsimp only at rv25
    refine q_getI (Sh.int hI0.1 kx_1 rfl) v25 hv25 ?_
    have bv27 := q_bnd a1
    have bv28 := q_bnd v25
    refine r_ics 12 rfl (fun c26 => ?_) (fun c26 => ?_)
    · have c26_ : a1.toInt ≥ v25.toInt := en_i_ge_t c26
      refine At.enter rfl ?_
      refine r_iconst (-1) rfl ?_
      refine Ar.fall 37 rfl ?_
      refine At.enter rfl ?_
      refine r_ireti ?_
      have zv29 : ((-1) : Int32).toInt = (-1) := rfl
      have x30 := HI.eqI hI0 (p := 1) (b := 4) (hv25)
      exact ⟨_, rfl, hI0, hF0, _, rfl, trivial, (ABX.mk (by omega) (by omega))⟩
    · have c26_ : a1.toInt < v25.toInt := en_i_ge_f c26
      refine At.enter rfl ?_
      refine r_iload_n rfl ?_
      refine r_ifs 16 rfl (fun c31 => ?_) (fun c31 => ?_)
      · have c31_ : a2.toInt < 0 := en_k_lt_t c31
        refine At.enter rfl ?_
        refine r_iconst (-1) rfl ?_
        refine Ar.fall 37 rfl ?_
        refine At.enter rfl ?_
        refine r_ireti ?_
        have zv32 : ((-1) : Int32).toInt = (-1) := rfl
        have x33 := HI.eqI hI0 (p := 1) (b := 4) (hv25)
        exact ⟨_, rfl, hI0, hF0, _, rfl, trivial, (ABX.mk (by omega) (by omega))⟩
      · have c31_ : a2.toInt ≥ 0 := en_k_lt_f c31
        refine At.enter rfl ?_
        refine r_iload_n rfl ?_
        refine r_bipush 6 rfl ?_
        refine r_ics 22 rfl (fun c34 => ?_) (fun c34 => ?_)
        · have c34_ : a2.toInt ≥ 6 := en_i_ge_t c34
          refine At.enter rfl ?_
          refine r_iconst (-1) rfl ?_
          refine Ar.fall 37 rfl ?_
          refine At.enter rfl ?_
          refine r_ireti ?_
          have zv35 : ((-1) : Int32).toInt = (-1) := rfl
          have x36 := HI.eqI hI0 (p := 1) (b := 4) (hv25)
          exact ⟨_, rfl, hI0, hF0, _, rfl, trivial, (ABX.mk (by omega) (by omega))⟩
        · have c34_ : a2.toInt < 6 := en_i_ge_f c34
          refine At.enter rfl ?_
          refine r_aload_n rfl ?_
          refine q_getR (Sh.ref hI0.1 kx_1 rfl) ?_
          refine r_iload_n rfl ?_
          refine r_bipush 6 rfl ?_
          refine q_imul (a1.toInt * 6) rfl (by omega) (fun v37 hv37 => ?_)
          refine r_iload_n rfl ?_
          refine q_iadd (v37.toInt + a2.toInt) rfl (by omega) (fun v38 hv38 => ?_)
          obtain ⟨v39, hv39⟩ : ∃ v, eA g0 5 (6 * a1.toInt + a2.toInt) = v := ⟨_, rfl⟩
          refine q_iald (Sh.arr hI0.1 ka_5) (6 * a1.toInt + a2.toInt) (by omega) (by omega) v39 hv39 ?_
          refine r_goto ?_
          refine At.enter rfl ?_
          refine r_ireti ?_
          have x40 := HI.eqI hI0 (p := 1) (b := 4) (hv25)
          have y41 := congrArg Int32.toInt hv39
          exact ⟨_, rfl, hI0, hF0, _, rfl, trivial, (ABX.mk (by omega) (by omega))⟩

def F_X0_next_1 : List (Nat × Nat) := []
def A_X0_next_1 : List Nat := []
set_option maxRecDepth 100000 in
set_option maxHeartbeats 4000000 in
theorem T_X0_next_1 (d : Nat) {N : Nat} {g0 : List en_E} (hI0 : HI g0) (a1 : Int32) : Ev (d + 2) 12 [.ref 1, .int a1] (g0, N) (fun w h' => ∃ g', h' = (g', N) ∧ HI g' ∧ Fr F_X0_next_1 A_X0_next_1 g0 g' ∧ ∃ r : Int32, w = some (.int r) ∧ ((-1) ≤ r.toInt ∧ r.toInt ≤ 11) ∧ (r.toInt = NX g0 a1.toInt)) := by
  have hF0 : Fr F_X0_next_1 A_X0_next_1 g0 g0 := Fr.rf
  refine Ev.mk rfl rfl ⟨Nat.le_of_ble_eq_true rfl, Or.inr (q_rc hI0.1 kx_1 rfl)⟩ ?_
  show At _ none _ _ (0, [(0, .ref 1), (1, .int a1)], [], (_, _)) _
  refine At.enter rfl ?_
  refine r_aload_n rfl ?_
  refine r_iload_n rfl ?_
  refine q_inlV 5 rfl [.ref 1, .int a1] [] (Nat.le_of_ble_eq_true rfl) rfl ?_
  refine Ev.mk rfl rfl ⟨Nat.le_of_ble_eq_true rfl, Or.inr (q_rc hI0.1 kx_1 rfl)⟩ ?_
  show At _ none _ _ (0, [(0, .ref 1), (1, .int a1)], [], (_, _)) _
  refine At.enter rfl ?_
  refine r_iload_n rfl ?_
  refine r_ifs 4 rfl (fun c19 => ?_) (fun c19 => ?_)
  · have c19_ : a1.toInt < 0 := en_k_lt_t c19
    refine At.enter rfl ?_
    refine r_iconst 0 rfl ?_
    refine Ar.fall 17 rfl ?_
    refine At.enter rfl ?_
    refine q_iretz (by decide) ?_
    refine At.enter rfl ?_
    refine r_ift (by decide) ?_
    refine At.enter rfl ?_
    refine r_iconst (-1) rfl ?_
    refine Ar.fall 31 rfl ?_
    refine At.enter rfl ?_
    refine r_ireti ?_
    obtain ⟨v20, hv20⟩ : ∃ v, gI g0 1 0 = v := ⟨_, rfl⟩
    have rv20 := RgF.at hI0.2.1 (p := 1) (b := 0) rfl
    rw [hv20] at rv20
    dsimp only at rv20
    have tv20 := congrArg Int32.toInt hv20
    have x21 := HI.eqI hI0 (p := 1) (b := 0) (hv20)
    have zv22 : ((-1) : Int32).toInt = (-1) := rfl
    exact ⟨_, rfl, hI0, hF0, _, rfl, by decide, (by first | exact (NX.no (g := g0) (s := a1.toInt) (by omega)) | (have e := NX.yes (g := g0) (s := a1.toInt) (by omega); omega) | (have e := NX.no (g := g0) (s := a1.toInt) (by omega); omega))⟩
  · have c19_ : a1.toInt ≥ 0 := en_k_lt_f c19
    refine At.enter rfl ?_
    refine r_iload_n rfl ?_
    refine r_aload_n rfl ?_
    obtain ⟨v23, hv23⟩ : ∃ v, gI g0 1 0 = v := ⟨_, rfl⟩
    have rv23 := RgF.at hI0.2.1 (p := 1) (b := 0) rfl
    rw [hv23] at rv23
    dsimp only at rv23
    refine q_getI (Sh.int hI0.1 kx_1 rfl) v23 hv23 ?_
    have bv25 := q_bnd a1
    have bv26 := q_bnd v23
    refine r_ics 12 rfl (fun c24 => ?_) (fun c24 => ?_)
    · have c24_ : a1.toInt ≥ v23.toInt := en_i_ge_t c24
      refine At.enter rfl ?_
      refine r_iconst 0 rfl ?_
      refine Ar.fall 17 rfl ?_
      refine At.enter rfl ?_
      refine q_iretz (by decide) ?_
      refine At.enter rfl ?_
      refine r_ift (by decide) ?_
      refine At.enter rfl ?_
      refine r_iconst (-1) rfl ?_
      refine Ar.fall 31 rfl ?_
      refine At.enter rfl ?_
      refine r_ireti ?_
      have x27 := HI.eqI hI0 (p := 1) (b := 0) (hv23)
      have zv28 : ((-1) : Int32).toInt = (-1) := rfl
      exact ⟨_, rfl, hI0, hF0, _, rfl, by decide, (by first | exact (NX.no (g := g0) (s := a1.toInt) (by omega)) | (have e := NX.yes (g := g0) (s := a1.toInt) (by omega); omega) | (have e := NX.no (g := g0) (s := a1.toInt) (by omega); omega))⟩
    · have c24_ : a1.toInt < v23.toInt := en_i_ge_f c24
      refine At.enter rfl ?_
      refine r_iconst 1 rfl ?_
      refine r_goto ?_
      refine At.enter rfl ?_
      refine q_iretz (by decide) ?_
      refine At.enter rfl ?_
      refine r_iff 8 rfl (by decide) ?_
      refine At.enter rfl ?_
      refine r_aload_n rfl ?_
      refine r_aload_n rfl ?_
      refine q_getR (Sh.ref hI0.1 kx_1 rfl) ?_
      refine r_iload_n rfl ?_
      obtain ⟨v29, hv29⟩ : ∃ v, eA g0 2 a1.toInt = v := ⟨_, rfl⟩
      refine q_iald (Sh.arr hI0.1 ka_2) a1.toInt rfl (by omega) v29 hv29 ?_
      refine q_inlV 18 rfl [.ref 1, .int v29] [] (Nat.le_of_ble_eq_true rfl) rfl ?_
      refine Ev.mk rfl rfl ⟨Nat.le_of_ble_eq_true rfl, Or.inr (q_rc hI0.1 kx_1 rfl)⟩ ?_
      show At _ none _ _ (0, [(0, .ref 1), (1, .int v29)], [], (_, _)) _
      refine At.enter rfl ?_
      refine r_iload_n rfl ?_
      refine r_ifs 4 rfl (fun c30 => ?_) (fun c30 => ?_)
      · have c30_ : v29.toInt < 0 := en_k_lt_t c30
        refine At.enter rfl ?_
        refine r_iconst 0 rfl ?_
        refine Ar.fall 17 rfl ?_
        refine At.enter rfl ?_
        refine q_iretz (by decide) ?_
        refine At.enter rfl ?_
        refine r_ift (by decide) ?_
        refine At.enter rfl ?_
        refine r_iconst (-1) rfl ?_
        refine Ar.fall 31 rfl ?_
        refine At.enter rfl ?_
        refine r_ireti ?_
        have x31 := HI.eqI hI0 (p := 1) (b := 0) (hv23)
        have y32 := congrArg Int32.toInt hv29
        have zv33 : ((-1) : Int32).toInt = (-1) := rfl
        exact ⟨_, rfl, hI0, hF0, _, rfl, by decide, (by first | exact (NX.no (g := g0) (s := a1.toInt) (by omega)) | (have e := NX.yes (g := g0) (s := a1.toInt) (by omega); omega) | (have e := NX.no (g := g0) (s := a1.toInt) (by omega); omega))⟩
      · have c30_ : v29.toInt ≥ 0 := en_k_lt_f c30
        refine At.enter rfl ?_
        refine r_iload_n rfl ?_
        refine r_aload_n rfl ?_
        refine q_getI (Sh.int hI0.1 kx_1 rfl) v23 hv23 ?_
        have bv35 := q_bnd v29
        refine r_ics 12 rfl (fun c34 => ?_) (fun c34 => ?_)
        · have c34_ : v29.toInt ≥ v23.toInt := en_i_ge_t c34
          refine At.enter rfl ?_
          refine r_iconst 0 rfl ?_
          refine Ar.fall 17 rfl ?_
          refine At.enter rfl ?_
          refine q_iretz (by decide) ?_
          refine At.enter rfl ?_
          refine r_ift (by decide) ?_
          refine At.enter rfl ?_
          refine r_iconst (-1) rfl ?_
          refine Ar.fall 31 rfl ?_
          refine At.enter rfl ?_
          refine r_ireti ?_
          have x36 := HI.eqI hI0 (p := 1) (b := 0) (hv23)
          have y37 := congrArg Int32.toInt hv29
          have zv38 : ((-1) : Int32).toInt = (-1) := rfl
          exact ⟨_, rfl, hI0, hF0, _, rfl, by decide, (by first | exact (NX.no (g := g0) (s := a1.toInt) (by omega)) | (have e := NX.yes (g := g0) (s := a1.toInt) (by omega); omega) | (have e := NX.no (g := g0) (s := a1.toInt) (by omega); omega))⟩
        · have c34_ : v29.toInt < v23.toInt := en_i_ge_f c34
          refine At.enter rfl ?_
          refine r_iconst 1 rfl ?_
          refine r_goto ?_
          refine At.enter rfl ?_
          refine q_iretz (by decide) ?_
          refine At.enter rfl ?_
          refine r_iff 21 rfl (by decide) ?_
          refine At.enter rfl ?_
          refine r_aload_n rfl ?_
          refine q_getR (Sh.ref hI0.1 kx_1 rfl) ?_
          refine r_iload_n rfl ?_
          refine q_iald (Sh.arr hI0.1 ka_2) a1.toInt rfl (by omega) v29 hv29 ?_
          refine r_goto ?_
          refine At.enter rfl ?_
          refine r_ireti ?_
          have x39 := HI.eqI hI0 (p := 1) (b := 0) (hv23)
          have y40 := congrArg Int32.toInt hv29
          exact ⟨_, rfl, hI0, hF0, _, rfl, by omega, (by first | exact (NX.no (g := g0) (s := a1.toInt) (by omega)) | (have e := NX.yes (g := g0) (s := a1.toInt) (by omega); omega) | (have e := NX.no (g := g0) (s := a1.toInt) (by omega); omega))⟩

def F_X0_nextPast_1 : List (Nat × Nat) := []
def A_X0_nextPast_1 : List Nat := []
set_option maxRecDepth 100000 in
set_option maxHeartbeats 4000000 in
theorem T_X0_nextPast_1 (d : Nat) {N : Nat} {g0 : List en_E} (hI0 : HI g0) (a1 : Int32) (a2 : Int32) : Ev (d + 3) 13 [.ref 1, .int a1, .int a2] (g0, N) (fun w h' => ∃ g', h' = (g', N) ∧ HI g' ∧ Fr F_X0_nextPast_1 A_X0_nextPast_1 g0 g' ∧ ∃ r : Int32, w = some (.int r) ∧ ((-1) ≤ r.toInt ∧ r.toInt ≤ 11)) := by
  have hF0 : Fr F_X0_nextPast_1 A_X0_nextPast_1 g0 g0 := Fr.rf
  refine Ev.mk rfl rfl ⟨Nat.le_of_ble_eq_true rfl, Or.inr (q_rc hI0.1 kx_1 rfl)⟩ ?_
  show At _ none _ _ (0, [(0, .ref 1), (1, .int a1), (2, .int a2)], [], (_, _)) _
  refine At.enter rfl ?_
  refine r_aload_n rfl ?_
  refine r_iload_n rfl ?_
  refine r_callV 5 rfl [.ref 1, .int a1] [] (Nat.le_of_ble_eq_true rfl) rfl (T_X0_next_1 _ hI0 a1) ?_
  rintro _ _ ⟨g457, rfl, hI458, hF459, v460, rfl, hr461⟩
  refine At.sti ?_
  have hF462 := Fr.tr hF0 hF459 rfl rfl
  refine At.enter rfl ?_
  refine r_istore_n ([(3, .int v460), (0, .ref 1), (1, .int a1), (2, .int a2)]) rfl ?_
  refine r_iconst 0 rfl ?_
  refine r_istore ([(4, .int 0), (3, .int v460), (0, .ref 1), (1, .int a1), (2, .int a2)]) rfl ?_
  refine Ar.fall 9 rfl ?_
  have z_662 : (0 : Int32).toInt = 0 := rfl
  refine w_loopI (fun n_ l_ g_ => ∃ x647 : Int32, ∃ x648 : Int32, n_ = 12 - x648.toInt ∧ HI g_ ∧ Fr F_X0_nextPast_1 A_X0_nextPast_1 g0 g_ ∧ en_get 0 l_ = some (.ref 1) ∧ en_get 1 l_ = some (.int a1) ∧ en_get 2 l_ = some (.int a2) ∧ en_get 3 l_ = some (.int x647) ∧ en_get 4 l_ = some (.int x648) ∧ ((-1) ≤ x647.toInt ∧ x647.toInt ≤ 11) ∧ (0 ≤ x648.toInt ∧ x648.toInt ≤ 12)) ?_ (12 - 0) ⟨v460, 0, by first | rfl | omega, hI458, hF462, rfl, rfl, rfl, rfl, rfl, by omega, by decide⟩
  rintro n653 l652 g649 ⟨x647, x648, hm663, hI650, hF651, e655, e656, e657, e658, e659, r660, r661⟩ ih654
  refine At.enter rfl ?_
  refine r_iload e659 ?_
  refine r_bipush 12 rfl ?_
  refine r_ics 16 rfl (fun c664 => ?_) (fun c664 => ?_)
  · have c664_ : x648.toInt ≥ 12 := en_i_ge_t c664
    refine At.enter rfl ?_
    refine r_iload_n e658 ?_
    refine r_iconst (-1) rfl ?_
    refine r_ics 46 rfl (fun c665 => ?_) (fun c665 => ?_)
    · have c665_ : x647.toInt = (-1) := en_i_eq_t c665
      refine At.enter rfl ?_
      refine r_iload_n e658 ?_
      refine Ar.fall 59 rfl ?_
      refine At.enter rfl ?_
      refine r_ireti ?_
      exact ⟨_, rfl, hI650, hF651, _, rfl, by omega⟩
    · have c665_ : x647.toInt ≠ (-1) := en_i_eq_f c665
      refine At.enter rfl ?_
      refine r_iload_n e657 ?_
      refine r_iload_n e658 ?_
      refine q_inlS 51 rfl [.int a2, .int x647] [] (Nat.le_of_ble_eq_true rfl) rfl ?_
      refine Ev.mk rfl rfl ⟨Nat.le_of_ble_eq_true rfl, Or.inl rfl⟩ ?_
      show At _ none _ _ (0, [(0, .int a2), (1, .int x647)], [], (_, _)) _
      refine At.enter rfl ?_
      refine r_iload_n rfl ?_
      refine r_iload_n rfl ?_
      refine q_ishrO (fun v666 hv666 => ?_)
      refine r_iconst 1 rfl ?_
      refine q_iandO (fun v667 hv667 => ?_)
      refine r_ifs 8 rfl (fun c668 => ?_) (fun c668 => ?_)
      · have c668_ : v667.toInt = 0 := en_k_eq_t c668
        refine At.enter rfl ?_
        refine r_iconst 0 rfl ?_
        refine Ar.fall 13 rfl ?_
        refine At.enter rfl ?_
        refine q_iretz (by decide) ?_
        refine At.enter rfl ?_
        refine r_ift (by decide) ?_
        refine At.enter rfl ?_
        refine r_iload_n e658 ?_
        refine Ar.fall 59 rfl ?_
        refine At.enter rfl ?_
        refine r_ireti ?_
        exact ⟨_, rfl, hI650, hF651, _, rfl, by omega⟩
      · have c668_ : v667.toInt ≠ 0 := en_k_eq_f c668
        refine At.enter rfl ?_
        refine r_iconst 1 rfl ?_
        refine r_goto ?_
        refine At.enter rfl ?_
        refine q_iretz (by decide) ?_
        refine At.enter rfl ?_
        refine r_iff 54 rfl (by decide) ?_
        refine At.enter rfl ?_
        refine r_iconst (-1) rfl ?_
        refine r_goto ?_
        refine At.enter rfl ?_
        refine r_ireti ?_
        exact ⟨_, rfl, hI650, hF651, _, rfl, by decide⟩
  · have c664_ : x648.toInt < 12 := en_i_ge_f c664
    refine At.enter rfl ?_
    refine r_iload_n e658 ?_
    refine r_iconst (-1) rfl ?_
    refine r_ics 21 rfl (fun c669 => ?_) (fun c669 => ?_)
    · have c669_ : x647.toInt = (-1) := en_i_eq_t c669
      refine At.enter rfl ?_
      refine r_iload_n e658 ?_
      refine r_iconst (-1) rfl ?_
      refine r_ics 46 rfl (fun c670 => ?_) (fun c670 => ?_)
      · have c670_ : x647.toInt = (-1) := en_i_eq_t c670
        refine At.enter rfl ?_
        refine r_iload_n e658 ?_
        refine Ar.fall 59 rfl ?_
        refine At.enter rfl ?_
        refine r_ireti ?_
        exact ⟨_, rfl, hI650, hF651, _, rfl, by omega⟩
      · have c670_ : x647.toInt ≠ (-1) := en_i_eq_f c670
        exfalso; omega
    · have c669_ : x647.toInt ≠ (-1) := en_i_eq_f c669
      refine At.enter rfl ?_
      refine r_iload_n e657 ?_
      refine r_iload_n e658 ?_
      refine q_inlS 26 rfl [.int a2, .int x647] [] (Nat.le_of_ble_eq_true rfl) rfl ?_
      refine Ev.mk rfl rfl ⟨Nat.le_of_ble_eq_true rfl, Or.inl rfl⟩ ?_
      show At _ none _ _ (0, [(0, .int a2), (1, .int x647)], [], (_, _)) _
      refine At.enter rfl ?_
      refine r_iload_n rfl ?_
      refine r_iload_n rfl ?_
      refine q_ishrO (fun v671 hv671 => ?_)
      refine r_iconst 1 rfl ?_
      refine q_iandO (fun v672 hv672 => ?_)
      refine r_ifs 8 rfl (fun c673 => ?_) (fun c673 => ?_)
      · have c673_ : v672.toInt = 0 := en_k_eq_t c673
        refine At.enter rfl ?_
        refine r_iconst 0 rfl ?_
        refine Ar.fall 13 rfl ?_
        refine At.enter rfl ?_
        refine q_iretz (by decide) ?_
        refine At.enter rfl ?_
        refine r_ift (by decide) ?_
        refine At.enter rfl ?_
        refine r_iload_n e658 ?_
        refine r_iconst (-1) rfl ?_
        refine r_ics 46 rfl (fun c674 => ?_) (fun c674 => ?_)
        · have c674_ : x647.toInt = (-1) := en_i_eq_t c674
          exfalso; omega
        · have c674_ : x647.toInt ≠ (-1) := en_i_eq_f c674
          refine At.enter rfl ?_
          refine r_iload_n e657 ?_
          refine r_iload_n e658 ?_
          refine q_inlS 51 rfl [.int a2, .int x647] [] (Nat.le_of_ble_eq_true rfl) rfl ?_
          refine Ev.mk rfl rfl ⟨Nat.le_of_ble_eq_true rfl, Or.inl rfl⟩ ?_
          show At _ none _ _ (0, [(0, .int a2), (1, .int x647)], [], (_, _)) _
          refine At.enter rfl ?_
          refine r_iload_n rfl ?_
          refine r_iload_n rfl ?_
          refine q_ishrO (fun v675 hv675 => ?_)
          refine r_iconst 1 rfl ?_
          refine q_iandO (fun v676 hv676 => ?_)
          refine r_ifs 8 rfl (fun c677 => ?_) (fun c677 => ?_)
          · have c677_ : v676.toInt = 0 := en_k_eq_t c677
            refine At.enter rfl ?_
            refine r_iconst 0 rfl ?_
            refine Ar.fall 13 rfl ?_
            refine At.enter rfl ?_
            refine q_iretz (by decide) ?_
            refine At.enter rfl ?_
            refine r_ift (by decide) ?_
            refine At.enter rfl ?_
            refine r_iload_n e658 ?_
            refine Ar.fall 59 rfl ?_
            refine At.enter rfl ?_
            refine r_ireti ?_
            exact ⟨_, rfl, hI650, hF651, _, rfl, by omega⟩
          · have c677_ : v676.toInt ≠ 0 := en_k_eq_f c677
            refine At.enter rfl ?_
            refine r_iconst 1 rfl ?_
            refine r_goto ?_
            refine At.enter rfl ?_
            refine q_iretz (by decide) ?_
            refine At.enter rfl ?_
            refine r_iff 54 rfl (by decide) ?_
            refine At.enter rfl ?_
            refine r_iconst (-1) rfl ?_
            refine r_goto ?_
            refine At.enter rfl ?_
            refine r_ireti ?_
            exact ⟨_, rfl, hI650, hF651, _, rfl, by decide⟩
      · have c673_ : v672.toInt ≠ 0 := en_k_eq_f c673
        refine At.enter rfl ?_
        refine r_iconst 1 rfl ?_
        refine r_goto ?_
        refine At.enter rfl ?_
        refine q_iretz (by decide) ?_
        refine At.enter rfl ?_
        refine r_iff 29 rfl (by decide) ?_
        refine At.enter rfl ?_
        refine r_aload_n e655 ?_
        refine r_iload_n e658 ?_
        refine r_callV 34 rfl [.ref 1, .int x647] [] (Nat.le_of_ble_eq_true rfl) rfl (T_X0_next_1 _ hI650 x647) ?_
        rintro _ _ ⟨g678, rfl, hI679, hF680, v681, rfl, hr682⟩
        refine At.sti ?_
        have hF683 := Fr.tr hF651 hF680 rfl rfl
        refine At.enter rfl ?_
        refine r_istore_n _ rfl ?_
        refine q_iinc (w_p1 (by decide) (Or.inr rfl) e659) (x648.toInt + 1) rfl (by omega) (fun v684 hv684 => ?_)
        refine r_goto ?_
        exact ih654 (12 - v684.toInt) _ _ ⟨v681, v684, by first | rfl | omega, hI679, hF683, (w_p1 (by decide) (Or.inr rfl) (w_p1 (by decide) (Or.inr rfl) e655)), (w_p1 (by decide) (Or.inr rfl) (w_p1 (by decide) (Or.inr rfl) e656)), (w_p1 (by decide) (Or.inr rfl) (w_p1 (by decide) (Or.inr rfl) e657)), (w_p1 (by decide) (Or.inr rfl) (w_e1 _ _ _)), (w_e1 _ _ _), by omega, by omega⟩ ⟨by omega, by omega⟩

def F_X0_handsOf_1 : List (Nat × Nat) := []
def A_X0_handsOf_1 : List Nat := []
set_option maxRecDepth 100000 in
set_option maxHeartbeats 4000000 in
theorem T_X0_handsOf_1 (d : Nat) {N : Nat} {g0 : List en_E} (hI0 : HI g0) (a1 : Int32) : Ev (d + 3) 14 [.ref 1, .int a1] (g0, N) (fun w h' => ∃ g', h' = (g', N) ∧ HI g' ∧ Fr F_X0_handsOf_1 A_X0_handsOf_1 g0 g' ∧ ∃ r : Int32, w = some (.int r) ∧ ((-1) ≤ r.toInt ∧ r.toInt ≤ 11) ∧ (WAYX g0 a1.toInt r.toInt)) := by
  have hF0 : Fr F_X0_handsOf_1 A_X0_handsOf_1 g0 g0 := Fr.rf
  refine Ev.mk rfl rfl ⟨Nat.le_of_ble_eq_true rfl, Or.inr (q_rc hI0.1 kx_1 rfl)⟩ ?_
  show At _ none _ _ (0, [(0, .ref 1), (1, .int a1)], [], (_, _)) _
  refine At.enter rfl ?_
  refine r_aload_n rfl ?_
  refine r_iload_n rfl ?_
  refine r_iconst 1 rfl ?_
  refine r_callV 6 rfl [.ref 1, .int a1, .int 1] [] (Nat.le_of_ble_eq_true rfl) rfl (T_X0_about_1 _ hI0 a1 1) ?_
  rintro _ _ ⟨g321, rfl, hI322, hF323, v324, rfl, hr325⟩
  refine At.sti ?_
  have hF326 := Fr.tr hF0 hF323 rfl rfl
  have zv327 : (1 : Int32).toInt = 1 := rfl
  have ab328 : ABX g0 a1.toInt 1 v324.toInt := hr325.2
  refine At.enter rfl ?_
  refine r_istore_n ([(2, .int v324), (0, .ref 1), (1, .int a1)]) rfl ?_
  refine r_aload_n rfl ?_
  refine r_iload_n rfl ?_
  refine r_iconst 2 rfl ?_
  refine r_callV 13 rfl [.ref 1, .int a1, .int 2] [] (Nat.le_of_ble_eq_true rfl) rfl (T_X0_about_1 _ hI322 a1 2) ?_
  rintro _ _ ⟨g329, rfl, hI330, hF331, v332, rfl, hr333⟩
  refine At.sti ?_
  have hF334 := Fr.tr hF326 hF331 rfl rfl
  have zv335 : (2 : Int32).toInt = 2 := rfl
  have ab336_ := ABX.c ((hF323.2.1 5 (by decide))) ((hF323.1 1 4 (by decide))) hr333.2
  have ab336 : ABX g0 a1.toInt 2 v332.toInt := ab336_
  refine At.enter rfl ?_
  refine r_istore_n ([(3, .int v332), (2, .int v324), (0, .ref 1), (1, .int a1)]) rfl ?_
  refine r_iconst 0 rfl ?_
  refine r_istore ([(4, .int 0), (3, .int v332), (2, .int v324), (0, .ref 1), (1, .int a1)]) rfl ?_
  refine Ar.fall 17 rfl ?_
  have z_471 : (0 : Int32).toInt = 0 := rfl
  refine w_loopI (fun n_ l_ g_ => ∃ x454 : Int32, ∃ x455 : Int32, n_ = 12 - x455.toInt ∧ HI g_ ∧ Fr F_X0_handsOf_1 A_X0_handsOf_1 g0 g_ ∧ en_get 0 l_ = some (.ref 1) ∧ en_get 1 l_ = some (.int a1) ∧ en_get 2 l_ = some (.int x454) ∧ en_get 3 l_ = some (.int v332) ∧ en_get 4 l_ = some (.int x455) ∧ (0 ≤ x455.toInt ∧ x455.toInt ≤ 12) ∧ (x454.toInt = itI (NX g0) x455.toInt v324.toInt) ∧ (∀ j : Int, 0 ≤ j → j < x455.toInt → itI (NX g0) j v324.toInt ≠ v332.toInt) ∧ (0 ≤ x455.toInt)) ?_ (12 - 0) ⟨v324, 0, by first | rfl | omega, hI330, hF334, rfl, rfl, rfl, rfl, rfl, by decide, (itI_n _ (by first | decide | omega) _).symm, (fun j h0 h1 => absurd h1 (by omega)), by omega⟩
  rintro n460 l459 g456 ⟨x454, x455, hm472, hI457, hF458, e462, e463, e464, e465, e466, r467, q468, q469, q470⟩ ih461
  refine At.enter rfl ?_
  refine r_iload e466 ?_
  refine r_bipush 12 rfl ?_
  refine r_ics 24 rfl (fun c473 => ?_) (fun c473 => ?_)
  · have c473_ : x455.toInt ≥ 12 := en_i_ge_t c473
    refine At.enter rfl ?_
    refine r_iconst (-1) rfl ?_
    refine r_ireti ?_
    have zv474 : ((-1) : Int32).toInt = (-1) := rfl
    exact ⟨_, rfl, hI457, hF458, _, rfl, by decide, (WAYX.mk ab328 ab336 (fun hw => by first | exact WAYF.a x455.toInt (by omega) (by omega) (by rw [← q468]; omega) q469 (by omega) | exact WAYF.n (NX.e g0) hw q469 (by rw [← q468]; omega) (by omega)))⟩
  · have c473_ : x455.toInt < 12 := en_i_ge_f c473
    refine At.enter rfl ?_
    refine r_iload_n e464 ?_
    refine r_iconst (-1) rfl ?_
    refine r_ics 29 rfl (fun c475 => ?_) (fun c475 => ?_)
    · have c475_ : x454.toInt = (-1) := en_i_eq_t c475
      refine At.enter rfl ?_
      refine r_iconst (-1) rfl ?_
      refine r_ireti ?_
      have zv476 : ((-1) : Int32).toInt = (-1) := rfl
      exact ⟨_, rfl, hI457, hF458, _, rfl, by decide, (WAYX.mk ab328 ab336 (fun hw => by first | exact WAYF.a x455.toInt (by omega) (by omega) (by rw [← q468]; omega) q469 (by omega) | exact WAYF.n (NX.e g0) hw q469 (by rw [← q468]; omega) (by omega)))⟩
    · have c475_ : x454.toInt ≠ (-1) := en_i_eq_f c475
      refine At.enter rfl ?_
      refine r_iload_n e464 ?_
      refine r_iload_n e465 ?_
      refine r_ics 34 rfl (fun c477 => ?_) (fun c477 => ?_)
      · have c477_ : x454.toInt ≠ v332.toInt := en_i_ne_t c477
        refine At.enter rfl ?_
        refine r_aload_n e462 ?_
        refine r_iload_n e464 ?_
        refine r_callV 42 rfl [.ref 1, .int x454] [] (Nat.le_of_ble_eq_true rfl) rfl (T_X0_next_1 _ hI457 x454) ?_
        rintro _ _ ⟨g478, rfl, hI479, hF480, v481, rfl, hr482⟩
        refine At.sti ?_
        have hF483 := Fr.tr hF458 hF480 rfl rfl
        rw [NX.c ((hF458.2.1 2 (by decide))) ((hF458.1 1 0 (by decide)))] at hr482
        refine At.enter rfl ?_
        refine r_istore_n _ rfl ?_
        refine q_iinc (w_p1 (by decide) (Or.inr rfl) e466) (x455.toInt + 1) rfl (by omega) (fun v484 hv484 => ?_)
        refine r_goto ?_
        have bv485 := q_bnd v481
        exact ih461 (12 - v484.toInt) _ _ ⟨v481, v484, by first | rfl | omega, hI479, hF483, (w_p1 (by decide) (Or.inr rfl) (w_p1 (by decide) (Or.inr rfl) e462)), (w_p1 (by decide) (Or.inr rfl) (w_p1 (by decide) (Or.inr rfl) e463)), (w_p1 (by decide) (Or.inr rfl) (w_e1 _ _ _)), (w_p1 (by decide) (Or.inr rfl) (w_p1 (by decide) (Or.inr rfl) e465)), (w_e1 _ _ _), by omega, (by rw [show v484.toInt = x455.toInt + 1 from by omega, itI_s (NX g0) (by omega), ← q468]; omega), (WAYF.step q469 (by rw [← q468]; omega) (show v484.toInt = x455.toInt + 1 from by omega)), by omega⟩ ⟨by omega, by omega⟩
      · have c477_ : x454.toInt = v332.toInt := en_i_ne_f c477
        refine At.enter rfl ?_
        refine r_iload e466 ?_
        refine r_ireti ?_
        exact ⟨_, rfl, hI457, hF458, _, rfl, by omega, (WAYX.mk ab328 ab336 (fun hw => by first | exact WAYF.a x455.toInt (by omega) (by omega) (by rw [← q468]; omega) q469 (by omega) | exact WAYF.n (NX.e g0) hw q469 (by rw [← q468]; omega) (by omega)))⟩

def F_X4_speaksOf_law : List (Nat × Nat) := []
def A_X4_speaksOf_law : List Nat := []
set_option maxRecDepth 100000 in
set_option maxHeartbeats 4000000 in
theorem T_X4_speaksOf_law (d : Nat) {N : Nat} {g0 : List en_E} (hI0 : HI g0) (q0 : Nat) (hq0 : Lw q0) (a1 : Int32) : Ev (d + 2) 58 [.ref (q0), .int a1] (g0, N) (fun w h' => ∃ g', h' = (g', N) ∧ HI g' ∧ Fr F_X4_speaksOf_law A_X4_speaksOf_law g0 g' ∧ ∃ r : Int32, w = some (.int r) ∧ (0 ≤ r.toInt ∧ r.toInt ≤ 1)) := by
  have hF0 : Fr F_X4_speaksOf_law A_X4_speaksOf_law g0 g0 := Fr.rf
  refine Ev.mk rfl rfl ⟨Nat.le_of_ble_eq_true rfl, Or.inr (q_rc hI0.1 (Lw.ko hq0) rfl)⟩ ?_
  show At _ none _ _ (0, [(0, .ref (q0)), (1, .int a1)], [], (_, _)) _
  refine At.enter rfl ?_
  refine r_aload_n rfl ?_
  refine q_getI' (Sh.int hI0.1 (Lw.ko hq0) rfl) (fun v9 hv9 => ?_)
  refine r_iload_n rfl ?_
  refine q_inlS 8 rfl [.int v9, .int a1] [] (Nat.le_of_ble_eq_true rfl) rfl ?_
  refine Ev.mk rfl rfl ⟨Nat.le_of_ble_eq_true rfl, Or.inl rfl⟩ ?_
  show At _ none _ _ (0, [(0, .int v9), (1, .int a1)], [], (_, _)) _
  refine At.enter rfl ?_
  refine r_iload_n rfl ?_
  refine r_iload_n rfl ?_
  refine q_ishrO (fun v10 hv10 => ?_)
  refine r_iconst 1 rfl ?_
  refine q_iandO (fun v11 hv11 => ?_)
  refine r_ifs 8 rfl (fun c12 => ?_) (fun c12 => ?_)
  · have c12_ : v11.toInt = 0 := en_k_eq_t c12
    refine At.enter rfl ?_
    refine r_iconst 0 rfl ?_
    refine Ar.fall 13 rfl ?_
    refine At.enter rfl ?_
    refine q_iretz (by decide) ?_
    refine At.enter rfl ?_
    refine r_iretz (by decide) ?_
    exact ⟨_, rfl, hI0, hF0, _, rfl, by decide⟩
  · have c12_ : v11.toInt ≠ 0 := en_k_eq_f c12
    refine At.enter rfl ?_
    refine r_iconst 1 rfl ?_
    refine r_goto ?_
    refine At.enter rfl ?_
    refine q_iretz (by decide) ?_
    refine At.enter rfl ?_
    refine r_iretz (by decide) ?_
    exact ⟨_, rfl, hI0, hF0, _, rfl, by decide⟩

def F_X4_asksOfTime_law : List (Nat × Nat) := []
def A_X4_asksOfTime_law : List Nat := []
set_option maxRecDepth 100000 in
set_option maxHeartbeats 4000000 in
theorem T_X4_asksOfTime_law (d : Nat) {N : Nat} {g0 : List en_E} (hI0 : HI g0) (q0 : Nat) (hq0 : Lw q0) : Ev (d + 1) 59 [.ref (q0)] (g0, N) (fun w h' => ∃ g', h' = (g', N) ∧ HI g' ∧ Fr F_X4_asksOfTime_law A_X4_asksOfTime_law g0 g' ∧ ∃ r : Int32, w = some (.int r) ∧ (0 ≤ r.toInt ∧ r.toInt ≤ 1)) := by
  have hF0 : Fr F_X4_asksOfTime_law A_X4_asksOfTime_law g0 g0 := Fr.rf
  refine Ev.mk rfl rfl ⟨Nat.le_of_ble_eq_true rfl, Or.inr (q_rc hI0.1 (Lw.ko hq0) rfl)⟩ ?_
  show At _ none _ _ (0, [(0, .ref (q0))], [], (_, _)) _
  refine At.enter rfl ?_
  refine r_iconst 0 rfl ?_
  refine r_istore_n ([(1, .int 0), (0, .ref (q0))]) rfl ?_
  refine Ar.fall 2 rfl ?_
  have z_781 : (0 : Int32).toInt = 0 := rfl
  refine w_loopI (fun n_ l_ g_ => ∃ x771 : Int32, n_ = 400 - x771.toInt ∧ HI g_ ∧ Fr F_X4_asksOfTime_law A_X4_asksOfTime_law g0 g_ ∧ en_get 0 l_ = some (.ref (q0)) ∧ en_get 1 l_ = some (.int x771) ∧ (0 ≤ x771.toInt ∧ x771.toInt ≤ 400)) ?_ (400 - 0) ⟨0, by first | rfl | omega, hI0, hF0, rfl, rfl, by decide⟩
  rintro n776 l775 g772 ⟨x771, hm782, hI773, hF774, e778, e779, r780⟩ ih777
  refine At.enter rfl ?_
  refine r_iload_n e779 ?_
  refine r_aload_n e778 ?_
  refine q_getI' (Sh.int hI773.1 (Lw.ko hq0) rfl) (fun v783 hv783 => ?_)
  have rv783 := RgF.at hI773.2.1 (Lw.r0 hq0)
  rw [hv783] at rv783
  dsimp only at rv783
  have bv785 := q_bnd x771
  have bv786 := q_bnd v783
  refine r_ics 10 rfl (fun c784 => ?_) (fun c784 => ?_)
  · have c784_ : x771.toInt ≥ v783.toInt := en_i_ge_t c784
    refine At.enter rfl ?_
    refine r_iconst 0 rfl ?_
    refine r_iretz (by decide) ?_
    exact ⟨_, rfl, hI773, hF774, _, rfl, by decide⟩
  · have c784_ : x771.toInt < v783.toInt := en_i_ge_f c784
    refine At.enter rfl ?_
    refine r_iload_n e779 ?_
    refine r_sipush 400 rfl ?_
    refine r_ics 17 rfl (fun c787 => ?_) (fun c787 => ?_)
    · have c787_ : x771.toInt ≥ 400 := en_i_ge_t c787
      exfalso; omega
    · have c787_ : x771.toInt < 400 := en_i_ge_f c787
      refine At.enter rfl ?_
      refine r_aload_n e778 ?_
      refine q_getR (Sh.ref hI773.1 (Lw.ko hq0) rfl) ?_
      refine r_iload_n e779 ?_
      refine q_iald' (Sh.arr hI773.1 (Lw.k1 hq0)) x771.toInt rfl (by omega) (fun v788 hv788 => ?_)
      refine r_iconst 1 rfl ?_
      refine r_ics 27 rfl (fun c789 => ?_) (fun c789 => ?_)
      · have c789_ : v788.toInt ≠ 1 := en_i_ne_t c789
        refine At.enter rfl ?_
        refine q_iinc e779 (x771.toInt + 1) rfl (by omega) (fun v790 hv790 => ?_)
        refine r_goto ?_
        exact ih777 (400 - v790.toInt) _ _ ⟨v790, by first | rfl | omega, hI773, hF774, (w_p1 (by decide) (Or.inr rfl) e778), (w_e1 _ _ _), by omega⟩ ⟨by omega, by omega⟩
      · have c789_ : v788.toInt = 1 := en_i_ne_f c789
        refine At.enter rfl ?_
        refine r_aload_n e778 ?_
        refine q_getR (Sh.ref hI773.1 (Lw.ko hq0) rfl) ?_
        refine r_iload_n e779 ?_
        refine q_iald' (Sh.arr hI773.1 (Lw.k2 hq0)) x771.toInt rfl (by omega) (fun v791 hv791 => ?_)
        refine r_iconst 5 rfl ?_
        refine r_ics 37 rfl (fun c792 => ?_) (fun c792 => ?_)
        · have c792_ : v791.toInt = 5 := en_i_eq_t c792
          refine At.enter rfl ?_
          refine r_iconst 1 rfl ?_
          refine r_iretz (by decide) ?_
          exact ⟨_, rfl, hI773, hF774, _, rfl, by decide⟩
        · have c792_ : v791.toInt ≠ 5 := en_i_eq_f c792
          refine At.enter rfl ?_
          refine r_aload_n e778 ?_
          refine q_getR (Sh.ref hI773.1 (Lw.ko hq0) rfl) ?_
          refine r_iload_n e779 ?_
          refine q_iald' (Sh.arr hI773.1 (Lw.k2 hq0)) x771.toInt rfl (by omega) (fun v793 hv793 => ?_)
          refine r_bipush 6 rfl ?_
          refine r_ics 48 rfl (fun c794 => ?_) (fun c794 => ?_)
          · have c794_ : v793.toInt ≠ 6 := en_i_ne_t c794
            refine At.enter rfl ?_
            refine q_iinc e779 (x771.toInt + 1) rfl (by omega) (fun v795 hv795 => ?_)
            refine r_goto ?_
            exact ih777 (400 - v795.toInt) _ _ ⟨v795, by first | rfl | omega, hI773, hF774, (w_p1 (by decide) (Or.inr rfl) e778), (w_e1 _ _ _), by omega⟩ ⟨by omega, by omega⟩
          · have c794_ : v793.toInt = 6 := en_i_ne_f c794
            refine At.enter rfl ?_
            refine r_iconst 1 rfl ?_
            refine r_iretz (by decide) ?_
            exact ⟨_, rfl, hI773, hF774, _, rfl, by decide⟩

def F_X3_joined_185 : List (Nat × Nat) := [(185, 3)]
def A_X3_joined_185 : List Nat := []
set_option maxRecDepth 100000 in
set_option maxHeartbeats 4000000 in
theorem T_X3_joined_185 (d : Nat) {N : Nat} {g0 : List en_E} (hI0 : HI g0) (a1 : Int32) (a2 : Int64) (a3 : Int64) : Ev (d + 1) 54 [.ref 185, .int a1, .long a2, .long a3] (g0, N) (fun w h' => ∃ g', h' = (g', N) ∧ HI g' ∧ Fr F_X3_joined_185 A_X3_joined_185 g0 g' ∧ ∃ r : Int64, w = some (.long r) ∧ True) := by
  have hF0 : Fr F_X3_joined_185 A_X3_joined_185 g0 g0 := Fr.rf
  refine Ev.mk rfl rfl ⟨Nat.le_of_ble_eq_true rfl, Or.inr (q_rc hI0.1 kx_185 rfl)⟩ ?_
  show At _ none _ _ (0, [(0, .ref 185), (1, .int a1), (2, .long a2), (4, .long a3)], [], (_, _)) _
  refine At.enter rfl ?_
  refine r_lconst 0 rfl ?_
  refine r_lstore ([(6, .long 0), (0, .ref 185), (1, .int a1), (2, .long a2), (4, .long a3)]) rfl ?_
  refine r_iload_n rfl ?_
  by_cases c125_0 : a1.toInt = 2
  · refine r_tsw 44 (by rw [c125_0]; rfl) ?_
    refine At.enter rfl ?_
    refine r_lload_n rfl ?_
    refine r_lload rfl ?_
    refine q_laddO (fun v126 _ => ?_)
    refine r_lstore ([(6, .long v126), (0, .ref 185), (1, .int a1), (2, .long a2), (4, .long a3)]) rfl ?_
    refine r_goto ?_
    refine At.enter rfl ?_
    refine r_aload_n rfl ?_
    refine r_aload_n rfl ?_
    obtain ⟨v127, hv127⟩ : ∃ v, gI g0 185 3 = v := ⟨_, rfl⟩
    refine q_getI (Sh.int hI0.1 kx_185 rfl) v127 hv127 ?_
    refine r_ifs 142 rfl (fun c128 => ?_) (fun c128 => ?_)
    · have c128_ : v127.toInt ≠ 0 := en_k_ne_t c128
      refine At.enter rfl ?_
      refine r_iconst 1 rfl ?_
      refine r_goto ?_
      refine At.enter rfl ?_
      refine q_putI (Sh.int hI0.1 kx_185 rfl) rfl ?_
      have hI129 := HI.wI0 hI0 kx_185 rfl (p := 185) (b := 3) (v := 1) rfl
      have hF130 := Fr.wI (p := 185) (b := 3) (v := 1) hF0 rfl
      refine r_lload rfl ?_
      refine r_lret ?_
      exact ⟨_, rfl, hI129, hF130, _, rfl, trivial⟩
    · have c128_ : v127.toInt = 0 := en_k_ne_f c128
      refine At.enter rfl ?_
      refine r_lload rfl ?_
      refine r_ldc2 1000000000 rfl ?_
      refine r_lcmp _ rfl ?_
      refine r_ifs 151 rfl (fun c131 => ?_) (fun c131 => ?_)
      · have c131_ : v126.toInt > 1000000000 := en_j_gt_t c131
        refine At.enter rfl ?_
        refine r_iconst 1 rfl ?_
        refine r_goto ?_
        refine At.enter rfl ?_
        refine q_putI (Sh.int hI0.1 kx_185 rfl) rfl ?_
        have hI132 := HI.wI0 hI0 kx_185 rfl (p := 185) (b := 3) (v := 1) rfl
        have hF133 := Fr.wI (p := 185) (b := 3) (v := 1) hF0 rfl
        refine r_lload rfl ?_
        refine r_lret ?_
        exact ⟨_, rfl, hI132, hF133, _, rfl, trivial⟩
      · have c131_ : v126.toInt ≤ 1000000000 := en_j_gt_f c131
        refine At.enter rfl ?_
        refine r_lload rfl ?_
        refine r_ldc2 (-1000000000) rfl ?_
        refine r_lcmp _ rfl ?_
        refine r_ifs 160 rfl (fun c134 => ?_) (fun c134 => ?_)
        · have c134_ : v126.toInt ≥ (-1000000000) := en_j_ge_t c134
          refine At.enter rfl ?_
          refine r_iconst 0 rfl ?_
          refine Ar.fall 165 rfl ?_
          refine At.enter rfl ?_
          refine q_putI (Sh.int hI0.1 kx_185 rfl) rfl ?_
          have hI135 := HI.wI0 hI0 kx_185 rfl (p := 185) (b := 3) (v := 0) rfl
          have hF136 := Fr.wI (p := 185) (b := 3) (v := 0) hF0 rfl
          refine r_lload rfl ?_
          refine r_lret ?_
          exact ⟨_, rfl, hI135, hF136, _, rfl, trivial⟩
        · have c134_ : v126.toInt < (-1000000000) := en_j_ge_f c134
          refine At.enter rfl ?_
          refine r_iconst 1 rfl ?_
          refine r_goto ?_
          refine At.enter rfl ?_
          refine q_putI (Sh.int hI0.1 kx_185 rfl) rfl ?_
          have hI137 := HI.wI0 hI0 kx_185 rfl (p := 185) (b := 3) (v := 1) rfl
          have hF138 := Fr.wI (p := 185) (b := 3) (v := 1) hF0 rfl
          refine r_lload rfl ?_
          refine r_lret ?_
          exact ⟨_, rfl, hI137, hF138, _, rfl, trivial⟩
  by_cases c125_1 : a1.toInt = 3
  · refine r_tsw 53 (by rw [c125_1]; rfl) ?_
    refine At.enter rfl ?_
    refine r_lload_n rfl ?_
    refine r_lload rfl ?_
    refine q_lsubO (fun v139 _ => ?_)
    refine r_lstore ([(6, .long v139), (0, .ref 185), (1, .int a1), (2, .long a2), (4, .long a3)]) rfl ?_
    refine r_goto ?_
    refine At.enter rfl ?_
    refine r_aload_n rfl ?_
    refine r_aload_n rfl ?_
    obtain ⟨v140, hv140⟩ : ∃ v, gI g0 185 3 = v := ⟨_, rfl⟩
    refine q_getI (Sh.int hI0.1 kx_185 rfl) v140 hv140 ?_
    refine r_ifs 142 rfl (fun c141 => ?_) (fun c141 => ?_)
    · have c141_ : v140.toInt ≠ 0 := en_k_ne_t c141
      refine At.enter rfl ?_
      refine r_iconst 1 rfl ?_
      refine r_goto ?_
      refine At.enter rfl ?_
      refine q_putI (Sh.int hI0.1 kx_185 rfl) rfl ?_
      have hI142 := HI.wI0 hI0 kx_185 rfl (p := 185) (b := 3) (v := 1) rfl
      have hF143 := Fr.wI (p := 185) (b := 3) (v := 1) hF0 rfl
      refine r_lload rfl ?_
      refine r_lret ?_
      exact ⟨_, rfl, hI142, hF143, _, rfl, trivial⟩
    · have c141_ : v140.toInt = 0 := en_k_ne_f c141
      refine At.enter rfl ?_
      refine r_lload rfl ?_
      refine r_ldc2 1000000000 rfl ?_
      refine r_lcmp _ rfl ?_
      refine r_ifs 151 rfl (fun c144 => ?_) (fun c144 => ?_)
      · have c144_ : v139.toInt > 1000000000 := en_j_gt_t c144
        refine At.enter rfl ?_
        refine r_iconst 1 rfl ?_
        refine r_goto ?_
        refine At.enter rfl ?_
        refine q_putI (Sh.int hI0.1 kx_185 rfl) rfl ?_
        have hI145 := HI.wI0 hI0 kx_185 rfl (p := 185) (b := 3) (v := 1) rfl
        have hF146 := Fr.wI (p := 185) (b := 3) (v := 1) hF0 rfl
        refine r_lload rfl ?_
        refine r_lret ?_
        exact ⟨_, rfl, hI145, hF146, _, rfl, trivial⟩
      · have c144_ : v139.toInt ≤ 1000000000 := en_j_gt_f c144
        refine At.enter rfl ?_
        refine r_lload rfl ?_
        refine r_ldc2 (-1000000000) rfl ?_
        refine r_lcmp _ rfl ?_
        refine r_ifs 160 rfl (fun c147 => ?_) (fun c147 => ?_)
        · have c147_ : v139.toInt ≥ (-1000000000) := en_j_ge_t c147
          refine At.enter rfl ?_
          refine r_iconst 0 rfl ?_
          refine Ar.fall 165 rfl ?_
          refine At.enter rfl ?_
          refine q_putI (Sh.int hI0.1 kx_185 rfl) rfl ?_
          have hI148 := HI.wI0 hI0 kx_185 rfl (p := 185) (b := 3) (v := 0) rfl
          have hF149 := Fr.wI (p := 185) (b := 3) (v := 0) hF0 rfl
          refine r_lload rfl ?_
          refine r_lret ?_
          exact ⟨_, rfl, hI148, hF149, _, rfl, trivial⟩
        · have c147_ : v139.toInt < (-1000000000) := en_j_ge_f c147
          refine At.enter rfl ?_
          refine r_iconst 1 rfl ?_
          refine r_goto ?_
          refine At.enter rfl ?_
          refine q_putI (Sh.int hI0.1 kx_185 rfl) rfl ?_
          have hI150 := HI.wI0 hI0 kx_185 rfl (p := 185) (b := 3) (v := 1) rfl
          have hF151 := Fr.wI (p := 185) (b := 3) (v := 1) hF0 rfl
          refine r_lload rfl ?_
          refine r_lret ?_
          exact ⟨_, rfl, hI150, hF151, _, rfl, trivial⟩
  by_cases c125_2 : a1.toInt = 4
  · refine r_tsw 62 (by rw [c125_2]; rfl) ?_
    refine At.enter rfl ?_
    refine r_lload_n rfl ?_
    refine r_lload rfl ?_
    refine q_lmulO (fun v152 _ => ?_)
    refine r_lstore ([(6, .long v152), (0, .ref 185), (1, .int a1), (2, .long a2), (4, .long a3)]) rfl ?_
    refine r_goto ?_
    refine At.enter rfl ?_
    refine r_aload_n rfl ?_
    refine r_aload_n rfl ?_
    obtain ⟨v153, hv153⟩ : ∃ v, gI g0 185 3 = v := ⟨_, rfl⟩
    refine q_getI (Sh.int hI0.1 kx_185 rfl) v153 hv153 ?_
    refine r_ifs 142 rfl (fun c154 => ?_) (fun c154 => ?_)
    · have c154_ : v153.toInt ≠ 0 := en_k_ne_t c154
      refine At.enter rfl ?_
      refine r_iconst 1 rfl ?_
      refine r_goto ?_
      refine At.enter rfl ?_
      refine q_putI (Sh.int hI0.1 kx_185 rfl) rfl ?_
      have hI155 := HI.wI0 hI0 kx_185 rfl (p := 185) (b := 3) (v := 1) rfl
      have hF156 := Fr.wI (p := 185) (b := 3) (v := 1) hF0 rfl
      refine r_lload rfl ?_
      refine r_lret ?_
      exact ⟨_, rfl, hI155, hF156, _, rfl, trivial⟩
    · have c154_ : v153.toInt = 0 := en_k_ne_f c154
      refine At.enter rfl ?_
      refine r_lload rfl ?_
      refine r_ldc2 1000000000 rfl ?_
      refine r_lcmp _ rfl ?_
      refine r_ifs 151 rfl (fun c157 => ?_) (fun c157 => ?_)
      · have c157_ : v152.toInt > 1000000000 := en_j_gt_t c157
        refine At.enter rfl ?_
        refine r_iconst 1 rfl ?_
        refine r_goto ?_
        refine At.enter rfl ?_
        refine q_putI (Sh.int hI0.1 kx_185 rfl) rfl ?_
        have hI158 := HI.wI0 hI0 kx_185 rfl (p := 185) (b := 3) (v := 1) rfl
        have hF159 := Fr.wI (p := 185) (b := 3) (v := 1) hF0 rfl
        refine r_lload rfl ?_
        refine r_lret ?_
        exact ⟨_, rfl, hI158, hF159, _, rfl, trivial⟩
      · have c157_ : v152.toInt ≤ 1000000000 := en_j_gt_f c157
        refine At.enter rfl ?_
        refine r_lload rfl ?_
        refine r_ldc2 (-1000000000) rfl ?_
        refine r_lcmp _ rfl ?_
        refine r_ifs 160 rfl (fun c160 => ?_) (fun c160 => ?_)
        · have c160_ : v152.toInt ≥ (-1000000000) := en_j_ge_t c160
          refine At.enter rfl ?_
          refine r_iconst 0 rfl ?_
          refine Ar.fall 165 rfl ?_
          refine At.enter rfl ?_
          refine q_putI (Sh.int hI0.1 kx_185 rfl) rfl ?_
          have hI161 := HI.wI0 hI0 kx_185 rfl (p := 185) (b := 3) (v := 0) rfl
          have hF162 := Fr.wI (p := 185) (b := 3) (v := 0) hF0 rfl
          refine r_lload rfl ?_
          refine r_lret ?_
          exact ⟨_, rfl, hI161, hF162, _, rfl, trivial⟩
        · have c160_ : v152.toInt < (-1000000000) := en_j_ge_f c160
          refine At.enter rfl ?_
          refine r_iconst 1 rfl ?_
          refine r_goto ?_
          refine At.enter rfl ?_
          refine q_putI (Sh.int hI0.1 kx_185 rfl) rfl ?_
          have hI163 := HI.wI0 hI0 kx_185 rfl (p := 185) (b := 3) (v := 1) rfl
          have hF164 := Fr.wI (p := 185) (b := 3) (v := 1) hF0 rfl
          refine r_lload rfl ?_
          refine r_lret ?_
          exact ⟨_, rfl, hI163, hF164, _, rfl, trivial⟩
  by_cases c125_3 : a1.toInt = 5
  · refine r_tsw 71 (by rw [c125_3]; rfl) ?_
    refine At.enter rfl ?_
    refine r_lload rfl ?_
    refine r_lconst 0 rfl ?_
    refine r_lcmp _ rfl ?_
    refine r_ifs 78 rfl (fun c165 => ?_) (fun c165 => ?_)
    · have c165_ : a3.toInt ≠ 0 := en_j_ne_t c165
      refine At.enter rfl ?_
      refine r_lload_n rfl ?_
      refine r_lload rfl ?_
      refine q_ldivO (by omega) (fun v166 _ => ?_)
      refine r_lstore ([(6, .long v166), (0, .ref 185), (1, .int a1), (2, .long a2), (4, .long a3)]) rfl ?_
      refine r_goto ?_
      refine At.enter rfl ?_
      refine r_aload_n rfl ?_
      refine r_aload_n rfl ?_
      obtain ⟨v167, hv167⟩ : ∃ v, gI g0 185 3 = v := ⟨_, rfl⟩
      refine q_getI (Sh.int hI0.1 kx_185 rfl) v167 hv167 ?_
      refine r_ifs 142 rfl (fun c168 => ?_) (fun c168 => ?_)
      · have c168_ : v167.toInt ≠ 0 := en_k_ne_t c168
        refine At.enter rfl ?_
        refine r_iconst 1 rfl ?_
        refine r_goto ?_
        refine At.enter rfl ?_
        refine q_putI (Sh.int hI0.1 kx_185 rfl) rfl ?_
        have hI169 := HI.wI0 hI0 kx_185 rfl (p := 185) (b := 3) (v := 1) rfl
        have hF170 := Fr.wI (p := 185) (b := 3) (v := 1) hF0 rfl
        refine r_lload rfl ?_
        refine r_lret ?_
        exact ⟨_, rfl, hI169, hF170, _, rfl, trivial⟩
      · have c168_ : v167.toInt = 0 := en_k_ne_f c168
        refine At.enter rfl ?_
        refine r_lload rfl ?_
        refine r_ldc2 1000000000 rfl ?_
        refine r_lcmp _ rfl ?_
        refine r_ifs 151 rfl (fun c171 => ?_) (fun c171 => ?_)
        · have c171_ : v166.toInt > 1000000000 := en_j_gt_t c171
          refine At.enter rfl ?_
          refine r_iconst 1 rfl ?_
          refine r_goto ?_
          refine At.enter rfl ?_
          refine q_putI (Sh.int hI0.1 kx_185 rfl) rfl ?_
          have hI172 := HI.wI0 hI0 kx_185 rfl (p := 185) (b := 3) (v := 1) rfl
          have hF173 := Fr.wI (p := 185) (b := 3) (v := 1) hF0 rfl
          refine r_lload rfl ?_
          refine r_lret ?_
          exact ⟨_, rfl, hI172, hF173, _, rfl, trivial⟩
        · have c171_ : v166.toInt ≤ 1000000000 := en_j_gt_f c171
          refine At.enter rfl ?_
          refine r_lload rfl ?_
          refine r_ldc2 (-1000000000) rfl ?_
          refine r_lcmp _ rfl ?_
          refine r_ifs 160 rfl (fun c174 => ?_) (fun c174 => ?_)
          · have c174_ : v166.toInt ≥ (-1000000000) := en_j_ge_t c174
            refine At.enter rfl ?_
            refine r_iconst 0 rfl ?_
            refine Ar.fall 165 rfl ?_
            refine At.enter rfl ?_
            refine q_putI (Sh.int hI0.1 kx_185 rfl) rfl ?_
            have hI175 := HI.wI0 hI0 kx_185 rfl (p := 185) (b := 3) (v := 0) rfl
            have hF176 := Fr.wI (p := 185) (b := 3) (v := 0) hF0 rfl
            refine r_lload rfl ?_
            refine r_lret ?_
            exact ⟨_, rfl, hI175, hF176, _, rfl, trivial⟩
          · have c174_ : v166.toInt < (-1000000000) := en_j_ge_f c174
            refine At.enter rfl ?_
            refine r_iconst 1 rfl ?_
            refine r_goto ?_
            refine At.enter rfl ?_
            refine q_putI (Sh.int hI0.1 kx_185 rfl) rfl ?_
            have hI177 := HI.wI0 hI0 kx_185 rfl (p := 185) (b := 3) (v := 1) rfl
            have hF178 := Fr.wI (p := 185) (b := 3) (v := 1) hF0 rfl
            refine r_lload rfl ?_
            refine r_lret ?_
            exact ⟨_, rfl, hI177, hF178, _, rfl, trivial⟩
    · have c165_ : a3.toInt = 0 := en_j_ne_f c165
      refine At.enter rfl ?_
      refine r_aload_n rfl ?_
      refine r_iconst 1 rfl ?_
      refine q_putI (Sh.int hI0.1 kx_185 rfl) rfl ?_
      have hI179 := HI.wI0 hI0 kx_185 rfl (p := 185) (b := 3) (v := 1) rfl
      have hF180 := Fr.wI (p := 185) (b := 3) (v := 1) hF0 rfl
      refine r_goto ?_
      refine At.enter rfl ?_
      refine r_aload_n rfl ?_
      refine r_aload_n rfl ?_
      refine q_getI (Sh.int hI179.1 kx_185 rfl) 1 (gI_sI_eq hI0.1 kx_185 rfl _) ?_
      refine r_ift (by decide) ?_
      refine At.enter rfl ?_
      refine r_iconst 1 rfl ?_
      refine r_goto ?_
      refine At.enter rfl ?_
      refine q_putI (Sh.int hI179.1 kx_185 rfl) rfl ?_
      have hI181 := HI.wI0 hI179 kx_185 rfl (p := 185) (b := 3) (v := 1) rfl
      have hF182 := Fr.wI (p := 185) (b := 3) (v := 1) hF180 rfl
      refine r_lload rfl ?_
      refine r_lret ?_
      exact ⟨_, rfl, hI181, hF182, _, rfl, trivial⟩
  by_cases c125_4 : a1.toInt = 6
  · refine r_tsw 95 (by rw [c125_4]; rfl) ?_
    refine At.enter rfl ?_
    refine r_lload_n rfl ?_
    refine r_lload rfl ?_
    refine r_lcmp _ rfl ?_
    refine r_ifs 102 rfl (fun c183 => ?_) (fun c183 => ?_)
    · have c183_ : a2.toInt ≥ a3.toInt := en_j_ge_t c183
      refine At.enter rfl ?_
      refine r_lconst 0 rfl ?_
      refine Ar.fall 107 rfl ?_
      refine At.enter rfl ?_
      refine r_lret ?_
      exact ⟨_, rfl, hI0, hF0, _, rfl, trivial⟩
    · have c183_ : a2.toInt < a3.toInt := en_j_ge_f c183
      refine At.enter rfl ?_
      refine r_lconst 1 rfl ?_
      refine r_goto ?_
      refine At.enter rfl ?_
      refine r_lret ?_
      exact ⟨_, rfl, hI0, hF0, _, rfl, trivial⟩
  by_cases c125_5 : a1.toInt = 7
  · refine r_tsw 108 (by rw [c125_5]; rfl) ?_
    refine At.enter rfl ?_
    refine r_lload_n rfl ?_
    refine r_lload rfl ?_
    refine r_lcmp _ rfl ?_
    refine r_ifs 115 rfl (fun c184 => ?_) (fun c184 => ?_)
    · have c184_ : a2.toInt ≤ a3.toInt := en_j_le_t c184
      refine At.enter rfl ?_
      refine r_lconst 0 rfl ?_
      refine Ar.fall 120 rfl ?_
      refine At.enter rfl ?_
      refine r_lret ?_
      exact ⟨_, rfl, hI0, hF0, _, rfl, trivial⟩
    · have c184_ : a2.toInt > a3.toInt := en_j_le_f c184
      refine At.enter rfl ?_
      refine r_lconst 1 rfl ?_
      refine r_goto ?_
      refine At.enter rfl ?_
      refine r_lret ?_
      exact ⟨_, rfl, hI0, hF0, _, rfl, trivial⟩
  have c185 : a1.toInt < 2 ∨ 7 < a1.toInt := by omega
  refine r_tsw 121 (by unfold en_sw; rw [if_pos c185]; rfl) ?_
  refine At.enter rfl ?_
  refine r_lload_n rfl ?_
  refine r_lload rfl ?_
  refine r_lcmp _ rfl ?_
  refine r_ifs 128 rfl (fun c186 => ?_) (fun c186 => ?_)
  · have c186_ : a2.toInt ≠ a3.toInt := en_j_ne_t c186
    refine At.enter rfl ?_
    refine r_lconst 0 rfl ?_
    refine Ar.fall 133 rfl ?_
    refine At.enter rfl ?_
    refine r_lret ?_
    exact ⟨_, rfl, hI0, hF0, _, rfl, trivial⟩
  · have c186_ : a2.toInt = a3.toInt := en_j_ne_f c186
    refine At.enter rfl ?_
    refine r_lconst 1 rfl ?_
    refine r_goto ?_
    refine At.enter rfl ?_
    refine r_lret ?_
    exact ⟨_, rfl, hI0, hF0, _, rfl, trivial⟩

def F_X3_worth_185 : List (Nat × Nat) := [(185, 3)]
def A_X3_worth_185 : List Nat := []
set_option maxRecDepth 100000 in
set_option maxHeartbeats 4000000 in
theorem T_X3_worth_185 (d : Nat) {N : Nat} {g0 : List en_E} (hI0 : HI g0) (q1 : Nat) (hq1 : Lw q1) (a2 : Int32) (a3 : Int32) : Ev (d + 2) 53 [.ref 185, .ref (q1), .int a2, .int a3] (g0, N) (fun w h' => ∃ g', h' = (g', N) ∧ HI g' ∧ Fr F_X3_worth_185 A_X3_worth_185 g0 g' ∧ ∃ r : Int64, w = some (.long r) ∧ True) := by
  have hF0 : Fr F_X3_worth_185 A_X3_worth_185 g0 g0 := Fr.rf
  refine Ev.mk rfl rfl ⟨Nat.le_of_ble_eq_true rfl, Or.inr (q_rc hI0.1 kx_185 rfl)⟩ ?_
  show At _ none _ _ (0, [(0, .ref 185), (1, .ref (q1)), (2, .int a2), (3, .int a3)], [], (_, _)) _
  refine At.enter rfl ?_
  refine r_aload_n rfl ?_
  refine r_iconst 0 rfl ?_
  refine q_putI (Sh.int hI0.1 kx_185 rfl) rfl ?_
  have hI3399 := HI.wI0 hI0 kx_185 rfl (p := 185) (b := 3) (v := 0) rfl
  have hF3400 := Fr.wI (p := 185) (b := 3) (v := 0) hF0 rfl
  refine r_iload_n rfl ?_
  refine r_sipush 400 rfl ?_
  refine q_mmin rfl (Nat.le_of_ble_eq_true rfl) (fun v3401 hv3401 => ?_)
  have zv3402 : (400 : Int32).toInt = 400 := rfl
  refine r_istore ([(4, .int v3401), (0, .ref 185), (1, .ref (q1)), (2, .int a2), (3, .int a3)]) rfl ?_
  refine r_iconst 0 rfl ?_
  refine r_iload_n rfl ?_
  refine q_mmax rfl (Nat.le_of_ble_eq_true rfl) (fun v3403 hv3403 => ?_)
  have zv3404 : (0 : Int32).toInt = 0 := rfl
  refine r_istore ([(5, .int v3403), (4, .int v3401), (0, .ref 185), (1, .ref (q1)), (2, .int a2), (3, .int a3)]) rfl ?_
  refine r_iconst 0 rfl ?_
  refine r_istore ([(6, .int 0), (5, .int v3403), (4, .int v3401), (0, .ref 185), (1, .ref (q1)), (2, .int a2), (3, .int a3)]) rfl ?_
  refine r_iconst 0 rfl ?_
  refine r_istore ([(7, .int 0), (6, .int 0), (5, .int v3403), (4, .int v3401), (0, .ref 185), (1, .ref (q1)), (2, .int a2), (3, .int a3)]) rfl ?_
  refine Ar.fall 27 rfl ?_
  have z_4995 : (0 : Int32).toInt = 0 := rfl
  have z_4996 : (0 : Int32).toInt = 0 := rfl
  refine w_loopI (fun n_ l_ g_ => ∃ x4975 : Int32, ∃ x4976 : Int32, ∃ x4977 : Int32, n_ = 400 - x4977.toInt ∧ HI g_ ∧ Fr F_X3_worth_185 A_X3_worth_185 g0 g_ ∧ en_get 0 l_ = some (.ref 185) ∧ en_get 1 l_ = some (.ref (q1)) ∧ en_get 2 l_ = some (.int a2) ∧ en_get 3 l_ = some (.int a3) ∧ en_get 4 l_ = some (.int v3401) ∧ en_get 5 l_ = some (.int x4975) ∧ en_get 6 l_ = some (.int x4976) ∧ en_get 7 l_ = some (.int x4977) ∧ 0 ≤ x4975.toInt ∧ (0 ≤ x4976.toInt ∧ x4976.toInt ≤ 64) ∧ (0 ≤ x4977.toInt ∧ x4977.toInt ≤ 400)) ?_ (400 - 0) ⟨v3403, 0, 0, by first | rfl | omega, hI3399, hF3400, rfl, rfl, rfl, rfl, rfl, rfl, rfl, rfl, by omega, by decide, by decide⟩
  rintro n4982 l4981 g4978 ⟨x4975, x4976, x4977, hm4997, hI4979, hF4980, e4984, e4985, e4986, e4987, e4988, e4989, e4990, e4991, r4992, r4993, r4994⟩ ih4983
  refine At.enter rfl ?_
  refine r_iload e4991 ?_
  refine r_sipush 400 rfl ?_
  refine r_ics 35 rfl (fun c4998 => ?_) (fun c4998 => ?_)
  · have c4998_ : x4977.toInt ≥ 400 := en_i_ge_t c4998
    refine At.enter rfl ?_
    refine r_aload_n e4984 ?_
    refine q_getR (Sh.ref hI4979.1 kx_185 rfl) ?_
    refine r_iconst 0 rfl ?_
    refine q_lald (Sh.lar hI4979.1 ka_187) (0) rfl (by decide) (fun v4999 => ?_)
    refine r_lret ?_
    exact ⟨_, rfl, hI4979, hF4980, _, rfl, trivial⟩
  · have c4998_ : x4977.toInt < 400 := en_i_ge_f c4998
    refine At.enter rfl ?_
    refine r_iload e4989 ?_
    refine r_iload e4988 ?_
    have bv5001 := q_bnd x4975
    have bv5002 := q_bnd v3401
    refine r_ics 42 rfl (fun c5000 => ?_) (fun c5000 => ?_)
    · have c5000_ : x4975.toInt ≥ v3401.toInt := en_i_ge_t c5000
      refine At.enter rfl ?_
      refine r_aload_n e4984 ?_
      refine q_getR (Sh.ref hI4979.1 kx_185 rfl) ?_
      refine r_iconst 0 rfl ?_
      refine q_lald (Sh.lar hI4979.1 ka_187) (0) rfl (by decide) (fun v5003 => ?_)
      refine r_lret ?_
      exact ⟨_, rfl, hI4979, hF4980, _, rfl, trivial⟩
    · have c5000_ : x4975.toInt < v3401.toInt := en_i_ge_f c5000
      refine At.enter rfl ?_
      refine r_aload_n e4984 ?_
      obtain ⟨v5004, hv5004⟩ : ∃ v, gI g4978 185 3 = v := ⟨_, rfl⟩
      refine q_getI (Sh.int hI4979.1 kx_185 rfl) v5004 hv5004 ?_
      refine r_ifs 49 rfl (fun c5005 => ?_) (fun c5005 => ?_)
      · have c5005_ : v5004.toInt ≠ 0 := en_k_ne_t c5005
        refine At.enter rfl ?_
        refine r_aload_n e4984 ?_
        refine q_getR (Sh.ref hI4979.1 kx_185 rfl) ?_
        refine r_iconst 0 rfl ?_
        refine q_lald (Sh.lar hI4979.1 ka_187) (0) rfl (by decide) (fun v5006 => ?_)
        refine r_lret ?_
        exact ⟨_, rfl, hI4979, hF4980, _, rfl, trivial⟩
      · have c5005_ : v5004.toInt = 0 := en_k_ne_f c5005
        refine At.enter rfl ?_
        refine r_aload_n e4985 ?_
        refine q_getR (Sh.ref hI4979.1 (Lw.ko hq1) rfl) ?_
        refine r_iload e4989 ?_
        refine q_iald' (Sh.arr hI4979.1 (Lw.k1 hq1)) x4975.toInt rfl (by omega) (fun v5007 hv5007 => ?_)
        refine r_istore _ rfl ?_
        refine r_aload_n (w_p1 (by decide) (Or.inr rfl) e4985) ?_
        refine q_getR (Sh.ref hI4979.1 (Lw.ko hq1) rfl) ?_
        refine r_iload (w_p1 (by decide) (Or.inr rfl) e4989) ?_
        refine q_iald' (Sh.arr hI4979.1 (Lw.k2 hq1)) x4975.toInt rfl (by omega) (fun v5008 hv5008 => ?_)
        refine r_istore _ rfl ?_
        refine q_iinc (w_p1 (by decide) (Or.inr rfl) (w_p1 (by decide) (Or.inr rfl) e4989)) (x4975.toInt + 1) rfl (by omega) (fun v5009 hv5009 => ?_)
        refine r_iload (w_p1 (by decide) (Or.inr rfl) (w_p1 (by decide) (Or.inr rfl) (w_e1 _ _ _))) ?_
        refine r_ifs 75 rfl (fun c5010 => ?_) (fun c5010 => ?_)
        · have c5010_ : v5007.toInt = 0 := en_k_eq_t c5010
          refine At.enter rfl ?_
          refine r_iload (w_p1 (by decide) (Or.inr rfl) (w_p1 (by decide) (Or.inr rfl) (w_p1 (by decide) (Or.inr rfl) e4990))) ?_
          refine r_bipush 64 rfl ?_
          refine r_ics 88 rfl (fun c5011 => ?_) (fun c5011 => ?_)
          · have c5011_ : x4976.toInt ≥ 64 := en_i_ge_t c5011
            refine At.enter rfl ?_
            refine q_iinc (w_p1 (by decide) (Or.inr rfl) (w_p1 (by decide) (Or.inr rfl) (w_p1 (by decide) (Or.inr rfl) e4991))) (x4977.toInt + 1) rfl (by omega) (fun v5012 hv5012 => ?_)
            refine r_goto ?_
            have bv5013 := q_bnd v5009
            exact ih4983 (400 - v5012.toInt) _ _ ⟨v5009, x4976, v5012, by first | rfl | omega, hI4979, hF4980, (w_p1 (by decide) (Or.inr rfl) (w_p1 (by decide) (Or.inr rfl) (w_p1 (by decide) (Or.inr rfl) (w_p1 (by decide) (Or.inr rfl) e4984)))), (w_p1 (by decide) (Or.inr rfl) (w_p1 (by decide) (Or.inr rfl) (w_p1 (by decide) (Or.inr rfl) (w_p1 (by decide) (Or.inr rfl) e4985)))), (w_p1 (by decide) (Or.inr rfl) (w_p1 (by decide) (Or.inr rfl) (w_p1 (by decide) (Or.inr rfl) (w_p1 (by decide) (Or.inr rfl) e4986)))), (w_p1 (by decide) (Or.inr rfl) (w_p1 (by decide) (Or.inr rfl) (w_p1 (by decide) (Or.inr rfl) (w_p1 (by decide) (Or.inr rfl) e4987)))), (w_p1 (by decide) (Or.inr rfl) (w_p1 (by decide) (Or.inr rfl) (w_p1 (by decide) (Or.inr rfl) (w_p1 (by decide) (Or.inr rfl) e4988)))), (w_p1 (by decide) (Or.inr rfl) (w_e1 _ _ _)), (w_p1 (by decide) (Or.inr rfl) (w_p1 (by decide) (Or.inr rfl) (w_p1 (by decide) (Or.inr rfl) (w_p1 (by decide) (Or.inr rfl) e4990)))), (w_e1 _ _ _), by omega, by omega, by omega⟩ ⟨by omega, by omega⟩
          · have c5011_ : x4976.toInt < 64 := en_i_ge_f c5011
            refine At.enter rfl ?_
            refine r_aload_n (w_p1 (by decide) (Or.inr rfl) (w_p1 (by decide) (Or.inr rfl) (w_p1 (by decide) (Or.inr rfl) e4984))) ?_
            refine q_getR (Sh.ref hI4979.1 kx_185 rfl) ?_
            refine r_iload (w_p1 (by decide) (Or.inr rfl) (w_p1 (by decide) (Or.inr rfl) (w_p1 (by decide) (Or.inr rfl) e4990))) ?_
            refine r_iload (w_p1 (by decide) (Or.inr rfl) (w_p1 (by decide) (Or.inr rfl) (w_e1 _ _ _))) ?_
            refine r_ifs 99 rfl (fun c5014 => ?_) (fun c5014 => ?_)
            · have c5014_ : v5007.toInt ≠ 0 := en_k_ne_t c5014
              exfalso; omega
            · have c5014_ : v5007.toInt = 0 := en_k_ne_f c5014
              refine At.enter rfl ?_
              refine r_iload (w_p1 (by decide) (Or.inr rfl) (w_e1 _ _ _)) ?_
              refine q_i2l (fun v5015 hv5015 => ?_)
              refine r_goto ?_
              refine At.enter rfl ?_
              refine q_last (Sh.lar hI4979.1 ka_187) (x4976.toInt) rfl (by omega) ?_
              have hI5016 := HI.wK hI4979 ka_187 (x4976.toInt) (v5015)
              have hF5017 := Fr.wK (p := 187) (j := x4976.toInt) (v := v5015) hF4980
              refine q_iinc (w_p1 (by decide) (Or.inr rfl) (w_p1 (by decide) (Or.inr rfl) (w_p1 (by decide) (Or.inr rfl) e4990))) (x4976.toInt + 1) rfl (by omega) (fun v5018 hv5018 => ?_)
              refine r_goto ?_
              refine At.enter rfl ?_
              refine q_iinc (w_p1 (by decide) (Or.inr rfl) (w_p1 (by decide) (Or.inr rfl) (w_p1 (by decide) (Or.inr rfl) (w_p1 (by decide) (Or.inr rfl) e4991)))) (x4977.toInt + 1) rfl (by omega) (fun v5019 hv5019 => ?_)
              refine r_goto ?_
              have bv5020 := q_bnd v5009
              exact ih4983 (400 - v5019.toInt) _ _ ⟨v5009, v5018, v5019, by first | rfl | omega, hI5016, hF5017, (w_p1 (by decide) (Or.inr rfl) (w_p1 (by decide) (Or.inr rfl) (w_p1 (by decide) (Or.inr rfl) (w_p1 (by decide) (Or.inr rfl) (w_p1 (by decide) (Or.inr rfl) e4984))))), (w_p1 (by decide) (Or.inr rfl) (w_p1 (by decide) (Or.inr rfl) (w_p1 (by decide) (Or.inr rfl) (w_p1 (by decide) (Or.inr rfl) (w_p1 (by decide) (Or.inr rfl) e4985))))), (w_p1 (by decide) (Or.inr rfl) (w_p1 (by decide) (Or.inr rfl) (w_p1 (by decide) (Or.inr rfl) (w_p1 (by decide) (Or.inr rfl) (w_p1 (by decide) (Or.inr rfl) e4986))))), (w_p1 (by decide) (Or.inr rfl) (w_p1 (by decide) (Or.inr rfl) (w_p1 (by decide) (Or.inr rfl) (w_p1 (by decide) (Or.inr rfl) (w_p1 (by decide) (Or.inr rfl) e4987))))), (w_p1 (by decide) (Or.inr rfl) (w_p1 (by decide) (Or.inr rfl) (w_p1 (by decide) (Or.inr rfl) (w_p1 (by decide) (Or.inr rfl) (w_p1 (by decide) (Or.inr rfl) e4988))))), (w_p1 (by decide) (Or.inr rfl) (w_p1 (by decide) (Or.inr rfl) (w_e1 _ _ _))), (w_p1 (by decide) (Or.inr rfl) (w_e1 _ _ _)), (w_e1 _ _ _), by omega, by omega, by omega⟩ ⟨by omega, by omega⟩
        · have c5010_ : v5007.toInt ≠ 0 := en_k_eq_f c5010
          refine At.enter rfl ?_
          refine r_iload (w_p1 (by decide) (Or.inr rfl) (w_p1 (by decide) (Or.inr rfl) (w_e1 _ _ _))) ?_
          refine r_iconst 1 rfl ?_
          refine r_ics 81 rfl (fun c5021 => ?_) (fun c5021 => ?_)
          · have c5021_ : v5007.toInt ≠ 1 := en_i_ne_t c5021
            refine At.enter rfl ?_
            refine r_iload (w_p1 (by decide) (Or.inr rfl) (w_p1 (by decide) (Or.inr rfl) (w_e1 _ _ _))) ?_
            refine r_bipush 9 rfl ?_
            refine r_ics 142 rfl (fun c5022 => ?_) (fun c5022 => ?_)
            · have c5022_ : v5007.toInt ≠ 9 := en_i_ne_t c5022
              refine At.enter rfl ?_
              refine r_iload (w_p1 (by decide) (Or.inr rfl) (w_p1 (by decide) (Or.inr rfl) (w_e1 _ _ _))) ?_
              refine r_bipush 10 rfl ?_
              refine r_ics 177 rfl (fun c5023 => ?_) (fun c5023 => ?_)
              · have c5023_ : v5007.toInt = 10 := en_i_eq_t c5023
                refine At.enter rfl ?_
                refine r_iload (w_p1 (by decide) (Or.inr rfl) (w_p1 (by decide) (Or.inr rfl) (w_p1 (by decide) (Or.inr rfl) e4990))) ?_
                refine r_ifs 189 rfl (fun c5024 => ?_) (fun c5024 => ?_)
                · have c5024_ : x4976.toInt ≤ 0 := en_k_le_t c5024
                  refine At.enter rfl ?_
                  refine r_iconst 0 rfl ?_
                  refine r_iload (w_p1 (by decide) (Or.inr rfl) (w_p1 (by decide) (Or.inr rfl) (w_p1 (by decide) (Or.inr rfl) e4990))) ?_
                  refine r_iconst 1 rfl ?_
                  refine q_isub (x4976.toInt - 1) rfl (by omega) (fun v5025 hv5025 => ?_)
                  refine q_mmax rfl (Nat.le_of_ble_eq_true rfl) (fun v5026 hv5026 => ?_)
                  have zv5027 : (0 : Int32).toInt = 0 := rfl
                  refine r_istore _ rfl ?_
                  refine r_goto ?_
                  refine At.enter rfl ?_
                  refine q_iinc (w_p1 (by decide) (Or.inr rfl) (w_p1 (by decide) (Or.inr rfl) (w_p1 (by decide) (Or.inr rfl) (w_p1 (by decide) (Or.inr rfl) e4991)))) (x4977.toInt + 1) rfl (by omega) (fun v5028 hv5028 => ?_)
                  refine r_goto ?_
                  have bv5029 := q_bnd v5009
                  exact ih4983 (400 - v5028.toInt) _ _ ⟨v5009, v5026, v5028, by first | rfl | omega, hI4979, hF4980, (w_p1 (by decide) (Or.inr rfl) (w_p1 (by decide) (Or.inr rfl) (w_p1 (by decide) (Or.inr rfl) (w_p1 (by decide) (Or.inr rfl) (w_p1 (by decide) (Or.inr rfl) e4984))))), (w_p1 (by decide) (Or.inr rfl) (w_p1 (by decide) (Or.inr rfl) (w_p1 (by decide) (Or.inr rfl) (w_p1 (by decide) (Or.inr rfl) (w_p1 (by decide) (Or.inr rfl) e4985))))), (w_p1 (by decide) (Or.inr rfl) (w_p1 (by decide) (Or.inr rfl) (w_p1 (by decide) (Or.inr rfl) (w_p1 (by decide) (Or.inr rfl) (w_p1 (by decide) (Or.inr rfl) e4986))))), (w_p1 (by decide) (Or.inr rfl) (w_p1 (by decide) (Or.inr rfl) (w_p1 (by decide) (Or.inr rfl) (w_p1 (by decide) (Or.inr rfl) (w_p1 (by decide) (Or.inr rfl) e4987))))), (w_p1 (by decide) (Or.inr rfl) (w_p1 (by decide) (Or.inr rfl) (w_p1 (by decide) (Or.inr rfl) (w_p1 (by decide) (Or.inr rfl) (w_p1 (by decide) (Or.inr rfl) e4988))))), (w_p1 (by decide) (Or.inr rfl) (w_p1 (by decide) (Or.inr rfl) (w_e1 _ _ _))), (w_p1 (by decide) (Or.inr rfl) (w_e1 _ _ _)), (w_e1 _ _ _), by omega, by omega, by omega⟩ ⟨by omega, by omega⟩
                · have c5024_ : x4976.toInt > 0 := en_k_le_f c5024
                  refine At.enter rfl ?_
                  refine r_aload_n (w_p1 (by decide) (Or.inr rfl) (w_p1 (by decide) (Or.inr rfl) (w_p1 (by decide) (Or.inr rfl) e4984))) ?_
                  refine q_getR (Sh.ref hI4979.1 kx_185 rfl) ?_
                  refine r_iload (w_p1 (by decide) (Or.inr rfl) (w_p1 (by decide) (Or.inr rfl) (w_p1 (by decide) (Or.inr rfl) e4990))) ?_
                  refine r_iconst 1 rfl ?_
                  refine q_isub (x4976.toInt - 1) rfl (by omega) (fun v5030 hv5030 => ?_)
                  refine q_lald (Sh.lar hI4979.1 ka_187) ((x4976.toInt + (-1))) (by omega) (by omega) (fun v5031 => ?_)
                  refine r_lconst 0 rfl ?_
                  refine r_lcmp _ rfl ?_
                  refine r_ifs 203 rfl (fun c5032 => ?_) (fun c5032 => ?_)
                  · have c5032_ : v5031.toInt = 0 := en_j_eq_t c5032
                    refine At.enter rfl ?_
                    refine r_iconst 0 rfl ?_
                    refine Ar.fall 208 rfl ?_
                    refine At.enter rfl ?_
                    refine r_iload (w_p1 (by decide) (Or.inr rfl) (w_p1 (by decide) (Or.inr rfl) (w_e1 _ _ _))) ?_
                    refine r_bipush 11 rfl ?_
                    refine r_ics 215 rfl (fun c5033 => ?_) (fun c5033 => ?_)
                    · have c5033_ : v5007.toInt ≠ 11 := en_i_ne_t c5033
                      refine At.enter rfl ?_
                      refine r_iconst 0 rfl ?_
                      refine Ar.fall 220 rfl ?_
                      refine At.enter rfl ?_
                      refine r_icf 223 rfl (by decide) ?_
                      refine At.enter rfl ?_
                      refine r_iload (w_e1 _ _ _) ?_
                      refine r_iload (w_p1 (by decide) (Or.inr rfl) (w_e1 _ _ _)) ?_
                      refine q_mmax rfl (Nat.le_of_ble_eq_true rfl) (fun v5034 hv5034 => ?_)
                      refine r_istore _ rfl ?_
                      refine r_goto ?_
                      refine At.enter rfl ?_
                      refine q_iinc (w_p1 (by decide) (Or.inr rfl) (w_p1 (by decide) (Or.inr rfl) (w_p1 (by decide) (Or.inr rfl) (w_p1 (by decide) (Or.inr rfl) e4991)))) (x4977.toInt + 1) rfl (by omega) (fun v5035 hv5035 => ?_)
                      refine r_goto ?_
                      have bv5036 := q_bnd v5034
                      exact ih4983 (400 - v5035.toInt) _ _ ⟨v5034, x4976, v5035, by first | rfl | omega, hI4979, hF4980, (w_p1 (by decide) (Or.inr rfl) (w_p1 (by decide) (Or.inr rfl) (w_p1 (by decide) (Or.inr rfl) (w_p1 (by decide) (Or.inr rfl) (w_p1 (by decide) (Or.inr rfl) e4984))))), (w_p1 (by decide) (Or.inr rfl) (w_p1 (by decide) (Or.inr rfl) (w_p1 (by decide) (Or.inr rfl) (w_p1 (by decide) (Or.inr rfl) (w_p1 (by decide) (Or.inr rfl) e4985))))), (w_p1 (by decide) (Or.inr rfl) (w_p1 (by decide) (Or.inr rfl) (w_p1 (by decide) (Or.inr rfl) (w_p1 (by decide) (Or.inr rfl) (w_p1 (by decide) (Or.inr rfl) e4986))))), (w_p1 (by decide) (Or.inr rfl) (w_p1 (by decide) (Or.inr rfl) (w_p1 (by decide) (Or.inr rfl) (w_p1 (by decide) (Or.inr rfl) (w_p1 (by decide) (Or.inr rfl) e4987))))), (w_p1 (by decide) (Or.inr rfl) (w_p1 (by decide) (Or.inr rfl) (w_p1 (by decide) (Or.inr rfl) (w_p1 (by decide) (Or.inr rfl) (w_p1 (by decide) (Or.inr rfl) e4988))))), (w_p1 (by decide) (Or.inr rfl) (w_e1 _ _ _)), (w_p1 (by decide) (Or.inr rfl) (w_p1 (by decide) (Or.inr rfl) (w_p1 (by decide) (Or.inr rfl) (w_p1 (by decide) (Or.inr rfl) (w_p1 (by decide) (Or.inr rfl) e4990))))), (w_e1 _ _ _), by omega, by omega, by omega⟩ ⟨by omega, by omega⟩
                    · have c5033_ : v5007.toInt = 11 := en_i_ne_f c5033
                      exfalso; omega
                  · have c5032_ : v5031.toInt ≠ 0 := en_j_eq_f c5032
                    refine At.enter rfl ?_
                    refine r_iconst 1 rfl ?_
                    refine r_goto ?_
                    refine At.enter rfl ?_
                    refine r_iload (w_p1 (by decide) (Or.inr rfl) (w_p1 (by decide) (Or.inr rfl) (w_e1 _ _ _))) ?_
                    refine r_bipush 11 rfl ?_
                    refine r_ics 215 rfl (fun c5037 => ?_) (fun c5037 => ?_)
                    · have c5037_ : v5007.toInt ≠ 11 := en_i_ne_t c5037
                      refine At.enter rfl ?_
                      refine r_iconst 0 rfl ?_
                      refine Ar.fall 220 rfl ?_
                      refine At.enter rfl ?_
                      refine r_ict (by decide) ?_
                      refine At.enter rfl ?_
                      refine r_iconst 0 rfl ?_
                      refine r_iload (w_p1 (by decide) (Or.inr rfl) (w_p1 (by decide) (Or.inr rfl) (w_p1 (by decide) (Or.inr rfl) e4990))) ?_
                      refine r_iconst 1 rfl ?_
                      refine q_isub (x4976.toInt - 1) rfl (by omega) (fun v5038 hv5038 => ?_)
                      refine q_mmax rfl (Nat.le_of_ble_eq_true rfl) (fun v5039 hv5039 => ?_)
                      have zv5040 : (0 : Int32).toInt = 0 := rfl
                      refine r_istore _ rfl ?_
                      refine r_goto ?_
                      refine At.enter rfl ?_
                      refine q_iinc (w_p1 (by decide) (Or.inr rfl) (w_p1 (by decide) (Or.inr rfl) (w_p1 (by decide) (Or.inr rfl) (w_p1 (by decide) (Or.inr rfl) e4991)))) (x4977.toInt + 1) rfl (by omega) (fun v5041 hv5041 => ?_)
                      refine r_goto ?_
                      have bv5042 := q_bnd v5009
                      exact ih4983 (400 - v5041.toInt) _ _ ⟨v5009, v5039, v5041, by first | rfl | omega, hI4979, hF4980, (w_p1 (by decide) (Or.inr rfl) (w_p1 (by decide) (Or.inr rfl) (w_p1 (by decide) (Or.inr rfl) (w_p1 (by decide) (Or.inr rfl) (w_p1 (by decide) (Or.inr rfl) e4984))))), (w_p1 (by decide) (Or.inr rfl) (w_p1 (by decide) (Or.inr rfl) (w_p1 (by decide) (Or.inr rfl) (w_p1 (by decide) (Or.inr rfl) (w_p1 (by decide) (Or.inr rfl) e4985))))), (w_p1 (by decide) (Or.inr rfl) (w_p1 (by decide) (Or.inr rfl) (w_p1 (by decide) (Or.inr rfl) (w_p1 (by decide) (Or.inr rfl) (w_p1 (by decide) (Or.inr rfl) e4986))))), (w_p1 (by decide) (Or.inr rfl) (w_p1 (by decide) (Or.inr rfl) (w_p1 (by decide) (Or.inr rfl) (w_p1 (by decide) (Or.inr rfl) (w_p1 (by decide) (Or.inr rfl) e4987))))), (w_p1 (by decide) (Or.inr rfl) (w_p1 (by decide) (Or.inr rfl) (w_p1 (by decide) (Or.inr rfl) (w_p1 (by decide) (Or.inr rfl) (w_p1 (by decide) (Or.inr rfl) e4988))))), (w_p1 (by decide) (Or.inr rfl) (w_p1 (by decide) (Or.inr rfl) (w_e1 _ _ _))), (w_p1 (by decide) (Or.inr rfl) (w_e1 _ _ _)), (w_e1 _ _ _), by omega, by omega, by omega⟩ ⟨by omega, by omega⟩
                    · have c5037_ : v5007.toInt = 11 := en_i_ne_f c5037
                      exfalso; omega
              · have c5023_ : v5007.toInt ≠ 10 := en_i_eq_f c5023
                refine At.enter rfl ?_
                refine r_iload (w_p1 (by decide) (Or.inr rfl) (w_p1 (by decide) (Or.inr rfl) (w_e1 _ _ _))) ?_
                refine r_bipush 11 rfl ?_
                refine r_ics 184 rfl (fun c5043 => ?_) (fun c5043 => ?_)
                · have c5043_ : v5007.toInt ≠ 11 := en_i_ne_t c5043
                  refine At.enter rfl ?_
                  refine r_iload (w_p1 (by decide) (Or.inr rfl) (w_p1 (by decide) (Or.inr rfl) (w_p1 (by decide) (Or.inr rfl) e4990))) ?_
                  refine r_iconst 1 rfl ?_
                  refine r_ics 254 rfl (fun c5044 => ?_) (fun c5044 => ?_)
                  · have c5044_ : x4976.toInt ≤ 1 := en_i_le_t c5044
                    refine At.enter rfl ?_
                    refine q_iinc (w_p1 (by decide) (Or.inr rfl) (w_p1 (by decide) (Or.inr rfl) (w_p1 (by decide) (Or.inr rfl) e4991))) (x4977.toInt + 1) rfl (by omega) (fun v5045 hv5045 => ?_)
                    refine r_goto ?_
                    have bv5046 := q_bnd v5009
                    exact ih4983 (400 - v5045.toInt) _ _ ⟨v5009, x4976, v5045, by first | rfl | omega, hI4979, hF4980, (w_p1 (by decide) (Or.inr rfl) (w_p1 (by decide) (Or.inr rfl) (w_p1 (by decide) (Or.inr rfl) (w_p1 (by decide) (Or.inr rfl) e4984)))), (w_p1 (by decide) (Or.inr rfl) (w_p1 (by decide) (Or.inr rfl) (w_p1 (by decide) (Or.inr rfl) (w_p1 (by decide) (Or.inr rfl) e4985)))), (w_p1 (by decide) (Or.inr rfl) (w_p1 (by decide) (Or.inr rfl) (w_p1 (by decide) (Or.inr rfl) (w_p1 (by decide) (Or.inr rfl) e4986)))), (w_p1 (by decide) (Or.inr rfl) (w_p1 (by decide) (Or.inr rfl) (w_p1 (by decide) (Or.inr rfl) (w_p1 (by decide) (Or.inr rfl) e4987)))), (w_p1 (by decide) (Or.inr rfl) (w_p1 (by decide) (Or.inr rfl) (w_p1 (by decide) (Or.inr rfl) (w_p1 (by decide) (Or.inr rfl) e4988)))), (w_p1 (by decide) (Or.inr rfl) (w_e1 _ _ _)), (w_p1 (by decide) (Or.inr rfl) (w_p1 (by decide) (Or.inr rfl) (w_p1 (by decide) (Or.inr rfl) (w_p1 (by decide) (Or.inr rfl) e4990)))), (w_e1 _ _ _), by omega, by omega, by omega⟩ ⟨by omega, by omega⟩
                  · have c5044_ : x4976.toInt > 1 := en_i_le_f c5044
                    refine At.enter rfl ?_
                    refine q_iinc (w_p1 (by decide) (Or.inr rfl) (w_p1 (by decide) (Or.inr rfl) (w_p1 (by decide) (Or.inr rfl) e4990))) (x4976.toInt + (-1)) rfl (by omega) (fun v5047 hv5047 => ?_)
                    refine r_aload_n (w_p1 (by decide) (Or.inr rfl) (w_p1 (by decide) (Or.inr rfl) (w_p1 (by decide) (Or.inr rfl) (w_p1 (by decide) (Or.inr rfl) e4984)))) ?_
                    refine q_getR (Sh.ref hI4979.1 kx_185 rfl) ?_
                    refine r_iload (w_e1 _ _ _) ?_
                    refine r_iconst 1 rfl ?_
                    refine q_isub (v5047.toInt - 1) rfl (by omega) (fun v5048 hv5048 => ?_)
                    refine r_aload_n (w_p1 (by decide) (Or.inr rfl) (w_p1 (by decide) (Or.inr rfl) (w_p1 (by decide) (Or.inr rfl) (w_p1 (by decide) (Or.inr rfl) e4984)))) ?_
                    refine r_iload (w_p1 (by decide) (Or.inr rfl) (w_p1 (by decide) (Or.inr rfl) (w_p1 (by decide) (Or.inr rfl) (w_e1 _ _ _)))) ?_
                    refine r_aload_n (w_p1 (by decide) (Or.inr rfl) (w_p1 (by decide) (Or.inr rfl) (w_p1 (by decide) (Or.inr rfl) (w_p1 (by decide) (Or.inr rfl) e4984)))) ?_
                    refine q_getR (Sh.ref hI4979.1 kx_185 rfl) ?_
                    refine r_iload (w_e1 _ _ _) ?_
                    refine r_iconst 1 rfl ?_
                    refine q_isub (v5047.toInt - 1) rfl (by omega) (fun v5049 hv5049 => ?_)
                    refine q_lald (Sh.lar hI4979.1 ka_187) ((x4976.toInt + (-2))) (by omega) (by omega) (fun v5050 => ?_)
                    refine r_aload_n (w_p1 (by decide) (Or.inr rfl) (w_p1 (by decide) (Or.inr rfl) (w_p1 (by decide) (Or.inr rfl) (w_p1 (by decide) (Or.inr rfl) e4984)))) ?_
                    refine q_getR (Sh.ref hI4979.1 kx_185 rfl) ?_
                    refine r_iload (w_e1 _ _ _) ?_
                    refine q_lald (Sh.lar hI4979.1 ka_187) ((x4976.toInt + (-1))) (by omega) (by omega) (fun v5051 => ?_)
                    refine r_callV 287 rfl [.ref 185, .int v5007, .long v5050, .long v5051] [.int v5048, .ref 187] (Nat.le_of_ble_eq_true rfl) rfl (T_X3_joined_185 _ hI4979 v5007 v5050 v5051) ?_
                    rintro _ _ ⟨g5052, rfl, hI5053, hF5054, v5055, rfl, hr5056⟩
                    refine At.stl ?_
                    have hF5057 := Fr.tr hF4980 hF5054 rfl rfl
                    refine At.enter rfl ?_
                    refine q_last (Sh.lar hI5053.1 ka_187) ((x4976.toInt + (-2))) (by omega) (by omega) ?_
                    have hI5058 := HI.wK hI5053 ka_187 ((x4976.toInt + (-2))) (v5055)
                    have hF5059 := Fr.wK (p := 187) (j := (x4976.toInt + (-2))) (v := v5055) hF5057
                    refine Ar.fall 288 rfl ?_
                    refine At.enter rfl ?_
                    refine q_iinc (w_p1 (by decide) (Or.inr rfl) (w_p1 (by decide) (Or.inr rfl) (w_p1 (by decide) (Or.inr rfl) (w_p1 (by decide) (Or.inr rfl) e4991)))) (x4977.toInt + 1) rfl (by omega) (fun v5060 hv5060 => ?_)
                    refine r_goto ?_
                    have bv5061 := q_bnd v5009
                    exact ih4983 (400 - v5060.toInt) _ _ ⟨v5009, v5047, v5060, by first | rfl | omega, hI5058, hF5059, (w_p1 (by decide) (Or.inr rfl) (w_p1 (by decide) (Or.inr rfl) (w_p1 (by decide) (Or.inr rfl) (w_p1 (by decide) (Or.inr rfl) (w_p1 (by decide) (Or.inr rfl) e4984))))), (w_p1 (by decide) (Or.inr rfl) (w_p1 (by decide) (Or.inr rfl) (w_p1 (by decide) (Or.inr rfl) (w_p1 (by decide) (Or.inr rfl) (w_p1 (by decide) (Or.inr rfl) e4985))))), (w_p1 (by decide) (Or.inr rfl) (w_p1 (by decide) (Or.inr rfl) (w_p1 (by decide) (Or.inr rfl) (w_p1 (by decide) (Or.inr rfl) (w_p1 (by decide) (Or.inr rfl) e4986))))), (w_p1 (by decide) (Or.inr rfl) (w_p1 (by decide) (Or.inr rfl) (w_p1 (by decide) (Or.inr rfl) (w_p1 (by decide) (Or.inr rfl) (w_p1 (by decide) (Or.inr rfl) e4987))))), (w_p1 (by decide) (Or.inr rfl) (w_p1 (by decide) (Or.inr rfl) (w_p1 (by decide) (Or.inr rfl) (w_p1 (by decide) (Or.inr rfl) (w_p1 (by decide) (Or.inr rfl) e4988))))), (w_p1 (by decide) (Or.inr rfl) (w_p1 (by decide) (Or.inr rfl) (w_e1 _ _ _))), (w_p1 (by decide) (Or.inr rfl) (w_e1 _ _ _)), (w_e1 _ _ _), by omega, by omega, by omega⟩ ⟨by omega, by omega⟩
                · have c5043_ : v5007.toInt = 11 := en_i_ne_f c5043
                  refine At.enter rfl ?_
                  refine r_iload (w_p1 (by decide) (Or.inr rfl) (w_p1 (by decide) (Or.inr rfl) (w_p1 (by decide) (Or.inr rfl) e4990))) ?_
                  refine r_ifs 189 rfl (fun c5062 => ?_) (fun c5062 => ?_)
                  · have c5062_ : x4976.toInt ≤ 0 := en_k_le_t c5062
                    refine At.enter rfl ?_
                    refine r_iconst 0 rfl ?_
                    refine r_iload (w_p1 (by decide) (Or.inr rfl) (w_p1 (by decide) (Or.inr rfl) (w_p1 (by decide) (Or.inr rfl) e4990))) ?_
                    refine r_iconst 1 rfl ?_
                    refine q_isub (x4976.toInt - 1) rfl (by omega) (fun v5063 hv5063 => ?_)
                    refine q_mmax rfl (Nat.le_of_ble_eq_true rfl) (fun v5064 hv5064 => ?_)
                    have zv5065 : (0 : Int32).toInt = 0 := rfl
                    refine r_istore _ rfl ?_
                    refine r_goto ?_
                    refine At.enter rfl ?_
                    refine q_iinc (w_p1 (by decide) (Or.inr rfl) (w_p1 (by decide) (Or.inr rfl) (w_p1 (by decide) (Or.inr rfl) (w_p1 (by decide) (Or.inr rfl) e4991)))) (x4977.toInt + 1) rfl (by omega) (fun v5066 hv5066 => ?_)
                    refine r_goto ?_
                    have bv5067 := q_bnd v5009
                    exact ih4983 (400 - v5066.toInt) _ _ ⟨v5009, v5064, v5066, by first | rfl | omega, hI4979, hF4980, (w_p1 (by decide) (Or.inr rfl) (w_p1 (by decide) (Or.inr rfl) (w_p1 (by decide) (Or.inr rfl) (w_p1 (by decide) (Or.inr rfl) (w_p1 (by decide) (Or.inr rfl) e4984))))), (w_p1 (by decide) (Or.inr rfl) (w_p1 (by decide) (Or.inr rfl) (w_p1 (by decide) (Or.inr rfl) (w_p1 (by decide) (Or.inr rfl) (w_p1 (by decide) (Or.inr rfl) e4985))))), (w_p1 (by decide) (Or.inr rfl) (w_p1 (by decide) (Or.inr rfl) (w_p1 (by decide) (Or.inr rfl) (w_p1 (by decide) (Or.inr rfl) (w_p1 (by decide) (Or.inr rfl) e4986))))), (w_p1 (by decide) (Or.inr rfl) (w_p1 (by decide) (Or.inr rfl) (w_p1 (by decide) (Or.inr rfl) (w_p1 (by decide) (Or.inr rfl) (w_p1 (by decide) (Or.inr rfl) e4987))))), (w_p1 (by decide) (Or.inr rfl) (w_p1 (by decide) (Or.inr rfl) (w_p1 (by decide) (Or.inr rfl) (w_p1 (by decide) (Or.inr rfl) (w_p1 (by decide) (Or.inr rfl) e4988))))), (w_p1 (by decide) (Or.inr rfl) (w_p1 (by decide) (Or.inr rfl) (w_e1 _ _ _))), (w_p1 (by decide) (Or.inr rfl) (w_e1 _ _ _)), (w_e1 _ _ _), by omega, by omega, by omega⟩ ⟨by omega, by omega⟩
                  · have c5062_ : x4976.toInt > 0 := en_k_le_f c5062
                    refine At.enter rfl ?_
                    refine r_aload_n (w_p1 (by decide) (Or.inr rfl) (w_p1 (by decide) (Or.inr rfl) (w_p1 (by decide) (Or.inr rfl) e4984))) ?_
                    refine q_getR (Sh.ref hI4979.1 kx_185 rfl) ?_
                    refine r_iload (w_p1 (by decide) (Or.inr rfl) (w_p1 (by decide) (Or.inr rfl) (w_p1 (by decide) (Or.inr rfl) e4990))) ?_
                    refine r_iconst 1 rfl ?_
                    refine q_isub (x4976.toInt - 1) rfl (by omega) (fun v5068 hv5068 => ?_)
                    refine q_lald (Sh.lar hI4979.1 ka_187) ((x4976.toInt + (-1))) (by omega) (by omega) (fun v5069 => ?_)
                    refine r_lconst 0 rfl ?_
                    refine r_lcmp _ rfl ?_
                    refine r_ifs 203 rfl (fun c5070 => ?_) (fun c5070 => ?_)
                    · have c5070_ : v5069.toInt = 0 := en_j_eq_t c5070
                      refine At.enter rfl ?_
                      refine r_iconst 0 rfl ?_
                      refine Ar.fall 208 rfl ?_
                      refine At.enter rfl ?_
                      refine r_iload (w_p1 (by decide) (Or.inr rfl) (w_p1 (by decide) (Or.inr rfl) (w_e1 _ _ _))) ?_
                      refine r_bipush 11 rfl ?_
                      refine r_ics 215 rfl (fun c5071 => ?_) (fun c5071 => ?_)
                      · have c5071_ : v5007.toInt ≠ 11 := en_i_ne_t c5071
                        exfalso; omega
                      · have c5071_ : v5007.toInt = 11 := en_i_ne_f c5071
                        refine At.enter rfl ?_
                        refine r_iconst 1 rfl ?_
                        refine r_goto ?_
                        refine At.enter rfl ?_
                        refine r_ict (by decide) ?_
                        refine At.enter rfl ?_
                        refine r_iconst 0 rfl ?_
                        refine r_iload (w_p1 (by decide) (Or.inr rfl) (w_p1 (by decide) (Or.inr rfl) (w_p1 (by decide) (Or.inr rfl) e4990))) ?_
                        refine r_iconst 1 rfl ?_
                        refine q_isub (x4976.toInt - 1) rfl (by omega) (fun v5072 hv5072 => ?_)
                        refine q_mmax rfl (Nat.le_of_ble_eq_true rfl) (fun v5073 hv5073 => ?_)
                        have zv5074 : (0 : Int32).toInt = 0 := rfl
                        refine r_istore _ rfl ?_
                        refine r_goto ?_
                        refine At.enter rfl ?_
                        refine q_iinc (w_p1 (by decide) (Or.inr rfl) (w_p1 (by decide) (Or.inr rfl) (w_p1 (by decide) (Or.inr rfl) (w_p1 (by decide) (Or.inr rfl) e4991)))) (x4977.toInt + 1) rfl (by omega) (fun v5075 hv5075 => ?_)
                        refine r_goto ?_
                        have bv5076 := q_bnd v5009
                        exact ih4983 (400 - v5075.toInt) _ _ ⟨v5009, v5073, v5075, by first | rfl | omega, hI4979, hF4980, (w_p1 (by decide) (Or.inr rfl) (w_p1 (by decide) (Or.inr rfl) (w_p1 (by decide) (Or.inr rfl) (w_p1 (by decide) (Or.inr rfl) (w_p1 (by decide) (Or.inr rfl) e4984))))), (w_p1 (by decide) (Or.inr rfl) (w_p1 (by decide) (Or.inr rfl) (w_p1 (by decide) (Or.inr rfl) (w_p1 (by decide) (Or.inr rfl) (w_p1 (by decide) (Or.inr rfl) e4985))))), (w_p1 (by decide) (Or.inr rfl) (w_p1 (by decide) (Or.inr rfl) (w_p1 (by decide) (Or.inr rfl) (w_p1 (by decide) (Or.inr rfl) (w_p1 (by decide) (Or.inr rfl) e4986))))), (w_p1 (by decide) (Or.inr rfl) (w_p1 (by decide) (Or.inr rfl) (w_p1 (by decide) (Or.inr rfl) (w_p1 (by decide) (Or.inr rfl) (w_p1 (by decide) (Or.inr rfl) e4987))))), (w_p1 (by decide) (Or.inr rfl) (w_p1 (by decide) (Or.inr rfl) (w_p1 (by decide) (Or.inr rfl) (w_p1 (by decide) (Or.inr rfl) (w_p1 (by decide) (Or.inr rfl) e4988))))), (w_p1 (by decide) (Or.inr rfl) (w_p1 (by decide) (Or.inr rfl) (w_e1 _ _ _))), (w_p1 (by decide) (Or.inr rfl) (w_e1 _ _ _)), (w_e1 _ _ _), by omega, by omega, by omega⟩ ⟨by omega, by omega⟩
                    · have c5070_ : v5069.toInt ≠ 0 := en_j_eq_f c5070
                      refine At.enter rfl ?_
                      refine r_iconst 1 rfl ?_
                      refine r_goto ?_
                      refine At.enter rfl ?_
                      refine r_iload (w_p1 (by decide) (Or.inr rfl) (w_p1 (by decide) (Or.inr rfl) (w_e1 _ _ _))) ?_
                      refine r_bipush 11 rfl ?_
                      refine r_ics 215 rfl (fun c5077 => ?_) (fun c5077 => ?_)
                      · have c5077_ : v5007.toInt ≠ 11 := en_i_ne_t c5077
                        exfalso; omega
                      · have c5077_ : v5007.toInt = 11 := en_i_ne_f c5077
                        refine At.enter rfl ?_
                        refine r_iconst 1 rfl ?_
                        refine r_goto ?_
                        refine At.enter rfl ?_
                        refine r_icf 223 rfl (by decide) ?_
                        refine At.enter rfl ?_
                        refine r_iload (w_e1 _ _ _) ?_
                        refine r_iload (w_p1 (by decide) (Or.inr rfl) (w_e1 _ _ _)) ?_
                        refine q_mmax rfl (Nat.le_of_ble_eq_true rfl) (fun v5078 hv5078 => ?_)
                        refine r_istore _ rfl ?_
                        refine r_goto ?_
                        refine At.enter rfl ?_
                        refine q_iinc (w_p1 (by decide) (Or.inr rfl) (w_p1 (by decide) (Or.inr rfl) (w_p1 (by decide) (Or.inr rfl) (w_p1 (by decide) (Or.inr rfl) e4991)))) (x4977.toInt + 1) rfl (by omega) (fun v5079 hv5079 => ?_)
                        refine r_goto ?_
                        have bv5080 := q_bnd v5078
                        exact ih4983 (400 - v5079.toInt) _ _ ⟨v5078, x4976, v5079, by first | rfl | omega, hI4979, hF4980, (w_p1 (by decide) (Or.inr rfl) (w_p1 (by decide) (Or.inr rfl) (w_p1 (by decide) (Or.inr rfl) (w_p1 (by decide) (Or.inr rfl) (w_p1 (by decide) (Or.inr rfl) e4984))))), (w_p1 (by decide) (Or.inr rfl) (w_p1 (by decide) (Or.inr rfl) (w_p1 (by decide) (Or.inr rfl) (w_p1 (by decide) (Or.inr rfl) (w_p1 (by decide) (Or.inr rfl) e4985))))), (w_p1 (by decide) (Or.inr rfl) (w_p1 (by decide) (Or.inr rfl) (w_p1 (by decide) (Or.inr rfl) (w_p1 (by decide) (Or.inr rfl) (w_p1 (by decide) (Or.inr rfl) e4986))))), (w_p1 (by decide) (Or.inr rfl) (w_p1 (by decide) (Or.inr rfl) (w_p1 (by decide) (Or.inr rfl) (w_p1 (by decide) (Or.inr rfl) (w_p1 (by decide) (Or.inr rfl) e4987))))), (w_p1 (by decide) (Or.inr rfl) (w_p1 (by decide) (Or.inr rfl) (w_p1 (by decide) (Or.inr rfl) (w_p1 (by decide) (Or.inr rfl) (w_p1 (by decide) (Or.inr rfl) e4988))))), (w_p1 (by decide) (Or.inr rfl) (w_e1 _ _ _)), (w_p1 (by decide) (Or.inr rfl) (w_p1 (by decide) (Or.inr rfl) (w_p1 (by decide) (Or.inr rfl) (w_p1 (by decide) (Or.inr rfl) (w_p1 (by decide) (Or.inr rfl) e4990))))), (w_e1 _ _ _), by omega, by omega, by omega⟩ ⟨by omega, by omega⟩
            · have c5022_ : v5007.toInt = 9 := en_i_ne_f c5022
              refine At.enter rfl ?_
              refine r_iload (w_p1 (by decide) (Or.inr rfl) (w_p1 (by decide) (Or.inr rfl) (w_p1 (by decide) (Or.inr rfl) e4990))) ?_
              refine r_ifs 147 rfl (fun c5081 => ?_) (fun c5081 => ?_)
              · have c5081_ : x4976.toInt ≤ 0 := en_k_le_t c5081
                refine At.enter rfl ?_
                refine q_iinc (w_p1 (by decide) (Or.inr rfl) (w_p1 (by decide) (Or.inr rfl) (w_p1 (by decide) (Or.inr rfl) e4991))) (x4977.toInt + 1) rfl (by omega) (fun v5082 hv5082 => ?_)
                refine r_goto ?_
                have bv5083 := q_bnd v5009
                exact ih4983 (400 - v5082.toInt) _ _ ⟨v5009, x4976, v5082, by first | rfl | omega, hI4979, hF4980, (w_p1 (by decide) (Or.inr rfl) (w_p1 (by decide) (Or.inr rfl) (w_p1 (by decide) (Or.inr rfl) (w_p1 (by decide) (Or.inr rfl) e4984)))), (w_p1 (by decide) (Or.inr rfl) (w_p1 (by decide) (Or.inr rfl) (w_p1 (by decide) (Or.inr rfl) (w_p1 (by decide) (Or.inr rfl) e4985)))), (w_p1 (by decide) (Or.inr rfl) (w_p1 (by decide) (Or.inr rfl) (w_p1 (by decide) (Or.inr rfl) (w_p1 (by decide) (Or.inr rfl) e4986)))), (w_p1 (by decide) (Or.inr rfl) (w_p1 (by decide) (Or.inr rfl) (w_p1 (by decide) (Or.inr rfl) (w_p1 (by decide) (Or.inr rfl) e4987)))), (w_p1 (by decide) (Or.inr rfl) (w_p1 (by decide) (Or.inr rfl) (w_p1 (by decide) (Or.inr rfl) (w_p1 (by decide) (Or.inr rfl) e4988)))), (w_p1 (by decide) (Or.inr rfl) (w_e1 _ _ _)), (w_p1 (by decide) (Or.inr rfl) (w_p1 (by decide) (Or.inr rfl) (w_p1 (by decide) (Or.inr rfl) (w_p1 (by decide) (Or.inr rfl) e4990)))), (w_e1 _ _ _), by omega, by omega, by omega⟩ ⟨by omega, by omega⟩
              · have c5081_ : x4976.toInt > 0 := en_k_le_f c5081
                refine At.enter rfl ?_
                refine r_aload_n (w_p1 (by decide) (Or.inr rfl) (w_p1 (by decide) (Or.inr rfl) (w_p1 (by decide) (Or.inr rfl) e4984))) ?_
                refine q_getR (Sh.ref hI4979.1 kx_185 rfl) ?_
                refine r_iload (w_p1 (by decide) (Or.inr rfl) (w_p1 (by decide) (Or.inr rfl) (w_p1 (by decide) (Or.inr rfl) e4990))) ?_
                refine r_iconst 1 rfl ?_
                refine q_isub (x4976.toInt - 1) rfl (by omega) (fun v5084 hv5084 => ?_)
                refine r_lconst 1 rfl ?_
                refine r_aload_n (w_p1 (by decide) (Or.inr rfl) (w_p1 (by decide) (Or.inr rfl) (w_p1 (by decide) (Or.inr rfl) e4984))) ?_
                refine q_getR (Sh.ref hI4979.1 kx_185 rfl) ?_
                refine r_iload (w_p1 (by decide) (Or.inr rfl) (w_p1 (by decide) (Or.inr rfl) (w_p1 (by decide) (Or.inr rfl) e4990))) ?_
                refine r_iconst 1 rfl ?_
                refine q_isub (x4976.toInt - 1) rfl (by omega) (fun v5085 hv5085 => ?_)
                refine q_lald (Sh.lar hI4979.1 ka_187) ((x4976.toInt + (-1))) (by omega) (by omega) (fun v5086 => ?_)
                refine q_lsubO (fun v5087 _ => ?_)
                refine q_last (Sh.lar hI4979.1 ka_187) ((x4976.toInt + (-1))) (by omega) (by omega) ?_
                have hI5088 := HI.wK hI4979 ka_187 ((x4976.toInt + (-1))) (v5087)
                have hF5089 := Fr.wK (p := 187) (j := (x4976.toInt + (-1))) (v := v5087) hF4980
                refine r_goto ?_
                refine At.enter rfl ?_
                refine q_iinc (w_p1 (by decide) (Or.inr rfl) (w_p1 (by decide) (Or.inr rfl) (w_p1 (by decide) (Or.inr rfl) e4991))) (x4977.toInt + 1) rfl (by omega) (fun v5090 hv5090 => ?_)
                refine r_goto ?_
                have bv5091 := q_bnd v5009
                exact ih4983 (400 - v5090.toInt) _ _ ⟨v5009, x4976, v5090, by first | rfl | omega, hI5088, hF5089, (w_p1 (by decide) (Or.inr rfl) (w_p1 (by decide) (Or.inr rfl) (w_p1 (by decide) (Or.inr rfl) (w_p1 (by decide) (Or.inr rfl) e4984)))), (w_p1 (by decide) (Or.inr rfl) (w_p1 (by decide) (Or.inr rfl) (w_p1 (by decide) (Or.inr rfl) (w_p1 (by decide) (Or.inr rfl) e4985)))), (w_p1 (by decide) (Or.inr rfl) (w_p1 (by decide) (Or.inr rfl) (w_p1 (by decide) (Or.inr rfl) (w_p1 (by decide) (Or.inr rfl) e4986)))), (w_p1 (by decide) (Or.inr rfl) (w_p1 (by decide) (Or.inr rfl) (w_p1 (by decide) (Or.inr rfl) (w_p1 (by decide) (Or.inr rfl) e4987)))), (w_p1 (by decide) (Or.inr rfl) (w_p1 (by decide) (Or.inr rfl) (w_p1 (by decide) (Or.inr rfl) (w_p1 (by decide) (Or.inr rfl) e4988)))), (w_p1 (by decide) (Or.inr rfl) (w_e1 _ _ _)), (w_p1 (by decide) (Or.inr rfl) (w_p1 (by decide) (Or.inr rfl) (w_p1 (by decide) (Or.inr rfl) (w_p1 (by decide) (Or.inr rfl) e4990)))), (w_e1 _ _ _), by omega, by omega, by omega⟩ ⟨by omega, by omega⟩
          · have c5021_ : v5007.toInt = 1 := en_i_ne_f c5021
            refine At.enter rfl ?_
            refine r_iload (w_p1 (by decide) (Or.inr rfl) (w_p1 (by decide) (Or.inr rfl) (w_p1 (by decide) (Or.inr rfl) e4990))) ?_
            refine r_bipush 64 rfl ?_
            refine r_ics 88 rfl (fun c5092 => ?_) (fun c5092 => ?_)
            · have c5092_ : x4976.toInt ≥ 64 := en_i_ge_t c5092
              refine At.enter rfl ?_
              refine q_iinc (w_p1 (by decide) (Or.inr rfl) (w_p1 (by decide) (Or.inr rfl) (w_p1 (by decide) (Or.inr rfl) e4991))) (x4977.toInt + 1) rfl (by omega) (fun v5093 hv5093 => ?_)
              refine r_goto ?_
              have bv5094 := q_bnd v5009
              exact ih4983 (400 - v5093.toInt) _ _ ⟨v5009, x4976, v5093, by first | rfl | omega, hI4979, hF4980, (w_p1 (by decide) (Or.inr rfl) (w_p1 (by decide) (Or.inr rfl) (w_p1 (by decide) (Or.inr rfl) (w_p1 (by decide) (Or.inr rfl) e4984)))), (w_p1 (by decide) (Or.inr rfl) (w_p1 (by decide) (Or.inr rfl) (w_p1 (by decide) (Or.inr rfl) (w_p1 (by decide) (Or.inr rfl) e4985)))), (w_p1 (by decide) (Or.inr rfl) (w_p1 (by decide) (Or.inr rfl) (w_p1 (by decide) (Or.inr rfl) (w_p1 (by decide) (Or.inr rfl) e4986)))), (w_p1 (by decide) (Or.inr rfl) (w_p1 (by decide) (Or.inr rfl) (w_p1 (by decide) (Or.inr rfl) (w_p1 (by decide) (Or.inr rfl) e4987)))), (w_p1 (by decide) (Or.inr rfl) (w_p1 (by decide) (Or.inr rfl) (w_p1 (by decide) (Or.inr rfl) (w_p1 (by decide) (Or.inr rfl) e4988)))), (w_p1 (by decide) (Or.inr rfl) (w_e1 _ _ _)), (w_p1 (by decide) (Or.inr rfl) (w_p1 (by decide) (Or.inr rfl) (w_p1 (by decide) (Or.inr rfl) (w_p1 (by decide) (Or.inr rfl) e4990)))), (w_e1 _ _ _), by omega, by omega, by omega⟩ ⟨by omega, by omega⟩
            · have c5092_ : x4976.toInt < 64 := en_i_ge_f c5092
              refine At.enter rfl ?_
              refine r_aload_n (w_p1 (by decide) (Or.inr rfl) (w_p1 (by decide) (Or.inr rfl) (w_p1 (by decide) (Or.inr rfl) e4984))) ?_
              refine q_getR (Sh.ref hI4979.1 kx_185 rfl) ?_
              refine r_iload (w_p1 (by decide) (Or.inr rfl) (w_p1 (by decide) (Or.inr rfl) (w_p1 (by decide) (Or.inr rfl) e4990))) ?_
              refine r_iload (w_p1 (by decide) (Or.inr rfl) (w_p1 (by decide) (Or.inr rfl) (w_e1 _ _ _))) ?_
              refine r_ifs 99 rfl (fun c5095 => ?_) (fun c5095 => ?_)
              · have c5095_ : v5007.toInt ≠ 0 := en_k_ne_t c5095
                refine At.enter rfl ?_
                refine r_iload (w_p1 (by decide) (Or.inr rfl) (w_e1 _ _ _)) ?_
                refine r_ifs 110 rfl (fun c5096 => ?_) (fun c5096 => ?_)
                · have c5096_ : v5008.toInt < 0 := en_k_lt_t c5096
                  refine At.enter rfl ?_
                  refine r_lconst 0 rfl ?_
                  refine Ar.fall 128 rfl ?_
                  refine At.enter rfl ?_
                  refine q_last (Sh.lar hI4979.1 ka_187) (x4976.toInt) rfl (by omega) ?_
                  have hI5097 := HI.wK hI4979 ka_187 (x4976.toInt) (0)
                  have hF5098 := Fr.wK (p := 187) (j := x4976.toInt) (v := 0) hF4980
                  refine q_iinc (w_p1 (by decide) (Or.inr rfl) (w_p1 (by decide) (Or.inr rfl) (w_p1 (by decide) (Or.inr rfl) e4990))) (x4976.toInt + 1) rfl (by omega) (fun v5099 hv5099 => ?_)
                  refine r_goto ?_
                  refine At.enter rfl ?_
                  refine q_iinc (w_p1 (by decide) (Or.inr rfl) (w_p1 (by decide) (Or.inr rfl) (w_p1 (by decide) (Or.inr rfl) (w_p1 (by decide) (Or.inr rfl) e4991)))) (x4977.toInt + 1) rfl (by omega) (fun v5100 hv5100 => ?_)
                  refine r_goto ?_
                  have bv5101 := q_bnd v5009
                  exact ih4983 (400 - v5100.toInt) _ _ ⟨v5009, v5099, v5100, by first | rfl | omega, hI5097, hF5098, (w_p1 (by decide) (Or.inr rfl) (w_p1 (by decide) (Or.inr rfl) (w_p1 (by decide) (Or.inr rfl) (w_p1 (by decide) (Or.inr rfl) (w_p1 (by decide) (Or.inr rfl) e4984))))), (w_p1 (by decide) (Or.inr rfl) (w_p1 (by decide) (Or.inr rfl) (w_p1 (by decide) (Or.inr rfl) (w_p1 (by decide) (Or.inr rfl) (w_p1 (by decide) (Or.inr rfl) e4985))))), (w_p1 (by decide) (Or.inr rfl) (w_p1 (by decide) (Or.inr rfl) (w_p1 (by decide) (Or.inr rfl) (w_p1 (by decide) (Or.inr rfl) (w_p1 (by decide) (Or.inr rfl) e4986))))), (w_p1 (by decide) (Or.inr rfl) (w_p1 (by decide) (Or.inr rfl) (w_p1 (by decide) (Or.inr rfl) (w_p1 (by decide) (Or.inr rfl) (w_p1 (by decide) (Or.inr rfl) e4987))))), (w_p1 (by decide) (Or.inr rfl) (w_p1 (by decide) (Or.inr rfl) (w_p1 (by decide) (Or.inr rfl) (w_p1 (by decide) (Or.inr rfl) (w_p1 (by decide) (Or.inr rfl) e4988))))), (w_p1 (by decide) (Or.inr rfl) (w_p1 (by decide) (Or.inr rfl) (w_e1 _ _ _))), (w_p1 (by decide) (Or.inr rfl) (w_e1 _ _ _)), (w_e1 _ _ _), by omega, by omega, by omega⟩ ⟨by omega, by omega⟩
                · have c5096_ : v5008.toInt ≥ 0 := en_k_lt_f c5096
                  refine At.enter rfl ?_
                  refine r_iload (w_p1 (by decide) (Or.inr rfl) (w_e1 _ _ _)) ?_
                  refine r_bipush 9 rfl ?_
                  refine r_ics 117 rfl (fun c5102 => ?_) (fun c5102 => ?_)
                  · have c5102_ : v5008.toInt ≥ 9 := en_i_ge_t c5102
                    refine At.enter rfl ?_
                    refine r_lconst 0 rfl ?_
                    refine Ar.fall 128 rfl ?_
                    refine At.enter rfl ?_
                    refine q_last (Sh.lar hI4979.1 ka_187) (x4976.toInt) rfl (by omega) ?_
                    have hI5103 := HI.wK hI4979 ka_187 (x4976.toInt) (0)
                    have hF5104 := Fr.wK (p := 187) (j := x4976.toInt) (v := 0) hF4980
                    refine q_iinc (w_p1 (by decide) (Or.inr rfl) (w_p1 (by decide) (Or.inr rfl) (w_p1 (by decide) (Or.inr rfl) e4990))) (x4976.toInt + 1) rfl (by omega) (fun v5105 hv5105 => ?_)
                    refine r_goto ?_
                    refine At.enter rfl ?_
                    refine q_iinc (w_p1 (by decide) (Or.inr rfl) (w_p1 (by decide) (Or.inr rfl) (w_p1 (by decide) (Or.inr rfl) (w_p1 (by decide) (Or.inr rfl) e4991)))) (x4977.toInt + 1) rfl (by omega) (fun v5106 hv5106 => ?_)
                    refine r_goto ?_
                    have bv5107 := q_bnd v5009
                    exact ih4983 (400 - v5106.toInt) _ _ ⟨v5009, v5105, v5106, by first | rfl | omega, hI5103, hF5104, (w_p1 (by decide) (Or.inr rfl) (w_p1 (by decide) (Or.inr rfl) (w_p1 (by decide) (Or.inr rfl) (w_p1 (by decide) (Or.inr rfl) (w_p1 (by decide) (Or.inr rfl) e4984))))), (w_p1 (by decide) (Or.inr rfl) (w_p1 (by decide) (Or.inr rfl) (w_p1 (by decide) (Or.inr rfl) (w_p1 (by decide) (Or.inr rfl) (w_p1 (by decide) (Or.inr rfl) e4985))))), (w_p1 (by decide) (Or.inr rfl) (w_p1 (by decide) (Or.inr rfl) (w_p1 (by decide) (Or.inr rfl) (w_p1 (by decide) (Or.inr rfl) (w_p1 (by decide) (Or.inr rfl) e4986))))), (w_p1 (by decide) (Or.inr rfl) (w_p1 (by decide) (Or.inr rfl) (w_p1 (by decide) (Or.inr rfl) (w_p1 (by decide) (Or.inr rfl) (w_p1 (by decide) (Or.inr rfl) e4987))))), (w_p1 (by decide) (Or.inr rfl) (w_p1 (by decide) (Or.inr rfl) (w_p1 (by decide) (Or.inr rfl) (w_p1 (by decide) (Or.inr rfl) (w_p1 (by decide) (Or.inr rfl) e4988))))), (w_p1 (by decide) (Or.inr rfl) (w_p1 (by decide) (Or.inr rfl) (w_e1 _ _ _))), (w_p1 (by decide) (Or.inr rfl) (w_e1 _ _ _)), (w_e1 _ _ _), by omega, by omega, by omega⟩ ⟨by omega, by omega⟩
                  · have c5102_ : v5008.toInt < 9 := en_i_ge_f c5102
                    refine At.enter rfl ?_
                    refine r_aload_n (w_p1 (by decide) (Or.inr rfl) (w_p1 (by decide) (Or.inr rfl) (w_p1 (by decide) (Or.inr rfl) e4984))) ?_
                    refine q_getR (Sh.ref hI4979.1 kx_185 rfl) ?_
                    refine r_iload (w_p1 (by decide) (Or.inr rfl) (w_e1 _ _ _)) ?_
                    refine q_lald (Sh.lar hI4979.1 ka_186) (v5008.toInt) rfl (by omega) (fun v5108 => ?_)
                    refine r_goto ?_
                    refine At.enter rfl ?_
                    refine q_last (Sh.lar hI4979.1 ka_187) (x4976.toInt) rfl (by omega) ?_
                    have hI5109 := HI.wK hI4979 ka_187 (x4976.toInt) (v5108)
                    have hF5110 := Fr.wK (p := 187) (j := x4976.toInt) (v := v5108) hF4980
                    refine q_iinc (w_p1 (by decide) (Or.inr rfl) (w_p1 (by decide) (Or.inr rfl) (w_p1 (by decide) (Or.inr rfl) e4990))) (x4976.toInt + 1) rfl (by omega) (fun v5111 hv5111 => ?_)
                    refine r_goto ?_
                    refine At.enter rfl ?_
                    refine q_iinc (w_p1 (by decide) (Or.inr rfl) (w_p1 (by decide) (Or.inr rfl) (w_p1 (by decide) (Or.inr rfl) (w_p1 (by decide) (Or.inr rfl) e4991)))) (x4977.toInt + 1) rfl (by omega) (fun v5112 hv5112 => ?_)
                    refine r_goto ?_
                    have bv5113 := q_bnd v5009
                    exact ih4983 (400 - v5112.toInt) _ _ ⟨v5009, v5111, v5112, by first | rfl | omega, hI5109, hF5110, (w_p1 (by decide) (Or.inr rfl) (w_p1 (by decide) (Or.inr rfl) (w_p1 (by decide) (Or.inr rfl) (w_p1 (by decide) (Or.inr rfl) (w_p1 (by decide) (Or.inr rfl) e4984))))), (w_p1 (by decide) (Or.inr rfl) (w_p1 (by decide) (Or.inr rfl) (w_p1 (by decide) (Or.inr rfl) (w_p1 (by decide) (Or.inr rfl) (w_p1 (by decide) (Or.inr rfl) e4985))))), (w_p1 (by decide) (Or.inr rfl) (w_p1 (by decide) (Or.inr rfl) (w_p1 (by decide) (Or.inr rfl) (w_p1 (by decide) (Or.inr rfl) (w_p1 (by decide) (Or.inr rfl) e4986))))), (w_p1 (by decide) (Or.inr rfl) (w_p1 (by decide) (Or.inr rfl) (w_p1 (by decide) (Or.inr rfl) (w_p1 (by decide) (Or.inr rfl) (w_p1 (by decide) (Or.inr rfl) e4987))))), (w_p1 (by decide) (Or.inr rfl) (w_p1 (by decide) (Or.inr rfl) (w_p1 (by decide) (Or.inr rfl) (w_p1 (by decide) (Or.inr rfl) (w_p1 (by decide) (Or.inr rfl) e4988))))), (w_p1 (by decide) (Or.inr rfl) (w_p1 (by decide) (Or.inr rfl) (w_e1 _ _ _))), (w_p1 (by decide) (Or.inr rfl) (w_e1 _ _ _)), (w_e1 _ _ _), by omega, by omega, by omega⟩ ⟨by omega, by omega⟩
              · have c5095_ : v5007.toInt = 0 := en_k_ne_f c5095
                exfalso; omega

def F_X3_tells_185 : List (Nat × Nat) := [(185, 3)]
def A_X3_tells_185 : List Nat := []
set_option maxRecDepth 100000 in
set_option maxHeartbeats 4000000 in
theorem T_X3_tells_185 (d : Nat) {N : Nat} {g0 : List en_E} (hI0 : HI g0) (a1 : Int32) (a2 : Int32) (a3 : Int32) (a4 : Int32) (a5 : Int32) (a6 : Int32) (a7 : Int32) : Ev (d + 3) 52 [.ref 185, .int a1, .int a2, .int a3, .int a4, .int a5, .int a6, .int a7] (g0, N) (fun w h' => ∃ g', h' = (g', N) ∧ HI g' ∧ Fr F_X3_tells_185 A_X3_tells_185 g0 g' ∧ ∃ r : Int64, w = some (.long r) ∧ True) := by
  have hF0 : Fr F_X3_tells_185 A_X3_tells_185 g0 g0 := Fr.rf
  refine Ev.mk rfl rfl ⟨Nat.le_of_ble_eq_true rfl, Or.inr (q_rc hI0.1 kx_185 rfl)⟩ ?_
  show At _ none _ _ (0, [(0, .ref 185), (1, .int a1), (2, .int a2), (3, .int a3), (4, .int a4), (5, .int a5), (6, .int a6), (7, .int a7)], [], (_, _)) _
  refine At.enter rfl ?_
  refine r_aload_n rfl ?_
  refine q_getR (Sh.ref hI0.1 kx_185 rfl) ?_
  refine r_iconst 0 rfl ?_
  refine r_iload_n rfl ?_
  refine q_i2l (fun v355 hv355 => ?_)
  refine q_last (Sh.lar hI0.1 ka_186) (0) rfl (by decide) ?_
  have hI356 := HI.wK hI0 ka_186 (0) (v355)
  have hF357 := Fr.wK (p := 186) (j := 0) (v := v355) hF0
  refine r_aload_n rfl ?_
  refine q_getR (Sh.ref hI356.1 kx_185 rfl) ?_
  refine r_iconst 1 rfl ?_
  refine r_aload_n rfl ?_
  refine q_getR (Sh.ref hI356.1 kx_185 rfl) ?_
  refine r_iload_n rfl ?_
  refine r_iconst 0 rfl ?_
  refine r_callV 22 rfl [.ref 1, .int a2, .int 0] [.int 1, .ref 186] (Nat.le_of_ble_eq_true rfl) rfl (T_X0_about_1 _ hI356 a2 0) ?_
  rintro _ _ ⟨g358, rfl, hI359, hF360, v361, rfl, hr362⟩
  refine At.sti ?_
  have hF363 := Fr.tr hF357 hF360 rfl rfl
  have zv364 : (0 : Int32).toInt = 0 := rfl
  refine At.enter rfl ?_
  refine q_i2l (fun v365 hv365 => ?_)
  refine q_last (Sh.lar hI359.1 ka_186) (1) rfl (by decide) ?_
  have hI366 := HI.wK hI359 ka_186 (1) (v365)
  have hF367 := Fr.wK (p := 186) (j := 1) (v := v365) hF363
  refine r_aload_n rfl ?_
  refine q_getR (Sh.ref hI366.1 kx_185 rfl) ?_
  refine r_iconst 2 rfl ?_
  refine r_aload_n rfl ?_
  refine q_getR (Sh.ref hI366.1 kx_185 rfl) ?_
  refine r_iload_n rfl ?_
  refine r_iconst 4 rfl ?_
  refine r_callV 38 rfl [.ref 1, .int a2, .int 4] [.int 2, .ref 186] (Nat.le_of_ble_eq_true rfl) rfl (T_X0_about_1 _ hI366 a2 4) ?_
  rintro _ _ ⟨g368, rfl, hI369, hF370, v371, rfl, hr372⟩
  refine At.sti ?_
  have hF373 := Fr.tr hF367 hF370 rfl rfl
  have zv374 : (4 : Int32).toInt = 4 := rfl
  refine At.enter rfl ?_
  refine q_i2l (fun v375 hv375 => ?_)
  refine q_last (Sh.lar hI369.1 ka_186) (2) rfl (by decide) ?_
  have hI376 := HI.wK hI369 ka_186 (2) (v375)
  have hF377 := Fr.wK (p := 186) (j := 2) (v := v375) hF373
  refine r_aload_n rfl ?_
  refine q_getR (Sh.ref hI376.1 kx_185 rfl) ?_
  refine r_iconst 3 rfl ?_
  refine r_iload_n rfl ?_
  refine q_i2l (fun v378 hv378 => ?_)
  refine q_last (Sh.lar hI376.1 ka_186) (3) rfl (by decide) ?_
  have hI379 := HI.wK hI376 ka_186 (3) (v378)
  have hF380 := Fr.wK (p := 186) (j := 3) (v := v378) hF377
  refine r_aload_n rfl ?_
  refine q_getR (Sh.ref hI379.1 kx_185 rfl) ?_
  refine r_iconst 4 rfl ?_
  refine r_aload_n rfl ?_
  refine q_getR (Sh.ref hI379.1 kx_185 rfl) ?_
  refine r_iload_n rfl ?_
  refine r_callV 61 rfl [.ref 1, .int a3] [.int 4, .ref 186] (Nat.le_of_ble_eq_true rfl) rfl (T_X0_next_1 _ hI379 a3) ?_
  rintro _ _ ⟨g381, rfl, hI382, hF383, v384, rfl, hr385⟩
  refine At.sti ?_
  have hF386 := Fr.tr hF380 hF383 rfl rfl
  refine At.enter rfl ?_
  refine q_i2l (fun v387 hv387 => ?_)
  refine q_last (Sh.lar hI382.1 ka_186) (4) rfl (by decide) ?_
  have hI388 := HI.wK hI382 ka_186 (4) (v387)
  have hF389 := Fr.wK (p := 186) (j := 4) (v := v387) hF386
  refine r_aload_n rfl ?_
  refine q_getR (Sh.ref hI388.1 kx_185 rfl) ?_
  refine r_iconst 5 rfl ?_
  refine r_iload rfl ?_
  refine q_i2l (fun v390 hv390 => ?_)
  refine q_last (Sh.lar hI388.1 ka_186) (5) rfl (by decide) ?_
  have hI391 := HI.wK hI388 ka_186 (5) (v390)
  have hF392 := Fr.wK (p := 186) (j := 5) (v := v390) hF389
  refine r_aload_n rfl ?_
  refine q_getR (Sh.ref hI391.1 kx_185 rfl) ?_
  refine r_bipush 6 rfl ?_
  refine r_iload rfl ?_
  refine q_i2l (fun v393 hv393 => ?_)
  refine q_last (Sh.lar hI391.1 ka_186) (6) rfl (by decide) ?_
  have hI394 := HI.wK hI391 ka_186 (6) (v393)
  have hF395 := Fr.wK (p := 186) (j := 6) (v := v393) hF392
  refine r_aload_n rfl ?_
  refine q_getR (Sh.ref hI394.1 kx_185 rfl) ?_
  refine r_bipush 7 rfl ?_
  refine r_iload rfl ?_
  refine q_i2l (fun v396 hv396 => ?_)
  refine q_last (Sh.lar hI394.1 ka_186) (7) rfl (by decide) ?_
  have hI397 := HI.wK hI394 ka_186 (7) (v396)
  have hF398 := Fr.wK (p := 186) (j := 7) (v := v396) hF395
  refine r_aload_n rfl ?_
  refine q_getR (Sh.ref hI397.1 kx_185 rfl) ?_
  refine r_bipush 8 rfl ?_
  refine r_iload rfl ?_
  refine q_i2l (fun v399 hv399 => ?_)
  refine q_last (Sh.lar hI397.1 ka_186) (8) rfl (by decide) ?_
  have hI400 := HI.wK hI397 ka_186 (8) (v399)
  have hF401 := Fr.wK (p := 186) (j := 8) (v := v399) hF398
  refine r_aload_n rfl ?_
  refine q_getR (Sh.ref hI400.1 kx_185 rfl) ?_
  refine q_inlV 109 rfl [.ref 1] [] (Nat.le_of_ble_eq_true rfl) rfl ?_
  refine Ev.mk rfl rfl ⟨Nat.le_of_ble_eq_true rfl, Or.inr (q_rc hI400.1 kx_1 rfl)⟩ ?_
  show At _ none _ _ (0, [(0, .ref 1)], [], (_, _)) _
  refine At.enter rfl ?_
  refine r_aload_n rfl ?_
  refine r_aload_n rfl ?_
  obtain ⟨v402, hv402⟩ : ∃ v, gI g0 1 9 = v := ⟨_, rfl⟩
  refine q_getI (Sh.int hI400.1 kx_1 rfl) v402 (((gI_sX).trans ((gI_sX).trans ((gI_sX).trans ((gI_sX).trans ((gI_sX).trans ((hF383.1 1 9 (by decide)).trans ((gI_sX).trans ((gI_sX).trans ((hF370.1 1 9 (by decide)).trans ((gI_sX).trans ((hF360.1 1 9 (by decide)).trans (gI_sX)))))))))))).trans hv402) ?_
  refine r_callV 8 rfl [.ref 1, .int v402] [] (Nat.le_of_ble_eq_true rfl) rfl (T_X0_lawAt_1 _ hI400 v402) ?_
  rintro _ _ ⟨g403, rfl, hI404, hF405, v406, rfl, hr407⟩
  refine At.str ?_
  have hF408 := Fr.tr hF401 hF405 rfl rfl
  refine At.enter rfl ?_
  refine q_aret ?_
  refine At.enter rfl ?_
  refine r_astore ([(8, .ref (v406)), (0, .ref 185), (1, .int a1), (2, .int a2), (3, .int a3), (4, .int a4), (5, .int a5), (6, .int a6), (7, .int a7)]) rfl ?_
  refine r_aload rfl ?_
  refine q_getI' (Sh.int hI404.1 (Lw.ko hr407) rfl) (fun v409 hv409 => ?_)
  have rv409 := RgF.at hI404.2.1 (Lw.r3 hr407)
  rw [hv409] at rv409
  dsimp only at rv409
  refine r_bipush 12 rfl ?_
  refine q_mmin rfl (Nat.le_of_ble_eq_true rfl) (fun v410 hv410 => ?_)
  have zv411 : (12 : Int32).toInt = 12 := rfl
  refine r_iconst 1 rfl ?_
  refine q_isub (v410.toInt - 1) rfl (by omega) (fun v412 hv412 => ?_)
  refine r_istore ([(9, .int v412), (8, .ref (v406)), (0, .ref 185), (1, .int a1), (2, .int a2), (3, .int a3), (4, .int a4), (5, .int a5), (6, .int a6), (7, .int a7)]) rfl ?_
  refine Ar.fall 125 rfl ?_
  refine w_loopI (fun n_ l_ g_ => ∃ x464 : Int32, n_ = x464.toInt - (-1) ∧ HI g_ ∧ Fr F_X3_tells_185 A_X3_tells_185 g0 g_ ∧ en_get 0 l_ = some (.ref 185) ∧ en_get 1 l_ = some (.int a1) ∧ en_get 2 l_ = some (.int a2) ∧ en_get 3 l_ = some (.int a3) ∧ en_get 4 l_ = some (.int a4) ∧ en_get 5 l_ = some (.int a5) ∧ en_get 6 l_ = some (.int a6) ∧ en_get 7 l_ = some (.int a7) ∧ en_get 8 l_ = some (.ref (v406)) ∧ en_get 9 l_ = some (.int x464) ∧ ((-1) ≤ x464.toInt ∧ x464.toInt ≤ 11)) ?_ (v412.toInt - (-1)) ⟨v412, by first | rfl | omega, hI404, hF408, rfl, rfl, rfl, rfl, rfl, rfl, rfl, rfl, rfl, rfl, by omega⟩
  rintro n469 l468 g465 ⟨x464, hm482, hI466, hF467, e471, e472, e473, e474, e475, e476, e477, e478, e479, e480, r481⟩ ih470
  refine At.enter rfl ?_
  refine r_iload e480 ?_
  refine r_ifs 130 rfl (fun c483 => ?_) (fun c483 => ?_)
  · have c483_ : x464.toInt < 0 := en_k_lt_t c483
    refine At.enter rfl ?_
    refine r_iload_n e472 ?_
    refine r_iconst 1 rfl ?_
    refine r_ics 269 rfl (fun c484 => ?_) (fun c484 => ?_)
    · have c484_ : a1.toInt ≠ 1 := en_i_ne_t c484
      refine At.enter rfl ?_
      refine r_lconst 0 rfl ?_
      refine Ar.fall 276 rfl ?_
      refine At.enter rfl ?_
      refine r_lret ?_
      exact ⟨_, rfl, hI466, hF467, _, rfl, trivial⟩
    · have c484_ : a1.toInt = 1 := en_i_ne_f c484
      refine At.enter rfl ?_
      refine r_iload e478 ?_
      refine q_i2l (fun v485 hv485 => ?_)
      refine r_goto ?_
      refine At.enter rfl ?_
      refine r_lret ?_
      exact ⟨_, rfl, hI466, hF467, _, rfl, trivial⟩
  · have c483_ : x464.toInt ≥ 0 := en_k_lt_f c483
    refine At.enter rfl ?_
    refine r_aload e479 ?_
    refine q_getR (Sh.ref hI466.1 (Lw.ko hr407) rfl) ?_
    refine r_iload e480 ?_
    refine q_iald' (Sh.arr hI466.1 (Lw.k3 hr407)) x464.toInt rfl (by omega) (fun v486 hv486 => ?_)
    refine r_iload_n e472 ?_
    refine r_ics 142 rfl (fun c487 => ?_) (fun c487 => ?_)
    · have c487_ : v486.toInt = a1.toInt := en_i_eq_t c487
      refine At.enter rfl ?_
      refine r_aload_n e471 ?_
      refine r_iconst 0 rfl ?_
      refine q_putI (Sh.int hI466.1 kx_185 rfl) rfl ?_
      have hI488 := HI.wI0 hI466 kx_185 rfl (p := 185) (b := 3) (v := 0) rfl
      have hF489 := Fr.wI (p := 185) (b := 3) (v := 0) hF467 rfl
      refine r_aload e479 ?_
      refine q_getR (Sh.ref hI488.1 (Lw.ko hr407) rfl) ?_
      refine r_iload e480 ?_
      refine q_iald' (Sh.arr hI488.1 (Lw.k5 hr407)) x464.toInt rfl (by omega) (fun v490 hv490 => ?_)
      refine r_aload e479 ?_
      refine q_getR (Sh.ref hI488.1 (Lw.ko hr407) rfl) ?_
      refine r_iload e480 ?_
      refine q_iald' (Sh.arr hI488.1 (Lw.k6 hr407)) x464.toInt rfl (by omega) (fun v491 hv491 => ?_)
      refine r_ics 169 rfl (fun c492 => ?_) (fun c492 => ?_)
      · have c492_ : v490.toInt = v491.toInt := en_i_eq_t c492
        refine At.enter rfl ?_
        refine r_iconst 1 rfl ?_
        refine r_goto ?_
        refine At.enter rfl ?_
        refine r_istore _ rfl ?_
        refine r_iload (w_e1 _ _ _) ?_
        refine r_iff 208 rfl (by decide) ?_
        refine At.enter rfl ?_
        refine r_aload_n (w_p1 (by decide) (Or.inr rfl) e471) ?_
        refine q_getI (Sh.int hI488.1 kx_185 rfl) 0 (gI_sI_eq hI466.1 kx_185 rfl _) ?_
        refine r_iff 215 rfl (by decide) ?_
        refine At.enter rfl ?_
        refine r_iload_n (w_p1 (by decide) (Or.inr rfl) e472) ?_
        refine r_iconst 2 rfl ?_
        refine r_ics 220 rfl (fun c493 => ?_) (fun c493 => ?_)
        · have c493_ : a1.toInt ≠ 2 := en_i_ne_t c493
          refine At.enter rfl ?_
          refine r_aload_n (w_p1 (by decide) (Or.inr rfl) e471) ?_
          refine r_aload (w_p1 (by decide) (Or.inr rfl) e479) ?_
          refine r_aload (w_p1 (by decide) (Or.inr rfl) e479) ?_
          refine q_getR (Sh.ref hI488.1 (Lw.ko hr407) rfl) ?_
          refine r_iload (w_p1 (by decide) (Or.inr rfl) e480) ?_
          refine q_iald' (Sh.arr hI488.1 (Lw.k4 hr407)) x464.toInt rfl (by omega) (fun v494 hv494 => ?_)
          refine r_aload (w_p1 (by decide) (Or.inr rfl) e479) ?_
          refine q_getR (Sh.ref hI488.1 (Lw.ko hr407) rfl) ?_
          refine r_iload (w_p1 (by decide) (Or.inr rfl) e480) ?_
          refine q_iald' (Sh.arr hI488.1 (Lw.k5 hr407)) x464.toInt rfl (by omega) (fun v495 hv495 => ?_)
          refine r_callV 246 rfl [.ref 185, .ref (v406), .int v494, .int v495] [] (Nat.le_of_ble_eq_true rfl) rfl (T_X3_worth_185 _ hI488 (v406) hr407 v494 v495) ?_
          rintro _ _ ⟨g496, rfl, hI497, hF498, v499, rfl, hr500⟩
          refine At.stl ?_
          have hF501 := Fr.tr hF489 hF498 rfl rfl
          refine At.enter rfl ?_
          refine r_lstore _ rfl ?_
          refine r_aload_n (w_p2 (by decide) (by decide) (Or.inr rfl) (w_p1 (by decide) (Or.inr rfl) e471)) ?_
          obtain ⟨v502, hv502⟩ : ∃ v, gI g496 185 3 = v := ⟨_, rfl⟩
          refine q_getI (Sh.int hI497.1 kx_185 rfl) v502 hv502 ?_
          refine r_ifs 255 rfl (fun c503 => ?_) (fun c503 => ?_)
          · have c503_ : v502.toInt ≠ 0 := en_k_ne_t c503
            refine At.enter rfl ?_
            refine q_iinc (w_p2 (by decide) (by decide) (Or.inr rfl) (w_p1 (by decide) (Or.inr rfl) e480)) (x464.toInt + (-1)) rfl (by omega) (fun v504 hv504 => ?_)
            refine r_goto ?_
            exact ih470 (v504.toInt - (-1)) _ _ ⟨v504, by first | rfl | omega, hI497, hF501, (w_p1 (by decide) (Or.inr rfl) (w_p2 (by decide) (by decide) (Or.inr rfl) (w_p1 (by decide) (Or.inr rfl) e471))), (w_p1 (by decide) (Or.inr rfl) (w_p2 (by decide) (by decide) (Or.inr rfl) (w_p1 (by decide) (Or.inr rfl) e472))), (w_p1 (by decide) (Or.inr rfl) (w_p2 (by decide) (by decide) (Or.inr rfl) (w_p1 (by decide) (Or.inr rfl) e473))), (w_p1 (by decide) (Or.inr rfl) (w_p2 (by decide) (by decide) (Or.inr rfl) (w_p1 (by decide) (Or.inr rfl) e474))), (w_p1 (by decide) (Or.inr rfl) (w_p2 (by decide) (by decide) (Or.inr rfl) (w_p1 (by decide) (Or.inr rfl) e475))), (w_p1 (by decide) (Or.inr rfl) (w_p2 (by decide) (by decide) (Or.inr rfl) (w_p1 (by decide) (Or.inr rfl) e476))), (w_p1 (by decide) (Or.inr rfl) (w_p2 (by decide) (by decide) (Or.inr rfl) (w_p1 (by decide) (Or.inr rfl) e477))), (w_p1 (by decide) (Or.inr rfl) (w_p2 (by decide) (by decide) (Or.inr rfl) (w_p1 (by decide) (Or.inr rfl) e478))), (w_p1 (by decide) (Or.inr rfl) (w_p2 (by decide) (by decide) (Or.inr rfl) (w_p1 (by decide) (Or.inr rfl) e479))), (w_e1 _ _ _), by omega⟩ ⟨by omega, by omega⟩
          · have c503_ : v502.toInt = 0 := en_k_ne_f c503
            refine At.enter rfl ?_
            refine r_lload (w_e2 _ _ _) ?_
            refine r_lret ?_
            exact ⟨_, rfl, hI497, hF501, _, rfl, trivial⟩
        · have c493_ : a1.toInt = 2 := en_i_ne_f c493
          refine At.enter rfl ?_
          refine r_lconst 1 rfl ?_
          refine r_goto ?_
          refine At.enter rfl ?_
          refine r_lstore _ rfl ?_
          refine r_aload_n (w_p2 (by decide) (by decide) (Or.inr rfl) (w_p1 (by decide) (Or.inr rfl) e471)) ?_
          refine q_getI (Sh.int hI488.1 kx_185 rfl) 0 (gI_sI_eq hI466.1 kx_185 rfl _) ?_
          refine r_iff 255 rfl (by decide) ?_
          refine At.enter rfl ?_
          refine r_lload (w_e2 _ _ _) ?_
          refine r_lret ?_
          exact ⟨_, rfl, hI488, hF489, _, rfl, trivial⟩
      · have c492_ : v490.toInt ≠ v491.toInt := en_i_eq_f c492
        refine At.enter rfl ?_
        refine r_aload_n e471 ?_
        refine r_aload e479 ?_
        refine r_aload e479 ?_
        refine q_getR (Sh.ref hI488.1 (Lw.ko hr407) rfl) ?_
        refine r_iload e480 ?_
        refine q_iald' (Sh.arr hI488.1 (Lw.k5 hr407)) x464.toInt rfl (by omega) (fun v505 hv505 => ?_)
        refine r_aload e479 ?_
        refine q_getR (Sh.ref hI488.1 (Lw.ko hr407) rfl) ?_
        refine r_iload e480 ?_
        refine q_iald' (Sh.arr hI488.1 (Lw.k6 hr407)) x464.toInt rfl (by omega) (fun v506 hv506 => ?_)
        refine r_callV 191 rfl [.ref 185, .ref (v406), .int v505, .int v506] [] (Nat.le_of_ble_eq_true rfl) rfl (T_X3_worth_185 _ hI488 (v406) hr407 v505 v506) ?_
        rintro _ _ ⟨g507, rfl, hI508, hF509, v510, rfl, hr511⟩
        refine At.stl ?_
        have hF512 := Fr.tr hF489 hF509 rfl rfl
        refine At.enter rfl ?_
        refine r_lconst 0 rfl ?_
        refine r_lcmp _ rfl ?_
        refine r_ifs 196 rfl (fun c513 => ?_) (fun c513 => ?_)
        · have c513_ : v510.toInt = 0 := en_j_eq_t c513
          refine At.enter rfl ?_
          refine r_iconst 0 rfl ?_
          refine Ar.fall 201 rfl ?_
          refine At.enter rfl ?_
          refine r_istore _ rfl ?_
          refine r_iload (w_e1 _ _ _) ?_
          refine r_ift (by decide) ?_
          refine At.enter rfl ?_
          refine q_iinc (w_p1 (by decide) (Or.inr rfl) e480) (x464.toInt + (-1)) rfl (by omega) (fun v514 hv514 => ?_)
          refine r_goto ?_
          exact ih470 (v514.toInt - (-1)) _ _ ⟨v514, by first | rfl | omega, hI508, hF512, (w_p1 (by decide) (Or.inr rfl) (w_p1 (by decide) (Or.inr rfl) e471)), (w_p1 (by decide) (Or.inr rfl) (w_p1 (by decide) (Or.inr rfl) e472)), (w_p1 (by decide) (Or.inr rfl) (w_p1 (by decide) (Or.inr rfl) e473)), (w_p1 (by decide) (Or.inr rfl) (w_p1 (by decide) (Or.inr rfl) e474)), (w_p1 (by decide) (Or.inr rfl) (w_p1 (by decide) (Or.inr rfl) e475)), (w_p1 (by decide) (Or.inr rfl) (w_p1 (by decide) (Or.inr rfl) e476)), (w_p1 (by decide) (Or.inr rfl) (w_p1 (by decide) (Or.inr rfl) e477)), (w_p1 (by decide) (Or.inr rfl) (w_p1 (by decide) (Or.inr rfl) e478)), (w_p1 (by decide) (Or.inr rfl) (w_p1 (by decide) (Or.inr rfl) e479)), (w_e1 _ _ _), by omega⟩ ⟨by omega, by omega⟩
        · have c513_ : v510.toInt ≠ 0 := en_j_eq_f c513
          refine At.enter rfl ?_
          refine r_iconst 1 rfl ?_
          refine r_goto ?_
          refine At.enter rfl ?_
          refine r_istore _ rfl ?_
          refine r_iload (w_e1 _ _ _) ?_
          refine r_iff 208 rfl (by decide) ?_
          refine At.enter rfl ?_
          refine r_aload_n (w_p1 (by decide) (Or.inr rfl) e471) ?_
          obtain ⟨v515, hv515⟩ : ∃ v, gI g507 185 3 = v := ⟨_, rfl⟩
          refine q_getI (Sh.int hI508.1 kx_185 rfl) v515 hv515 ?_
          refine r_ifs 215 rfl (fun c516 => ?_) (fun c516 => ?_)
          · have c516_ : v515.toInt ≠ 0 := en_k_ne_t c516
            refine At.enter rfl ?_
            refine q_iinc (w_p1 (by decide) (Or.inr rfl) e480) (x464.toInt + (-1)) rfl (by omega) (fun v517 hv517 => ?_)
            refine r_goto ?_
            exact ih470 (v517.toInt - (-1)) _ _ ⟨v517, by first | rfl | omega, hI508, hF512, (w_p1 (by decide) (Or.inr rfl) (w_p1 (by decide) (Or.inr rfl) e471)), (w_p1 (by decide) (Or.inr rfl) (w_p1 (by decide) (Or.inr rfl) e472)), (w_p1 (by decide) (Or.inr rfl) (w_p1 (by decide) (Or.inr rfl) e473)), (w_p1 (by decide) (Or.inr rfl) (w_p1 (by decide) (Or.inr rfl) e474)), (w_p1 (by decide) (Or.inr rfl) (w_p1 (by decide) (Or.inr rfl) e475)), (w_p1 (by decide) (Or.inr rfl) (w_p1 (by decide) (Or.inr rfl) e476)), (w_p1 (by decide) (Or.inr rfl) (w_p1 (by decide) (Or.inr rfl) e477)), (w_p1 (by decide) (Or.inr rfl) (w_p1 (by decide) (Or.inr rfl) e478)), (w_p1 (by decide) (Or.inr rfl) (w_p1 (by decide) (Or.inr rfl) e479)), (w_e1 _ _ _), by omega⟩ ⟨by omega, by omega⟩
          · have c516_ : v515.toInt = 0 := en_k_ne_f c516
            refine At.enter rfl ?_
            refine r_iload_n (w_p1 (by decide) (Or.inr rfl) e472) ?_
            refine r_iconst 2 rfl ?_
            refine r_ics 220 rfl (fun c518 => ?_) (fun c518 => ?_)
            · have c518_ : a1.toInt ≠ 2 := en_i_ne_t c518
              refine At.enter rfl ?_
              refine r_aload_n (w_p1 (by decide) (Or.inr rfl) e471) ?_
              refine r_aload (w_p1 (by decide) (Or.inr rfl) e479) ?_
              refine r_aload (w_p1 (by decide) (Or.inr rfl) e479) ?_
              refine q_getR (Sh.ref hI508.1 (Lw.ko hr407) rfl) ?_
              refine r_iload (w_p1 (by decide) (Or.inr rfl) e480) ?_
              refine q_iald' (Sh.arr hI508.1 (Lw.k4 hr407)) x464.toInt rfl (by omega) (fun v519 hv519 => ?_)
              refine r_aload (w_p1 (by decide) (Or.inr rfl) e479) ?_
              refine q_getR (Sh.ref hI508.1 (Lw.ko hr407) rfl) ?_
              refine r_iload (w_p1 (by decide) (Or.inr rfl) e480) ?_
              refine q_iald' (Sh.arr hI508.1 (Lw.k5 hr407)) x464.toInt rfl (by omega) (fun v520 hv520 => ?_)
              refine r_callV 246 rfl [.ref 185, .ref (v406), .int v519, .int v520] [] (Nat.le_of_ble_eq_true rfl) rfl (T_X3_worth_185 _ hI508 (v406) hr407 v519 v520) ?_
              rintro _ _ ⟨g521, rfl, hI522, hF523, v524, rfl, hr525⟩
              refine At.stl ?_
              have hF526 := Fr.tr hF512 hF523 rfl rfl
              refine At.enter rfl ?_
              refine r_lstore _ rfl ?_
              refine r_aload_n (w_p2 (by decide) (by decide) (Or.inr rfl) (w_p1 (by decide) (Or.inr rfl) e471)) ?_
              obtain ⟨v527, hv527⟩ : ∃ v, gI g521 185 3 = v := ⟨_, rfl⟩
              refine q_getI (Sh.int hI522.1 kx_185 rfl) v527 hv527 ?_
              refine r_ifs 255 rfl (fun c528 => ?_) (fun c528 => ?_)
              · have c528_ : v527.toInt ≠ 0 := en_k_ne_t c528
                refine At.enter rfl ?_
                refine q_iinc (w_p2 (by decide) (by decide) (Or.inr rfl) (w_p1 (by decide) (Or.inr rfl) e480)) (x464.toInt + (-1)) rfl (by omega) (fun v529 hv529 => ?_)
                refine r_goto ?_
                exact ih470 (v529.toInt - (-1)) _ _ ⟨v529, by first | rfl | omega, hI522, hF526, (w_p1 (by decide) (Or.inr rfl) (w_p2 (by decide) (by decide) (Or.inr rfl) (w_p1 (by decide) (Or.inr rfl) e471))), (w_p1 (by decide) (Or.inr rfl) (w_p2 (by decide) (by decide) (Or.inr rfl) (w_p1 (by decide) (Or.inr rfl) e472))), (w_p1 (by decide) (Or.inr rfl) (w_p2 (by decide) (by decide) (Or.inr rfl) (w_p1 (by decide) (Or.inr rfl) e473))), (w_p1 (by decide) (Or.inr rfl) (w_p2 (by decide) (by decide) (Or.inr rfl) (w_p1 (by decide) (Or.inr rfl) e474))), (w_p1 (by decide) (Or.inr rfl) (w_p2 (by decide) (by decide) (Or.inr rfl) (w_p1 (by decide) (Or.inr rfl) e475))), (w_p1 (by decide) (Or.inr rfl) (w_p2 (by decide) (by decide) (Or.inr rfl) (w_p1 (by decide) (Or.inr rfl) e476))), (w_p1 (by decide) (Or.inr rfl) (w_p2 (by decide) (by decide) (Or.inr rfl) (w_p1 (by decide) (Or.inr rfl) e477))), (w_p1 (by decide) (Or.inr rfl) (w_p2 (by decide) (by decide) (Or.inr rfl) (w_p1 (by decide) (Or.inr rfl) e478))), (w_p1 (by decide) (Or.inr rfl) (w_p2 (by decide) (by decide) (Or.inr rfl) (w_p1 (by decide) (Or.inr rfl) e479))), (w_e1 _ _ _), by omega⟩ ⟨by omega, by omega⟩
              · have c528_ : v527.toInt = 0 := en_k_ne_f c528
                refine At.enter rfl ?_
                refine r_lload (w_e2 _ _ _) ?_
                refine r_lret ?_
                exact ⟨_, rfl, hI522, hF526, _, rfl, trivial⟩
            · have c518_ : a1.toInt = 2 := en_i_ne_f c518
              refine At.enter rfl ?_
              refine r_lconst 1 rfl ?_
              refine r_goto ?_
              refine At.enter rfl ?_
              refine r_lstore _ rfl ?_
              refine r_aload_n (w_p2 (by decide) (by decide) (Or.inr rfl) (w_p1 (by decide) (Or.inr rfl) e471)) ?_
              refine q_getI (Sh.int hI508.1 kx_185 rfl) v515 hv515 ?_
              refine r_ifs 255 rfl (fun c530 => ?_) (fun c530 => ?_)
              · have c530_ : v515.toInt ≠ 0 := en_k_ne_t c530
                exfalso; omega
              · have c530_ : v515.toInt = 0 := en_k_ne_f c530
                refine At.enter rfl ?_
                refine r_lload (w_e2 _ _ _) ?_
                refine r_lret ?_
                exact ⟨_, rfl, hI508, hF512, _, rfl, trivial⟩
    · have c487_ : v486.toInt ≠ a1.toInt := en_i_eq_f c487
      refine At.enter rfl ?_
      refine r_goto ?_
      refine At.enter rfl ?_
      refine q_iinc e480 (x464.toInt + (-1)) rfl (by omega) (fun v531 hv531 => ?_)
      refine r_goto ?_
      exact ih470 (v531.toInt - (-1)) _ _ ⟨v531, by first | rfl | omega, hI466, hF467, (w_p1 (by decide) (Or.inr rfl) e471), (w_p1 (by decide) (Or.inr rfl) e472), (w_p1 (by decide) (Or.inr rfl) e473), (w_p1 (by decide) (Or.inr rfl) e474), (w_p1 (by decide) (Or.inr rfl) e475), (w_p1 (by decide) (Or.inr rfl) e476), (w_p1 (by decide) (Or.inr rfl) e477), (w_p1 (by decide) (Or.inr rfl) e478), (w_p1 (by decide) (Or.inr rfl) e479), (w_e1 _ _ _), by omega⟩ ⟨by omega, by omega⟩

def F_X1_handsToWant_188 : List (Nat × Nat) := []
def A_X1_handsToWant_188 : List Nat := []
set_option maxRecDepth 100000 in
set_option maxHeartbeats 4000000 in
theorem T_X1_handsToWant_188 (d : Nat) {N : Nat} {g0 : List en_E} (hI0 : HI g0) (a1 : Int32) : Ev (d + 2) 17 [.ref 188, .int a1] (g0, N) (fun w h' => ∃ g', h' = (g', N) ∧ HI g' ∧ Fr F_X1_handsToWant_188 A_X1_handsToWant_188 g0 g' ∧ ∃ r : Int32, w = some (.int r) ∧ ((-1) ≤ r.toInt ∧ r.toInt ≤ 11)) := by
  have hF0 : Fr F_X1_handsToWant_188 A_X1_handsToWant_188 g0 g0 := Fr.rf
  refine Ev.mk rfl rfl ⟨Nat.le_of_ble_eq_true rfl, Or.inr (q_rc hI0.1 kx_188 rfl)⟩ ?_
  show At _ none _ _ (0, [(0, .ref 188), (1, .int a1)], [], (_, _)) _
  refine At.enter rfl ?_
  refine r_aload_n rfl ?_
  refine q_getR (Sh.ref hI0.1 kx_188 rfl) ?_
  refine r_iload_n rfl ?_
  refine r_iconst 1 rfl ?_
  refine r_callV 9 rfl [.ref 1, .int a1, .int 1] [] (Nat.le_of_ble_eq_true rfl) rfl (T_X0_about_1 _ hI0 a1 1) ?_
  rintro _ _ ⟨g295, rfl, hI296, hF297, v298, rfl, hr299⟩
  refine At.sti ?_
  have hF300 := Fr.tr hF0 hF297 rfl rfl
  have zv301 : (1 : Int32).toInt = 1 := rfl
  refine At.enter rfl ?_
  refine r_istore_n ([(2, .int v298), (0, .ref 188), (1, .int a1)]) rfl ?_
  refine r_aload_n rfl ?_
  refine q_getR (Sh.ref hI296.1 kx_188 rfl) ?_
  refine r_iload_n rfl ?_
  refine r_iconst 2 rfl ?_
  refine r_callV 19 rfl [.ref 1, .int a1, .int 2] [] (Nat.le_of_ble_eq_true rfl) rfl (T_X0_about_1 _ hI296 a1 2) ?_
  rintro _ _ ⟨g302, rfl, hI303, hF304, v305, rfl, hr306⟩
  refine At.sti ?_
  have hF307 := Fr.tr hF300 hF304 rfl rfl
  have zv308 : (2 : Int32).toInt = 2 := rfl
  refine At.enter rfl ?_
  refine r_istore_n ([(3, .int v305), (2, .int v298), (0, .ref 188), (1, .int a1)]) rfl ?_
  refine r_iconst 0 rfl ?_
  refine r_istore ([(4, .int 0), (3, .int v305), (2, .int v298), (0, .ref 188), (1, .int a1)]) rfl ?_
  refine Ar.fall 23 rfl ?_
  have z_431 : (0 : Int32).toInt = 0 := rfl
  refine w_loopI (fun n_ l_ g_ => ∃ x417 : Int32, ∃ x418 : Int32, n_ = 12 - x418.toInt ∧ HI g_ ∧ Fr F_X1_handsToWant_188 A_X1_handsToWant_188 g0 g_ ∧ en_get 0 l_ = some (.ref 188) ∧ en_get 1 l_ = some (.int a1) ∧ en_get 2 l_ = some (.int x417) ∧ en_get 3 l_ = some (.int v305) ∧ en_get 4 l_ = some (.int x418) ∧ (0 ≤ x418.toInt ∧ x418.toInt ≤ 12)) ?_ (12 - 0) ⟨v298, 0, by first | rfl | omega, hI303, hF307, rfl, rfl, rfl, rfl, rfl, by decide⟩
  rintro n423 l422 g419 ⟨x417, x418, hm432, hI420, hF421, e425, e426, e427, e428, e429, r430⟩ ih424
  refine At.enter rfl ?_
  refine r_iload e429 ?_
  refine r_bipush 12 rfl ?_
  refine r_ics 30 rfl (fun c433 => ?_) (fun c433 => ?_)
  · have c433_ : x418.toInt ≥ 12 := en_i_ge_t c433
    refine At.enter rfl ?_
    refine r_iconst (-1) rfl ?_
    refine r_ireti ?_
    exact ⟨_, rfl, hI420, hF421, _, rfl, by decide⟩
  · have c433_ : x418.toInt < 12 := en_i_ge_f c433
    refine At.enter rfl ?_
    refine r_aload_n e425 ?_
    refine q_getR (Sh.ref hI420.1 kx_188 rfl) ?_
    refine r_iload_n e427 ?_
    refine q_inlV 38 rfl [.ref 1, .int x417] [] (Nat.le_of_ble_eq_true rfl) rfl ?_
    refine Ev.mk rfl rfl ⟨Nat.le_of_ble_eq_true rfl, Or.inr (q_rc hI420.1 kx_1 rfl)⟩ ?_
    show At _ none _ _ (0, [(0, .ref 1), (1, .int x417)], [], (_, _)) _
    refine At.enter rfl ?_
    refine r_iload_n rfl ?_
    refine r_ifs 4 rfl (fun c434 => ?_) (fun c434 => ?_)
    · have c434_ : x417.toInt < 0 := en_k_lt_t c434
      refine At.enter rfl ?_
      refine r_iconst 0 rfl ?_
      refine Ar.fall 17 rfl ?_
      refine At.enter rfl ?_
      refine q_iretz (by decide) ?_
      refine At.enter rfl ?_
      refine r_ift (by decide) ?_
      refine At.enter rfl ?_
      refine r_iconst (-1) rfl ?_
      refine r_ireti ?_
      exact ⟨_, rfl, hI420, hF421, _, rfl, by decide⟩
    · have c434_ : x417.toInt ≥ 0 := en_k_lt_f c434
      refine At.enter rfl ?_
      refine r_iload_n rfl ?_
      refine r_aload_n rfl ?_
      obtain ⟨v435, hv435⟩ : ∃ v, gI g0 1 0 = v := ⟨_, rfl⟩
      have rv435 := RgF.at hI0.2.1 (p := 1) (b := 0) rfl
      rw [hv435] at rv435
      dsimp only at rv435
      refine q_getI (Sh.int hI420.1 kx_1 rfl) v435 ((hF421.1 1 0 (by decide)).trans hv435) ?_
      have bv437 := q_bnd x417
      have bv438 := q_bnd v435
      refine r_ics 12 rfl (fun c436 => ?_) (fun c436 => ?_)
      · have c436_ : x417.toInt ≥ v435.toInt := en_i_ge_t c436
        refine At.enter rfl ?_
        refine r_iconst 0 rfl ?_
        refine Ar.fall 17 rfl ?_
        refine At.enter rfl ?_
        refine q_iretz (by decide) ?_
        refine At.enter rfl ?_
        refine r_ift (by decide) ?_
        refine At.enter rfl ?_
        refine r_iconst (-1) rfl ?_
        refine r_ireti ?_
        exact ⟨_, rfl, hI420, hF421, _, rfl, by decide⟩
      · have c436_ : x417.toInt < v435.toInt := en_i_ge_f c436
        refine At.enter rfl ?_
        refine r_iconst 1 rfl ?_
        refine r_goto ?_
        refine At.enter rfl ?_
        refine q_iretz (by decide) ?_
        refine At.enter rfl ?_
        refine r_iff 41 rfl (by decide) ?_
        refine At.enter rfl ?_
        refine r_iload_n e427 ?_
        refine r_iload_n e428 ?_
        refine r_ics 46 rfl (fun c439 => ?_) (fun c439 => ?_)
        · have c439_ : x417.toInt ≠ v305.toInt := en_i_ne_t c439
          refine At.enter rfl ?_
          refine r_aload_n e425 ?_
          refine q_getR (Sh.ref hI420.1 kx_188 rfl) ?_
          refine r_iload_n e427 ?_
          obtain ⟨v440, hv440⟩ : ∃ v, eA g0 192 x417.toInt = v := ⟨_, rfl⟩
          refine q_iald (Sh.arr hI420.1 ka_192) x417.toInt rfl (by omega) v440 ((eA_c (hF421.2.1 192 (by decide))).trans hv440) ?_
          refine r_istore_n _ rfl ?_
          refine q_iinc (w_p1 (by decide) (Or.inr rfl) e429) (x418.toInt + 1) rfl (by omega) (fun v441 hv441 => ?_)
          refine r_goto ?_
          have bv442 := q_bnd v440
          exact ih424 (12 - v441.toInt) _ _ ⟨v440, v441, by first | rfl | omega, hI420, hF421, (w_p1 (by decide) (Or.inr rfl) (w_p1 (by decide) (Or.inr rfl) e425)), (w_p1 (by decide) (Or.inr rfl) (w_p1 (by decide) (Or.inr rfl) e426)), (w_p1 (by decide) (Or.inr rfl) (w_e1 _ _ _)), (w_p1 (by decide) (Or.inr rfl) (w_p1 (by decide) (Or.inr rfl) e428)), (w_e1 _ _ _), by omega⟩ ⟨by omega, by omega⟩
        · have c439_ : x417.toInt = v305.toInt := en_i_ne_f c439
          refine At.enter rfl ?_
          refine r_iload e429 ?_
          refine r_ireti ?_
          exact ⟨_, rfl, hI420, hF421, _, rfl, by omega⟩
