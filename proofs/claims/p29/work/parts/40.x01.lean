def F_X0_lawAt_116 : List (Nat × Nat) := []
def A_X0_lawAt_116 : List Nat := []
set_option maxRecDepth 100000 in
set_option maxHeartbeats 4000000 in
theorem T_X0_lawAt_116 (d : Nat) {N : Nat} {g0 : List en_E} (hI0 : HI g0) (a1 : Int32) : Ev (d + 1) 10 [.ref 116, .int a1] (g0, N) (fun w h' => ∃ g', h' = (g', N) ∧ HI g' ∧ Fr F_X0_lawAt_116 A_X0_lawAt_116 g0 g' ∧ ∃ r : Nat, w = some (.ref r) ∧ Lw r ∧ r = LATB 116 a1.toInt ∧ KSM g0 g') := by
  have hF0 : Fr F_X0_lawAt_116 A_X0_lawAt_116 g0 g0 := Fr.rf
  refine Ev.mk rfl rfl ⟨Nat.le_of_ble_eq_true rfl, Or.inr (q_rc hI0.1 kx_116 rfl)⟩ ?_
  show At _ none _ _ (0, [(0, .ref 116), (1, .int a1)], [], (_, _)) _
  refine At.enter rfl ?_
  refine r_iload_n rfl ?_
  refine r_ifs 4 rfl (fun c7 => ?_) (fun c7 => ?_)
  · have c7_ : a1.toInt < 0 := en_k_lt_t c7
    refine At.enter rfl ?_
    refine r_null ?_
    refine Ar.fall 20 rfl ?_
    refine At.enter rfl ?_
    refine r_zstore_n ([(2, .null), (0, .ref 116), (1, .int a1)]) rfl ?_
    refine r_zload_n rfl ?_
    refine r_nnz 25 rfl ?_
    refine At.enter rfl ?_
    refine r_aload_n rfl ?_
    refine q_getR (Sh.ref hI0.1 kx_116 rfl) ?_
    refine r_goto ?_
    refine At.enter rfl ?_
    refine r_aret ?_
    exact ⟨_, rfl, hI0, hF0, _, rfl, rfl, (LATB_p (by omega)), KSM_rf⟩
  · have c7_ : a1.toInt ≥ 0 := en_k_lt_f c7
    refine At.enter rfl ?_
    refine r_iload_n rfl ?_
    refine r_bipush 6 rfl ?_
    refine r_ics 10 rfl (fun c8 => ?_) (fun c8 => ?_)
    · have c8_ : a1.toInt ≥ 6 := en_i_ge_t c8
      refine At.enter rfl ?_
      refine r_null ?_
      refine Ar.fall 20 rfl ?_
      refine At.enter rfl ?_
      refine r_zstore_n ([(2, .null), (0, .ref 116), (1, .int a1)]) rfl ?_
      refine r_zload_n rfl ?_
      refine r_nnz 25 rfl ?_
      refine At.enter rfl ?_
      refine r_aload_n rfl ?_
      refine q_getR (Sh.ref hI0.1 kx_116 rfl) ?_
      refine r_goto ?_
      refine At.enter rfl ?_
      refine r_aret ?_
      exact ⟨_, rfl, hI0, hF0, _, rfl, rfl, (LATB_p (by omega)), KSM_rf⟩
    · have c8_ : a1.toInt < 6 := en_i_ge_f c8
      refine At.enter rfl ?_
      refine r_aload_n rfl ?_
      refine q_getR (Sh.ref hI0.1 kx_116 rfl) ?_
      refine r_iload_n rfl ?_
      by_cases c9_0 : a1.toInt = 0
      · refine q_aald (Sh.rar hI0.1 ka_121) (by decide) 0 (by omega) (by decide) (some 131) rfl ?_
        refine r_goto ?_
        refine At.enter rfl ?_
        refine r_astore_n ([(2, .ref 131), (0, .ref 116), (1, .int a1)]) rfl ?_
        refine r_aload_n rfl ?_
        refine r_nnr ?_
        refine At.enter rfl ?_
        refine r_aload_n rfl ?_
        refine Ar.fall 33 rfl ?_
        refine At.enter rfl ?_
        refine r_aret ?_
        exact ⟨_, rfl, hI0, hF0, _, rfl, rfl, (LATB_p (by omega)), KSM_rf⟩
      by_cases c9_1 : a1.toInt = 1
      · refine q_aald (Sh.rar hI0.1 ka_121) (by decide) 1 (by omega) (by decide) (some 138) rfl ?_
        refine r_goto ?_
        refine At.enter rfl ?_
        refine r_astore_n ([(2, .ref 138), (0, .ref 116), (1, .int a1)]) rfl ?_
        refine r_aload_n rfl ?_
        refine r_nnr ?_
        refine At.enter rfl ?_
        refine r_aload_n rfl ?_
        refine Ar.fall 33 rfl ?_
        refine At.enter rfl ?_
        refine r_aret ?_
        exact ⟨_, rfl, hI0, hF0, _, rfl, rfl, (LATB_p (by omega)), KSM_rf⟩
      by_cases c9_2 : a1.toInt = 2
      · refine q_aald (Sh.rar hI0.1 ka_121) (by decide) 2 (by omega) (by decide) (some 145) rfl ?_
        refine r_goto ?_
        refine At.enter rfl ?_
        refine r_astore_n ([(2, .ref 145), (0, .ref 116), (1, .int a1)]) rfl ?_
        refine r_aload_n rfl ?_
        refine r_nnr ?_
        refine At.enter rfl ?_
        refine r_aload_n rfl ?_
        refine Ar.fall 33 rfl ?_
        refine At.enter rfl ?_
        refine r_aret ?_
        exact ⟨_, rfl, hI0, hF0, _, rfl, rfl, (LATB_p (by omega)), KSM_rf⟩
      by_cases c9_3 : a1.toInt = 3
      · refine q_aald (Sh.rar hI0.1 ka_121) (by decide) 3 (by omega) (by decide) (some 152) rfl ?_
        refine r_goto ?_
        refine At.enter rfl ?_
        refine r_astore_n ([(2, .ref 152), (0, .ref 116), (1, .int a1)]) rfl ?_
        refine r_aload_n rfl ?_
        refine r_nnr ?_
        refine At.enter rfl ?_
        refine r_aload_n rfl ?_
        refine Ar.fall 33 rfl ?_
        refine At.enter rfl ?_
        refine r_aret ?_
        exact ⟨_, rfl, hI0, hF0, _, rfl, rfl, (LATB_p (by omega)), KSM_rf⟩
      by_cases c9_4 : a1.toInt = 4
      · refine q_aald (Sh.rar hI0.1 ka_121) (by decide) 4 (by omega) (by decide) (some 159) rfl ?_
        refine r_goto ?_
        refine At.enter rfl ?_
        refine r_astore_n ([(2, .ref 159), (0, .ref 116), (1, .int a1)]) rfl ?_
        refine r_aload_n rfl ?_
        refine r_nnr ?_
        refine At.enter rfl ?_
        refine r_aload_n rfl ?_
        refine Ar.fall 33 rfl ?_
        refine At.enter rfl ?_
        refine r_aret ?_
        exact ⟨_, rfl, hI0, hF0, _, rfl, rfl, (LATB_p (by omega)), KSM_rf⟩
      have c9_5 : a1.toInt = 5 := by omega
      refine q_aald (Sh.rar hI0.1 ka_121) (by decide) 5 (by omega) (by decide) (some 166) rfl ?_
      refine r_goto ?_
      refine At.enter rfl ?_
      refine r_astore_n ([(2, .ref 166), (0, .ref 116), (1, .int a1)]) rfl ?_
      refine r_aload_n rfl ?_
      refine r_nnr ?_
      refine At.enter rfl ?_
      refine r_aload_n rfl ?_
      refine Ar.fall 33 rfl ?_
      refine At.enter rfl ?_
      refine r_aret ?_
      exact ⟨_, rfl, hI0, hF0, _, rfl, rfl, (LATB_p (by omega)), KSM_rf⟩

def F_X4_become_law : List (Nat × Nat) := [(7, 0), (7, 3), (7, 4), (16, 0), (16, 3), (16, 4), (23, 0), (23, 3), (23, 4), (30, 0), (30, 3), (30, 4), (37, 0), (37, 3), (37, 4), (44, 0), (44, 3), (44, 4), (51, 0), (51, 3), (51, 4), (65, 0), (65, 3), (65, 4), (74, 0), (74, 3), (74, 4), (81, 0), (81, 3), (81, 4), (88, 0), (88, 3), (88, 4), (95, 0), (95, 3), (95, 4), (102, 0), (102, 3), (102, 4), (109, 0), (109, 3), (109, 4), (122, 0), (122, 3), (122, 4), (131, 0), (131, 3), (131, 4), (138, 0), (138, 3), (138, 4), (145, 0), (145, 3), (145, 4), (152, 0), (152, 3), (152, 4), (159, 0), (159, 3), (159, 4), (166, 0), (166, 3), (166, 4), (177, 0), (177, 3), (177, 4)]
def A_X4_become_law : List Nat := [8, 9, 10, 11, 12, 13, 17, 18, 19, 20, 21, 22, 24, 25, 26, 27, 28, 29, 31, 32, 33, 34, 35, 36, 38, 39, 40, 41, 42, 43, 45, 46, 47, 48, 49, 50, 52, 53, 54, 55, 56, 57, 66, 67, 68, 69, 70, 71, 75, 76, 77, 78, 79, 80, 82, 83, 84, 85, 86, 87, 89, 90, 91, 92, 93, 94, 96, 97, 98, 99, 100, 101, 103, 104, 105, 106, 107, 108, 110, 111, 112, 113, 114, 115, 123, 124, 125, 126, 127, 128, 132, 133, 134, 135, 136, 137, 139, 140, 141, 142, 143, 144, 146, 147, 148, 149, 150, 151, 153, 154, 155, 156, 157, 158, 160, 161, 162, 163, 164, 165, 167, 168, 169, 170, 171, 172, 178, 179, 180, 181, 182, 183]
set_option maxRecDepth 100000 in
set_option maxHeartbeats 4000000 in
theorem T_X4_become_law (d : Nat) {N : Nat} {g0 : List en_E} (hI0 : HI g0) (q0 : Nat) (hq0 : Lw q0) (q1 : Nat) (hq1 : Lw q1) : Ev (d + 1) 56 [.ref (q0), .ref (q1)] (g0, N) (fun w h' => ∃ g', h' = (g', N) ∧ HI g' ∧ Fr F_X4_become_law A_X4_become_law g0 g' ∧ w = none ∧ BEC g0 g' q0 q1) := by
  have hF0 : Fr F_X4_become_law A_X4_become_law g0 g0 := Fr.rf
  refine Ev.mk rfl rfl ⟨Nat.le_of_ble_eq_true rfl, Or.inr (q_rc hI0.1 (Lw.ko hq0) rfl)⟩ ?_
  show At _ none _ _ (0, [(0, .ref (q0)), (1, .ref (q1))], [], (_, _)) _
  refine At.enter rfl ?_
  refine r_aload_n rfl ?_
  refine r_aload_n rfl ?_
  refine q_getI' (Sh.int hI0.1 (Lw.ko hq1) rfl) (fun v79 hv79 => ?_)
  have rv79 := RgF.at hI0.2.1 (Lw.r0 hq1)
  rw [hv79] at rv79
  dsimp only at rv79
  refine q_putI (Sh.int hI0.1 (Lw.ko hq0) rfl) rfl ?_
  have hI80 := HI.wI1 hI0 (Lw.ko hq0) rfl (p := q0) (b := 0) (v := v79) (Lw.r0 hq0) (by dsimp only; omega)
  have hF81 := Fr.wI (p := q0) (b := 0) (v := v79) hF0 (memA_all hq0 (P := fun q => memF F_X4_become_law q 0) rfl)
  have bc82 := LBC_I0 (LBC_z (g0 := g0) (q := q0) (r := q1)) hI0.1 hq0 hq1 hv79
  refine r_aload_n rfl ?_
  refine q_getR (Sh.ref hI80.1 (Lw.ko hq1) rfl) ?_
  refine r_iconst 0 rfl ?_
  refine r_aload_n rfl ?_
  refine q_getR (Sh.ref hI80.1 (Lw.ko hq0) rfl) ?_
  refine r_iconst 0 rfl ?_
  refine r_sipush 400 rfl ?_
  have zv83 : (0 : Int32).toInt = 0 := rfl
  have zv84 : (0 : Int32).toInt = 0 := rfl
  have zv85 : (400 : Int32).toInt = 400 := rfl
  refine q_cpy rfl (Nat.le_of_ble_eq_true rfl) (Sh.arr hI80.1 (Lw.k1 hq1)) (Sh.arr hI80.1 (Lw.k1 hq0)) ⟨by omega, by omega, by omega, by omega, by omega⟩ ?_
  have hI86 := HI.cpy0 hI80 (Lw.k1 hq1) (Lw.k1 hq0) (Lw.a1 hq0) (Lw.w1 hq0) ((0 : Int32).toInt.toNat) ((0 : Int32).toInt.toNat) ((400 : Int32).toInt.toNat) (by omega) (by omega)
  have hF87 := Fr.cpy (p0 := q1 + 1) (p1 := q0 + 1) hF81 (memA_all hq0 (P := fun q => memA A_X4_become_law (q + 1)) rfl) ((0 : Int32).toInt.toNat) ((0 : Int32).toInt.toNat) ((400 : Int32).toInt.toNat)
  have bc88 := LBC_A bc82 hI80.1 hq0 hq1 rfl (by decide) (Lw.k1 hq1) (Lw.k1 hq0) (sp := (0 : Int32).toInt.toNat) (dp := (0 : Int32).toInt.toNat) (l := (400 : Int32).toInt.toNat) rfl rfl rfl
  refine r_aload_n rfl ?_
  refine q_getR (Sh.ref hI86.1 (Lw.ko hq1) rfl) ?_
  refine r_iconst 0 rfl ?_
  refine r_aload_n rfl ?_
  refine q_getR (Sh.ref hI86.1 (Lw.ko hq0) rfl) ?_
  refine r_iconst 0 rfl ?_
  refine r_sipush 400 rfl ?_
  have zv89 : (0 : Int32).toInt = 0 := rfl
  have zv90 : (0 : Int32).toInt = 0 := rfl
  have zv91 : (400 : Int32).toInt = 400 := rfl
  refine q_cpy rfl (Nat.le_of_ble_eq_true rfl) (Sh.arr hI86.1 (Lw.k2 hq1)) (Sh.arr hI86.1 (Lw.k2 hq0)) ⟨by omega, by omega, by omega, by omega, by omega⟩ ?_
  have hI92 := HI.cpy0 hI86 (Lw.k2 hq1) (Lw.k2 hq0) (Lw.a2 hq0) (Lw.w2 hq0) ((0 : Int32).toInt.toNat) ((0 : Int32).toInt.toNat) ((400 : Int32).toInt.toNat) (by omega) (by omega)
  have hF93 := Fr.cpy (p0 := q1 + 2) (p1 := q0 + 2) hF87 (memA_all hq0 (P := fun q => memA A_X4_become_law (q + 2)) rfl) ((0 : Int32).toInt.toNat) ((0 : Int32).toInt.toNat) ((400 : Int32).toInt.toNat)
  have bc94 := LBC_A bc88 hI86.1 hq0 hq1 rfl (by decide) (Lw.k2 hq1) (Lw.k2 hq0) (sp := (0 : Int32).toInt.toNat) (dp := (0 : Int32).toInt.toNat) (l := (400 : Int32).toInt.toNat) rfl rfl rfl
  refine r_aload_n rfl ?_
  refine r_aload_n rfl ?_
  refine q_getI' (Sh.int hI92.1 (Lw.ko hq1) rfl) (fun v95 hv95 => ?_)
  have rv95 := RgF.at hI92.2.1 (Lw.r3 hq1)
  rw [hv95] at rv95
  dsimp only at rv95
  refine q_putI (Sh.int hI92.1 (Lw.ko hq0) rfl) rfl ?_
  have hI96 := HI.wI1 hI92 (Lw.ko hq0) rfl (p := q0) (b := 3) (v := v95) (Lw.r3 hq0) (by dsimp only; omega)
  have hF97 := Fr.wI (p := q0) (b := 3) (v := v95) hF93 (memA_all hq0 (P := fun q => memF F_X4_become_law q 3) rfl)
  have bc98 := LBC_I3 bc94 hI92.1 hq0 hq1 hv95
  refine r_aload_n rfl ?_
  refine r_aload_n rfl ?_
  refine q_getI' (Sh.int hI96.1 (Lw.ko hq1) rfl) (fun v99 hv99 => ?_)
  refine q_putI (Sh.int hI96.1 (Lw.ko hq0) rfl) rfl ?_
  have hI100 := HI.wI0 hI96 (Lw.ko hq0) rfl (p := q0) (b := 4) (v := v99) (Lw.r4 hq0)
  have hF101 := Fr.wI (p := q0) (b := 4) (v := v99) hF97 (memA_all hq0 (P := fun q => memF F_X4_become_law q 4) rfl)
  have bc102 := LBC_I4 bc98 hI96.1 hq0 hq1 hv99
  refine r_aload_n rfl ?_
  refine q_getR (Sh.ref hI100.1 (Lw.ko hq1) rfl) ?_
  refine r_iconst 0 rfl ?_
  refine r_aload_n rfl ?_
  refine q_getR (Sh.ref hI100.1 (Lw.ko hq0) rfl) ?_
  refine r_iconst 0 rfl ?_
  refine r_bipush 12 rfl ?_
  have zv103 : (0 : Int32).toInt = 0 := rfl
  have zv104 : (0 : Int32).toInt = 0 := rfl
  have zv105 : (12 : Int32).toInt = 12 := rfl
  refine q_cpy rfl (Nat.le_of_ble_eq_true rfl) (Sh.arr hI100.1 (Lw.k3 hq1)) (Sh.arr hI100.1 (Lw.k3 hq0)) ⟨by omega, by omega, by omega, by omega, by omega⟩ ?_
  have hI106 := HI.cpy0 hI100 (Lw.k3 hq1) (Lw.k3 hq0) (Lw.a3 hq0) (Lw.w3 hq0) ((0 : Int32).toInt.toNat) ((0 : Int32).toInt.toNat) ((12 : Int32).toInt.toNat) (by omega) (by omega)
  have hF107 := Fr.cpy (p0 := q1 + 3) (p1 := q0 + 3) hF101 (memA_all hq0 (P := fun q => memA A_X4_become_law (q + 3)) rfl) ((0 : Int32).toInt.toNat) ((0 : Int32).toInt.toNat) ((12 : Int32).toInt.toNat)
  have bc108 := LBC_A bc102 hI100.1 hq0 hq1 rfl (by decide) (Lw.k3 hq1) (Lw.k3 hq0) (sp := (0 : Int32).toInt.toNat) (dp := (0 : Int32).toInt.toNat) (l := (12 : Int32).toInt.toNat) rfl rfl rfl
  refine r_aload_n rfl ?_
  refine q_getR (Sh.ref hI106.1 (Lw.ko hq1) rfl) ?_
  refine r_iconst 0 rfl ?_
  refine r_aload_n rfl ?_
  refine q_getR (Sh.ref hI106.1 (Lw.ko hq0) rfl) ?_
  refine r_iconst 0 rfl ?_
  refine r_bipush 12 rfl ?_
  have zv109 : (0 : Int32).toInt = 0 := rfl
  have zv110 : (0 : Int32).toInt = 0 := rfl
  have zv111 : (12 : Int32).toInt = 12 := rfl
  refine q_cpy rfl (Nat.le_of_ble_eq_true rfl) (Sh.arr hI106.1 (Lw.k4 hq1)) (Sh.arr hI106.1 (Lw.k4 hq0)) ⟨by omega, by omega, by omega, by omega, by omega⟩ ?_
  have hI112 := HI.cpy0 hI106 (Lw.k4 hq1) (Lw.k4 hq0) (Lw.a4 hq0) (Lw.w4 hq0) ((0 : Int32).toInt.toNat) ((0 : Int32).toInt.toNat) ((12 : Int32).toInt.toNat) (by omega) (by omega)
  have hF113 := Fr.cpy (p0 := q1 + 4) (p1 := q0 + 4) hF107 (memA_all hq0 (P := fun q => memA A_X4_become_law (q + 4)) rfl) ((0 : Int32).toInt.toNat) ((0 : Int32).toInt.toNat) ((12 : Int32).toInt.toNat)
  have bc114 := LBC_A bc108 hI106.1 hq0 hq1 rfl (by decide) (Lw.k4 hq1) (Lw.k4 hq0) (sp := (0 : Int32).toInt.toNat) (dp := (0 : Int32).toInt.toNat) (l := (12 : Int32).toInt.toNat) rfl rfl rfl
  refine r_aload_n rfl ?_
  refine q_getR (Sh.ref hI112.1 (Lw.ko hq1) rfl) ?_
  refine r_iconst 0 rfl ?_
  refine r_aload_n rfl ?_
  refine q_getR (Sh.ref hI112.1 (Lw.ko hq0) rfl) ?_
  refine r_iconst 0 rfl ?_
  refine r_bipush 12 rfl ?_
  have zv115 : (0 : Int32).toInt = 0 := rfl
  have zv116 : (0 : Int32).toInt = 0 := rfl
  have zv117 : (12 : Int32).toInt = 12 := rfl
  refine q_cpy rfl (Nat.le_of_ble_eq_true rfl) (Sh.arr hI112.1 (Lw.k5 hq1)) (Sh.arr hI112.1 (Lw.k5 hq0)) ⟨by omega, by omega, by omega, by omega, by omega⟩ ?_
  have hI118 := HI.cpy0 hI112 (Lw.k5 hq1) (Lw.k5 hq0) (Lw.a5 hq0) (Lw.w5 hq0) ((0 : Int32).toInt.toNat) ((0 : Int32).toInt.toNat) ((12 : Int32).toInt.toNat) (by omega) (by omega)
  have hF119 := Fr.cpy (p0 := q1 + 5) (p1 := q0 + 5) hF113 (memA_all hq0 (P := fun q => memA A_X4_become_law (q + 5)) rfl) ((0 : Int32).toInt.toNat) ((0 : Int32).toInt.toNat) ((12 : Int32).toInt.toNat)
  have bc120 := LBC_A bc114 hI112.1 hq0 hq1 rfl (by decide) (Lw.k5 hq1) (Lw.k5 hq0) (sp := (0 : Int32).toInt.toNat) (dp := (0 : Int32).toInt.toNat) (l := (12 : Int32).toInt.toNat) rfl rfl rfl
  refine r_aload_n rfl ?_
  refine q_getR (Sh.ref hI118.1 (Lw.ko hq1) rfl) ?_
  refine r_iconst 0 rfl ?_
  refine r_aload_n rfl ?_
  refine q_getR (Sh.ref hI118.1 (Lw.ko hq0) rfl) ?_
  refine r_iconst 0 rfl ?_
  refine r_bipush 12 rfl ?_
  have zv121 : (0 : Int32).toInt = 0 := rfl
  have zv122 : (0 : Int32).toInt = 0 := rfl
  have zv123 : (12 : Int32).toInt = 12 := rfl
  refine q_cpy rfl (Nat.le_of_ble_eq_true rfl) (Sh.arr hI118.1 (Lw.k6 hq1)) (Sh.arr hI118.1 (Lw.k6 hq0)) ⟨by omega, by omega, by omega, by omega, by omega⟩ ?_
  have hI124 := HI.cpy0 hI118 (Lw.k6 hq1) (Lw.k6 hq0) (Lw.a6 hq0) (Lw.w6 hq0) ((0 : Int32).toInt.toNat) ((0 : Int32).toInt.toNat) ((12 : Int32).toInt.toNat) (by omega) (by omega)
  have hF125 := Fr.cpy (p0 := q1 + 6) (p1 := q0 + 6) hF119 (memA_all hq0 (P := fun q => memA A_X4_become_law (q + 6)) rfl) ((0 : Int32).toInt.toNat) ((0 : Int32).toInt.toNat) ((12 : Int32).toInt.toNat)
  have bc126 := LBC_A bc120 hI118.1 hq0 hq1 rfl (by decide) (Lw.k6 hq1) (Lw.k6 hq0) (sp := (0 : Int32).toInt.toNat) (dp := (0 : Int32).toInt.toNat) (l := (12 : Int32).toInt.toNat) rfl rfl rfl
  refine r_vret ?_
  exact ⟨_, rfl, hI124, hF125, rfl, (LBC_end bc126)⟩

def F_X0_about_1 : List (Nat × Nat) := []
def A_X0_about_1 : List Nat := []
set_option maxRecDepth 100000 in
set_option maxHeartbeats 4000000 in
theorem T_X0_about_1 (d : Nat) {N : Nat} {g0 : List en_E} (hI0 : HI g0) (a1 : Int32) (a2 : Int32) : Ev (d + 1) 11 [.ref 1, .int a1, .int a2] (g0, N) (fun w h' => ∃ g', h' = (g', N) ∧ HI g' ∧ Fr F_X0_about_1 A_X0_about_1 g0 g' ∧ ∃ r : Int32, w = some (.int r) ∧ True ∧ (ABX g0 a1.toInt a2.toInt r.toInt) ∧ KSM g0 g') := by
  have hF0 : Fr F_X0_about_1 A_X0_about_1 g0 g0 := Fr.rf
  refine Ev.mk rfl rfl ⟨Nat.le_of_ble_eq_true rfl, Or.inr (q_rc hI0.1 kx_1 rfl)⟩ ?_
  show At _ none _ _ (0, [(0, .ref 1), (1, .int a1), (2, .int a2)], [], (_, _)) _
  refine At.enter rfl ?_
  refine r_iload_n rfl ?_
  refine r_ifs 4 rfl (fun c21 => ?_) (fun c21 => ?_)
  · have c21_ : a1.toInt < 0 := en_k_lt_t c21
    refine At.enter rfl ?_
    refine r_iconst (-1) rfl ?_
    refine Ar.fall 37 rfl ?_
    refine At.enter rfl ?_
    refine r_ireti ?_
    have zv22 : ((-1) : Int32).toInt = (-1) := rfl
    obtain ⟨v23, hv23⟩ : ∃ v, gI g0 1 4 = v := ⟨_, rfl⟩
    have rv23 := RgF.at hI0.2.1 (p := 1) (b := 4) rfl
    rw [hv23] at rv23
    dsimp only at rv23
    have tv23 := congrArg Int32.toInt hv23
    exact ⟨_, rfl, hI0, hF0, _, rfl, trivial, (ABX.mk (by omega) (by omega)), KSM_rf⟩
  · have c21_ : a1.toInt ≥ 0 := en_k_lt_f c21
    refine At.enter rfl ?_
    refine r_iload_n rfl ?_
    refine r_aload_n rfl ?_
    obtain ⟨v25, hv25⟩ : ∃ v, gI g0 1 4 = v := ⟨_, rfl⟩
    have rv25 := RgF.at hI0.2.1 (p := 1) (b := 4) rfl
    rw [hv25] at rv25
    dsimp only at rv25
    refine q_getI (Sh.int hI0.1 kx_1 rfl) v25 hv25 ?_
    have bv27 := q_bnd a1
    have bv28 := q_bnd v25
    refine r_ics 12 rfl (fun c26 => ?_) (fun c26 => ?_)
    · have c26_ : a1.toInt ≥ v25.toInt := en_i_ge_t c26
      refine At.enter rfl ?_
      refine r_iconst (-1) rfl ?_
      refine Ar.fall 37 rfl ?_
      refine At.enter rfl ?_
      refine r_ireti ?_
      have zv29 : ((-1) : Int32).toInt = (-1) := rfl
      have x30 := HI.eqI hI0 (p := 1) (b := 4) (hv25)
      exact ⟨_, rfl, hI0, hF0, _, rfl, trivial, (ABX.mk (by omega) (by omega)), KSM_rf⟩
    · have c26_ : a1.toInt < v25.toInt := en_i_ge_f c26
      refine At.enter rfl ?_
      refine r_iload_n rfl ?_
      refine r_ifs 16 rfl (fun c31 => ?_) (fun c31 => ?_)
      · have c31_ : a2.toInt < 0 := en_k_lt_t c31
        refine At.enter rfl ?_
        refine r_iconst (-1) rfl ?_
        refine Ar.fall 37 rfl ?_
        refine At.enter rfl ?_
        refine r_ireti ?_
        have zv32 : ((-1) : Int32).toInt = (-1) := rfl
        have x33 := HI.eqI hI0 (p := 1) (b := 4) (hv25)
        exact ⟨_, rfl, hI0, hF0, _, rfl, trivial, (ABX.mk (by omega) (by omega)), KSM_rf⟩
      · have c31_ : a2.toInt ≥ 0 := en_k_lt_f c31
        refine At.enter rfl ?_
        refine r_iload_n rfl ?_
        refine r_bipush 6 rfl ?_
        refine r_ics 22 rfl (fun c34 => ?_) (fun c34 => ?_)
        · have c34_ : a2.toInt ≥ 6 := en_i_ge_t c34
          refine At.enter rfl ?_
          refine r_iconst (-1) rfl ?_
          refine Ar.fall 37 rfl ?_
          refine At.enter rfl ?_
          refine r_ireti ?_
          have zv35 : ((-1) : Int32).toInt = (-1) := rfl
          have x36 := HI.eqI hI0 (p := 1) (b := 4) (hv25)
          exact ⟨_, rfl, hI0, hF0, _, rfl, trivial, (ABX.mk (by omega) (by omega)), KSM_rf⟩
        · have c34_ : a2.toInt < 6 := en_i_ge_f c34
          refine At.enter rfl ?_
          refine r_aload_n rfl ?_
          refine q_getR (Sh.ref hI0.1 kx_1 rfl) ?_
          refine r_iload_n rfl ?_
          refine r_bipush 6 rfl ?_
          refine q_imul (a1.toInt * 6) rfl (by omega) (fun v37 hv37 => ?_)
          refine r_iload_n rfl ?_
          refine q_iadd (v37.toInt + a2.toInt) rfl (by omega) (fun v38 hv38 => ?_)
          obtain ⟨v39, hv39⟩ : ∃ v, eA g0 5 (6 * a1.toInt + a2.toInt) = v := ⟨_, rfl⟩
          refine q_iald (Sh.arr hI0.1 ka_5) (6 * a1.toInt + a2.toInt) (by omega) (by omega) v39 hv39 ?_
          refine r_goto ?_
          refine At.enter rfl ?_
          refine r_ireti ?_
          have x40 := HI.eqI hI0 (p := 1) (b := 4) (hv25)
          have y41 := congrArg Int32.toInt hv39
          exact ⟨_, rfl, hI0, hF0, _, rfl, trivial, (ABX.mk (by omega) (by omega)), KSM_rf⟩
