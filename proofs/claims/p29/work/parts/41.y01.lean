def F_X0_addLoad_1 : List (Nat × Nat) := [(1, 4)]
def A_X0_addLoad_1 : List Nat := [5]
set_option maxRecDepth 100000 in
set_option maxHeartbeats 4000000 in
theorem T_X0_addLoad_1 (d : Nat) {N : Nat} {g0 : List en_E} (hI0 : HI g0) (a1 : Int32) (a2 : Int32) (a3 : Int32) (a4 : Int32) (a5 : Int32) (a6 : Int32) : Ev (d + 1) 6 [.ref 1, .int a1, .int a2, .int a3, .int a4, .int a5, .int a6] (g0, N) (fun w h' => ∃ g', h' = (g', N) ∧ HI g' ∧ Fr F_X0_addLoad_1 A_X0_addLoad_1 g0 g' ∧ ∃ r : Int32, w = some (.int r) ∧ ((-1) ≤ r.toInt ∧ r.toInt ≤ 7) ∧ (((gI g0 1 4).toInt < 8 → r.toInt = (gI g0 1 4).toInt ∧ (gI g' 1 4).toInt = (gI g0 1 4).toInt + 1) ∧ (8 ≤ (gI g0 1 4).toInt → (gI g' 1 4).toInt = (gI g0 1 4).toInt) ∧ (∀ i : Int, 0 ≤ i → i < 48 → (eA g' 5 (i)).toInt = if (gI g0 1 4).toInt < 8 ∧ i = 6 * (gI g0 1 4).toInt + 0 then a1.toInt else if (gI g0 1 4).toInt < 8 ∧ i = 6 * (gI g0 1 4).toInt + 1 then a2.toInt else if (gI g0 1 4).toInt < 8 ∧ i = 6 * (gI g0 1 4).toInt + 2 then a3.toInt else if (gI g0 1 4).toInt < 8 ∧ i = 6 * (gI g0 1 4).toInt + 3 then a4.toInt else if (gI g0 1 4).toInt < 8 ∧ i = 6 * (gI g0 1 4).toInt + 4 then a5.toInt else if (gI g0 1 4).toInt < 8 ∧ i = 6 * (gI g0 1 4).toInt + 5 then a6.toInt else (eA g0 5 (i)).toInt))) := by
  have hF0 : Fr F_X0_addLoad_1 A_X0_addLoad_1 g0 g0 := Fr.rf
  refine Ev.mk rfl rfl ⟨Nat.le_of_ble_eq_true rfl, Or.inr (q_rc hI0.1 kx_1 rfl)⟩ ?_
  show At _ none _ _ (0, [(0, .ref 1), (1, .int a1), (2, .int a2), (3, .int a3), (4, .int a4), (5, .int a5), (6, .int a6)], [], (_, _)) _
  refine At.enter rfl ?_
  refine r_aload_n rfl ?_
  obtain ⟨v51, hv51⟩ : ∃ v, gI g0 1 4 = v := ⟨_, rfl⟩
  have rv51 := RgF.at hI0.2.1 (p := 1) (b := 4) rfl
  rw [hv51] at rv51
  dsimp only at rv51
  refine q_getI (Sh.int hI0.1 kx_1 rfl) v51 hv51 ?_
  refine r_bipush 8 rfl ?_
  refine r_ics 9 rfl (fun c52 => ?_) (fun c52 => ?_)
  · have c52_ : v51.toInt < 8 := en_i_lt_t c52
    refine At.enter rfl ?_
    refine r_aload_n rfl ?_
    refine q_getI (Sh.int hI0.1 kx_1 rfl) v51 hv51 ?_
    refine r_bipush 6 rfl ?_
    refine q_imul (v51.toInt * 6) rfl (by omega) (fun v53 hv53 => ?_)
    refine r_istore ([(7, .int v53), (0, .ref 1), (1, .int a1), (2, .int a2), (3, .int a3), (4, .int a4), (5, .int a5), (6, .int a6)]) rfl ?_
    refine r_aload_n rfl ?_
    refine q_getR (Sh.ref hI0.1 kx_1 rfl) ?_
    refine r_iload rfl ?_
    refine r_iconst 0 rfl ?_
    refine q_iadd (v53.toInt + 0) rfl (by omega) (fun v54 hv54 => ?_)
    refine r_iload_n rfl ?_
    refine q_iast (Sh.arr hI0.1 ka_5) ((6 * v51.toInt)) (by omega) (by omega) ?_
    have hI55 := HI.wA0 hI0 ka_5 (p := 5) rfl rfl ((6 * v51.toInt)) (a1)
    have hF56 := Fr.wA (p := 5) (j := (6 * v51.toInt)) (v := a1) hF0 rfl
    refine r_aload_n rfl ?_
    refine q_getR (Sh.ref hI55.1 kx_1 rfl) ?_
    refine r_iload rfl ?_
    refine r_iconst 1 rfl ?_
    refine q_iadd (v53.toInt + 1) rfl (by omega) (fun v57 hv57 => ?_)
    refine r_iload_n rfl ?_
    refine q_iast (Sh.arr hI55.1 ka_5) ((6 * v51.toInt + 1)) (by omega) (by omega) ?_
    have hI58 := HI.wA0 hI55 ka_5 (p := 5) rfl rfl ((6 * v51.toInt + 1)) (a2)
    have hF59 := Fr.wA (p := 5) (j := (6 * v51.toInt + 1)) (v := a2) hF56 rfl
    refine r_aload_n rfl ?_
    refine q_getR (Sh.ref hI58.1 kx_1 rfl) ?_
    refine r_iload rfl ?_
    refine r_iconst 2 rfl ?_
    refine q_iadd (v53.toInt + 2) rfl (by omega) (fun v60 hv60 => ?_)
    refine r_iload_n rfl ?_
    refine q_iast (Sh.arr hI58.1 ka_5) ((6 * v51.toInt + 2)) (by omega) (by omega) ?_
    have hI61 := HI.wA0 hI58 ka_5 (p := 5) rfl rfl ((6 * v51.toInt + 2)) (a3)
    have hF62 := Fr.wA (p := 5) (j := (6 * v51.toInt + 2)) (v := a3) hF59 rfl
    refine r_aload_n rfl ?_
    refine q_getR (Sh.ref hI61.1 kx_1 rfl) ?_
    refine r_iload rfl ?_
    refine r_iconst 3 rfl ?_
    refine q_iadd (v53.toInt + 3) rfl (by omega) (fun v63 hv63 => ?_)
    refine r_iload rfl ?_
    refine q_iast (Sh.arr hI61.1 ka_5) ((6 * v51.toInt + 3)) (by omega) (by omega) ?_
    have hI64 := HI.wA0 hI61 ka_5 (p := 5) rfl rfl ((6 * v51.toInt + 3)) (a4)
    have hF65 := Fr.wA (p := 5) (j := (6 * v51.toInt + 3)) (v := a4) hF62 rfl
    refine r_aload_n rfl ?_
    refine q_getR (Sh.ref hI64.1 kx_1 rfl) ?_
    refine r_iload rfl ?_
    refine r_iconst 4 rfl ?_
    refine q_iadd (v53.toInt + 4) rfl (by omega) (fun v66 hv66 => ?_)
    refine r_iload rfl ?_
    refine q_iast (Sh.arr hI64.1 ka_5) ((6 * v51.toInt + 4)) (by omega) (by omega) ?_
    have hI67 := HI.wA0 hI64 ka_5 (p := 5) rfl rfl ((6 * v51.toInt + 4)) (a5)
    have hF68 := Fr.wA (p := 5) (j := (6 * v51.toInt + 4)) (v := a5) hF65 rfl
    refine r_aload_n rfl ?_
    refine q_getR (Sh.ref hI67.1 kx_1 rfl) ?_
    refine r_iload rfl ?_
    refine r_iconst 5 rfl ?_
    refine q_iadd (v53.toInt + 5) rfl (by omega) (fun v69 hv69 => ?_)
    refine r_iload rfl ?_
    refine q_iast (Sh.arr hI67.1 ka_5) ((6 * v51.toInt + 5)) (by omega) (by omega) ?_
    have hI70 := HI.wA0 hI67 ka_5 (p := 5) rfl rfl ((6 * v51.toInt + 5)) (a6)
    have hF71 := Fr.wA (p := 5) (j := (6 * v51.toInt + 5)) (v := a6) hF68 rfl
    refine r_aload_n rfl ?_
    refine r_dup rfl ?_
    refine q_getI (Sh.int hI70.1 kx_1 rfl) v51 (((gI_sW).trans ((gI_sW).trans ((gI_sW).trans ((gI_sW).trans ((gI_sW).trans (gI_sW)))))).trans hv51) ?_
    refine r_iconst 1 rfl ?_
    refine q_iadd (v51.toInt + 1) rfl (by omega) (fun v72 hv72 => ?_)
    refine q_putI (Sh.int hI70.1 kx_1 rfl) rfl ?_
    have hI73 := HI.wI1 hI70 kx_1 rfl (p := 1) (b := 4) (v := v72) rfl (by dsimp only; omega)
    have hF74 := Fr.wI (p := 1) (b := 4) (v := v72) hF71 rfl
    refine r_aload_n rfl ?_
    refine q_getI (Sh.int hI73.1 kx_1 rfl) v72 (gI_sI_eq hI70.1 kx_1 rfl _) ?_
    refine r_iconst 1 rfl ?_
    refine q_isub (v72.toInt - 1) rfl (by omega) (fun v75 hv75 => ?_)
    refine r_ireti ?_
    have x76 := HI.eqI hI73 (p := 1) (b := 4) ((gI_sI_eq hI70.1 kx_1 rfl _))
    have x77 := HI.eqI hI0 (p := 1) (b := 4) (hv51)
    exact ⟨_, rfl, hI73, hF74, _, rfl, by omega, ⟨by omega, by omega, (by intro i i0 i1; exact (Decidable.em ((gI g0 1 4).toInt < 8 ∧ i = 6 * (gI g0 1 4).toInt + 0)).elim (fun k12_ => by refine Eq.trans ?_ (if_pos k12_).symm; refine (eA_ti ((gA_sI))).trans ?_; exact (Decidable.em (i = (6 * v51.toInt + 5))).elim (fun k13_ => by refine (eA_eqT hI67.1 ka_5 k13_ (by first | decide | omega) (by first | decide | omega)).trans ?_; (first | (with_reducible rfl) | (omega) | (rfl))) (fun k13_ => by refine (eA_neT hI67.1 ka_5 k13_ (by first | decide | omega) (by omega)).trans ?_; exact (Decidable.em (i = (6 * v51.toInt + 4))).elim (fun k14_ => by refine (eA_eqT hI64.1 ka_5 k14_ (by first | decide | omega) (by first | decide | omega)).trans ?_; (first | (with_reducible rfl) | (omega) | (rfl))) (fun k14_ => by refine (eA_neT hI64.1 ka_5 k14_ (by first | decide | omega) (by omega)).trans ?_; exact (Decidable.em (i = (6 * v51.toInt + 3))).elim (fun k15_ => by refine (eA_eqT hI61.1 ka_5 k15_ (by first | decide | omega) (by first | decide | omega)).trans ?_; (first | (with_reducible rfl) | (omega) | (rfl))) (fun k15_ => by refine (eA_neT hI61.1 ka_5 k15_ (by first | decide | omega) (by omega)).trans ?_; exact (Decidable.em (i = (6 * v51.toInt + 2))).elim (fun k16_ => by refine (eA_eqT hI58.1 ka_5 k16_ (by first | decide | omega) (by first | decide | omega)).trans ?_; (first | (with_reducible rfl) | (omega) | (rfl))) (fun k16_ => by refine (eA_neT hI58.1 ka_5 k16_ (by first | decide | omega) (by omega)).trans ?_; exact (Decidable.em (i = (6 * v51.toInt + 1))).elim (fun k17_ => by refine (eA_eqT hI55.1 ka_5 k17_ (by first | decide | omega) (by first | decide | omega)).trans ?_; (first | (with_reducible rfl) | (omega) | (rfl))) (fun k17_ => by refine (eA_neT hI55.1 ka_5 k17_ (by first | decide | omega) (by omega)).trans ?_; exact (Decidable.em (i = (6 * v51.toInt))).elim (fun k18_ => by refine (eA_eqT hI0.1 ka_5 k18_ (by first | decide | omega) (by first | decide | omega)).trans ?_; (first | (with_reducible rfl) | (omega) | (rfl))) (fun k18_ => by refine (eA_neT hI0.1 ka_5 k18_ (by first | decide | omega) (by omega)).trans ?_; (first | with_reducible rfl | omega | exact eA_ix (by omega) | rfl)))))))) (fun k12_ => by refine Eq.trans ?_ (if_neg k12_).symm; exact (Decidable.em ((gI g0 1 4).toInt < 8 ∧ i = 6 * (gI g0 1 4).toInt + 1)).elim (fun k19_ => by refine Eq.trans ?_ (if_pos k19_).symm; refine (eA_ti ((gA_sI))).trans ?_; exact (Decidable.em (i = (6 * v51.toInt + 5))).elim (fun k20_ => by refine (eA_eqT hI67.1 ka_5 k20_ (by first | decide | omega) (by first | decide | omega)).trans ?_; (first | (with_reducible rfl) | (omega) | (rfl))) (fun k20_ => by refine (eA_neT hI67.1 ka_5 k20_ (by first | decide | omega) (by omega)).trans ?_; exact (Decidable.em (i = (6 * v51.toInt + 4))).elim (fun k21_ => by refine (eA_eqT hI64.1 ka_5 k21_ (by first | decide | omega) (by first | decide | omega)).trans ?_; (first | (with_reducible rfl) | (omega) | (rfl))) (fun k21_ => by refine (eA_neT hI64.1 ka_5 k21_ (by first | decide | omega) (by omega)).trans ?_; exact (Decidable.em (i = (6 * v51.toInt + 3))).elim (fun k22_ => by refine (eA_eqT hI61.1 ka_5 k22_ (by first | decide | omega) (by first | decide | omega)).trans ?_; (first | (with_reducible rfl) | (omega) | (rfl))) (fun k22_ => by refine (eA_neT hI61.1 ka_5 k22_ (by first | decide | omega) (by omega)).trans ?_; exact (Decidable.em (i = (6 * v51.toInt + 2))).elim (fun k23_ => by refine (eA_eqT hI58.1 ka_5 k23_ (by first | decide | omega) (by first | decide | omega)).trans ?_; (first | (with_reducible rfl) | (omega) | (rfl))) (fun k23_ => by refine (eA_neT hI58.1 ka_5 k23_ (by first | decide | omega) (by omega)).trans ?_; exact (Decidable.em (i = (6 * v51.toInt + 1))).elim (fun k24_ => by refine (eA_eqT hI55.1 ka_5 k24_ (by first | decide | omega) (by first | decide | omega)).trans ?_; (first | (with_reducible rfl) | (omega) | (rfl))) (fun k24_ => by refine (eA_neT hI55.1 ka_5 k24_ (by first | decide | omega) (by omega)).trans ?_; exact (Decidable.em (i = (6 * v51.toInt))).elim (fun k25_ => by refine (eA_eqT hI0.1 ka_5 k25_ (by first | decide | omega) (by first | decide | omega)).trans ?_; (first | (with_reducible rfl) | (omega) | (rfl))) (fun k25_ => by refine (eA_neT hI0.1 ka_5 k25_ (by first | decide | omega) (by omega)).trans ?_; (first | with_reducible rfl | omega | exact eA_ix (by omega) | rfl)))))))) (fun k19_ => by refine Eq.trans ?_ (if_neg k19_).symm; exact (Decidable.em ((gI g0 1 4).toInt < 8 ∧ i = 6 * (gI g0 1 4).toInt + 2)).elim (fun k26_ => by refine Eq.trans ?_ (if_pos k26_).symm; refine (eA_ti ((gA_sI))).trans ?_; exact (Decidable.em (i = (6 * v51.toInt + 5))).elim (fun k27_ => by refine (eA_eqT hI67.1 ka_5 k27_ (by first | decide | omega) (by first | decide | omega)).trans ?_; (first | (with_reducible rfl) | (omega) | (rfl))) (fun k27_ => by refine (eA_neT hI67.1 ka_5 k27_ (by first | decide | omega) (by omega)).trans ?_; exact (Decidable.em (i = (6 * v51.toInt + 4))).elim (fun k28_ => by refine (eA_eqT hI64.1 ka_5 k28_ (by first | decide | omega) (by first | decide | omega)).trans ?_; (first | (with_reducible rfl) | (omega) | (rfl))) (fun k28_ => by refine (eA_neT hI64.1 ka_5 k28_ (by first | decide | omega) (by omega)).trans ?_; exact (Decidable.em (i = (6 * v51.toInt + 3))).elim (fun k29_ => by refine (eA_eqT hI61.1 ka_5 k29_ (by first | decide | omega) (by first | decide | omega)).trans ?_; (first | (with_reducible rfl) | (omega) | (rfl))) (fun k29_ => by refine (eA_neT hI61.1 ka_5 k29_ (by first | decide | omega) (by omega)).trans ?_; exact (Decidable.em (i = (6 * v51.toInt + 2))).elim (fun k30_ => by refine (eA_eqT hI58.1 ka_5 k30_ (by first | decide | omega) (by first | decide | omega)).trans ?_; (first | (with_reducible rfl) | (omega) | (rfl))) (fun k30_ => by refine (eA_neT hI58.1 ka_5 k30_ (by first | decide | omega) (by omega)).trans ?_; exact (Decidable.em (i = (6 * v51.toInt + 1))).elim (fun k31_ => by refine (eA_eqT hI55.1 ka_5 k31_ (by first | decide | omega) (by first | decide | omega)).trans ?_; (first | (with_reducible rfl) | (omega) | (rfl))) (fun k31_ => by refine (eA_neT hI55.1 ka_5 k31_ (by first | decide | omega) (by omega)).trans ?_; exact (Decidable.em (i = (6 * v51.toInt))).elim (fun k32_ => by refine (eA_eqT hI0.1 ka_5 k32_ (by first | decide | omega) (by first | decide | omega)).trans ?_; (first | (with_reducible rfl) | (omega) | (rfl))) (fun k32_ => by refine (eA_neT hI0.1 ka_5 k32_ (by first | decide | omega) (by omega)).trans ?_; (first | with_reducible rfl | omega | exact eA_ix (by omega) | rfl)))))))) (fun k26_ => by refine Eq.trans ?_ (if_neg k26_).symm; exact (Decidable.em ((gI g0 1 4).toInt < 8 ∧ i = 6 * (gI g0 1 4).toInt + 3)).elim (fun k33_ => by refine Eq.trans ?_ (if_pos k33_).symm; refine (eA_ti ((gA_sI))).trans ?_; exact (Decidable.em (i = (6 * v51.toInt + 5))).elim (fun k34_ => by refine (eA_eqT hI67.1 ka_5 k34_ (by first | decide | omega) (by first | decide | omega)).trans ?_; (first | (with_reducible rfl) | (omega) | (rfl))) (fun k34_ => by refine (eA_neT hI67.1 ka_5 k34_ (by first | decide | omega) (by omega)).trans ?_; exact (Decidable.em (i = (6 * v51.toInt + 4))).elim (fun k35_ => by refine (eA_eqT hI64.1 ka_5 k35_ (by first | decide | omega) (by first | decide | omega)).trans ?_; (first | (with_reducible rfl) | (omega) | (rfl))) (fun k35_ => by refine (eA_neT hI64.1 ka_5 k35_ (by first | decide | omega) (by omega)).trans ?_; exact (Decidable.em (i = (6 * v51.toInt + 3))).elim (fun k36_ => by refine (eA_eqT hI61.1 ka_5 k36_ (by first | decide | omega) (by first | decide | omega)).trans ?_; (first | (with_reducible rfl) | (omega) | (rfl))) (fun k36_ => by refine (eA_neT hI61.1 ka_5 k36_ (by first | decide | omega) (by omega)).trans ?_; exact (Decidable.em (i = (6 * v51.toInt + 2))).elim (fun k37_ => by refine (eA_eqT hI58.1 ka_5 k37_ (by first | decide | omega) (by first | decide | omega)).trans ?_; (first | (with_reducible rfl) | (omega) | (rfl))) (fun k37_ => by refine (eA_neT hI58.1 ka_5 k37_ (by first | decide | omega) (by omega)).trans ?_; exact (Decidable.em (i = (6 * v51.toInt + 1))).elim (fun k38_ => by refine (eA_eqT hI55.1 ka_5 k38_ (by first | decide | omega) (by first | decide | omega)).trans ?_; (first | (with_reducible rfl) | (omega) | (rfl))) (fun k38_ => by refine (eA_neT hI55.1 ka_5 k38_ (by first | decide | omega) (by omega)).trans ?_; exact (Decidable.em (i = (6 * v51.toInt))).elim (fun k39_ => by refine (eA_eqT hI0.1 ka_5 k39_ (by first | decide | omega) (by first | decide | omega)).trans ?_; (first | (with_reducible rfl) | (omega) | (rfl))) (fun k39_ => by refine (eA_neT hI0.1 ka_5 k39_ (by first | decide | omega) (by omega)).trans ?_; (first | with_reducible rfl | omega | exact eA_ix (by omega) | rfl)))))))) (fun k33_ => by refine Eq.trans ?_ (if_neg k33_).symm; exact (Decidable.em ((gI g0 1 4).toInt < 8 ∧ i = 6 * (gI g0 1 4).toInt + 4)).elim (fun k40_ => by refine Eq.trans ?_ (if_pos k40_).symm; refine (eA_ti ((gA_sI))).trans ?_; exact (Decidable.em (i = (6 * v51.toInt + 5))).elim (fun k41_ => by refine (eA_eqT hI67.1 ka_5 k41_ (by first | decide | omega) (by first | decide | omega)).trans ?_; (first | (with_reducible rfl) | (omega) | (rfl))) (fun k41_ => by refine (eA_neT hI67.1 ka_5 k41_ (by first | decide | omega) (by omega)).trans ?_; exact (Decidable.em (i = (6 * v51.toInt + 4))).elim (fun k42_ => by refine (eA_eqT hI64.1 ka_5 k42_ (by first | decide | omega) (by first | decide | omega)).trans ?_; (first | (with_reducible rfl) | (omega) | (rfl))) (fun k42_ => by refine (eA_neT hI64.1 ka_5 k42_ (by first | decide | omega) (by omega)).trans ?_; exact (Decidable.em (i = (6 * v51.toInt + 3))).elim (fun k43_ => by refine (eA_eqT hI61.1 ka_5 k43_ (by first | decide | omega) (by first | decide | omega)).trans ?_; (first | (with_reducible rfl) | (omega) | (rfl))) (fun k43_ => by refine (eA_neT hI61.1 ka_5 k43_ (by first | decide | omega) (by omega)).trans ?_; exact (Decidable.em (i = (6 * v51.toInt + 2))).elim (fun k44_ => by refine (eA_eqT hI58.1 ka_5 k44_ (by first | decide | omega) (by first | decide | omega)).trans ?_; (first | (with_reducible rfl) | (omega) | (rfl))) (fun k44_ => by refine (eA_neT hI58.1 ka_5 k44_ (by first | decide | omega) (by omega)).trans ?_; exact (Decidable.em (i = (6 * v51.toInt + 1))).elim (fun k45_ => by refine (eA_eqT hI55.1 ka_5 k45_ (by first | decide | omega) (by first | decide | omega)).trans ?_; (first | (with_reducible rfl) | (omega) | (rfl))) (fun k45_ => by refine (eA_neT hI55.1 ka_5 k45_ (by first | decide | omega) (by omega)).trans ?_; exact (Decidable.em (i = (6 * v51.toInt))).elim (fun k46_ => by refine (eA_eqT hI0.1 ka_5 k46_ (by first | decide | omega) (by first | decide | omega)).trans ?_; (first | (with_reducible rfl) | (omega) | (rfl))) (fun k46_ => by refine (eA_neT hI0.1 ka_5 k46_ (by first | decide | omega) (by omega)).trans ?_; (first | with_reducible rfl | omega | exact eA_ix (by omega) | rfl)))))))) (fun k40_ => by refine Eq.trans ?_ (if_neg k40_).symm; exact (Decidable.em ((gI g0 1 4).toInt < 8 ∧ i = 6 * (gI g0 1 4).toInt + 5)).elim (fun k47_ => by refine Eq.trans ?_ (if_pos k47_).symm; refine (eA_ti ((gA_sI))).trans ?_; exact (Decidable.em (i = (6 * v51.toInt + 5))).elim (fun k48_ => by refine (eA_eqT hI67.1 ka_5 k48_ (by first | decide | omega) (by first | decide | omega)).trans ?_; (first | (with_reducible rfl) | (omega) | (rfl))) (fun k48_ => by refine (eA_neT hI67.1 ka_5 k48_ (by first | decide | omega) (by omega)).trans ?_; exact (Decidable.em (i = (6 * v51.toInt + 4))).elim (fun k49_ => by refine (eA_eqT hI64.1 ka_5 k49_ (by first | decide | omega) (by first | decide | omega)).trans ?_; (first | (with_reducible rfl) | (omega) | (rfl))) (fun k49_ => by refine (eA_neT hI64.1 ka_5 k49_ (by first | decide | omega) (by omega)).trans ?_; exact (Decidable.em (i = (6 * v51.toInt + 3))).elim (fun k50_ => by refine (eA_eqT hI61.1 ka_5 k50_ (by first | decide | omega) (by first | decide | omega)).trans ?_; (first | (with_reducible rfl) | (omega) | (rfl))) (fun k50_ => by refine (eA_neT hI61.1 ka_5 k50_ (by first | decide | omega) (by omega)).trans ?_; exact (Decidable.em (i = (6 * v51.toInt + 2))).elim (fun k51_ => by refine (eA_eqT hI58.1 ka_5 k51_ (by first | decide | omega) (by first | decide | omega)).trans ?_; (first | (with_reducible rfl) | (omega) | (rfl))) (fun k51_ => by refine (eA_neT hI58.1 ka_5 k51_ (by first | decide | omega) (by omega)).trans ?_; exact (Decidable.em (i = (6 * v51.toInt + 1))).elim (fun k52_ => by refine (eA_eqT hI55.1 ka_5 k52_ (by first | decide | omega) (by first | decide | omega)).trans ?_; (first | (with_reducible rfl) | (omega) | (rfl))) (fun k52_ => by refine (eA_neT hI55.1 ka_5 k52_ (by first | decide | omega) (by omega)).trans ?_; exact (Decidable.em (i = (6 * v51.toInt))).elim (fun k53_ => by refine (eA_eqT hI0.1 ka_5 k53_ (by first | decide | omega) (by first | decide | omega)).trans ?_; (first | (with_reducible rfl) | (omega) | (rfl))) (fun k53_ => by refine (eA_neT hI0.1 ka_5 k53_ (by first | decide | omega) (by omega)).trans ?_; (first | with_reducible rfl | omega | exact eA_ix (by omega) | rfl)))))))) (fun k47_ => by refine Eq.trans ?_ (if_neg k47_).symm; refine (eA_ti ((gA_sI))).trans ?_; exact (Decidable.em (i = (6 * v51.toInt + 5))).elim (fun k54_ => by refine (eA_eqT hI67.1 ka_5 k54_ (by first | decide | omega) (by first | decide | omega)).trans ?_; (first | (with_reducible rfl) | (omega) | (rfl))) (fun k54_ => by refine (eA_neT hI67.1 ka_5 k54_ (by first | decide | omega) (by omega)).trans ?_; exact (Decidable.em (i = (6 * v51.toInt + 4))).elim (fun k55_ => by refine (eA_eqT hI64.1 ka_5 k55_ (by first | decide | omega) (by first | decide | omega)).trans ?_; (first | (with_reducible rfl) | (omega) | (rfl))) (fun k55_ => by refine (eA_neT hI64.1 ka_5 k55_ (by first | decide | omega) (by omega)).trans ?_; exact (Decidable.em (i = (6 * v51.toInt + 3))).elim (fun k56_ => by refine (eA_eqT hI61.1 ka_5 k56_ (by first | decide | omega) (by first | decide | omega)).trans ?_; (first | (with_reducible rfl) | (omega) | (rfl))) (fun k56_ => by refine (eA_neT hI61.1 ka_5 k56_ (by first | decide | omega) (by omega)).trans ?_; exact (Decidable.em (i = (6 * v51.toInt + 2))).elim (fun k57_ => by refine (eA_eqT hI58.1 ka_5 k57_ (by first | decide | omega) (by first | decide | omega)).trans ?_; (first | (with_reducible rfl) | (omega) | (rfl))) (fun k57_ => by refine (eA_neT hI58.1 ka_5 k57_ (by first | decide | omega) (by omega)).trans ?_; exact (Decidable.em (i = (6 * v51.toInt + 1))).elim (fun k58_ => by refine (eA_eqT hI55.1 ka_5 k58_ (by first | decide | omega) (by first | decide | omega)).trans ?_; (first | (with_reducible rfl) | (omega) | (rfl))) (fun k58_ => by refine (eA_neT hI55.1 ka_5 k58_ (by first | decide | omega) (by omega)).trans ?_; exact (Decidable.em (i = (6 * v51.toInt))).elim (fun k59_ => by refine (eA_eqT hI0.1 ka_5 k59_ (by first | decide | omega) (by first | decide | omega)).trans ?_; (first | (with_reducible rfl) | (omega) | (rfl))) (fun k59_ => by refine (eA_neT hI0.1 ka_5 k59_ (by first | decide | omega) (by omega)).trans ?_; (first | with_reducible rfl | omega | exact eA_ix (by omega) | rfl))))))))))))))⟩⟩
  · have c52_ : v51.toInt ≥ 8 := en_i_lt_f c52
    refine At.enter rfl ?_
    refine r_iconst (-1) rfl ?_
    refine r_ireti ?_
    have zv78 : ((-1) : Int32).toInt = (-1) := rfl
    have x79 := HI.eqI hI0 (p := 1) (b := 4) (hv51)
    have x80 := HI.eqI hI0 (p := 1) (b := 4) (hv51)
    exact ⟨_, rfl, hI0, hF0, _, rfl, by decide, ⟨by omega, by omega, (by intro i i0 i1; refine Eq.trans ?_ (if_neg (show ¬ ((gI g0 1 4).toInt < 8 ∧ i = 6 * (gI g0 1 4).toInt + 0) from by omega)).symm; refine Eq.trans ?_ (if_neg (show ¬ ((gI g0 1 4).toInt < 8 ∧ i = 6 * (gI g0 1 4).toInt + 1) from by omega)).symm; refine Eq.trans ?_ (if_neg (show ¬ ((gI g0 1 4).toInt < 8 ∧ i = 6 * (gI g0 1 4).toInt + 2) from by omega)).symm; refine Eq.trans ?_ (if_neg (show ¬ ((gI g0 1 4).toInt < 8 ∧ i = 6 * (gI g0 1 4).toInt + 3) from by omega)).symm; refine Eq.trans ?_ (if_neg (show ¬ ((gI g0 1 4).toInt < 8 ∧ i = 6 * (gI g0 1 4).toInt + 4) from by omega)).symm; refine Eq.trans ?_ (if_neg (show ¬ ((gI g0 1 4).toInt < 8 ∧ i = 6 * (gI g0 1 4).toInt + 5) from by omega)).symm; (first | with_reducible rfl | omega | exact eA_ix (by omega) | rfl))⟩⟩

def F_X0_removeLoad_1 : List (Nat × Nat) := [(1, 4)]
def A_X0_removeLoad_1 : List Nat := [5]
set_option maxRecDepth 100000 in
set_option maxHeartbeats 4000000 in
theorem T_X0_removeLoad_1 (d : Nat) {N : Nat} {g0 : List en_E} (hI0 : HI g0) (a1 : Int32) : Ev (d + 2) 7 [.ref 1, .int a1] (g0, N) (fun w h' => ∃ g', h' = (g', N) ∧ HI g' ∧ Fr F_X0_removeLoad_1 A_X0_removeLoad_1 g0 g' ∧ w = none ∧ ((0 ≤ a1.toInt ∧ a1.toInt < (gI g0 1 4).toInt → (gI g' 1 4).toInt = (gI g0 1 4).toInt - 1) ∧ (¬ (0 ≤ a1.toInt ∧ a1.toInt < (gI g0 1 4).toInt) → (gI g' 1 4).toInt = (gI g0 1 4).toInt) ∧ (∀ i : Int, 0 ≤ i → i < 48 → (eA g' 5 (i)).toInt = if (0 ≤ a1.toInt ∧ a1.toInt < (gI g0 1 4).toInt) ∧ 6 * a1.toInt ≤ i ∧ i < 6 * (gI g0 1 4).toInt - 6 then (eA g0 5 (i + 6)).toInt else (eA g0 5 (i)).toInt))) := by
  have hF0 : Fr F_X0_removeLoad_1 A_X0_removeLoad_1 g0 g0 := Fr.rf
  refine Ev.mk rfl rfl ⟨Nat.le_of_ble_eq_true rfl, Or.inr (q_rc hI0.1 kx_1 rfl)⟩ ?_
  show At _ none _ _ (0, [(0, .ref 1), (1, .int a1)], [], (_, _)) _
  refine At.enter rfl ?_
  refine r_aload_n rfl ?_
  refine r_iload_n rfl ?_
  refine q_inlV 5 rfl [.ref 1, .int a1] [] (Nat.le_of_ble_eq_true rfl) rfl ?_
  refine Ev.mk rfl rfl ⟨Nat.le_of_ble_eq_true rfl, Or.inr (q_rc hI0.1 kx_1 rfl)⟩ ?_
  show At _ none _ _ (0, [(0, .ref 1), (1, .int a1)], [], (_, _)) _
  refine At.enter rfl ?_
  refine r_iload_n rfl ?_
  refine r_ifs 4 rfl (fun c31 => ?_) (fun c31 => ?_)
  · have c31_ : a1.toInt < 0 := en_k_lt_t c31
    refine At.enter rfl ?_
    refine r_iconst 0 rfl ?_
    refine Ar.fall 17 rfl ?_
    refine At.enter rfl ?_
    refine q_iretz (by decide) ?_
    refine At.enter rfl ?_
    refine r_ift (by decide) ?_
    refine At.enter rfl ?_
    refine r_vret ?_
    obtain ⟨v32, hv32⟩ : ∃ v, gI g0 1 4 = v := ⟨_, rfl⟩
    have rv32 := RgF.at hI0.2.1 (p := 1) (b := 4) rfl
    rw [hv32] at rv32
    dsimp only at rv32
    have tv32 := congrArg Int32.toInt hv32
    exact ⟨_, rfl, hI0, hF0, rfl, ⟨by omega, by omega, (by intro i i0 i1; refine Eq.trans ?_ (if_neg (show ¬ ((0 ≤ a1.toInt ∧ a1.toInt < (gI g0 1 4).toInt) ∧ 6 * a1.toInt ≤ i ∧ i < 6 * (gI g0 1 4).toInt - 6) from by omega)).symm; (first | with_reducible rfl | omega | exact eA_ix (by omega) | rfl))⟩⟩
  · have c31_ : a1.toInt ≥ 0 := en_k_lt_f c31
    refine At.enter rfl ?_
    refine r_iload_n rfl ?_
    refine r_aload_n rfl ?_
    obtain ⟨v35, hv35⟩ : ∃ v, gI g0 1 4 = v := ⟨_, rfl⟩
    have rv35 := RgF.at hI0.2.1 (p := 1) (b := 4) rfl
    rw [hv35] at rv35
    dsimp only at rv35
    refine q_getI (Sh.int hI0.1 kx_1 rfl) v35 hv35 ?_
    have bv37 := q_bnd a1
    have bv38 := q_bnd v35
    refine r_ics 12 rfl (fun c36 => ?_) (fun c36 => ?_)
    · have c36_ : a1.toInt ≥ v35.toInt := en_i_ge_t c36
      refine At.enter rfl ?_
      refine r_iconst 0 rfl ?_
      refine Ar.fall 17 rfl ?_
      refine At.enter rfl ?_
      refine q_iretz (by decide) ?_
      refine At.enter rfl ?_
      refine r_ift (by decide) ?_
      refine At.enter rfl ?_
      refine r_vret ?_
      have x39 := HI.eqI hI0 (p := 1) (b := 4) (hv35)
      have x40 := HI.eqI hI0 (p := 1) (b := 4) (hv35)
      exact ⟨_, rfl, hI0, hF0, rfl, ⟨by omega, by omega, (by intro i i0 i1; refine Eq.trans ?_ (if_neg (show ¬ ((0 ≤ a1.toInt ∧ a1.toInt < (gI g0 1 4).toInt) ∧ 6 * a1.toInt ≤ i ∧ i < 6 * (gI g0 1 4).toInt - 6) from by omega)).symm; (first | with_reducible rfl | omega | exact eA_ix (by omega) | rfl))⟩⟩
    · have c36_ : a1.toInt < v35.toInt := en_i_ge_f c36
      refine At.enter rfl ?_
      refine r_iconst 1 rfl ?_
      refine r_goto ?_
      refine At.enter rfl ?_
      refine q_iretz (by decide) ?_
      refine At.enter rfl ?_
      refine r_iff 8 rfl (by decide) ?_
      refine At.enter rfl ?_
      refine r_iload_n rfl ?_
      refine r_iconst 1 rfl ?_
      refine q_iadd (a1.toInt + 1) rfl (by omega) (fun v41 hv41 => ?_)
      refine r_bipush 6 rfl ?_
      refine q_imul (v41.toInt * 6) rfl (by omega) (fun v42 hv42 => ?_)
      refine r_istore_n ([(2, .int v42), (0, .ref 1), (1, .int a1)]) rfl ?_
      refine r_aload_n rfl ?_
      refine q_getR (Sh.ref hI0.1 kx_1 rfl) ?_
      refine r_iload_n rfl ?_
      refine r_aload_n rfl ?_
      refine q_getR (Sh.ref hI0.1 kx_1 rfl) ?_
      refine r_iload_n rfl ?_
      refine r_bipush 6 rfl ?_
      refine q_imul (a1.toInt * 6) rfl (by omega) (fun v43 hv43 => ?_)
      refine r_aload_n rfl ?_
      refine q_getI (Sh.int hI0.1 kx_1 rfl) v35 hv35 ?_
      refine r_bipush 6 rfl ?_
      refine q_imul (v35.toInt * 6) rfl (by omega) (fun v44 hv44 => ?_)
      refine r_iload_n rfl ?_
      refine q_isub (v44.toInt - v42.toInt) rfl (by omega) (fun v45 hv45 => ?_)
      refine q_cpy rfl (Nat.le_of_ble_eq_true rfl) (Sh.arr hI0.1 ka_5) (Sh.arr hI0.1 ka_5) ⟨by omega, by omega, by omega, by omega, by omega⟩ ?_
      have hI46 := HI.cpy0 hI0 ka_5 ka_5 rfl rfl ((v42 : Int32).toInt.toNat) ((v43 : Int32).toInt.toNat) ((v45 : Int32).toInt.toNat) (by omega) (by omega)
      have hF47 := Fr.cpy (p0 := 5) (p1 := 5) hF0 rfl ((v42 : Int32).toInt.toNat) ((v43 : Int32).toInt.toNat) ((v45 : Int32).toInt.toNat)
      refine r_aload_n rfl ?_
      refine r_dup rfl ?_
      refine q_getI (Sh.int hI46.1 kx_1 rfl) v35 ((gI_sW).trans hv35) ?_
      refine r_iconst 1 rfl ?_
      refine q_isub (v35.toInt - 1) rfl (by omega) (fun v48 hv48 => ?_)
      refine q_putI (Sh.int hI46.1 kx_1 rfl) rfl ?_
      have hI49 := HI.wI1 hI46 kx_1 rfl (p := 1) (b := 4) (v := v48) rfl (by dsimp only; omega)
      have hF50 := Fr.wI (p := 1) (b := 4) (v := v48) hF47 rfl
      refine Ar.fall 50 rfl ?_
      refine At.enter rfl ?_
      refine r_vret ?_
      have x51 := HI.eqI hI49 (p := 1) (b := 4) ((gI_sI_eq hI46.1 kx_1 rfl _))
      have x52 := HI.eqI hI0 (p := 1) (b := 4) (hv35)
      exact ⟨_, rfl, hI49, hF50, rfl, ⟨by omega, by omega, (by intro i i0 i1; exact (Decidable.em ((0 ≤ a1.toInt ∧ a1.toInt < (gI g0 1 4).toInt) ∧ 6 * a1.toInt ≤ i ∧ i < 6 * (gI g0 1 4).toInt - 6)).elim (fun k60_ => by refine Eq.trans ?_ (if_pos k60_).symm; refine (eA_ti ((gA_sI))).trans ?_; exact (Decidable.em ((6 * a1.toInt) ≤ i ∧ i < (6 * v35.toInt + (-6)))).elim (fun k61_ => by refine (eA_cpI hI0.1 ka_5 ka_5 (sp := (v42 : Int32).toInt.toNat) (dp := (v43 : Int32).toInt.toNat) (m := (v45 : Int32).toInt.toNat) (by omega) (by omega) (i := i) (i' := i + 6) (by omega) (by omega) (by omega)).trans ?_; (first | with_reducible rfl | omega | exact eA_ix (by omega) | rfl)) (fun k61_ => by refine (eA_cpO hI0.1 ka_5 ka_5 (sp := (v42 : Int32).toInt.toNat) (dp := (v43 : Int32).toInt.toNat) (m := (v45 : Int32).toInt.toNat) (by omega) (by omega) (i := i) (by omega) (by omega)).trans ?_; (first | with_reducible rfl | omega | exact eA_ix (by omega) | rfl))) (fun k60_ => by refine Eq.trans ?_ (if_neg k60_).symm; refine (eA_ti ((gA_sI))).trans ?_; exact (Decidable.em ((6 * a1.toInt) ≤ i ∧ i < (6 * v35.toInt + (-6)))).elim (fun k62_ => by refine (eA_cpI hI0.1 ka_5 ka_5 (sp := (v42 : Int32).toInt.toNat) (dp := (v43 : Int32).toInt.toNat) (m := (v45 : Int32).toInt.toNat) (by omega) (by omega) (i := i) (i' := i + 6) (by omega) (by omega) (by omega)).trans ?_; (first | with_reducible rfl | omega | exact eA_ix (by omega) | rfl)) (fun k62_ => by refine (eA_cpO hI0.1 ka_5 ka_5 (sp := (v42 : Int32).toInt.toNat) (dp := (v43 : Int32).toInt.toNat) (m := (v45 : Int32).toInt.toNat) (by omega) (by omega) (i := i) (by omega) (by omega)).trans ?_; (first | with_reducible rfl | omega | exact eA_ix (by omega) | rfl))))⟩⟩

def F_X10_stand_0 : List (Nat × Nat) := [(0, 14), (0, 17), (1, 0), (220, 2), (222, 2), (223, 5), (223, 10)]
def A_X10_stand_0 : List Nat := [2, 3, 4, 230]
theorem mf_X10_refused_0_1_0 : memF F_X10_refused_0 1 0 = false := by decide
theorem ma_X10_refused_0_2 : memA A_X10_refused_0 2 = false := by decide
theorem ma_X10_refused_0_3 : memA A_X10_refused_0 3 = false := by decide
theorem ma_X10_refused_0_4 : memA A_X10_refused_0 4 = false := by decide
theorem mf_X10_changed_0_1_0 : memF F_X10_changed_0 1 0 = false := by decide
theorem ma_X10_changed_0_2 : memA A_X10_changed_0 2 = false := by decide
theorem ma_X10_changed_0_3 : memA A_X10_changed_0 3 = false := by decide
theorem ma_X10_changed_0_4 : memA A_X10_changed_0 4 = false := by decide
set_option maxRecDepth 100000 in
set_option maxHeartbeats 4000000 in
theorem T_X10_stand_0 (d : Nat) {N : Nat} {g0 : List en_E} (hI0 : HI g0) (a1 : Int32) (a2 : Int32) (a3 : Int32) : Ev (d + 3) 104 [.ref 0, .int a1, .int a2, .int a3] (g0, N) (fun w h' => ∃ g', h' = (g', N) ∧ HI g' ∧ Fr F_X10_stand_0 A_X10_stand_0 g0 g' ∧ ∃ r : Int32, w = some (.int r) ∧ ((-5) ≤ r.toInt ∧ r.toInt ≤ 11) ∧ ((((¬ (-1 ≤ a1.toInt ∧ a1.toInt ≤ 11 ∧ 1 ≤ a2.toInt ∧ a2.toInt ≤ 9 ∧ 0 ≤ a3.toInt ∧ a3.toInt ≤ 99) → r.toInt = -1 ∧ (gI g' 1 0).toInt = (gI g0 1 0).toInt) ∧ ((-1 ≤ a1.toInt ∧ a1.toInt ≤ 11 ∧ 1 ≤ a2.toInt ∧ a2.toInt ≤ 9 ∧ 0 ≤ a3.toInt ∧ a3.toInt ≤ 99) ∧ 12 ≤ (gI g0 1 0).toInt → r.toInt = -5 ∧ (gI g' 1 0).toInt = (gI g0 1 0).toInt) ∧ ((-1 ≤ a1.toInt ∧ a1.toInt ≤ 11 ∧ 1 ≤ a2.toInt ∧ a2.toInt ≤ 9 ∧ 0 ≤ a3.toInt ∧ a3.toInt ≤ 99) ∧ (gI g0 1 0).toInt < 12 → r.toInt = (gI g0 1 0).toInt ∧ (gI g' 1 0).toInt = (gI g0 1 0).toInt + 1)) ∧ (∀ i : Int, 0 ≤ i → i < 12 → (eA g' 2 (i)).toInt = if ((-1 ≤ a1.toInt ∧ a1.toInt ≤ 11 ∧ 1 ≤ a2.toInt ∧ a2.toInt ≤ 9 ∧ 0 ≤ a3.toInt ∧ a3.toInt ≤ 99) ∧ (gI g0 1 0).toInt < 12) ∧ i = (gI g0 1 0).toInt then a1.toInt else (eA g0 2 (i)).toInt) ∧ (∀ i : Int, 0 ≤ i → i < 12 → (eA g' 3 (i)).toInt = if ((-1 ≤ a1.toInt ∧ a1.toInt ≤ 11 ∧ 1 ≤ a2.toInt ∧ a2.toInt ≤ 9 ∧ 0 ≤ a3.toInt ∧ a3.toInt ≤ 99) ∧ (gI g0 1 0).toInt < 12) ∧ i = (gI g0 1 0).toInt then a2.toInt else (eA g0 3 (i)).toInt) ∧ (∀ i : Int, 0 ≤ i → i < 12 → (eA g' 4 (i)).toInt = if ((-1 ≤ a1.toInt ∧ a1.toInt ≤ 11 ∧ 1 ≤ a2.toInt ∧ a2.toInt ≤ 9 ∧ 0 ≤ a3.toInt ∧ a3.toInt ≤ 99) ∧ (gI g0 1 0).toInt < 12) ∧ i = (gI g0 1 0).toInt then a3.toInt else (eA g0 4 (i)).toInt)) ∧ ((TOLDX g0 → TOLDX g') ∧ (SETX g0 → SETX g')))) := by
  have hF0 : Fr F_X10_stand_0 A_X10_stand_0 g0 g0 := Fr.rf
  refine Ev.mk rfl rfl ⟨Nat.le_of_ble_eq_true rfl, Or.inr (q_rc hI0.1 kx_0 rfl)⟩ ?_
  show At _ none _ _ (0, [(0, .ref 0), (1, .int a1), (2, .int a2), (3, .int a3)], [], (_, _)) _
  refine At.enter rfl ?_
  refine r_iload_n rfl ?_
  refine r_iconst (-1) rfl ?_
  refine r_bipush 11 rfl ?_
  refine q_inlS 7 rfl [.int a1, .int (-1), .int 11] [] (Nat.le_of_ble_eq_true rfl) rfl ?_
  refine Ev.mk rfl rfl ⟨Nat.le_of_ble_eq_true rfl, Or.inl rfl⟩ ?_
  show At _ none _ _ (0, [(0, .int a1), (1, .int (-1)), (2, .int 11)], [], (_, _)) _
  refine At.enter rfl ?_
  refine r_iload_n rfl ?_
  refine r_iload_n rfl ?_
  refine r_ics 5 rfl (fun c153 => ?_) (fun c153 => ?_)
  · have c153_ : a1.toInt < (-1) := en_i_lt_t c153
    refine At.enter rfl ?_
    refine r_iconst 0 rfl ?_
    refine Ar.fall 15 rfl ?_
    refine At.enter rfl ?_
    refine q_iretz (by decide) ?_
    refine At.enter rfl ?_
    refine r_ift (by decide) ?_
    refine At.enter rfl ?_
    refine r_aload_n rfl ?_
    refine r_iconst (-1) rfl ?_
    refine r_callV 29 rfl [.ref 0, .int (-1)] [] (Nat.le_of_ble_eq_true rfl) rfl (T_X10_refused_0 _ hI0 (-1) (by decide)) ?_
    rintro _ _ ⟨g154, rfl, hI155, hF156, v157, rfl, hr158⟩
    refine At.sti ?_
    have hF159 := Fr.tr hF0 hF156 rfl rfl
    have zv160 : ((-1) : Int32).toInt = (-1) := rfl
    refine At.enter rfl ?_
    refine r_ireti ?_
    obtain ⟨v161, hv161⟩ : ∃ v, gI g0 1 0 = v := ⟨_, rfl⟩
    have rv161 := RgF.at hI0.2.1 (p := 1) (b := 0) rfl
    rw [hv161] at rv161
    dsimp only at rv161
    have tv161 := congrArg Int32.toInt hv161
    have x162 := HI.eqI hI155 (p := 1) (b := 0) (((hF156.1 1 0 mf_X10_refused_0_1_0).trans hv161))
    exact ⟨_, rfl, hI155, hF159, _, rfl, by omega, ⟨⟨(by omega), (by intro i i0 i1; refine Eq.trans ?_ (if_neg (show ¬ (((-1 ≤ a1.toInt ∧ a1.toInt ≤ 11 ∧ 1 ≤ a2.toInt ∧ a2.toInt ≤ 9 ∧ 0 ≤ a3.toInt ∧ a3.toInt ≤ 99) ∧ (gI g0 1 0).toInt < 12) ∧ i = (gI g0 1 0).toInt) from by omega)).symm; refine (eA_ti ((hF156.2.1 2 ma_X10_refused_0_2))).trans ?_; (first | with_reducible rfl | omega | exact eA_ix (by omega) | rfl)), (by intro i i0 i1; refine Eq.trans ?_ (if_neg (show ¬ (((-1 ≤ a1.toInt ∧ a1.toInt ≤ 11 ∧ 1 ≤ a2.toInt ∧ a2.toInt ≤ 9 ∧ 0 ≤ a3.toInt ∧ a3.toInt ≤ 99) ∧ (gI g0 1 0).toInt < 12) ∧ i = (gI g0 1 0).toInt) from by omega)).symm; refine (eA_ti ((hF156.2.1 3 ma_X10_refused_0_3))).trans ?_; (first | with_reducible rfl | omega | exact eA_ix (by omega) | rfl)), (by intro i i0 i1; refine Eq.trans ?_ (if_neg (show ¬ (((-1 ≤ a1.toInt ∧ a1.toInt ≤ 11 ∧ 1 ≤ a2.toInt ∧ a2.toInt ≤ 9 ∧ 0 ≤ a3.toInt ∧ a3.toInt ≤ 99) ∧ (gI g0 1 0).toInt < 12) ∧ i = (gI g0 1 0).toInt) from by omega)).symm; refine (eA_ti ((hF156.2.1 4 ma_X10_refused_0_4))).trans ?_; (first | with_reducible rfl | omega | exact eA_ix (by omega) | rfl))⟩, ⟨(fun t => (TOLDX_fr hF156 rfl rfl rfl rfl t)), (fun t => (SETX_fr hF156 rfl rfl rfl rfl rfl t))⟩⟩⟩
  · have c153_ : a1.toInt ≥ (-1) := en_i_lt_f c153
    refine At.enter rfl ?_
    refine r_iload_n rfl ?_
    refine r_iload_n rfl ?_
    refine r_ics 10 rfl (fun c165 => ?_) (fun c165 => ?_)
    · have c165_ : a1.toInt > 11 := en_i_gt_t c165
      refine At.enter rfl ?_
      refine r_iconst 0 rfl ?_
      refine Ar.fall 15 rfl ?_
      refine At.enter rfl ?_
      refine q_iretz (by decide) ?_
      refine At.enter rfl ?_
      refine r_ift (by decide) ?_
      refine At.enter rfl ?_
      refine r_aload_n rfl ?_
      refine r_iconst (-1) rfl ?_
      refine r_callV 29 rfl [.ref 0, .int (-1)] [] (Nat.le_of_ble_eq_true rfl) rfl (T_X10_refused_0 _ hI0 (-1) (by decide)) ?_
      rintro _ _ ⟨g166, rfl, hI167, hF168, v169, rfl, hr170⟩
      refine At.sti ?_
      have hF171 := Fr.tr hF0 hF168 rfl rfl
      have zv172 : ((-1) : Int32).toInt = (-1) := rfl
      refine At.enter rfl ?_
      refine r_ireti ?_
      obtain ⟨v173, hv173⟩ : ∃ v, gI g0 1 0 = v := ⟨_, rfl⟩
      have rv173 := RgF.at hI0.2.1 (p := 1) (b := 0) rfl
      rw [hv173] at rv173
      dsimp only at rv173
      have tv173 := congrArg Int32.toInt hv173
      have x174 := HI.eqI hI167 (p := 1) (b := 0) (((hF168.1 1 0 mf_X10_refused_0_1_0).trans hv173))
      exact ⟨_, rfl, hI167, hF171, _, rfl, by omega, ⟨⟨(by omega), (by intro i i0 i1; refine Eq.trans ?_ (if_neg (show ¬ (((-1 ≤ a1.toInt ∧ a1.toInt ≤ 11 ∧ 1 ≤ a2.toInt ∧ a2.toInt ≤ 9 ∧ 0 ≤ a3.toInt ∧ a3.toInt ≤ 99) ∧ (gI g0 1 0).toInt < 12) ∧ i = (gI g0 1 0).toInt) from by omega)).symm; refine (eA_ti ((hF168.2.1 2 ma_X10_refused_0_2))).trans ?_; (first | with_reducible rfl | omega | exact eA_ix (by omega) | rfl)), (by intro i i0 i1; refine Eq.trans ?_ (if_neg (show ¬ (((-1 ≤ a1.toInt ∧ a1.toInt ≤ 11 ∧ 1 ≤ a2.toInt ∧ a2.toInt ≤ 9 ∧ 0 ≤ a3.toInt ∧ a3.toInt ≤ 99) ∧ (gI g0 1 0).toInt < 12) ∧ i = (gI g0 1 0).toInt) from by omega)).symm; refine (eA_ti ((hF168.2.1 3 ma_X10_refused_0_3))).trans ?_; (first | with_reducible rfl | omega | exact eA_ix (by omega) | rfl)), (by intro i i0 i1; refine Eq.trans ?_ (if_neg (show ¬ (((-1 ≤ a1.toInt ∧ a1.toInt ≤ 11 ∧ 1 ≤ a2.toInt ∧ a2.toInt ≤ 9 ∧ 0 ≤ a3.toInt ∧ a3.toInt ≤ 99) ∧ (gI g0 1 0).toInt < 12) ∧ i = (gI g0 1 0).toInt) from by omega)).symm; refine (eA_ti ((hF168.2.1 4 ma_X10_refused_0_4))).trans ?_; (first | with_reducible rfl | omega | exact eA_ix (by omega) | rfl))⟩, ⟨(fun t => (TOLDX_fr hF168 rfl rfl rfl rfl t)), (fun t => (SETX_fr hF168 rfl rfl rfl rfl rfl t))⟩⟩⟩
    · have c165_ : a1.toInt ≤ 11 := en_i_gt_f c165
      refine At.enter rfl ?_
      refine r_iconst 1 rfl ?_
      refine r_goto ?_
      refine At.enter rfl ?_
      refine q_iretz (by decide) ?_
      refine At.enter rfl ?_
      refine r_iff 10 rfl (by decide) ?_
      refine At.enter rfl ?_
      refine r_iload_n rfl ?_
      refine q_inlS 14 rfl [.int a2] [] (Nat.le_of_ble_eq_true rfl) rfl ?_
      refine Ev.mk rfl rfl ⟨Nat.le_of_ble_eq_true rfl, Or.inl rfl⟩ ?_
      show At _ none _ _ (0, [(0, .int a2)], [], (_, _)) _
      refine At.enter rfl ?_
      refine r_iload_n rfl ?_
      refine r_iconst 1 rfl ?_
      refine r_bipush 9 rfl ?_
      refine q_inlS 7 rfl [.int a2, .int 1, .int 9] [] (Nat.le_of_ble_eq_true rfl) rfl ?_
      refine Ev.mk rfl rfl ⟨Nat.le_of_ble_eq_true rfl, Or.inl rfl⟩ ?_
      show At _ none _ _ (0, [(0, .int a2), (1, .int 1), (2, .int 9)], [], (_, _)) _
      refine At.enter rfl ?_
      refine r_iload_n rfl ?_
      refine r_iload_n rfl ?_
      refine r_ics 5 rfl (fun c177 => ?_) (fun c177 => ?_)
      · have c177_ : a2.toInt < 1 := en_i_lt_t c177
        refine At.enter rfl ?_
        refine r_iconst 0 rfl ?_
        refine Ar.fall 15 rfl ?_
        refine At.enter rfl ?_
        refine q_iretz (by decide) ?_
        refine At.enter rfl ?_
        refine q_iretz (by decide) ?_
        refine At.enter rfl ?_
        refine r_ift (by decide) ?_
        refine At.enter rfl ?_
        refine r_aload_n rfl ?_
        refine r_iconst (-1) rfl ?_
        refine r_callV 29 rfl [.ref 0, .int (-1)] [] (Nat.le_of_ble_eq_true rfl) rfl (T_X10_refused_0 _ hI0 (-1) (by decide)) ?_
        rintro _ _ ⟨g178, rfl, hI179, hF180, v181, rfl, hr182⟩
        refine At.sti ?_
        have hF183 := Fr.tr hF0 hF180 rfl rfl
        have zv184 : ((-1) : Int32).toInt = (-1) := rfl
        refine At.enter rfl ?_
        refine r_ireti ?_
        obtain ⟨v185, hv185⟩ : ∃ v, gI g0 1 0 = v := ⟨_, rfl⟩
        have rv185 := RgF.at hI0.2.1 (p := 1) (b := 0) rfl
        rw [hv185] at rv185
        dsimp only at rv185
        have tv185 := congrArg Int32.toInt hv185
        have x186 := HI.eqI hI179 (p := 1) (b := 0) (((hF180.1 1 0 mf_X10_refused_0_1_0).trans hv185))
        exact ⟨_, rfl, hI179, hF183, _, rfl, by omega, ⟨⟨(by omega), (by intro i i0 i1; refine Eq.trans ?_ (if_neg (show ¬ (((-1 ≤ a1.toInt ∧ a1.toInt ≤ 11 ∧ 1 ≤ a2.toInt ∧ a2.toInt ≤ 9 ∧ 0 ≤ a3.toInt ∧ a3.toInt ≤ 99) ∧ (gI g0 1 0).toInt < 12) ∧ i = (gI g0 1 0).toInt) from by omega)).symm; refine (eA_ti ((hF180.2.1 2 ma_X10_refused_0_2))).trans ?_; (first | with_reducible rfl | omega | exact eA_ix (by omega) | rfl)), (by intro i i0 i1; refine Eq.trans ?_ (if_neg (show ¬ (((-1 ≤ a1.toInt ∧ a1.toInt ≤ 11 ∧ 1 ≤ a2.toInt ∧ a2.toInt ≤ 9 ∧ 0 ≤ a3.toInt ∧ a3.toInt ≤ 99) ∧ (gI g0 1 0).toInt < 12) ∧ i = (gI g0 1 0).toInt) from by omega)).symm; refine (eA_ti ((hF180.2.1 3 ma_X10_refused_0_3))).trans ?_; (first | with_reducible rfl | omega | exact eA_ix (by omega) | rfl)), (by intro i i0 i1; refine Eq.trans ?_ (if_neg (show ¬ (((-1 ≤ a1.toInt ∧ a1.toInt ≤ 11 ∧ 1 ≤ a2.toInt ∧ a2.toInt ≤ 9 ∧ 0 ≤ a3.toInt ∧ a3.toInt ≤ 99) ∧ (gI g0 1 0).toInt < 12) ∧ i = (gI g0 1 0).toInt) from by omega)).symm; refine (eA_ti ((hF180.2.1 4 ma_X10_refused_0_4))).trans ?_; (first | with_reducible rfl | omega | exact eA_ix (by omega) | rfl))⟩, ⟨(fun t => (TOLDX_fr hF180 rfl rfl rfl rfl t)), (fun t => (SETX_fr hF180 rfl rfl rfl rfl rfl t))⟩⟩⟩
      · have c177_ : a2.toInt ≥ 1 := en_i_lt_f c177
        refine At.enter rfl ?_
        refine r_iload_n rfl ?_
        refine r_iload_n rfl ?_
        refine r_ics 10 rfl (fun c189 => ?_) (fun c189 => ?_)
        · have c189_ : a2.toInt > 9 := en_i_gt_t c189
          refine At.enter rfl ?_
          refine r_iconst 0 rfl ?_
          refine Ar.fall 15 rfl ?_
          refine At.enter rfl ?_
          refine q_iretz (by decide) ?_
          refine At.enter rfl ?_
          refine q_iretz (by decide) ?_
          refine At.enter rfl ?_
          refine r_ift (by decide) ?_
          refine At.enter rfl ?_
          refine r_aload_n rfl ?_
          refine r_iconst (-1) rfl ?_
          refine r_callV 29 rfl [.ref 0, .int (-1)] [] (Nat.le_of_ble_eq_true rfl) rfl (T_X10_refused_0 _ hI0 (-1) (by decide)) ?_
          rintro _ _ ⟨g190, rfl, hI191, hF192, v193, rfl, hr194⟩
          refine At.sti ?_
          have hF195 := Fr.tr hF0 hF192 rfl rfl
          have zv196 : ((-1) : Int32).toInt = (-1) := rfl
          refine At.enter rfl ?_
          refine r_ireti ?_
          obtain ⟨v197, hv197⟩ : ∃ v, gI g0 1 0 = v := ⟨_, rfl⟩
          have rv197 := RgF.at hI0.2.1 (p := 1) (b := 0) rfl
          rw [hv197] at rv197
          dsimp only at rv197
          have tv197 := congrArg Int32.toInt hv197
          have x198 := HI.eqI hI191 (p := 1) (b := 0) (((hF192.1 1 0 mf_X10_refused_0_1_0).trans hv197))
          exact ⟨_, rfl, hI191, hF195, _, rfl, by omega, ⟨⟨(by omega), (by intro i i0 i1; refine Eq.trans ?_ (if_neg (show ¬ (((-1 ≤ a1.toInt ∧ a1.toInt ≤ 11 ∧ 1 ≤ a2.toInt ∧ a2.toInt ≤ 9 ∧ 0 ≤ a3.toInt ∧ a3.toInt ≤ 99) ∧ (gI g0 1 0).toInt < 12) ∧ i = (gI g0 1 0).toInt) from by omega)).symm; refine (eA_ti ((hF192.2.1 2 ma_X10_refused_0_2))).trans ?_; (first | with_reducible rfl | omega | exact eA_ix (by omega) | rfl)), (by intro i i0 i1; refine Eq.trans ?_ (if_neg (show ¬ (((-1 ≤ a1.toInt ∧ a1.toInt ≤ 11 ∧ 1 ≤ a2.toInt ∧ a2.toInt ≤ 9 ∧ 0 ≤ a3.toInt ∧ a3.toInt ≤ 99) ∧ (gI g0 1 0).toInt < 12) ∧ i = (gI g0 1 0).toInt) from by omega)).symm; refine (eA_ti ((hF192.2.1 3 ma_X10_refused_0_3))).trans ?_; (first | with_reducible rfl | omega | exact eA_ix (by omega) | rfl)), (by intro i i0 i1; refine Eq.trans ?_ (if_neg (show ¬ (((-1 ≤ a1.toInt ∧ a1.toInt ≤ 11 ∧ 1 ≤ a2.toInt ∧ a2.toInt ≤ 9 ∧ 0 ≤ a3.toInt ∧ a3.toInt ≤ 99) ∧ (gI g0 1 0).toInt < 12) ∧ i = (gI g0 1 0).toInt) from by omega)).symm; refine (eA_ti ((hF192.2.1 4 ma_X10_refused_0_4))).trans ?_; (first | with_reducible rfl | omega | exact eA_ix (by omega) | rfl))⟩, ⟨(fun t => (TOLDX_fr hF192 rfl rfl rfl rfl t)), (fun t => (SETX_fr hF192 rfl rfl rfl rfl rfl t))⟩⟩⟩
        · have c189_ : a2.toInt ≤ 9 := en_i_gt_f c189
          refine At.enter rfl ?_
          refine r_iconst 1 rfl ?_
          refine r_goto ?_
          refine At.enter rfl ?_
          refine q_iretz (by decide) ?_
          refine At.enter rfl ?_
          refine q_iretz (by decide) ?_
          refine At.enter rfl ?_
          refine r_iff 17 rfl (by decide) ?_
          refine At.enter rfl ?_
          refine r_iload_n rfl ?_
          refine q_inlS 21 rfl [.int a3] [] (Nat.le_of_ble_eq_true rfl) rfl ?_
          refine Ev.mk rfl rfl ⟨Nat.le_of_ble_eq_true rfl, Or.inl rfl⟩ ?_
          show At _ none _ _ (0, [(0, .int a3)], [], (_, _)) _
          refine At.enter rfl ?_
          refine r_iload_n rfl ?_
          refine r_iconst 0 rfl ?_
          refine r_bipush 99 rfl ?_
          refine q_inlS 7 rfl [.int a3, .int 0, .int 99] [] (Nat.le_of_ble_eq_true rfl) rfl ?_
          refine Ev.mk rfl rfl ⟨Nat.le_of_ble_eq_true rfl, Or.inl rfl⟩ ?_
          show At _ none _ _ (0, [(0, .int a3), (1, .int 0), (2, .int 99)], [], (_, _)) _
          refine At.enter rfl ?_
          refine r_iload_n rfl ?_
          refine r_iload_n rfl ?_
          refine r_ics 5 rfl (fun c201 => ?_) (fun c201 => ?_)
          · have c201_ : a3.toInt < 0 := en_i_lt_t c201
            refine At.enter rfl ?_
            refine r_iconst 0 rfl ?_
            refine Ar.fall 15 rfl ?_
            refine At.enter rfl ?_
            refine q_iretz (by decide) ?_
            refine At.enter rfl ?_
            refine q_iretz (by decide) ?_
            refine At.enter rfl ?_
            refine r_iff 24 rfl (by decide) ?_
            refine At.enter rfl ?_
            refine r_aload_n rfl ?_
            refine r_iconst (-1) rfl ?_
            refine r_callV 29 rfl [.ref 0, .int (-1)] [] (Nat.le_of_ble_eq_true rfl) rfl (T_X10_refused_0 _ hI0 (-1) (by decide)) ?_
            rintro _ _ ⟨g202, rfl, hI203, hF204, v205, rfl, hr206⟩
            refine At.sti ?_
            have hF207 := Fr.tr hF0 hF204 rfl rfl
            have zv208 : ((-1) : Int32).toInt = (-1) := rfl
            refine At.enter rfl ?_
            refine r_ireti ?_
            obtain ⟨v209, hv209⟩ : ∃ v, gI g0 1 0 = v := ⟨_, rfl⟩
            have rv209 := RgF.at hI0.2.1 (p := 1) (b := 0) rfl
            rw [hv209] at rv209
            dsimp only at rv209
            have tv209 := congrArg Int32.toInt hv209
            have x210 := HI.eqI hI203 (p := 1) (b := 0) (((hF204.1 1 0 mf_X10_refused_0_1_0).trans hv209))
            exact ⟨_, rfl, hI203, hF207, _, rfl, by omega, ⟨⟨(by omega), (by intro i i0 i1; refine Eq.trans ?_ (if_neg (show ¬ (((-1 ≤ a1.toInt ∧ a1.toInt ≤ 11 ∧ 1 ≤ a2.toInt ∧ a2.toInt ≤ 9 ∧ 0 ≤ a3.toInt ∧ a3.toInt ≤ 99) ∧ (gI g0 1 0).toInt < 12) ∧ i = (gI g0 1 0).toInt) from by omega)).symm; refine (eA_ti ((hF204.2.1 2 ma_X10_refused_0_2))).trans ?_; (first | with_reducible rfl | omega | exact eA_ix (by omega) | rfl)), (by intro i i0 i1; refine Eq.trans ?_ (if_neg (show ¬ (((-1 ≤ a1.toInt ∧ a1.toInt ≤ 11 ∧ 1 ≤ a2.toInt ∧ a2.toInt ≤ 9 ∧ 0 ≤ a3.toInt ∧ a3.toInt ≤ 99) ∧ (gI g0 1 0).toInt < 12) ∧ i = (gI g0 1 0).toInt) from by omega)).symm; refine (eA_ti ((hF204.2.1 3 ma_X10_refused_0_3))).trans ?_; (first | with_reducible rfl | omega | exact eA_ix (by omega) | rfl)), (by intro i i0 i1; refine Eq.trans ?_ (if_neg (show ¬ (((-1 ≤ a1.toInt ∧ a1.toInt ≤ 11 ∧ 1 ≤ a2.toInt ∧ a2.toInt ≤ 9 ∧ 0 ≤ a3.toInt ∧ a3.toInt ≤ 99) ∧ (gI g0 1 0).toInt < 12) ∧ i = (gI g0 1 0).toInt) from by omega)).symm; refine (eA_ti ((hF204.2.1 4 ma_X10_refused_0_4))).trans ?_; (first | with_reducible rfl | omega | exact eA_ix (by omega) | rfl))⟩, ⟨(fun t => (TOLDX_fr hF204 rfl rfl rfl rfl t)), (fun t => (SETX_fr hF204 rfl rfl rfl rfl rfl t))⟩⟩⟩
          · have c201_ : a3.toInt ≥ 0 := en_i_lt_f c201
            refine At.enter rfl ?_
            refine r_iload_n rfl ?_
            refine r_iload_n rfl ?_
            refine r_ics 10 rfl (fun c213 => ?_) (fun c213 => ?_)
            · have c213_ : a3.toInt > 99 := en_i_gt_t c213
              refine At.enter rfl ?_
              refine r_iconst 0 rfl ?_
              refine Ar.fall 15 rfl ?_
              refine At.enter rfl ?_
              refine q_iretz (by decide) ?_
              refine At.enter rfl ?_
              refine q_iretz (by decide) ?_
              refine At.enter rfl ?_
              refine r_iff 24 rfl (by decide) ?_
              refine At.enter rfl ?_
              refine r_aload_n rfl ?_
              refine r_iconst (-1) rfl ?_
              refine r_callV 29 rfl [.ref 0, .int (-1)] [] (Nat.le_of_ble_eq_true rfl) rfl (T_X10_refused_0 _ hI0 (-1) (by decide)) ?_
              rintro _ _ ⟨g214, rfl, hI215, hF216, v217, rfl, hr218⟩
              refine At.sti ?_
              have hF219 := Fr.tr hF0 hF216 rfl rfl
              have zv220 : ((-1) : Int32).toInt = (-1) := rfl
              refine At.enter rfl ?_
              refine r_ireti ?_
              obtain ⟨v221, hv221⟩ : ∃ v, gI g0 1 0 = v := ⟨_, rfl⟩
              have rv221 := RgF.at hI0.2.1 (p := 1) (b := 0) rfl
              rw [hv221] at rv221
              dsimp only at rv221
              have tv221 := congrArg Int32.toInt hv221
              have x222 := HI.eqI hI215 (p := 1) (b := 0) (((hF216.1 1 0 mf_X10_refused_0_1_0).trans hv221))
              exact ⟨_, rfl, hI215, hF219, _, rfl, by omega, ⟨⟨(by omega), (by intro i i0 i1; refine Eq.trans ?_ (if_neg (show ¬ (((-1 ≤ a1.toInt ∧ a1.toInt ≤ 11 ∧ 1 ≤ a2.toInt ∧ a2.toInt ≤ 9 ∧ 0 ≤ a3.toInt ∧ a3.toInt ≤ 99) ∧ (gI g0 1 0).toInt < 12) ∧ i = (gI g0 1 0).toInt) from by omega)).symm; refine (eA_ti ((hF216.2.1 2 ma_X10_refused_0_2))).trans ?_; (first | with_reducible rfl | omega | exact eA_ix (by omega) | rfl)), (by intro i i0 i1; refine Eq.trans ?_ (if_neg (show ¬ (((-1 ≤ a1.toInt ∧ a1.toInt ≤ 11 ∧ 1 ≤ a2.toInt ∧ a2.toInt ≤ 9 ∧ 0 ≤ a3.toInt ∧ a3.toInt ≤ 99) ∧ (gI g0 1 0).toInt < 12) ∧ i = (gI g0 1 0).toInt) from by omega)).symm; refine (eA_ti ((hF216.2.1 3 ma_X10_refused_0_3))).trans ?_; (first | with_reducible rfl | omega | exact eA_ix (by omega) | rfl)), (by intro i i0 i1; refine Eq.trans ?_ (if_neg (show ¬ (((-1 ≤ a1.toInt ∧ a1.toInt ≤ 11 ∧ 1 ≤ a2.toInt ∧ a2.toInt ≤ 9 ∧ 0 ≤ a3.toInt ∧ a3.toInt ≤ 99) ∧ (gI g0 1 0).toInt < 12) ∧ i = (gI g0 1 0).toInt) from by omega)).symm; refine (eA_ti ((hF216.2.1 4 ma_X10_refused_0_4))).trans ?_; (first | with_reducible rfl | omega | exact eA_ix (by omega) | rfl))⟩, ⟨(fun t => (TOLDX_fr hF216 rfl rfl rfl rfl t)), (fun t => (SETX_fr hF216 rfl rfl rfl rfl rfl t))⟩⟩⟩
            · have c213_ : a3.toInt ≤ 99 := en_i_gt_f c213
              refine At.enter rfl ?_
              refine r_iconst 1 rfl ?_
              refine r_goto ?_
              refine At.enter rfl ?_
              refine q_iretz (by decide) ?_
              refine At.enter rfl ?_
              refine q_iretz (by decide) ?_
              refine At.enter rfl ?_
              refine r_ift (by decide) ?_
              refine At.enter rfl ?_
              refine r_aload_n rfl ?_
              refine q_getR (Sh.ref hI0.1 kx_0 rfl) ?_
              obtain ⟨v225, hv225⟩ : ∃ v, gI g0 1 0 = v := ⟨_, rfl⟩
              have rv225 := RgF.at hI0.2.1 (p := 1) (b := 0) rfl
              rw [hv225] at rv225
              dsimp only at rv225
              refine q_getI (Sh.int hI0.1 kx_1 rfl) v225 hv225 ?_
              refine r_bipush 12 rfl ?_
              refine r_ics 42 rfl (fun c226 => ?_) (fun c226 => ?_)
              · have c226_ : v225.toInt < 12 := en_i_lt_t c226
                refine At.enter rfl ?_
                refine r_aload_n rfl ?_
                refine r_callV 53 rfl [.ref 0] [] (Nat.le_of_ble_eq_true rfl) rfl (T_X10_changed_0 _ hI0) ?_
                rintro _ _ ⟨g227, rfl, hI228, hF229, rfl, hr231⟩
                refine At.stn ?_
                have hF232 := Fr.tr hF0 hF229 rfl rfl
                refine At.enter rfl ?_
                refine r_aload_n rfl ?_
                refine r_aload_n rfl ?_
                refine q_getR (Sh.ref hI228.1 kx_0 rfl) ?_
                refine r_iload_n rfl ?_
                refine r_iload_n rfl ?_
                refine r_iload_n rfl ?_
                refine q_inlV 64 rfl [.ref 1, .int a1, .int a2, .int a3] [.ref 0] (Nat.le_of_ble_eq_true rfl) rfl ?_
                refine Ev.mk rfl rfl ⟨Nat.le_of_ble_eq_true rfl, Or.inr (q_rc hI228.1 kx_1 rfl)⟩ ?_
                show At _ none _ _ (0, [(0, .ref 1), (1, .int a1), (2, .int a2), (3, .int a3)], [], (_, _)) _
                refine At.enter rfl ?_
                refine r_aload_n rfl ?_
                refine q_getI (Sh.int hI228.1 kx_1 rfl) v225 ((hF229.1 1 0 mf_X10_changed_0_1_0).trans hv225) ?_
                refine r_bipush 12 rfl ?_
                refine r_ics 9 rfl (fun c233 => ?_) (fun c233 => ?_)
                · have c233_ : v225.toInt < 12 := en_i_lt_t c233
                  refine At.enter rfl ?_
                  refine r_aload_n rfl ?_
                  refine q_getR (Sh.ref hI228.1 kx_1 rfl) ?_
                  refine r_aload_n rfl ?_
                  refine q_getI (Sh.int hI228.1 kx_1 rfl) v225 ((hF229.1 1 0 mf_X10_changed_0_1_0).trans hv225) ?_
                  refine r_iload_n rfl ?_
                  refine q_iast (Sh.arr hI228.1 ka_2) (v225.toInt) rfl (by omega) ?_
                  have hI234 := HI.wA0 hI228 ka_2 (p := 2) rfl rfl (v225.toInt) (a1)
                  have hF235 := Fr.wA (p := 2) (j := v225.toInt) (v := a1) hF232 rfl
                  refine r_aload_n rfl ?_
                  refine q_getR (Sh.ref hI234.1 kx_1 rfl) ?_
                  refine r_aload_n rfl ?_
                  refine q_getI (Sh.int hI234.1 kx_1 rfl) v225 (((gI_sW).trans (hF229.1 1 0 mf_X10_changed_0_1_0)).trans hv225) ?_
                  refine r_iload_n rfl ?_
                  refine q_iast (Sh.arr hI234.1 ka_3) (v225.toInt) rfl (by omega) ?_
                  have hI236 := HI.wA0 hI234 ka_3 (p := 3) rfl rfl (v225.toInt) (a2)
                  have hF237 := Fr.wA (p := 3) (j := v225.toInt) (v := a2) hF235 rfl
                  refine r_aload_n rfl ?_
                  refine q_getR (Sh.ref hI236.1 kx_1 rfl) ?_
                  refine r_aload_n rfl ?_
                  refine q_getI (Sh.int hI236.1 kx_1 rfl) v225 (((gI_sW).trans ((gI_sW).trans (hF229.1 1 0 mf_X10_changed_0_1_0))).trans hv225) ?_
                  refine r_iload_n rfl ?_
                  refine q_iast (Sh.arr hI236.1 ka_4) (v225.toInt) rfl (by omega) ?_
                  have hI238 := HI.wA0 hI236 ka_4 (p := 4) rfl rfl (v225.toInt) (a3)
                  have hF239 := Fr.wA (p := 4) (j := v225.toInt) (v := a3) hF237 rfl
                  refine r_aload_n rfl ?_
                  refine r_dup rfl ?_
                  refine q_getI (Sh.int hI238.1 kx_1 rfl) v225 (((gI_sW).trans ((gI_sW).trans ((gI_sW).trans (hF229.1 1 0 mf_X10_changed_0_1_0)))).trans hv225) ?_
                  refine r_iconst 1 rfl ?_
                  refine q_iadd (v225.toInt + 1) rfl (by omega) (fun v240 hv240 => ?_)
                  refine q_putI (Sh.int hI238.1 kx_1 rfl) rfl ?_
                  have hI241 := HI.wI1 hI238 kx_1 rfl (p := 1) (b := 0) (v := v240) rfl (by dsimp only; omega)
                  have hF242 := Fr.wI (p := 1) (b := 0) (v := v240) hF239 rfl
                  refine r_aload_n rfl ?_
                  refine q_getI (Sh.int hI241.1 kx_1 rfl) v240 (gI_sI_eq hI238.1 kx_1 rfl _) ?_
                  refine r_iconst 1 rfl ?_
                  refine q_isub (v240.toInt - 1) rfl (by omega) (fun v243 hv243 => ?_)
                  refine q_ireti ?_
                  refine At.enter rfl ?_
                  refine q_inlV 67 rfl [.ref 0, .int v243] [] (Nat.le_of_ble_eq_true rfl) rfl ?_
                  refine Ev.mk rfl rfl ⟨Nat.le_of_ble_eq_true rfl, Or.inr (q_rc hI241.1 kx_0 rfl)⟩ ?_
                  show At _ none _ _ (0, [(0, .ref 0), (1, .int v243)], [], (_, _)) _
                  refine At.enter rfl ?_
                  refine r_aload_n rfl ?_
                  refine r_iconst 0 rfl ?_
                  refine q_putI (Sh.int hI241.1 kx_0 rfl) rfl ?_
                  have hI244 := HI.wI0 hI241 kx_0 rfl (p := 0) (b := 17) (v := 0) rfl
                  have hF245 := Fr.wI (p := 0) (b := 17) (v := 0) hF242 rfl
                  refine r_iload_n rfl ?_
                  refine q_ireti ?_
                  refine At.enter rfl ?_
                  refine r_ireti ?_
                  have x246 := HI.eqI hI244 (p := 1) (b := 0) (((gI_sI_ne (by decide)).trans (gI_sI_eq hI238.1 kx_1 rfl _)))
                  have x247 := HI.eqI hI0 (p := 1) (b := 0) (hv225)
                  have x248 := HI.eqI hI0 (p := 1) (b := 0) (hv225)
                  exact ⟨_, rfl, hI244, hF245, _, rfl, by omega, ⟨⟨(by omega), (by intro i i0 i1; exact (Decidable.em (((-1 ≤ a1.toInt ∧ a1.toInt ≤ 11 ∧ 1 ≤ a2.toInt ∧ a2.toInt ≤ 9 ∧ 0 ≤ a3.toInt ∧ a3.toInt ≤ 99) ∧ (gI g0 1 0).toInt < 12) ∧ i = (gI g0 1 0).toInt)).elim (fun k63_ => by refine Eq.trans ?_ (if_pos k63_).symm; refine (eA_ti (((gA_sI).trans ((gA_sI).trans ((gA_sA_ne (by decide)).trans (gA_sA_ne (by decide))))))).trans ?_; exact (Decidable.em (i = v225.toInt)).elim (fun k64_ => by refine (eA_eqT hI228.1 ka_2 k64_ (by first | decide | omega) (by first | decide | omega)).trans ?_; (first | (with_reducible rfl) | (omega) | (rfl))) (fun k64_ => by refine (eA_neT hI228.1 ka_2 k64_ (by first | decide | omega) (by omega)).trans ?_; refine (eA_ti ((hF229.2.1 2 ma_X10_changed_0_2))).trans ?_; (first | with_reducible rfl | omega | exact eA_ix (by omega) | rfl))) (fun k63_ => by refine Eq.trans ?_ (if_neg k63_).symm; refine (eA_ti (((gA_sI).trans ((gA_sI).trans ((gA_sA_ne (by decide)).trans (gA_sA_ne (by decide))))))).trans ?_; exact (Decidable.em (i = v225.toInt)).elim (fun k65_ => by refine (eA_eqT hI228.1 ka_2 k65_ (by first | decide | omega) (by first | decide | omega)).trans ?_; (first | (with_reducible rfl) | (omega) | (rfl))) (fun k65_ => by refine (eA_neT hI228.1 ka_2 k65_ (by first | decide | omega) (by omega)).trans ?_; refine (eA_ti ((hF229.2.1 2 ma_X10_changed_0_2))).trans ?_; (first | with_reducible rfl | omega | exact eA_ix (by omega) | rfl)))), (by intro i i0 i1; exact (Decidable.em (((-1 ≤ a1.toInt ∧ a1.toInt ≤ 11 ∧ 1 ≤ a2.toInt ∧ a2.toInt ≤ 9 ∧ 0 ≤ a3.toInt ∧ a3.toInt ≤ 99) ∧ (gI g0 1 0).toInt < 12) ∧ i = (gI g0 1 0).toInt)).elim (fun k66_ => by refine Eq.trans ?_ (if_pos k66_).symm; refine (eA_ti (((gA_sI).trans ((gA_sI).trans (gA_sA_ne (by decide)))))).trans ?_; exact (Decidable.em (i = v225.toInt)).elim (fun k67_ => by refine (eA_eqT hI234.1 ka_3 k67_ (by first | decide | omega) (by first | decide | omega)).trans ?_; (first | (with_reducible rfl) | (omega) | (rfl))) (fun k67_ => by refine (eA_neT hI234.1 ka_3 k67_ (by first | decide | omega) (by omega)).trans ?_; refine (eA_ti (((gA_sA_ne (by decide)).trans (hF229.2.1 3 ma_X10_changed_0_3)))).trans ?_; (first | with_reducible rfl | omega | exact eA_ix (by omega) | rfl))) (fun k66_ => by refine Eq.trans ?_ (if_neg k66_).symm; refine (eA_ti (((gA_sI).trans ((gA_sI).trans (gA_sA_ne (by decide)))))).trans ?_; exact (Decidable.em (i = v225.toInt)).elim (fun k68_ => by refine (eA_eqT hI234.1 ka_3 k68_ (by first | decide | omega) (by first | decide | omega)).trans ?_; (first | (with_reducible rfl) | (omega) | (rfl))) (fun k68_ => by refine (eA_neT hI234.1 ka_3 k68_ (by first | decide | omega) (by omega)).trans ?_; refine (eA_ti (((gA_sA_ne (by decide)).trans (hF229.2.1 3 ma_X10_changed_0_3)))).trans ?_; (first | with_reducible rfl | omega | exact eA_ix (by omega) | rfl)))), (by intro i i0 i1; exact (Decidable.em (((-1 ≤ a1.toInt ∧ a1.toInt ≤ 11 ∧ 1 ≤ a2.toInt ∧ a2.toInt ≤ 9 ∧ 0 ≤ a3.toInt ∧ a3.toInt ≤ 99) ∧ (gI g0 1 0).toInt < 12) ∧ i = (gI g0 1 0).toInt)).elim (fun k69_ => by refine Eq.trans ?_ (if_pos k69_).symm; refine (eA_ti (((gA_sI).trans (gA_sI)))).trans ?_; exact (Decidable.em (i = v225.toInt)).elim (fun k70_ => by refine (eA_eqT hI236.1 ka_4 k70_ (by first | decide | omega) (by first | decide | omega)).trans ?_; (first | (with_reducible rfl) | (omega) | (rfl))) (fun k70_ => by refine (eA_neT hI236.1 ka_4 k70_ (by first | decide | omega) (by omega)).trans ?_; refine (eA_ti (((gA_sA_ne (by decide)).trans ((gA_sA_ne (by decide)).trans (hF229.2.1 4 ma_X10_changed_0_4))))).trans ?_; (first | with_reducible rfl | omega | exact eA_ix (by omega) | rfl))) (fun k69_ => by refine Eq.trans ?_ (if_neg k69_).symm; refine (eA_ti (((gA_sI).trans (gA_sI)))).trans ?_; exact (Decidable.em (i = v225.toInt)).elim (fun k71_ => by refine (eA_eqT hI236.1 ka_4 k71_ (by first | decide | omega) (by first | decide | omega)).trans ?_; (first | (with_reducible rfl) | (omega) | (rfl))) (fun k71_ => by refine (eA_neT hI236.1 ka_4 k71_ (by first | decide | omega) (by omega)).trans ?_; refine (eA_ti (((gA_sA_ne (by decide)).trans ((gA_sA_ne (by decide)).trans (hF229.2.1 4 ma_X10_changed_0_4))))).trans ?_; (first | with_reducible rfl | omega | exact eA_ix (by omega) | rfl))))⟩, ⟨(fun _ => TOLDX_z ((congrArg Int32.toInt (((gI_sI_ne (by decide)).trans ((gI_sI_ne (by decide)).trans ((gI_sW).trans ((gI_sW).trans (gI_sW))))))).trans hr231.1)), (fun _ => SETX_z ((congrArg Int32.toInt (((gI_sI_ne (by decide)).trans ((gI_sI_ne (by decide)).trans ((gI_sW).trans ((gI_sW).trans (gI_sW))))))).trans hr231.2))⟩⟩⟩
                · have c233_ : v225.toInt ≥ 12 := en_i_lt_f c233
                  exfalso; omega
              · have c226_ : v225.toInt ≥ 12 := en_i_lt_f c226
                refine At.enter rfl ?_
                refine r_aload_n rfl ?_
                refine r_bipush (-5) rfl ?_
                refine r_callV 48 rfl [.ref 0, .int (-5)] [] (Nat.le_of_ble_eq_true rfl) rfl (T_X10_refused_0 _ hI0 (-5) (by decide)) ?_
                rintro _ _ ⟨g249, rfl, hI250, hF251, v252, rfl, hr253⟩
                refine At.sti ?_
                have hF254 := Fr.tr hF0 hF251 rfl rfl
                have zv255 : ((-5) : Int32).toInt = (-5) := rfl
                refine At.enter rfl ?_
                refine r_ireti ?_
                have x256 := HI.eqI hI250 (p := 1) (b := 0) (((hF251.1 1 0 mf_X10_refused_0_1_0).trans hv225))
                have x257 := HI.eqI hI0 (p := 1) (b := 0) (hv225)
                have x258 := HI.eqI hI0 (p := 1) (b := 0) (hv225)
                exact ⟨_, rfl, hI250, hF254, _, rfl, by omega, ⟨⟨(by omega), (by intro i i0 i1; refine Eq.trans ?_ (if_neg (show ¬ (((-1 ≤ a1.toInt ∧ a1.toInt ≤ 11 ∧ 1 ≤ a2.toInt ∧ a2.toInt ≤ 9 ∧ 0 ≤ a3.toInt ∧ a3.toInt ≤ 99) ∧ (gI g0 1 0).toInt < 12) ∧ i = (gI g0 1 0).toInt) from by omega)).symm; refine (eA_ti ((hF251.2.1 2 ma_X10_refused_0_2))).trans ?_; (first | with_reducible rfl | omega | exact eA_ix (by omega) | rfl)), (by intro i i0 i1; refine Eq.trans ?_ (if_neg (show ¬ (((-1 ≤ a1.toInt ∧ a1.toInt ≤ 11 ∧ 1 ≤ a2.toInt ∧ a2.toInt ≤ 9 ∧ 0 ≤ a3.toInt ∧ a3.toInt ≤ 99) ∧ (gI g0 1 0).toInt < 12) ∧ i = (gI g0 1 0).toInt) from by omega)).symm; refine (eA_ti ((hF251.2.1 3 ma_X10_refused_0_3))).trans ?_; (first | with_reducible rfl | omega | exact eA_ix (by omega) | rfl)), (by intro i i0 i1; refine Eq.trans ?_ (if_neg (show ¬ (((-1 ≤ a1.toInt ∧ a1.toInt ≤ 11 ∧ 1 ≤ a2.toInt ∧ a2.toInt ≤ 9 ∧ 0 ≤ a3.toInt ∧ a3.toInt ≤ 99) ∧ (gI g0 1 0).toInt < 12) ∧ i = (gI g0 1 0).toInt) from by omega)).symm; refine (eA_ti ((hF251.2.1 4 ma_X10_refused_0_4))).trans ?_; (first | with_reducible rfl | omega | exact eA_ix (by omega) | rfl))⟩, ⟨(fun t => (TOLDX_fr hF251 rfl rfl rfl rfl t)), (fun t => (SETX_fr hF251 rfl rfl rfl rfl rfl t))⟩⟩⟩
