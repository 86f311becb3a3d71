def F_X0_addLoad_1 : List (Nat × Nat) := [(1, 4)]
def A_X0_addLoad_1 : List Nat := [5]
set_option maxRecDepth 100000 in
set_option maxHeartbeats 4000000 in
theorem T_X0_addLoad_1 (d : Nat) {N : Nat} {g0 : List en_E} (hI0 : HI g0) (a1 : Int32) (a2 : Int32) (a3 : Int32) (a4 : Int32) (a5 : Int32) (a6 : Int32) : Ev (d + 1) 6 [.ref 1, .int a1, .int a2, .int a3, .int a4, .int a5, .int a6] (g0, N) (fun w h' => ∃ g', h' = (g', N) ∧ HI g' ∧ Fr F_X0_addLoad_1 A_X0_addLoad_1 g0 g' ∧ ∃ r : Int32, w = some (.int r) ∧ ((-1) ≤ r.toInt ∧ r.toInt ≤ 7) ∧ (((gI g0 1 4).toInt < 8 → r.toInt = (gI g0 1 4).toInt ∧ (gI g' 1 4).toInt = (gI g0 1 4).toInt + 1) ∧ (8 ≤ (gI g0 1 4).toInt → (gI g' 1 4).toInt = (gI g0 1 4).toInt) ∧ (∀ i : Int, 0 ≤ i → i < 48 → (eA g' 5 (i)).toInt = if (gI g0 1 4).toInt < 8 ∧ i = 6 * (gI g0 1 4).toInt + 0 then a1.toInt else if (gI g0 1 4).toInt < 8 ∧ i = 6 * (gI g0 1 4).toInt + 1 then a2.toInt else if (gI g0 1 4).toInt < 8 ∧ i = 6 * (gI g0 1 4).toInt + 2 then a3.toInt else if (gI g0 1 4).toInt < 8 ∧ i = 6 * (gI g0 1 4).toInt + 3 then a4.toInt else if (gI g0 1 4).toInt < 8 ∧ i = 6 * (gI g0 1 4).toInt + 4 then a5.toInt else if (gI g0 1 4).toInt < 8 ∧ i = 6 * (gI g0 1 4).toInt + 5 then a6.toInt else (eA g0 5 (i)).toInt))) := by
  have hF0 : Fr F_X0_addLoad_1 A_X0_addLoad_1 g0 g0 := Fr.rf
  refine Ev.mk rfl rfl ⟨Nat.le_of_ble_eq_true rfl, Or.inr (q_rc hI0.1 kx_1 rfl)⟩ ?_
  show At _ none _ _ (0, [(0, .ref 1), (1, .int a1), (2, .int a2), (3, .int a3), (4, .int a4), (5, .int a5), (6, .int a6)], [], (_, _)) _
  refine At.enter rfl ?_
  refine r_aload_n rfl ?_
  obtain ⟨v51, hv51⟩ : ∃ v, gI g0 1 4 = v := ⟨_, rfl⟩
  have rv51 := RgF.at hI0.2.1 (p := 1) (b := 4) rfl
  rw [hv51] at rv51
  dsimp only at rv51
  refine q_getI (Sh.int hI0.1 kx_1 rfl) v51 hv51 ?_
  refine r_bipush 8 rfl ?_
  refine r_ics 9 rfl (fun c52 => ?_) (fun c52 => ?_)
  · have c52_ : v51.toInt < 8 := en_i_lt_t c52
    refine At.enter rfl ?_
    refine r_aload_n rfl ?_
    refine q_getI (Sh.int hI0.1 kx_1 rfl) v51 hv51 ?_
    refine r_bipush 6 rfl ?_
    refine q_imul (v51.toInt * 6) rfl (by omega) (fun v53 hv53 => ?_)
    refine r_istore ([(7, .int v53), (0, .ref 1), (1, .int a1), (2, .int a2), (3, .int a3), (4, .int a4), (5, .int a5), (6, .int a6)]) rfl ?_
    refine r_aload_n rfl ?_
    refine q_getR (Sh.ref hI0.1 kx_1 rfl) ?_
    refine r_iload rfl ?_
    refine r_iconst 0 rfl ?_
    refine q_iadd (v53.toInt + 0) rfl (by omega) (fun v54 hv54 => ?_)
    refine r_iload_n rfl ?_
    refine q_iast (Sh.arr hI0.1 ka_5) ((6 * v51.toInt)) (by omega) (by omega) ?_
    have hI55 := HI.wA0 hI0 ka_5 (p := 5) rfl rfl ((6 * v51.toInt)) (a1)
    have hF56 := Fr.wA (p := 5) (j := (6 * v51.toInt)) (v := a1) hF0 rfl
    refine r_aload_n rfl ?_
    refine q_getR (Sh.ref hI55.1 kx_1 rfl) ?_
    refine r_iload rfl ?_
    refine r_iconst 1 rfl ?_
    refine q_iadd (v53.toInt + 1) rfl (by omega) (fun v57 hv57 => ?_)
    refine r_iload_n rfl ?_
    refine q_iast (Sh.arr hI55.1 ka_5) ((6 * v51.toInt + 1)) (by omega) (by omega) ?_
    have hI58 := HI.wA0 hI55 ka_5 (p := 5) rfl rfl ((6 * v51.toInt + 1)) (a2)
    have hF59 := Fr.wA (p := 5) (j := (6 * v51.toInt + 1)) (v := a2) hF56 rfl
    refine r_aload_n rfl ?_
    refine q_getR (Sh.ref hI58.1 kx_1 rfl) ?_
    refine r_iload rfl ?_
    refine r_iconst 2 rfl ?_
    refine q_iadd (v53.toInt + 2) rfl (by omega) (fun v60 hv60 => ?_)
    refine r_iload_n rfl ?_
    refine q_iast (Sh.arr hI58.1 ka_5) ((6 * v51.toInt + 2)) (by omega) (by omega) ?_
    have hI61 := HI.wA0 hI58 ka_5 (p := 5) rfl rfl ((6 * v51.toInt + 2)) (a3)
    have hF62 := Fr.wA (p := 5) (j := (6 * v51.toInt + 2)) (v := a3) hF59 rfl
    refine r_aload_n rfl ?_
    refine q_getR (Sh.ref hI61.1 kx_1 rfl) ?_
    refine r_iload rfl ?_
    refine r_iconst 3 rfl ?_
    refine q_iadd (v53.toInt + 3) rfl (by omega) (fun v63 hv63 => ?_)
    refine r_iload rfl ?_
    refine q_iast (Sh.arr hI61.1 ka_5) ((6 * v51.toInt + 3)) (by omega) (by omega) ?_
    have hI64 := HI.wA0 hI61 ka_5 (p := 5) rfl rfl ((6 * v51.toInt + 3)) (a4)
    have hF65 := Fr.wA (p := 5) (j := (6 * v51.toInt + 3)) (v := a4) hF62 rfl
    refine r_aload_n rfl ?_
    refine q_getR (Sh.ref hI64.1 kx_1 rfl) ?_
    refine r_iload rfl ?_
    refine r_iconst 4 rfl ?_
    refine q_iadd (v53.toInt + 4) rfl (by omega) (fun v66 hv66 => ?_)
    refine r_iload rfl ?_
    refine q_iast (Sh.arr hI64.1 ka_5) ((6 * v51.toInt + 4)) (by omega) (by omega) ?_
    have hI67 := HI.wA0 hI64 ka_5 (p := 5) rfl rfl ((6 * v51.toInt + 4)) (a5)
    have hF68 := Fr.wA (p := 5) (j := (6 * v51.toInt + 4)) (v := a5) hF65 rfl
    refine r_aload_n rfl ?_
    refine q_getR (Sh.ref hI67.1 kx_1 rfl) ?_
    refine r_iload rfl ?_
    refine r_iconst 5 rfl ?_
    refine q_iadd (v53.toInt + 5) rfl (by omega) (fun v69 hv69 => ?_)
    refine r_iload rfl ?_
    refine q_iast (Sh.arr hI67.1 ka_5) ((6 * v51.toInt + 5)) (by omega) (by omega) ?_
    have hI70 := HI.wA0 hI67 ka_5 (p := 5) rfl rfl ((6 * v51.toInt + 5)) (a6)
    have hF71 := Fr.wA (p := 5) (j := (6 * v51.toInt + 5)) (v := a6) hF68 rfl
    refine r_aload_n rfl ?_
    refine r_dup rfl ?_
    refine q_getI (Sh.int hI70.1 kx_1 rfl) v51 (((gI_sW).trans ((gI_sW).trans ((gI_sW).trans ((gI_sW).trans ((gI_sW).trans (gI_sW)))))).trans hv51) ?_
    refine r_iconst 1 rfl ?_
    refine q_iadd (v51.toInt + 1) rfl (by omega) (fun v72 hv72 => ?_)
    refine q_putI (Sh.int hI70.1 kx_1 rfl) rfl ?_
    have hI73 := HI.wI1 hI70 kx_1 rfl (p := 1) (b := 4) (v := v72) rfl (by dsimp only; omega)
    have hF74 := Fr.wI (p := 1) (b := 4) (v := v72) hF71 rfl
    refine r_aload_n rfl ?_
    refine q_getI (Sh.int hI73.1 kx_1 rfl) v72 (gI_sI_eq hI70.1 kx_1 rfl _) ?_
    refine r_iconst 1 rfl ?_
    refine q_isub (v72.toInt - 1) rfl (by omega) (fun v75 hv75 => ?_)
    refine r_ireti ?_
    have x76 := HI.eqI hI73 (p := 1) (b := 4) ((gI_sI_eq hI70.1 kx_1 rfl _))
    have x77 := HI.eqI hI0 (p := 1) (b := 4) (hv51)
    exact ⟨_, rfl, hI73, hF74, _, rfl, by omega, ⟨by omega, by omega, (by intro i i0 i1; exact (Decidable.em ((gI g0 1 4).toInt < 8 ∧ i = 6 * (gI g0 1 4).toInt + 0)).elim (fun k12_ => by refine Eq.trans ?_ (if_pos k12_).symm; refine (eA_ti ((gA_sI))).trans ?_; exact (Decidable.em (i = (6 * v51.toInt + 5))).elim (fun k13_ => by refine (eA_eqT hI67.1 ka_5 k13_ (by first | decide | omega) (by first | decide | omega)).trans ?_; (first | (with_reducible rfl) | (omega) | (rfl))) (fun k13_ => by refine (eA_neT hI67.1 ka_5 k13_ (by first | decide | omega) (by omega)).trans ?_; exact (Decidable.em (i = (6 * v51.toInt + 4))).elim (fun k14_ => by refine (eA_eqT hI64.1 ka_5 k14_ (by first | decide | omega) (by first | decide | omega)).trans ?_; (first | (with_reducible rfl) | (omega) | (rfl))) (fun k14_ => by refine (eA_neT hI64.1 ka_5 k14_ (by first | decide | omega) (by omega)).trans ?_; exact (Decidable.em (i = (6 * v51.toInt + 3))).elim (fun k15_ => by refine (eA_eqT hI61.1 ka_5 k15_ (by first | decide | omega) (by first | decide | omega)).trans ?_; (first | (with_reducible rfl) | (omega) | (rfl))) (fun k15_ => by refine (eA_neT hI61.1 ka_5 k15_ (by first | decide | omega) (by omega)).trans ?_; exact (Decidable.em (i = (6 * v51.toInt + 2))).elim (fun k16_ => by refine (eA_eqT hI58.1 ka_5 k16_ (by first | decide | omega) (by first | decide | omega)).trans ?_; (first | (with_reducible rfl) | (omega) | (rfl))) (fun k16_ => by refine (eA_neT hI58.1 ka_5 k16_ (by first | decide | omega) (by omega)).trans ?_; exact (Decidable.em (i = (6 * v51.toInt + 1))).elim (fun k17_ => by refine (eA_eqT hI55.1 ka_5 k17_ (by first | decide | omega) (by first | decide | omega)).trans ?_; (first | (with_reducible rfl) | (omega) | (rfl))) (fun k17_ => by refine (eA_neT hI55.1 ka_5 k17_ (by first | decide | omega) (by omega)).trans ?_; exact (Decidable.em (i = (6 * v51.toInt))).elim (fun k18_ => by refine (eA_eqT hI0.1 ka_5 k18_ (by first | decide | omega) (by first | decide | omega)).trans ?_; (first | (with_reducible rfl) | (omega) | (rfl))) (fun k18_ => by refine (eA_neT hI0.1 ka_5 k18_ (by first | decide | omega) (by omega)).trans ?_; (first | with_reducible rfl | omega | exact eA_ix (by omega) | rfl)))))))) (fun k12_ => by refine Eq.trans ?_ (if_neg k12_).symm; exact (Decidable.em ((gI g0 1 4).toInt < 8 ∧ i = 6 * (gI g0 1 4).toInt + 1)).elim (fun k19_ => by refine Eq.trans ?_ (if_pos k19_).symm; refine (eA_ti ((gA_sI))).trans ?_; exact (Decidable.em (i = (6 * v51.toInt + 5))).elim (fun k20_ => by refine (eA_eqT hI67.1 ka_5 k20_ (by first | decide | omega) (by first | decide | omega)).trans ?_; (first | (with_reducible rfl) | (omega) | (rfl))) (fun k20_ => by refine (eA_neT hI67.1 ka_5 k20_ (by first | decide | omega) (by omega)).trans ?_; exact (Decidable.em (i = (6 * v51.toInt + 4))).elim (fun k21_ => by refine (eA_eqT hI64.1 ka_5 k21_ (by first | decide | omega) (by first | decide | omega)).trans ?_; (first | (with_reducible rfl) | (omega) | (rfl))) (fun k21_ => by refine (eA_neT hI64.1 ka_5 k21_ (by first | decide | omega) (by omega)).trans ?_; exact (Decidable.em (i = (6 * v51.toInt + 3))).elim (fun k22_ => by refine (eA_eqT hI61.1 ka_5 k22_ (by first | decide | omega) (by first | decide | omega)).trans ?_; (first | (with_reducible rfl) | (omega) | (rfl))) (fun k22_ => by refine (eA_neT hI61.1 ka_5 k22_ (by first | decide | omega) (by omega)).trans ?_; exact (Decidable.em (i = (6 * v51.toInt + 2))).elim (fun k23_ => by refine (eA_eqT hI58.1 ka_5 k23_ (by first | decide | omega) (by first | decide | omega)).trans ?_; (first | (with_reducible rfl) | (omega) | (rfl))) (fun k23_ => by refine (eA_neT hI58.1 ka_5 k23_ (by first | decide | omega) (by omega)).trans ?_; exact (Decidable.em (i = (6 * v51.toInt + 1))).elim (fun k24_ => by refine (eA_eqT hI55.1 ka_5 k24_ (by first | decide | omega) (by first | decide | omega)).trans ?_; (first | (with_reducible rfl) | (omega) | (rfl))) (fun k24_ => by refine (eA_neT hI55.1 ka_5 k24_ (by first | decide | omega) (by omega)).trans ?_; exact (Decidable.em (i = (6 * v51.toInt))).elim (fun k25_ => by refine (eA_eqT hI0.1 ka_5 k25_ (by first | decide | omega) (by first | decide | omega)).trans ?_; (first | (with_reducible rfl) | (omega) | (rfl))) (fun k25_ => by refine (eA_neT hI0.1 ka_5 k25_ (by first | decide | omega) (by omega)).trans ?_; (first | with_reducible rfl | omega | exact eA_ix (by omega) | rfl)))))))) (fun k19_ => by refine Eq.trans ?_ (if_neg k19_).symm; exact (Decidable.em ((gI g0 1 4).toInt < 8 ∧ i = 6 * (gI g0 1 4).toInt + 2)).elim (fun k26_ => by refine Eq.trans ?_ (if_pos k26_).symm; refine (eA_ti ((gA_sI))).trans ?_; exact (Decidable.em (i = (6 * v51.toInt + 5))).elim (fun k27_ => by refine (eA_eqT hI67.1 ka_5 k27_ (by first | decide | omega) (by first | decide | omega)).trans ?_; (first | (with_reducible rfl) | (omega) | (rfl))) (fun k27_ => by refine (eA_neT hI67.1 ka_5 k27_ (by first | decide | omega) (by omega)).trans ?_; exact (Decidable.em (i = (6 * v51.toInt + 4))).elim (fun k28_ => by refine (eA_eqT hI64.1 ka_5 k28_ (by first | decide | omega) (by first | decide | omega)).trans ?_; (first | (with_reducible rfl) | (omega) | (rfl))) (fun k28_ => by refine (eA_neT hI64.1 ka_5 k28_ (by first | decide | omega) (by omega)).trans ?_; exact (Decidable.em (i = (6 * v51.toInt + 3))).elim (fun k29_ => by refine (eA_eqT hI61.1 ka_5 k29_ (by first | decide | omega) (by first | decide | omega)).trans ?_; (first | (with_reducible rfl) | (omega) | (rfl))) (fun k29_ => by refine (eA_neT hI61.1 ka_5 k29_ (by first | decide | omega) (by omega)).trans ?_; exact (Decidable.em (i = (6 * v51.toInt + 2))).elim (fun k30_ => by refine (eA_eqT hI58.1 ka_5 k30_ (by first | decide | omega) (by first | decide | omega)).trans ?_; (first | (with_reducible rfl) | (omega) | (rfl))) (fun k30_ => by refine (eA_neT hI58.1 ka_5 k30_ (by first | decide | omega) (by omega)).trans ?_; exact (Decidable.em (i = (6 * v51.toInt + 1))).elim (fun k31_ => by refine (eA_eqT hI55.1 ka_5 k31_ (by first | decide | omega) (by first | decide | omega)).trans ?_; (first | (with_reducible rfl) | (omega) | (rfl))) (fun k31_ => by refine (eA_neT hI55.1 ka_5 k31_ (by first | decide | omega) (by omega)).trans ?_; exact (Decidable.em (i = (6 * v51.toInt))).elim (fun k32_ => by refine (eA_eqT hI0.1 ka_5 k32_ (by first | decide | omega) (by first | decide | omega)).trans ?_; (first | (with_reducible rfl) | (omega) | (rfl))) (fun k32_ => by refine (eA_neT hI0.1 ka_5 k32_ (by first | decide | omega) (by omega)).trans ?_; (first | with_reducible rfl | omega | exact eA_ix (by omega) | rfl)))))))) (fun k26_ => by refine Eq.trans ?_ (if_neg k26_).symm; exact (Decidable.em ((gI g0 1 4).toInt < 8 ∧ i = 6 * (gI g0 1 4).toInt + 3)).elim (fun k33_ => by refine Eq.trans ?_ (if_pos k33_).symm; refine (eA_ti ((gA_sI))).trans ?_; exact (Decidable.em (i = (6 * v51.toInt + 5))).elim (fun k34_ => by refine (eA_eqT hI67.1 ka_5 k34_ (by first | decide | omega) (by first | decide | omega)).trans ?_; (first | (with_reducible rfl) | (omega) | (rfl))) (fun k34_ => by refine (eA_neT hI67.1 ka_5 k34_ (by first | decide | omega) (by omega)).trans ?_; exact (Decidable.em (i = (6 * v51.toInt + 4))).elim (fun k35_ => by refine (eA_eqT hI64.1 ka_5 k35_ (by first | decide | omega) (by first | decide | omega)).trans ?_; (first | (with_reducible rfl) | (omega) | (rfl))) (fun k35_ => by refine (eA_neT hI64.1 ka_5 k35_ (by first | decide | omega) (by omega)).trans ?_; exact (Decidable.em (i = (6 * v51.toInt + 3))).elim (fun k36_ => by refine (eA_eqT hI61.1 ka_5 k36_ (by first | decide | omega) (by first | decide | omega)).trans ?_; (first | (with_reducible rfl) | (omega) | (rfl))) (fun k36_ => by refine (eA_neT hI61.1 ka_5 k36_ (by first | decide | omega) (by omega)).trans ?_; exact (Decidable.em (i = (6 * v51.toInt + 2))).elim (fun k37_ => by refine (eA_eqT hI58.1 ka_5 k37_ (by first | decide | omega) (by first | decide | omega)).trans ?_; (first | (with_reducible rfl) | (omega) | (rfl))) (fun k37_ => by refine (eA_neT hI58.1 ka_5 k37_ (by first | decide | omega) (by omega)).trans ?_; exact (Decidable.em (i = (6 * v51.toInt + 1))).elim (fun k38_ => by refine (eA_eqT hI55.1 ka_5 k38_ (by first | decide | omega) (by first | decide | omega)).trans ?_; (first | (with_reducible rfl) | (omega) | (rfl))) (fun k38_ => by refine (eA_neT hI55.1 ka_5 k38_ (by first | decide | omega) (by omega)).trans ?_; exact (Decidable.em (i = (6 * v51.toInt))).elim (fun k39_ => by refine (eA_eqT hI0.1 ka_5 k39_ (by first | decide | omega) (by first | decide | omega)).trans ?_; (first | (with_reducible rfl) | (omega) | (rfl))) (fun k39_ => by refine (eA_neT hI0.1 ka_5 k39_ (by first | decide | omega) (by omega)).trans ?_; (first | with_reducible rfl | omega | exact eA_ix (by omega) | rfl)))))))) (fun k33_ => by refine Eq.trans ?_ (if_neg k33_).symm; exact (Decidable.em ((gI g0 1 4).toInt < 8 ∧ i = 6 * (gI g0 1 4).toInt + 4)).elim (fun k40_ => by refine Eq.trans ?_ (if_pos k40_).symm; refine (eA_ti ((gA_sI))).trans ?_; exact (Decidable.em (i = (6 * v51.toInt + 5))).elim (fun k41_ => by refine (eA_eqT hI67.1 ka_5 k41_ (by first | decide | omega) (by first | decide | omega)).trans ?_; (first | (with_reducible rfl) | (omega) | (rfl))) (fun k41_ => by refine (eA_neT hI67.1 ka_5 k41_ (by first | decide | omega) (by omega)).trans ?_; exact (Decidable.em (i = (6 * v51.toInt + 4))).elim (fun k42_ => by refine (eA_eqT hI64.1 ka_5 k42_ (by first | decide | omega) (by first | decide | omega)).trans ?_; (first | (with_reducible rfl) | (omega) | (rfl))) (fun k42_ => by refine (eA_neT hI64.1 ka_5 k42_ (by first | decide | omega) (by omega)).trans ?_; exact (Decidable.em (i = (6 * v51.toInt + 3))).elim (fun k43_ => by refine (eA_eqT hI61.1 ka_5 k43_ (by first | decide | omega) (by first | decide | omega)).trans ?_; (first | (with_reducible rfl) | (omega) | (rfl))) (fun k43_ => by refine (eA_neT hI61.1 ka_5 k43_ (by first | decide | omega) (by omega)).trans ?_; exact (Decidable.em (i = (6 * v51.toInt + 2))).elim (fun k44_ => by refine (eA_eqT hI58.1 ka_5 k44_ (by first | decide | omega) (by first | decide | omega)).trans ?_; (first | (with_reducible rfl) | (omega) | (rfl))) (fun k44_ => by refine (eA_neT hI58.1 ka_5 k44_ (by first | decide | omega) (by omega)).trans ?_; exact (Decidable.em (i = (6 * v51.toInt + 1))).elim (fun k45_ => by refine (eA_eqT hI55.1 ka_5 k45_ (by first | decide | omega) (by first | decide | omega)).trans ?_; (first | (with_reducible rfl) | (omega) | (rfl))) (fun k45_ => by refine (eA_neT hI55.1 ka_5 k45_ (by first | decide | omega) (by omega)).trans ?_; exact (Decidable.em (i = (6 * v51.toInt))).elim (fun k46_ => by refine (eA_eqT hI0.1 ka_5 k46_ (by first | decide | omega) (by first | decide | omega)).trans ?_; (first | (with_reducible rfl) | (omega) | (rfl))) (fun k46_ => by refine (eA_neT hI0.1 ka_5 k46_ (by first | decide | omega) (by omega)).trans ?_; (first | with_reducible rfl | omega | exact eA_ix (by omega) | rfl)))))))) (fun k40_ => by refine Eq.trans ?_ (if_neg k40_).symm; exact (Decidable.em ((gI g0 1 4).toInt < 8 ∧ i = 6 * (gI g0 1 4).toInt + 5)).elim (fun k47_ => by refine Eq.trans ?_ (if_pos k47_).symm; refine (eA_ti ((gA_sI))).trans ?_; exact (Decidable.em (i = (6 * v51.toInt + 5))).elim (fun k48_ => by refine (eA_eqT hI67.1 ka_5 k48_ (by first | decide | omega) (by first | decide | omega)).trans ?_; (first | (with_reducible rfl) | (omega) | (rfl))) (fun k48_ => by refine (eA_neT hI67.1 ka_5 k48_ (by first | decide | omega) (by omega)).trans ?_; exact (Decidable.em (i = (6 * v51.toInt + 4))).elim (fun k49_ => by refine (eA_eqT hI64.1 ka_5 k49_ (by first | decide | omega) (by first | decide | omega)).trans ?_; (first | (with_reducible rfl) | (omega) | (rfl))) (fun k49_ => by refine (eA_neT hI64.1 ka_5 k49_ (by first | decide | omega) (by omega)).trans ?_; exact (Decidable.em (i = (6 * v51.toInt + 3))).elim (fun k50_ => by refine (eA_eqT hI61.1 ka_5 k50_ (by first | decide | omega) (by first | decide | omega)).trans ?_; (first | (with_reducible rfl) | (omega) | (rfl))) (fun k50_ => by refine (eA_neT hI61.1 ka_5 k50_ (by first | decide | omega) (by omega)).trans ?_; exact (Decidable.em (i = (6 * v51.toInt + 2))).elim (fun k51_ => by refine (eA_eqT hI58.1 ka_5 k51_ (by first | decide | omega) (by first | decide | omega)).trans ?_; (first | (with_reducible rfl) | (omega) | (rfl))) (fun k51_ => by refine (eA_neT hI58.1 ka_5 k51_ (by first | decide | omega) (by omega)).trans ?_; exact (Decidable.em (i = (6 * v51.toInt + 1))).elim (fun k52_ => by refine (eA_eqT hI55.1 ka_5 k52_ (by first | decide | omega) (by first | decide | omega)).trans ?_; (first | (with_reducible rfl) | (omega) | (rfl))) (fun k52_ => by refine (eA_neT hI55.1 ka_5 k52_ (by first | decide | omega) (by omega)).trans ?_; exact (Decidable.em (i = (6 * v51.toInt))).elim (fun k53_ => by refine (eA_eqT hI0.1 ka_5 k53_ (by first | decide | omega) (by first | decide | omega)).trans ?_; (first | (with_reducible rfl) | (omega) | (rfl))) (fun k53_ => by refine (eA_neT hI0.1 ka_5 k53_ (by first | decide | omega) (by omega)).trans ?_; (first | with_reducible rfl | omega | exact eA_ix (by omega) | rfl)))))))) (fun k47_ => by refine Eq.trans ?_ (if_neg k47_).symm; refine (eA_ti ((gA_sI))).trans ?_; exact (Decidable.em (i = (6 * v51.toInt + 5))).elim (fun k54_ => by refine (eA_eqT hI67.1 ka_5 k54_ (by first | decide | omega) (by first | decide | omega)).trans ?_; (first | (with_reducible rfl) | (omega) | (rfl))) (fun k54_ => by refine (eA_neT hI67.1 ka_5 k54_ (by first | decide | omega) (by omega)).trans ?_; exact (Decidable.em (i = (6 * v51.toInt + 4))).elim (fun k55_ => by refine (eA_eqT hI64.1 ka_5 k55_ (by first | decide | omega) (by first | decide | omega)).trans ?_; (first | (with_reducible rfl) | (omega) | (rfl))) (fun k55_ => by refine (eA_neT hI64.1 ka_5 k55_ (by first | decide | omega) (by omega)).trans ?_; exact (Decidable.em (i = (6 * v51.toInt + 3))).elim (fun k56_ => by refine (eA_eqT hI61.1 ka_5 k56_ (by first | decide | omega) (by first | decide | omega)).trans ?_; (first | (with_reducible rfl) | (omega) | (rfl))) (fun k56_ => by refine (eA_neT hI61.1 ka_5 k56_ (by first | decide | omega) (by omega)).trans ?_; exact (Decidable.em (i = (6 * v51.toInt + 2))).elim (fun k57_ => by refine (eA_eqT hI58.1 ka_5 k57_ (by first | decide | omega) (by first | decide | omega)).trans ?_; (first | (with_reducible rfl) | (omega) | (rfl))) (fun k57_ => by refine (eA_neT hI58.1 ka_5 k57_ (by first | decide | omega) (by omega)).trans ?_; exact (Decidable.em (i = (6 * v51.toInt + 1))).elim (fun k58_ => by refine (eA_eqT hI55.1 ka_5 k58_ (by first | decide | omega) (by first | decide | omega)).trans ?_; (first | (with_reducible rfl) | (omega) | (rfl))) (fun k58_ => by refine (eA_neT hI55.1 ka_5 k58_ (by first | decide | omega) (by omega)).trans ?_; exact (Decidable.em (i = (6 * v51.toInt))).elim (fun k59_ => by refine (eA_eqT hI0.1 ka_5 k59_ (by first | decide | omega) (by first | decide | omega)).trans ?_; (first | (with_reducible rfl) | (omega) | (rfl))) (fun k59_ => by refine (eA_neT hI0.1 ka_5 k59_ (by first | decide | omega) (by omega)).trans ?_; (first | with_reducible rfl | omega | exact eA_ix (by omega) | rfl))))))))))))))⟩⟩
  · have c52_ : v51.toInt ≥ 8 := en_i_lt_f c52
    refine At.enter rfl ?_
    refine r_iconst (-1) rfl ?_
    refine r_ireti ?_
    have zv78 : ((-1) : Int32).toInt = (-1) := rfl
    have x79 := HI.eqI hI0 (p := 1) (b := 4) (hv51)
    have x80 := HI.eqI hI0 (p := 1) (b := 4) (hv51)
    exact ⟨_, rfl, hI0, hF0, _, rfl, by decide, ⟨by omega, by omega, (by intro i i0 i1; refine Eq.trans ?_ (if_neg (show ¬ ((gI g0 1 4).toInt < 8 ∧ i = 6 * (gI g0 1 4).toInt + 0) from by omega)).symm; refine Eq.trans ?_ (if_neg (show ¬ ((gI g0 1 4).toInt < 8 ∧ i = 6 * (gI g0 1 4).toInt + 1) from by omega)).symm; refine Eq.trans ?_ (if_neg (show ¬ ((gI g0 1 4).toInt < 8 ∧ i = 6 * (gI g0 1 4).toInt + 2) from by omega)).symm; refine Eq.trans ?_ (if_neg (show ¬ ((gI g0 1 4).toInt < 8 ∧ i = 6 * (gI g0 1 4).toInt + 3) from by omega)).symm; refine Eq.trans ?_ (if_neg (show ¬ ((gI g0 1 4).toInt < 8 ∧ i = 6 * (gI g0 1 4).toInt + 4) from by omega)).symm; refine Eq.trans ?_ (if_neg (show ¬ ((gI g0 1 4).toInt < 8 ∧ i = 6 * (gI g0 1 4).toInt + 5) from by omega)).symm; (first | with_reducible rfl | omega | exact eA_ix (by omega) | rfl))⟩⟩

def F_X0_removeLoad_1 : List (Nat × Nat) := [(1, 4)]
def A_X0_removeLoad_1 : List Nat := [5]
set_option maxRecDepth 100000 in
set_option maxHeartbeats 4000000 in
theorem T_X0_removeLoad_1 (d : Nat) {N : Nat} {g0 : List en_E} (hI0 : HI g0) (a1 : Int32) : Ev (d + 2) 7 [.ref 1, .int a1] (g0, N) (fun w h' => ∃ g', h' = (g', N) ∧ HI g' ∧ Fr F_X0_removeLoad_1 A_X0_removeLoad_1 g0 g' ∧ w = none ∧ ((0 ≤ a1.toInt ∧ a1.toInt < (gI g0 1 4).toInt → (gI g' 1 4).toInt = (gI g0 1 4).toInt - 1) ∧ (¬ (0 ≤ a1.toInt ∧ a1.toInt < (gI g0 1 4).toInt) → (gI g' 1 4).toInt = (gI g0 1 4).toInt) ∧ (∀ i : Int, 0 ≤ i → i < 48 → (eA g' 5 (i)).toInt = if (0 ≤ a1.toInt ∧ a1.toInt < (gI g0 1 4).toInt) ∧ 6 * a1.toInt ≤ i ∧ i < 6 * (gI g0 1 4).toInt - 6 then (eA g0 5 (i + 6)).toInt else (eA g0 5 (i)).toInt))) := by
  have hF0 : Fr F_X0_removeLoad_1 A_X0_removeLoad_1 g0 g0 := Fr.rf
  refine Ev.mk rfl rfl ⟨Nat.le_of_ble_eq_true rfl, Or.inr (q_rc hI0.1 kx_1 rfl)⟩ ?_
  show At _ none _ _ (0, [(0, .ref 1), (1, .int a1)], [], (_, _)) _
  refine At.enter rfl ?_
  refine r_aload_n rfl ?_
  refine r_iload_n rfl ?_
  refine q_inlV 5 rfl [.ref 1, .int a1] [] (Nat.le_of_ble_eq_true rfl) rfl ?_
  refine Ev.mk rfl rfl ⟨Nat.le_of_ble_eq_true rfl, Or.inr (q_rc hI0.1 kx_1 rfl)⟩ ?_
  show At _ none _ _ (0, [(0, .ref 1), (1, .int a1)], [], (_, _)) _
  refine At.enter rfl ?_
  refine r_iload_n rfl ?_
  refine r_ifs 4 rfl (fun c31 => ?_) (fun c31 => ?_)
  · have c31_ : a1.toInt < 0 := en_k_lt_t c31
    refine At.enter rfl ?_
    refine r_iconst 0 rfl ?_
    refine Ar.fall 17 rfl ?_
    refine At.enter rfl ?_
    refine q_iretz (by decide) ?_
    refine At.enter rfl ?_
    refine r_ift (by decide) ?_
    refine At.enter rfl ?_
    refine r_vret ?_
    obtain ⟨v32, hv32⟩ : ∃ v, gI g0 1 4 = v := ⟨_, rfl⟩
    have rv32 := RgF.at hI0.2.1 (p := 1) (b := 4) rfl
    rw [hv32] at rv32
    dsimp only at rv32
    have tv32 := congrArg Int32.toInt hv32
    exact ⟨_, rfl, hI0, hF0, rfl, ⟨by omega, by omega, (by intro i i0 i1; refine Eq.trans ?_ (if_neg (show ¬ ((0 ≤ a1.toInt ∧ a1.toInt < (gI g0 1 4).toInt) ∧ 6 * a1.toInt ≤ i ∧ i < 6 * (gI g0 1 4).toInt - 6) from by omega)).symm; (first | with_reducible rfl | omega | exact eA_ix (by omega) | rfl))⟩⟩
  · have c31_ : a1.toInt ≥ 0 := en_k_lt_f c31
    refine At.enter rfl ?_
    refine r_iload_n rfl ?_
    refine r_aload_n rfl ?_
    obtain ⟨v35, hv35⟩ : ∃ v, gI g0 1 4 = v := ⟨_, rfl⟩
    have rv35 := RgF.at hI0.2.1 (p := 1) (b := 4) rfl
    rw [hv35] at rv35
    dsimp only at rv35
    refine q_getI (Sh.int hI0.1 kx_1 rfl) v35 hv35 ?_
    have bv37 := q_bnd a1
    have bv38 := q_bnd v35
    refine r_ics 12 rfl (fun c36 => ?_) (fun c36 => ?_)
    · have c36_ : a1.toInt ≥ v35.toInt := en_i_ge_t c36
      refine At.enter rfl ?_
      refine r_iconst 0 rfl ?_
      refine Ar.fall 17 rfl ?_
      refine At.enter rfl ?_
      refine q_iretz (by decide) ?_
      refine At.enter rfl ?_
      refine r_ift (by decide) ?_
      refine At.enter rfl ?_
      refine r_vret ?_
      have x39 := HI.eqI hI0 (p := 1) (b := 4) (hv35)
      have x40 := HI.eqI hI0 (p := 1) (b := 4) (hv35)
      exact ⟨_, rfl, hI0, hF0, rfl, ⟨by omega, by omega, (by intro i i0 i1; refine Eq.trans ?_ (if_neg (show ¬ ((0 ≤ a1.toInt ∧ a1.toInt < (gI g0 1 4).toInt) ∧ 6 * a1.toInt ≤ i ∧ i < 6 * (gI g0 1 4).toInt - 6) from by omega)).symm; (first | with_reducible rfl | omega | exact eA_ix (by omega) | rfl))⟩⟩
    · have c36_ : a1.toInt < v35.toInt := en_i_ge_f c36
      refine At.enter rfl ?_
      refine r_iconst 1 rfl ?_
      refine r_goto ?_
      refine At.enter rfl ?_
      refine q_iretz (by decide) ?_
      refine At.enter rfl ?_
      refine r_iff 8 rfl (by decide) ?_
      refine At.enter rfl ?_
      refine r_iload_n rfl ?_
      refine r_iconst 1 rfl ?_
      refine q_iadd (a1.toInt + 1) rfl (by omega) (fun v41 hv41 => ?_)
      refine r_bipush 6 rfl ?_
      refine q_imul (v41.toInt * 6) rfl (by omega) (fun v42 hv42 => ?_)
      refine r_istore_n ([(2, .int v42), (0, .ref 1), (1, .int a1)]) rfl ?_
      refine r_aload_n rfl ?_
      refine q_getR (Sh.ref hI0.1 kx_1 rfl) ?_
      refine r_iload_n rfl ?_
      refine r_aload_n rfl ?_
      refine q_getR (Sh.ref hI0.1 kx_1 rfl) ?_
      refine r_iload_n rfl ?_
      refine r_bipush 6 rfl ?_
      refine q_imul (a1.toInt * 6) rfl (by omega) (fun v43 hv43 => ?_)
      refine r_aload_n rfl ?_
      refine q_getI (Sh.int hI0.1 kx_1 rfl) v35 hv35 ?_
      refine r_bipush 6 rfl ?_
      refine q_imul (v35.toInt * 6) rfl (by omega) (fun v44 hv44 => ?_)
      refine r_iload_n rfl ?_
      refine q_isub (v44.toInt - v42.toInt) rfl (by omega) (fun v45 hv45 => ?_)
      refine q_cpy rfl (Nat.le_of_ble_eq_true rfl) (Sh.arr hI0.1 ka_5) (Sh.arr hI0.1 ka_5) ⟨by omega, by omega, by omega, by omega, by omega⟩ ?_
      have hI46 := HI.cpy0 hI0 ka_5 ka_5 rfl rfl ((v42 : Int32).toInt.toNat) ((v43 : Int32).toInt.toNat) ((v45 : Int32).toInt.toNat) (by omega) (by omega)
      have hF47 := Fr.cpy (p0 := 5) (p1 := 5) hF0 rfl ((v42 : Int32).toInt.toNat) ((v43 : Int32).toInt.toNat) ((v45 : Int32).toInt.toNat)
      refine r_aload_n rfl ?_
      refine r_dup rfl ?_
      refine q_getI (Sh.int hI46.1 kx_1 rfl) v35 ((gI_sW).trans hv35) ?_
      refine r_iconst 1 rfl ?_
      refine q_isub (v35.toInt - 1) rfl (by omega) (fun v48 hv48 => ?_)
      refine q_putI (Sh.int hI46.1 kx_1 rfl) rfl ?_
      have hI49 := HI.wI1 hI46 kx_1 rfl (p := 1) (b := 4) (v := v48) rfl (by dsimp only; omega)
      have hF50 := Fr.wI (p := 1) (b := 4) (v := v48) hF47 rfl
      refine Ar.fall 50 rfl ?_
      refine At.enter rfl ?_
      refine r_vret ?_
      have x51 := HI.eqI hI49 (p := 1) (b := 4) ((gI_sI_eq hI46.1 kx_1 rfl _))
      have x52 := HI.eqI hI0 (p := 1) (b := 4) (hv35)
      exact ⟨_, rfl, hI49, hF50, rfl, ⟨by omega, by omega, (by intro i i0 i1; exact (Decidable.em ((0 ≤ a1.toInt ∧ a1.toInt < (gI g0 1 4).toInt) ∧ 6 * a1.toInt ≤ i ∧ i < 6 * (gI g0 1 4).toInt - 6)).elim (fun k60_ => by refine Eq.trans ?_ (if_pos k60_).symm; refine (eA_ti ((gA_sI))).trans ?_; exact (Decidable.em ((6 * a1.toInt) ≤ i ∧ i < (6 * v35.toInt + (-6)))).elim (fun k61_ => by refine (eA_cpI hI0.1 ka_5 ka_5 (sp := (v42 : Int32).toInt.toNat) (dp := (v43 : Int32).toInt.toNat) (m := (v45 : Int32).toInt.toNat) (by omega) (by omega) (i := i) (i' := i + 6) (by omega) (by omega) (by omega)).trans ?_; (first | with_reducible rfl | omega | exact eA_ix (by omega) | rfl)) (fun k61_ => by refine (eA_cpO hI0.1 ka_5 ka_5 (sp := (v42 : Int32).toInt.toNat) (dp := (v43 : Int32).toInt.toNat) (m := (v45 : Int32).toInt.toNat) (by omega) (by omega) (i := i) (by omega) (by omega)).trans ?_; (first | with_reducible rfl | omega | exact eA_ix (by omega) | rfl))) (fun k60_ => by refine Eq.trans ?_ (if_neg k60_).symm; refine (eA_ti ((gA_sI))).trans ?_; exact (Decidable.em ((6 * a1.toInt) ≤ i ∧ i < (6 * v35.toInt + (-6)))).elim (fun k62_ => by refine (eA_cpI hI0.1 ka_5 ka_5 (sp := (v42 : Int32).toInt.toNat) (dp := (v43 : Int32).toInt.toNat) (m := (v45 : Int32).toInt.toNat) (by omega) (by omega) (i := i) (i' := i + 6) (by omega) (by omega) (by omega)).trans ?_; (first | with_reducible rfl | omega | exact eA_ix (by omega) | rfl)) (fun k62_ => by refine (eA_cpO hI0.1 ka_5 ka_5 (sp := (v42 : Int32).toInt.toNat) (dp := (v43 : Int32).toInt.toNat) (m := (v45 : Int32).toInt.toNat) (by omega) (by omega) (i := i) (by omega) (by omega)).trans ?_; (first | with_reducible rfl | omega | exact eA_ix (by omega) | rfl))))⟩⟩

def F_X10_stand_0 : List (Nat × Nat) := [(0, 14), (0, 17), (1, 0), (220, 2), (222, 2), (223, 5), (223, 10)]
def A_X10_stand_0 : List Nat := [2, 3, 4, 230]
theorem mf_X10_refused_0_1_0 : memF F_X10_refused_0 1 0 = false := by decide
theorem ma_X10_refused_0_2 : memA A_X10_refused_0 2 = false := by decide
theorem ma_X10_refused_0_3 : memA A_X10_refused_0 3 = false := by decide
theorem ma_X10_refused_0_4 : memA A_X10_refused_0 4 = false := by decide
theorem mf_X10_changed_0_1_0 : memF F_X10_changed_0 1 0 = false := by decide
theorem ma_X10_changed_0_2 : memA A_X10_changed_0 2 = false := by decide
theorem ma_X10_changed_0_3 : memA A_X10_changed_0 3 = false := by decide
theorem ma_X10_changed_0_4 : memA A_X10_changed_0 4 = false := by decide
set_option maxRecDepth 100000 in
set_option maxHeartbeats 4000000 in
theorem T_X10_stand_0 (d : Nat) {N : Nat} {g0 : List en_E} (hI0 : HI g0) (a1 : Int32) (a2 : Int32) (a3 : Int32) : Ev (d + 3) 104 [.ref 0, .int a1, .int a2, .int a3] (g0, N) (fun w h' => ∃ g', h' = (g', N) ∧ HI g' ∧ Fr F_X10_stand_0 A_X10_stand_0 g0 g' ∧ ∃ r : Int32, w = some (.int r) ∧ ((-5) ≤ r.toInt ∧ r.toInt ≤ 11) ∧ ((((¬ (-1 ≤ a1.toInt ∧ a1.toInt ≤ 11 ∧ 1 ≤ a2.toInt ∧ a2.toInt ≤ 9 ∧ 0 ≤ a3.toInt ∧ a3.toInt ≤ 99) → r.toInt = -1 ∧ (gI g' 1 0).toInt = (gI g0 1 0).toInt) ∧ ((-1 ≤ a1.toInt ∧ a1.toInt ≤ 11 ∧ 1 ≤ a2.toInt ∧ a2.toInt ≤ 9 ∧ 0 ≤ a3.toInt ∧ a3.toInt ≤ 99) ∧ 12 ≤ (gI g0 1 0).toInt → r.toInt = -5 ∧ (gI g' 1 0).toInt = (gI g0 1 0).toInt) ∧ ((-1 ≤ a1.toInt ∧ a1.toInt ≤ 11 ∧ 1 ≤ a2.toInt ∧ a2.toInt ≤ 9 ∧ 0 ≤ a3.toInt ∧ a3.toInt ≤ 99) ∧ (gI g0 1 0).toInt < 12 → r.toInt = (gI g0 1 0).toInt ∧ (gI g' 1 0).toInt = (gI g0 1 0).toInt + 1)) ∧ (∀ i : Int, 0 ≤ i → i < 12 → (eA g' 2 (i)).toInt = if ((-1 ≤ a1.toInt ∧ a1.toInt ≤ 11 ∧ 1 ≤ a2.toInt ∧ a2.toInt ≤ 9 ∧ 0 ≤ a3.toInt ∧ a3.toInt ≤ 99) ∧ (gI g0 1 0).toInt < 12) ∧ i = (gI g0 1 0).toInt then a1.toInt else (eA g0 2 (i)).toInt) ∧ (∀ i : Int, 0 ≤ i → i < 12 → (eA g' 3 (i)).toInt = if ((-1 ≤ a1.toInt ∧ a1.toInt ≤ 11 ∧ 1 ≤ a2.toInt ∧ a2.toInt ≤ 9 ∧ 0 ≤ a3.toInt ∧ a3.toInt ≤ 99) ∧ (gI g0 1 0).toInt < 12) ∧ i = (gI g0 1 0).toInt then a2.toInt else (eA g0 3 (i)).toInt) ∧ (∀ i : Int, 0 ≤ i → i < 12 → (eA g' 4 (i)).toInt = if ((-1 ≤ a1.toInt ∧ a1.toInt ≤ 11 ∧ 1 ≤ a2.toInt ∧ a2.toInt ≤ 9 ∧ 0 ≤ a3.toInt ∧ a3.toInt ≤ 99) ∧ (gI g0 1 0).toInt < 12) ∧ i = (gI g0 1 0).toInt then a3.toInt else (eA g0 4 (i)).toInt)) ∧ SU r.toInt (gI g' 0 17).toInt)) := by
  have hF0 : Fr F_X10_stand_0 A_X10_stand_0 g0 g0 := Fr.rf
  refine Ev.mk rfl rfl ⟨Nat.le_of_ble_eq_true rfl, Or.inr (q_rc hI0.1 kx_0 rfl)⟩ ?_
  show At _ none _ _ (0, [(0, .ref 0), (1, .int a1), (2, .int a2), (3, .int a3)], [], (_, _)) _
  refine At.enter rfl ?_
  refine r_iload_n rfl ?_
  refine r_iconst (-1) rfl ?_
  refine r_bipush 11 rfl ?_
  refine q_inlS 7 rfl [.int a1, .int (-1), .int 11] [] (Nat.le_of_ble_eq_true rfl) rfl ?_
  refine Ev.mk rfl rfl ⟨Nat.le_of_ble_eq_true rfl, Or.inl rfl⟩ ?_
  show At _ none _ _ (0, [(0, .int a1), (1, .int (-1)), (2, .int 11)], [], (_, _)) _
  refine At.enter rfl ?_
  refine r_iload_n rfl ?_
  refine r_iload_n rfl ?_
  refine r_ics 5 rfl (fun c153 => ?_) (fun c153 => ?_)
  · have c153_ : a1.toInt < (-1) := en_i_lt_t c153
    refine At.enter rfl ?_
    refine r_iconst 0 rfl ?_
    refine Ar.fall 15 rfl ?_
    refine At.enter rfl ?_
    refine q_iretz (by decide) ?_
    refine At.enter rfl ?_
    refine r_ift (by decide) ?_
    refine At.enter rfl ?_
    refine r_aload_n rfl ?_
    refine r_iconst (-1) rfl ?_
    refine r_callV 29 rfl [.ref 0, .int (-1)] [] (Nat.le_of_ble_eq_true rfl) rfl (T_X10_refused_0 _ hI0 (-1) (by decide)) ?_
    rintro _ _ ⟨g154, rfl, hI155, hF156, v157, rfl, hr158⟩
    refine At.sti ?_
    have hF159 := Fr.tr hF0 hF156 rfl rfl
    have zv160 : ((-1) : Int32).toInt = (-1) := rfl
    refine At.enter rfl ?_
    refine r_ireti ?_
    obtain ⟨v161, hv161⟩ : ∃ v, gI g0 1 0 = v := ⟨_, rfl⟩
    have rv161 := RgF.at hI0.2.1 (p := 1) (b := 0) rfl
    rw [hv161] at rv161
    dsimp only at rv161
    have tv161 := congrArg Int32.toInt hv161
    have x162 := HI.eqI hI155 (p := 1) (b := 0) (((hF156.1 1 0 mf_X10_refused_0_1_0).trans hv161))
    obtain ⟨v165, hv165⟩ : ∃ v, gI g154 0 17 = v := ⟨_, rfl⟩
    have tv165 := congrArg Int32.toInt hv165
    exact ⟨_, rfl, hI155, hF159, _, rfl, by omega, ⟨⟨(by omega), (by intro i i0 i1; refine Eq.trans ?_ (if_neg (show ¬ (((-1 ≤ a1.toInt ∧ a1.toInt ≤ 11 ∧ 1 ≤ a2.toInt ∧ a2.toInt ≤ 9 ∧ 0 ≤ a3.toInt ∧ a3.toInt ≤ 99) ∧ (gI g0 1 0).toInt < 12) ∧ i = (gI g0 1 0).toInt) from by omega)).symm; refine (eA_ti ((hF156.2.1 2 ma_X10_refused_0_2))).trans ?_; (first | with_reducible rfl | omega | exact eA_ix (by omega) | rfl)), (by intro i i0 i1; refine Eq.trans ?_ (if_neg (show ¬ (((-1 ≤ a1.toInt ∧ a1.toInt ≤ 11 ∧ 1 ≤ a2.toInt ∧ a2.toInt ≤ 9 ∧ 0 ≤ a3.toInt ∧ a3.toInt ≤ 99) ∧ (gI g0 1 0).toInt < 12) ∧ i = (gI g0 1 0).toInt) from by omega)).symm; refine (eA_ti ((hF156.2.1 3 ma_X10_refused_0_3))).trans ?_; (first | with_reducible rfl | omega | exact eA_ix (by omega) | rfl)), (by intro i i0 i1; refine Eq.trans ?_ (if_neg (show ¬ (((-1 ≤ a1.toInt ∧ a1.toInt ≤ 11 ∧ 1 ≤ a2.toInt ∧ a2.toInt ≤ 9 ∧ 0 ≤ a3.toInt ∧ a3.toInt ≤ 99) ∧ (gI g0 1 0).toInt < 12) ∧ i = (gI g0 1 0).toInt) from by omega)).symm; refine (eA_ti ((hF156.2.1 4 ma_X10_refused_0_4))).trans ?_; (first | with_reducible rfl | omega | exact eA_ix (by omega) | rfl))⟩, (SU.mk (by omega))⟩⟩
  · have c153_ : a1.toInt ≥ (-1) := en_i_lt_f c153
    refine At.enter rfl ?_
    refine r_iload_n rfl ?_
    refine r_iload_n rfl ?_
    refine r_ics 10 rfl (fun c167 => ?_) (fun c167 => ?_)
    · have c167_ : a1.toInt > 11 := en_i_gt_t c167
      refine At.enter rfl ?_
      refine r_iconst 0 rfl ?_
      refine Ar.fall 15 rfl ?_
      refine At.enter rfl ?_
      refine q_iretz (by decide) ?_
      refine At.enter rfl ?_
      refine r_ift (by decide) ?_
      refine At.enter rfl ?_
      refine r_aload_n rfl ?_
      refine r_iconst (-1) rfl ?_
      refine r_callV 29 rfl [.ref 0, .int (-1)] [] (Nat.le_of_ble_eq_true rfl) rfl (T_X10_refused_0 _ hI0 (-1) (by decide)) ?_
      rintro _ _ ⟨g168, rfl, hI169, hF170, v171, rfl, hr172⟩
      refine At.sti ?_
      have hF173 := Fr.tr hF0 hF170 rfl rfl
      have zv174 : ((-1) : Int32).toInt = (-1) := rfl
      refine At.enter rfl ?_
      refine r_ireti ?_
      obtain ⟨v175, hv175⟩ : ∃ v, gI g0 1 0 = v := ⟨_, rfl⟩
      have rv175 := RgF.at hI0.2.1 (p := 1) (b := 0) rfl
      rw [hv175] at rv175
      dsimp only at rv175
      have tv175 := congrArg Int32.toInt hv175
      have x176 := HI.eqI hI169 (p := 1) (b := 0) (((hF170.1 1 0 mf_X10_refused_0_1_0).trans hv175))
      obtain ⟨v179, hv179⟩ : ∃ v, gI g168 0 17 = v := ⟨_, rfl⟩
      have tv179 := congrArg Int32.toInt hv179
      exact ⟨_, rfl, hI169, hF173, _, rfl, by omega, ⟨⟨(by omega), (by intro i i0 i1; refine Eq.trans ?_ (if_neg (show ¬ (((-1 ≤ a1.toInt ∧ a1.toInt ≤ 11 ∧ 1 ≤ a2.toInt ∧ a2.toInt ≤ 9 ∧ 0 ≤ a3.toInt ∧ a3.toInt ≤ 99) ∧ (gI g0 1 0).toInt < 12) ∧ i = (gI g0 1 0).toInt) from by omega)).symm; refine (eA_ti ((hF170.2.1 2 ma_X10_refused_0_2))).trans ?_; (first | with_reducible rfl | omega | exact eA_ix (by omega) | rfl)), (by intro i i0 i1; refine Eq.trans ?_ (if_neg (show ¬ (((-1 ≤ a1.toInt ∧ a1.toInt ≤ 11 ∧ 1 ≤ a2.toInt ∧ a2.toInt ≤ 9 ∧ 0 ≤ a3.toInt ∧ a3.toInt ≤ 99) ∧ (gI g0 1 0).toInt < 12) ∧ i = (gI g0 1 0).toInt) from by omega)).symm; refine (eA_ti ((hF170.2.1 3 ma_X10_refused_0_3))).trans ?_; (first | with_reducible rfl | omega | exact eA_ix (by omega) | rfl)), (by intro i i0 i1; refine Eq.trans ?_ (if_neg (show ¬ (((-1 ≤ a1.toInt ∧ a1.toInt ≤ 11 ∧ 1 ≤ a2.toInt ∧ a2.toInt ≤ 9 ∧ 0 ≤ a3.toInt ∧ a3.toInt ≤ 99) ∧ (gI g0 1 0).toInt < 12) ∧ i = (gI g0 1 0).toInt) from by omega)).symm; refine (eA_ti ((hF170.2.1 4 ma_X10_refused_0_4))).trans ?_; (first | with_reducible rfl | omega | exact eA_ix (by omega) | rfl))⟩, (SU.mk (by omega))⟩⟩
    · have c167_ : a1.toInt ≤ 11 := en_i_gt_f c167
      refine At.enter rfl ?_
      refine r_iconst 1 rfl ?_
      refine r_goto ?_
      refine At.enter rfl ?_
      refine q_iretz (by decide) ?_
      refine At.enter rfl ?_
      refine r_iff 10 rfl (by decide) ?_
      refine At.enter rfl ?_
      refine r_iload_n rfl ?_
      refine q_inlS 14 rfl [.int a2] [] (Nat.le_of_ble_eq_true rfl) rfl ?_
      refine Ev.mk rfl rfl ⟨Nat.le_of_ble_eq_true rfl, Or.inl rfl⟩ ?_
      show At _ none _ _ (0, [(0, .int a2)], [], (_, _)) _
      refine At.enter rfl ?_
      refine r_iload_n rfl ?_
      refine r_iconst 1 rfl ?_
      refine r_bipush 9 rfl ?_
      refine q_inlS 7 rfl [.int a2, .int 1, .int 9] [] (Nat.le_of_ble_eq_true rfl) rfl ?_
      refine Ev.mk rfl rfl ⟨Nat.le_of_ble_eq_true rfl, Or.inl rfl⟩ ?_
      show At _ none _ _ (0, [(0, .int a2), (1, .int 1), (2, .int 9)], [], (_, _)) _
      refine At.enter rfl ?_
      refine r_iload_n rfl ?_
      refine r_iload_n rfl ?_
      refine r_ics 5 rfl (fun c181 => ?_) (fun c181 => ?_)
      · have c181_ : a2.toInt < 1 := en_i_lt_t c181
        refine At.enter rfl ?_
        refine r_iconst 0 rfl ?_
        refine Ar.fall 15 rfl ?_
        refine At.enter rfl ?_
        refine q_iretz (by decide) ?_
        refine At.enter rfl ?_
        refine q_iretz (by decide) ?_
        refine At.enter rfl ?_
        refine r_ift (by decide) ?_
        refine At.enter rfl ?_
        refine r_aload_n rfl ?_
        refine r_iconst (-1) rfl ?_
        refine r_callV 29 rfl [.ref 0, .int (-1)] [] (Nat.le_of_ble_eq_true rfl) rfl (T_X10_refused_0 _ hI0 (-1) (by decide)) ?_
        rintro _ _ ⟨g182, rfl, hI183, hF184, v185, rfl, hr186⟩
        refine At.sti ?_
        have hF187 := Fr.tr hF0 hF184 rfl rfl
        have zv188 : ((-1) : Int32).toInt = (-1) := rfl
        refine At.enter rfl ?_
        refine r_ireti ?_
        obtain ⟨v189, hv189⟩ : ∃ v, gI g0 1 0 = v := ⟨_, rfl⟩
        have rv189 := RgF.at hI0.2.1 (p := 1) (b := 0) rfl
        rw [hv189] at rv189
        dsimp only at rv189
        have tv189 := congrArg Int32.toInt hv189
        have x190 := HI.eqI hI183 (p := 1) (b := 0) (((hF184.1 1 0 mf_X10_refused_0_1_0).trans hv189))
        obtain ⟨v193, hv193⟩ : ∃ v, gI g182 0 17 = v := ⟨_, rfl⟩
        have tv193 := congrArg Int32.toInt hv193
        exact ⟨_, rfl, hI183, hF187, _, rfl, by omega, ⟨⟨(by omega), (by intro i i0 i1; refine Eq.trans ?_ (if_neg (show ¬ (((-1 ≤ a1.toInt ∧ a1.toInt ≤ 11 ∧ 1 ≤ a2.toInt ∧ a2.toInt ≤ 9 ∧ 0 ≤ a3.toInt ∧ a3.toInt ≤ 99) ∧ (gI g0 1 0).toInt < 12) ∧ i = (gI g0 1 0).toInt) from by omega)).symm; refine (eA_ti ((hF184.2.1 2 ma_X10_refused_0_2))).trans ?_; (first | with_reducible rfl | omega | exact eA_ix (by omega) | rfl)), (by intro i i0 i1; refine Eq.trans ?_ (if_neg (show ¬ (((-1 ≤ a1.toInt ∧ a1.toInt ≤ 11 ∧ 1 ≤ a2.toInt ∧ a2.toInt ≤ 9 ∧ 0 ≤ a3.toInt ∧ a3.toInt ≤ 99) ∧ (gI g0 1 0).toInt < 12) ∧ i = (gI g0 1 0).toInt) from by omega)).symm; refine (eA_ti ((hF184.2.1 3 ma_X10_refused_0_3))).trans ?_; (first | with_reducible rfl | omega | exact eA_ix (by omega) | rfl)), (by intro i i0 i1; refine Eq.trans ?_ (if_neg (show ¬ (((-1 ≤ a1.toInt ∧ a1.toInt ≤ 11 ∧ 1 ≤ a2.toInt ∧ a2.toInt ≤ 9 ∧ 0 ≤ a3.toInt ∧ a3.toInt ≤ 99) ∧ (gI g0 1 0).toInt < 12) ∧ i = (gI g0 1 0).toInt) from by omega)).symm; refine (eA_ti ((hF184.2.1 4 ma_X10_refused_0_4))).trans ?_; (first | with_reducible rfl | omega | exact eA_ix (by omega) | rfl))⟩, (SU.mk (by omega))⟩⟩
      · have c181_ : a2.toInt ≥ 1 := en_i_lt_f c181
        refine At.enter rfl ?_
        refine r_iload_n rfl ?_
        refine r_iload_n rfl ?_
        refine r_ics 10 rfl (fun c195 => ?_) (fun c195 => ?_)
        · have c195_ : a2.toInt > 9 := en_i_gt_t c195
          refine At.enter rfl ?_
          refine r_iconst 0 rfl ?_
          refine Ar.fall 15 rfl ?_
          refine At.enter rfl ?_
          refine q_iretz (by decide) ?_
          refine At.enter rfl ?_
          refine q_iretz (by decide) ?_
          refine At.enter rfl ?_
          refine r_ift (by decide) ?_
          refine At.enter rfl ?_
          refine r_aload_n rfl ?_
          refine r_iconst (-1) rfl ?_
          refine r_callV 29 rfl [.ref 0, .int (-1)] [] (Nat.le_of_ble_eq_true rfl) rfl (T_X10_refused_0 _ hI0 (-1) (by decide)) ?_
          rintro _ _ ⟨g196, rfl, hI197, hF198, v199, rfl, hr200⟩
          refine At.sti ?_
          have hF201 := Fr.tr hF0 hF198 rfl rfl
          have zv202 : ((-1) : Int32).toInt = (-1) := rfl
          refine At.enter rfl ?_
          refine r_ireti ?_
          obtain ⟨v203, hv203⟩ : ∃ v, gI g0 1 0 = v := ⟨_, rfl⟩
          have rv203 := RgF.at hI0.2.1 (p := 1) (b := 0) rfl
          rw [hv203] at rv203
          dsimp only at rv203
          have tv203 := congrArg Int32.toInt hv203
          have x204 := HI.eqI hI197 (p := 1) (b := 0) (((hF198.1 1 0 mf_X10_refused_0_1_0).trans hv203))
          obtain ⟨v207, hv207⟩ : ∃ v, gI g196 0 17 = v := ⟨_, rfl⟩
          have tv207 := congrArg Int32.toInt hv207
          exact ⟨_, rfl, hI197, hF201, _, rfl, by omega, ⟨⟨(by omega), (by intro i i0 i1; refine Eq.trans ?_ (if_neg (show ¬ (((-1 ≤ a1.toInt ∧ a1.toInt ≤ 11 ∧ 1 ≤ a2.toInt ∧ a2.toInt ≤ 9 ∧ 0 ≤ a3.toInt ∧ a3.toInt ≤ 99) ∧ (gI g0 1 0).toInt < 12) ∧ i = (gI g0 1 0).toInt) from by omega)).symm; refine (eA_ti ((hF198.2.1 2 ma_X10_refused_0_2))).trans ?_; (first | with_reducible rfl | omega | exact eA_ix (by omega) | rfl)), (by intro i i0 i1; refine Eq.trans ?_ (if_neg (show ¬ (((-1 ≤ a1.toInt ∧ a1.toInt ≤ 11 ∧ 1 ≤ a2.toInt ∧ a2.toInt ≤ 9 ∧ 0 ≤ a3.toInt ∧ a3.toInt ≤ 99) ∧ (gI g0 1 0).toInt < 12) ∧ i = (gI g0 1 0).toInt) from by omega)).symm; refine (eA_ti ((hF198.2.1 3 ma_X10_refused_0_3))).trans ?_; (first | with_reducible rfl | omega | exact eA_ix (by omega) | rfl)), (by intro i i0 i1; refine Eq.trans ?_ (if_neg (show ¬ (((-1 ≤ a1.toInt ∧ a1.toInt ≤ 11 ∧ 1 ≤ a2.toInt ∧ a2.toInt ≤ 9 ∧ 0 ≤ a3.toInt ∧ a3.toInt ≤ 99) ∧ (gI g0 1 0).toInt < 12) ∧ i = (gI g0 1 0).toInt) from by omega)).symm; refine (eA_ti ((hF198.2.1 4 ma_X10_refused_0_4))).trans ?_; (first | with_reducible rfl | omega | exact eA_ix (by omega) | rfl))⟩, (SU.mk (by omega))⟩⟩
        · have c195_ : a2.toInt ≤ 9 := en_i_gt_f c195
          refine At.enter rfl ?_
          refine r_iconst 1 rfl ?_
          refine r_goto ?_
          refine At.enter rfl ?_
          refine q_iretz (by decide) ?_
          refine At.enter rfl ?_
          refine q_iretz (by decide) ?_
          refine At.enter rfl ?_
          refine r_iff 17 rfl (by decide) ?_
          refine At.enter rfl ?_
          refine r_iload_n rfl ?_
          refine q_inlS 21 rfl [.int a3] [] (Nat.le_of_ble_eq_true rfl) rfl ?_
          refine Ev.mk rfl rfl ⟨Nat.le_of_ble_eq_true rfl, Or.inl rfl⟩ ?_
          show At _ none _ _ (0, [(0, .int a3)], [], (_, _)) _
          refine At.enter rfl ?_
          refine r_iload_n rfl ?_
          refine r_iconst 0 rfl ?_
          refine r_bipush 99 rfl ?_
          refine q_inlS 7 rfl [.int a3, .int 0, .int 99] [] (Nat.le_of_ble_eq_true rfl) rfl ?_
          refine Ev.mk rfl rfl ⟨Nat.le_of_ble_eq_true rfl, Or.inl rfl⟩ ?_
          show At _ none _ _ (0, [(0, .int a3), (1, .int 0), (2, .int 99)], [], (_, _)) _
          refine At.enter rfl ?_
          refine r_iload_n rfl ?_
          refine r_iload_n rfl ?_
          refine r_ics 5 rfl (fun c209 => ?_) (fun c209 => ?_)
          · have c209_ : a3.toInt < 0 := en_i_lt_t c209
            refine At.enter rfl ?_
            refine r_iconst 0 rfl ?_
            refine Ar.fall 15 rfl ?_
            refine At.enter rfl ?_
            refine q_iretz (by decide) ?_
            refine At.enter rfl ?_
            refine q_iretz (by decide) ?_
            refine At.enter rfl ?_
            refine r_iff 24 rfl (by decide) ?_
            refine At.enter rfl ?_
            refine r_aload_n rfl ?_
            refine r_iconst (-1) rfl ?_
            refine r_callV 29 rfl [.ref 0, .int (-1)] [] (Nat.le_of_ble_eq_true rfl) rfl (T_X10_refused_0 _ hI0 (-1) (by decide)) ?_
            rintro _ _ ⟨g210, rfl, hI211, hF212, v213, rfl, hr214⟩
            refine At.sti ?_
            have hF215 := Fr.tr hF0 hF212 rfl rfl
            have zv216 : ((-1) : Int32).toInt = (-1) := rfl
            refine At.enter rfl ?_
            refine r_ireti ?_
            obtain ⟨v217, hv217⟩ : ∃ v, gI g0 1 0 = v := ⟨_, rfl⟩
            have rv217 := RgF.at hI0.2.1 (p := 1) (b := 0) rfl
            rw [hv217] at rv217
            dsimp only at rv217
            have tv217 := congrArg Int32.toInt hv217
            have x218 := HI.eqI hI211 (p := 1) (b := 0) (((hF212.1 1 0 mf_X10_refused_0_1_0).trans hv217))
            obtain ⟨v221, hv221⟩ : ∃ v, gI g210 0 17 = v := ⟨_, rfl⟩
            have tv221 := congrArg Int32.toInt hv221
            exact ⟨_, rfl, hI211, hF215, _, rfl, by omega, ⟨⟨(by omega), (by intro i i0 i1; refine Eq.trans ?_ (if_neg (show ¬ (((-1 ≤ a1.toInt ∧ a1.toInt ≤ 11 ∧ 1 ≤ a2.toInt ∧ a2.toInt ≤ 9 ∧ 0 ≤ a3.toInt ∧ a3.toInt ≤ 99) ∧ (gI g0 1 0).toInt < 12) ∧ i = (gI g0 1 0).toInt) from by omega)).symm; refine (eA_ti ((hF212.2.1 2 ma_X10_refused_0_2))).trans ?_; (first | with_reducible rfl | omega | exact eA_ix (by omega) | rfl)), (by intro i i0 i1; refine Eq.trans ?_ (if_neg (show ¬ (((-1 ≤ a1.toInt ∧ a1.toInt ≤ 11 ∧ 1 ≤ a2.toInt ∧ a2.toInt ≤ 9 ∧ 0 ≤ a3.toInt ∧ a3.toInt ≤ 99) ∧ (gI g0 1 0).toInt < 12) ∧ i = (gI g0 1 0).toInt) from by omega)).symm; refine (eA_ti ((hF212.2.1 3 ma_X10_refused_0_3))).trans ?_; (first | with_reducible rfl | omega | exact eA_ix (by omega) | rfl)), (by intro i i0 i1; refine Eq.trans ?_ (if_neg (show ¬ (((-1 ≤ a1.toInt ∧ a1.toInt ≤ 11 ∧ 1 ≤ a2.toInt ∧ a2.toInt ≤ 9 ∧ 0 ≤ a3.toInt ∧ a3.toInt ≤ 99) ∧ (gI g0 1 0).toInt < 12) ∧ i = (gI g0 1 0).toInt) from by omega)).symm; refine (eA_ti ((hF212.2.1 4 ma_X10_refused_0_4))).trans ?_; (first | with_reducible rfl | omega | exact eA_ix (by omega) | rfl))⟩, (SU.mk (by omega))⟩⟩
          · have c209_ : a3.toInt ≥ 0 := en_i_lt_f c209
            refine At.enter rfl ?_
            refine r_iload_n rfl ?_
            refine r_iload_n rfl ?_
            refine r_ics 10 rfl (fun c223 => ?_) (fun c223 => ?_)
            · have c223_ : a3.toInt > 99 := en_i_gt_t c223
              refine At.enter rfl ?_
              refine r_iconst 0 rfl ?_
              refine Ar.fall 15 rfl ?_
              refine At.enter rfl ?_
              refine q_iretz (by decide) ?_
              refine At.enter rfl ?_
              refine q_iretz (by decide) ?_
              refine At.enter rfl ?_
              refine r_iff 24 rfl (by decide) ?_
              refine At.enter rfl ?_
              refine r_aload_n rfl ?_
              refine r_iconst (-1) rfl ?_
              refine r_callV 29 rfl [.ref 0, .int (-1)] [] (Nat.le_of_ble_eq_true rfl) rfl (T_X10_refused_0 _ hI0 (-1) (by decide)) ?_
              rintro _ _ ⟨g224, rfl, hI225, hF226, v227, rfl, hr228⟩
              refine At.sti ?_
              have hF229 := Fr.tr hF0 hF226 rfl rfl
              have zv230 : ((-1) : Int32).toInt = (-1) := rfl
              refine At.enter rfl ?_
              refine r_ireti ?_
              obtain ⟨v231, hv231⟩ : ∃ v, gI g0 1 0 = v := ⟨_, rfl⟩
              have rv231 := RgF.at hI0.2.1 (p := 1) (b := 0) rfl
              rw [hv231] at rv231
              dsimp only at rv231
              have tv231 := congrArg Int32.toInt hv231
              have x232 := HI.eqI hI225 (p := 1) (b := 0) (((hF226.1 1 0 mf_X10_refused_0_1_0).trans hv231))
              obtain ⟨v235, hv235⟩ : ∃ v, gI g224 0 17 = v := ⟨_, rfl⟩
              have tv235 := congrArg Int32.toInt hv235
              exact ⟨_, rfl, hI225, hF229, _, rfl, by omega, ⟨⟨(by omega), (by intro i i0 i1; refine Eq.trans ?_ (if_neg (show ¬ (((-1 ≤ a1.toInt ∧ a1.toInt ≤ 11 ∧ 1 ≤ a2.toInt ∧ a2.toInt ≤ 9 ∧ 0 ≤ a3.toInt ∧ a3.toInt ≤ 99) ∧ (gI g0 1 0).toInt < 12) ∧ i = (gI g0 1 0).toInt) from by omega)).symm; refine (eA_ti ((hF226.2.1 2 ma_X10_refused_0_2))).trans ?_; (first | with_reducible rfl | omega | exact eA_ix (by omega) | rfl)), (by intro i i0 i1; refine Eq.trans ?_ (if_neg (show ¬ (((-1 ≤ a1.toInt ∧ a1.toInt ≤ 11 ∧ 1 ≤ a2.toInt ∧ a2.toInt ≤ 9 ∧ 0 ≤ a3.toInt ∧ a3.toInt ≤ 99) ∧ (gI g0 1 0).toInt < 12) ∧ i = (gI g0 1 0).toInt) from by omega)).symm; refine (eA_ti ((hF226.2.1 3 ma_X10_refused_0_3))).trans ?_; (first | with_reducible rfl | omega | exact eA_ix (by omega) | rfl)), (by intro i i0 i1; refine Eq.trans ?_ (if_neg (show ¬ (((-1 ≤ a1.toInt ∧ a1.toInt ≤ 11 ∧ 1 ≤ a2.toInt ∧ a2.toInt ≤ 9 ∧ 0 ≤ a3.toInt ∧ a3.toInt ≤ 99) ∧ (gI g0 1 0).toInt < 12) ∧ i = (gI g0 1 0).toInt) from by omega)).symm; refine (eA_ti ((hF226.2.1 4 ma_X10_refused_0_4))).trans ?_; (first | with_reducible rfl | omega | exact eA_ix (by omega) | rfl))⟩, (SU.mk (by omega))⟩⟩
            · have c223_ : a3.toInt ≤ 99 := en_i_gt_f c223
              refine At.enter rfl ?_
              refine r_iconst 1 rfl ?_
              refine r_goto ?_
              refine At.enter rfl ?_
              refine q_iretz (by decide) ?_
              refine At.enter rfl ?_
              refine q_iretz (by decide) ?_
              refine At.enter rfl ?_
              refine r_ift (by decide) ?_
              refine At.enter rfl ?_
              refine r_aload_n rfl ?_
              refine q_getR (Sh.ref hI0.1 kx_0 rfl) ?_
              obtain ⟨v237, hv237⟩ : ∃ v, gI g0 1 0 = v := ⟨_, rfl⟩
              have rv237 := RgF.at hI0.2.1 (p := 1) (b := 0) rfl
              rw [hv237] at rv237
              dsimp only at rv237
              refine q_getI (Sh.int hI0.1 kx_1 rfl) v237 hv237 ?_
              refine r_bipush 12 rfl ?_
              refine r_ics 42 rfl (fun c238 => ?_) (fun c238 => ?_)
              · have c238_ : v237.toInt < 12 := en_i_lt_t c238
                refine At.enter rfl ?_
                refine r_aload_n rfl ?_
                refine r_callV 53 rfl [.ref 0] [] (Nat.le_of_ble_eq_true rfl) rfl (T_X10_changed_0 _ hI0) ?_
                rintro _ _ ⟨g239, rfl, hI240, hF241, rfl⟩
                refine At.stn ?_
                have hF244 := Fr.tr hF0 hF241 rfl rfl
                refine At.enter rfl ?_
                refine r_aload_n rfl ?_
                refine r_aload_n rfl ?_
                refine q_getR (Sh.ref hI240.1 kx_0 rfl) ?_
                refine r_iload_n rfl ?_
                refine r_iload_n rfl ?_
                refine r_iload_n rfl ?_
                refine q_inlV 64 rfl [.ref 1, .int a1, .int a2, .int a3] [.ref 0] (Nat.le_of_ble_eq_true rfl) rfl ?_
                refine Ev.mk rfl rfl ⟨Nat.le_of_ble_eq_true rfl, Or.inr (q_rc hI240.1 kx_1 rfl)⟩ ?_
                show At _ none _ _ (0, [(0, .ref 1), (1, .int a1), (2, .int a2), (3, .int a3)], [], (_, _)) _
                refine At.enter rfl ?_
                refine r_aload_n rfl ?_
                refine q_getI (Sh.int hI240.1 kx_1 rfl) v237 ((hF241.1 1 0 mf_X10_changed_0_1_0).trans hv237) ?_
                refine r_bipush 12 rfl ?_
                refine r_ics 9 rfl (fun c245 => ?_) (fun c245 => ?_)
                · have c245_ : v237.toInt < 12 := en_i_lt_t c245
                  refine At.enter rfl ?_
                  refine r_aload_n rfl ?_
                  refine q_getR (Sh.ref hI240.1 kx_1 rfl) ?_
                  refine r_aload_n rfl ?_
                  refine q_getI (Sh.int hI240.1 kx_1 rfl) v237 ((hF241.1 1 0 mf_X10_changed_0_1_0).trans hv237) ?_
                  refine r_iload_n rfl ?_
                  refine q_iast (Sh.arr hI240.1 ka_2) (v237.toInt) rfl (by omega) ?_
                  have hI246 := HI.wA0 hI240 ka_2 (p := 2) rfl rfl (v237.toInt) (a1)
                  have hF247 := Fr.wA (p := 2) (j := v237.toInt) (v := a1) hF244 rfl
                  refine r_aload_n rfl ?_
                  refine q_getR (Sh.ref hI246.1 kx_1 rfl) ?_
                  refine r_aload_n rfl ?_
                  refine q_getI (Sh.int hI246.1 kx_1 rfl) v237 (((gI_sW).trans (hF241.1 1 0 mf_X10_changed_0_1_0)).trans hv237) ?_
                  refine r_iload_n rfl ?_
                  refine q_iast (Sh.arr hI246.1 ka_3) (v237.toInt) rfl (by omega) ?_
                  have hI248 := HI.wA0 hI246 ka_3 (p := 3) rfl rfl (v237.toInt) (a2)
                  have hF249 := Fr.wA (p := 3) (j := v237.toInt) (v := a2) hF247 rfl
                  refine r_aload_n rfl ?_
                  refine q_getR (Sh.ref hI248.1 kx_1 rfl) ?_
                  refine r_aload_n rfl ?_
                  refine q_getI (Sh.int hI248.1 kx_1 rfl) v237 (((gI_sW).trans ((gI_sW).trans (hF241.1 1 0 mf_X10_changed_0_1_0))).trans hv237) ?_
                  refine r_iload_n rfl ?_
                  refine q_iast (Sh.arr hI248.1 ka_4) (v237.toInt) rfl (by omega) ?_
                  have hI250 := HI.wA0 hI248 ka_4 (p := 4) rfl rfl (v237.toInt) (a3)
                  have hF251 := Fr.wA (p := 4) (j := v237.toInt) (v := a3) hF249 rfl
                  refine r_aload_n rfl ?_
                  refine r_dup rfl ?_
                  refine q_getI (Sh.int hI250.1 kx_1 rfl) v237 (((gI_sW).trans ((gI_sW).trans ((gI_sW).trans (hF241.1 1 0 mf_X10_changed_0_1_0)))).trans hv237) ?_
                  refine r_iconst 1 rfl ?_
                  refine q_iadd (v237.toInt + 1) rfl (by omega) (fun v252 hv252 => ?_)
                  refine q_putI (Sh.int hI250.1 kx_1 rfl) rfl ?_
                  have hI253 := HI.wI1 hI250 kx_1 rfl (p := 1) (b := 0) (v := v252) rfl (by dsimp only; omega)
                  have hF254 := Fr.wI (p := 1) (b := 0) (v := v252) hF251 rfl
                  refine r_aload_n rfl ?_
                  refine q_getI (Sh.int hI253.1 kx_1 rfl) v252 (gI_sI_eq hI250.1 kx_1 rfl _) ?_
                  refine r_iconst 1 rfl ?_
                  refine q_isub (v252.toInt - 1) rfl (by omega) (fun v255 hv255 => ?_)
                  refine q_ireti ?_
                  refine At.enter rfl ?_
                  refine q_inlV 67 rfl [.ref 0, .int v255] [] (Nat.le_of_ble_eq_true rfl) rfl ?_
                  refine Ev.mk rfl rfl ⟨Nat.le_of_ble_eq_true rfl, Or.inr (q_rc hI253.1 kx_0 rfl)⟩ ?_
                  show At _ none _ _ (0, [(0, .ref 0), (1, .int v255)], [], (_, _)) _
                  refine At.enter rfl ?_
                  refine r_aload_n rfl ?_
                  refine r_iconst 0 rfl ?_
                  refine q_putI (Sh.int hI253.1 kx_0 rfl) rfl ?_
                  have hI256 := HI.wI0 hI253 kx_0 rfl (p := 0) (b := 17) (v := 0) rfl
                  have hF257 := Fr.wI (p := 0) (b := 17) (v := 0) hF254 rfl
                  refine r_iload_n rfl ?_
                  refine q_ireti ?_
                  refine At.enter rfl ?_
                  refine r_ireti ?_
                  have x258 := HI.eqI hI256 (p := 1) (b := 0) (((gI_sI_ne (by decide)).trans (gI_sI_eq hI250.1 kx_1 rfl _)))
                  have x259 := HI.eqI hI0 (p := 1) (b := 0) (hv237)
                  have x260 := HI.eqI hI0 (p := 1) (b := 0) (hv237)
                  have x261 := HI.eqI hI256 (p := 0) (b := 17) ((gI_sI_eq hI253.1 kx_0 rfl _))
                  have zv262 : (0 : Int32).toInt = 0 := rfl
                  exact ⟨_, rfl, hI256, hF257, _, rfl, by omega, ⟨⟨(by omega), (by intro i i0 i1; exact (Decidable.em (((-1 ≤ a1.toInt ∧ a1.toInt ≤ 11 ∧ 1 ≤ a2.toInt ∧ a2.toInt ≤ 9 ∧ 0 ≤ a3.toInt ∧ a3.toInt ≤ 99) ∧ (gI g0 1 0).toInt < 12) ∧ i = (gI g0 1 0).toInt)).elim (fun k63_ => by refine Eq.trans ?_ (if_pos k63_).symm; refine (eA_ti (((gA_sI).trans ((gA_sI).trans ((gA_sA_ne (by decide)).trans (gA_sA_ne (by decide))))))).trans ?_; exact (Decidable.em (i = v237.toInt)).elim (fun k64_ => by refine (eA_eqT hI240.1 ka_2 k64_ (by first | decide | omega) (by first | decide | omega)).trans ?_; (first | (with_reducible rfl) | (omega) | (rfl))) (fun k64_ => by refine (eA_neT hI240.1 ka_2 k64_ (by first | decide | omega) (by omega)).trans ?_; refine (eA_ti ((hF241.2.1 2 ma_X10_changed_0_2))).trans ?_; (first | with_reducible rfl | omega | exact eA_ix (by omega) | rfl))) (fun k63_ => by refine Eq.trans ?_ (if_neg k63_).symm; refine (eA_ti (((gA_sI).trans ((gA_sI).trans ((gA_sA_ne (by decide)).trans (gA_sA_ne (by decide))))))).trans ?_; exact (Decidable.em (i = v237.toInt)).elim (fun k65_ => by refine (eA_eqT hI240.1 ka_2 k65_ (by first | decide | omega) (by first | decide | omega)).trans ?_; (first | (with_reducible rfl) | (omega) | (rfl))) (fun k65_ => by refine (eA_neT hI240.1 ka_2 k65_ (by first | decide | omega) (by omega)).trans ?_; refine (eA_ti ((hF241.2.1 2 ma_X10_changed_0_2))).trans ?_; (first | with_reducible rfl | omega | exact eA_ix (by omega) | rfl)))), (by intro i i0 i1; exact (Decidable.em (((-1 ≤ a1.toInt ∧ a1.toInt ≤ 11 ∧ 1 ≤ a2.toInt ∧ a2.toInt ≤ 9 ∧ 0 ≤ a3.toInt ∧ a3.toInt ≤ 99) ∧ (gI g0 1 0).toInt < 12) ∧ i = (gI g0 1 0).toInt)).elim (fun k66_ => by refine Eq.trans ?_ (if_pos k66_).symm; refine (eA_ti (((gA_sI).trans ((gA_sI).trans (gA_sA_ne (by decide)))))).trans ?_; exact (Decidable.em (i = v237.toInt)).elim (fun k67_ => by refine (eA_eqT hI246.1 ka_3 k67_ (by first | decide | omega) (by first | decide | omega)).trans ?_; (first | (with_reducible rfl) | (omega) | (rfl))) (fun k67_ => by refine (eA_neT hI246.1 ka_3 k67_ (by first | decide | omega) (by omega)).trans ?_; refine (eA_ti (((gA_sA_ne (by decide)).trans (hF241.2.1 3 ma_X10_changed_0_3)))).trans ?_; (first | with_reducible rfl | omega | exact eA_ix (by omega) | rfl))) (fun k66_ => by refine Eq.trans ?_ (if_neg k66_).symm; refine (eA_ti (((gA_sI).trans ((gA_sI).trans (gA_sA_ne (by decide)))))).trans ?_; exact (Decidable.em (i = v237.toInt)).elim (fun k68_ => by refine (eA_eqT hI246.1 ka_3 k68_ (by first | decide | omega) (by first | decide | omega)).trans ?_; (first | (with_reducible rfl) | (omega) | (rfl))) (fun k68_ => by refine (eA_neT hI246.1 ka_3 k68_ (by first | decide | omega) (by omega)).trans ?_; refine (eA_ti (((gA_sA_ne (by decide)).trans (hF241.2.1 3 ma_X10_changed_0_3)))).trans ?_; (first | with_reducible rfl | omega | exact eA_ix (by omega) | rfl)))), (by intro i i0 i1; exact (Decidable.em (((-1 ≤ a1.toInt ∧ a1.toInt ≤ 11 ∧ 1 ≤ a2.toInt ∧ a2.toInt ≤ 9 ∧ 0 ≤ a3.toInt ∧ a3.toInt ≤ 99) ∧ (gI g0 1 0).toInt < 12) ∧ i = (gI g0 1 0).toInt)).elim (fun k69_ => by refine Eq.trans ?_ (if_pos k69_).symm; refine (eA_ti (((gA_sI).trans (gA_sI)))).trans ?_; exact (Decidable.em (i = v237.toInt)).elim (fun k70_ => by refine (eA_eqT hI248.1 ka_4 k70_ (by first | decide | omega) (by first | decide | omega)).trans ?_; (first | (with_reducible rfl) | (omega) | (rfl))) (fun k70_ => by refine (eA_neT hI248.1 ka_4 k70_ (by first | decide | omega) (by omega)).trans ?_; refine (eA_ti (((gA_sA_ne (by decide)).trans ((gA_sA_ne (by decide)).trans (hF241.2.1 4 ma_X10_changed_0_4))))).trans ?_; (first | with_reducible rfl | omega | exact eA_ix (by omega) | rfl))) (fun k69_ => by refine Eq.trans ?_ (if_neg k69_).symm; refine (eA_ti (((gA_sI).trans (gA_sI)))).trans ?_; exact (Decidable.em (i = v237.toInt)).elim (fun k71_ => by refine (eA_eqT hI248.1 ka_4 k71_ (by first | decide | omega) (by first | decide | omega)).trans ?_; (first | (with_reducible rfl) | (omega) | (rfl))) (fun k71_ => by refine (eA_neT hI248.1 ka_4 k71_ (by first | decide | omega) (by omega)).trans ?_; refine (eA_ti (((gA_sA_ne (by decide)).trans ((gA_sA_ne (by decide)).trans (hF241.2.1 4 ma_X10_changed_0_4))))).trans ?_; (first | with_reducible rfl | omega | exact eA_ix (by omega) | rfl))))⟩, (SU.mk (by omega))⟩⟩
                · have c245_ : v237.toInt ≥ 12 := en_i_lt_f c245
                  exfalso; omega
              · have c238_ : v237.toInt ≥ 12 := en_i_lt_f c238
                refine At.enter rfl ?_
                refine r_aload_n rfl ?_
                refine r_bipush (-5) rfl ?_
                refine r_callV 48 rfl [.ref 0, .int (-5)] [] (Nat.le_of_ble_eq_true rfl) rfl (T_X10_refused_0 _ hI0 (-5) (by decide)) ?_
                rintro _ _ ⟨g263, rfl, hI264, hF265, v266, rfl, hr267⟩
                refine At.sti ?_
                have hF268 := Fr.tr hF0 hF265 rfl rfl
                have zv269 : ((-5) : Int32).toInt = (-5) := rfl
                refine At.enter rfl ?_
                refine r_ireti ?_
                have x270 := HI.eqI hI264 (p := 1) (b := 0) (((hF265.1 1 0 mf_X10_refused_0_1_0).trans hv237))
                have x271 := HI.eqI hI0 (p := 1) (b := 0) (hv237)
                have x272 := HI.eqI hI0 (p := 1) (b := 0) (hv237)
                obtain ⟨v273, hv273⟩ : ∃ v, gI g263 0 17 = v := ⟨_, rfl⟩
                have tv273 := congrArg Int32.toInt hv273
                exact ⟨_, rfl, hI264, hF268, _, rfl, by omega, ⟨⟨(by omega), (by intro i i0 i1; refine Eq.trans ?_ (if_neg (show ¬ (((-1 ≤ a1.toInt ∧ a1.toInt ≤ 11 ∧ 1 ≤ a2.toInt ∧ a2.toInt ≤ 9 ∧ 0 ≤ a3.toInt ∧ a3.toInt ≤ 99) ∧ (gI g0 1 0).toInt < 12) ∧ i = (gI g0 1 0).toInt) from by omega)).symm; refine (eA_ti ((hF265.2.1 2 ma_X10_refused_0_2))).trans ?_; (first | with_reducible rfl | omega | exact eA_ix (by omega) | rfl)), (by intro i i0 i1; refine Eq.trans ?_ (if_neg (show ¬ (((-1 ≤ a1.toInt ∧ a1.toInt ≤ 11 ∧ 1 ≤ a2.toInt ∧ a2.toInt ≤ 9 ∧ 0 ≤ a3.toInt ∧ a3.toInt ≤ 99) ∧ (gI g0 1 0).toInt < 12) ∧ i = (gI g0 1 0).toInt) from by omega)).symm; refine (eA_ti ((hF265.2.1 3 ma_X10_refused_0_3))).trans ?_; (first | with_reducible rfl | omega | exact eA_ix (by omega) | rfl)), (by intro i i0 i1; refine Eq.trans ?_ (if_neg (show ¬ (((-1 ≤ a1.toInt ∧ a1.toInt ≤ 11 ∧ 1 ≤ a2.toInt ∧ a2.toInt ≤ 9 ∧ 0 ≤ a3.toInt ∧ a3.toInt ≤ 99) ∧ (gI g0 1 0).toInt < 12) ∧ i = (gI g0 1 0).toInt) from by omega)).symm; refine (eA_ti ((hF265.2.1 4 ma_X10_refused_0_4))).trans ?_; (first | with_reducible rfl | omega | exact eA_ix (by omega) | rfl))⟩, (SU.mk (by omega))⟩⟩
