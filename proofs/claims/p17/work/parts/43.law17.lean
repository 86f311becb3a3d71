set_option maxRecDepth 100000 in
set_option maxHeartbeats 8000000 in
theorem lq_c21 (d : Nat) {N : Nat} {g0 : List en_E} (hI0 : HI g0) (hR0 : LwR g0) {ys : List Int32} {L : Nat} (hL : ys.length = L) (hL2 : L ≤ 3584) {l : en_L} {i : Int32} (e0 : en_get 0 l = some (.float 0)) (e1 : en_get 1 l = some (.ref 0)) (e2 : en_get 2 l = some (.ref 231)) (e3 : en_get 3 l = some (.int i)) (hi : 0 ≤ i.toInt ∧ i.toInt + 7 ≤ L) {Ph : Option Value → en_H → Prop} (K : ∀ g1 : List en_E, HI g1 → LwR g1 → At (d + 423) (some ys) (some .boolean) bs_L_law (1330, l, [], (g1, N)) Ph) : At (d + 423) (some ys) (some .boolean) bs_L_law (873, l, [], (g0, N)) Ph := by
  have hF0 : Fr F_law A_law g0 g0 := Fr.rf
  have hx_1 : -2147483648 ≤ i.toInt + 1 ∧ i.toInt + 1 ≤ 2147483647 := by omega
  have hx_2 : -2147483648 ≤ i.toInt + 2 ∧ i.toInt + 2 ≤ 2147483647 := by omega
  have hx_3 : -2147483648 ≤ i.toInt + 3 ∧ i.toInt + 3 ≤ 2147483647 := by omega
  have hx_4 : -2147483648 ≤ i.toInt + 4 ∧ i.toInt + 4 ≤ 2147483647 := by omega
  have hx_5 : -2147483648 ≤ i.toInt + 5 ∧ i.toInt + 5 ≤ 2147483647 := by omega
  have hx_6 : -2147483648 ≤ i.toInt + 6 ∧ i.toInt + 6 ≤ 2147483647 := by omega
  have hy_0 : 0 ≤ i.toInt ∧ i.toInt < (L : Int) := by omega
  have hy_1 : 0 ≤ i.toInt + 1 ∧ i.toInt + 1 < (L : Int) := by omega
  have hy_2 : 0 ≤ i.toInt + 2 ∧ i.toInt + 2 < (L : Int) := by omega
  have hy_3 : 0 ≤ i.toInt + 3 ∧ i.toInt + 3 < (L : Int) := by omega
  have hy_4 : 0 ≤ i.toInt + 4 ∧ i.toInt + 4 < (L : Int) := by omega
  have hy_5 : 0 ≤ i.toInt + 5 ∧ i.toInt + 5 < (L : Int) := by omega
  have hy_6 : 0 ≤ i.toInt + 6 ∧ i.toInt + 6 < (L : Int) := by omega
  unfold LwR at hR0
  obtain ⟨hR_0, hR_1, hR_2, hR_3, hR_4, hR_5, hR_6, hR_7, hR_8, hR_9, hR_10, hR_11, hR_12, hR_13, hR_14⟩ := hR0
  refine At.enter rfl ?_
  refine r_aload_n e1 ?_
  refine r_sload_n e0 ?_
  refine r_iload_n e3 ?_
  refine r_iconst 1 rfl ?_
  refine q_iadd (i.toInt + 1) rfl hx_1 (fun v1 hv1 => ?_)
  refine q_scald (m := L) hL (i.toInt + 1) hv1 hy_1 (fun v2 hv2 => ?_)
  refine r_sload_n e0 ?_
  refine r_iload_n e3 ?_
  refine r_iconst 2 rfl ?_
  refine q_iadd (i.toInt + 2) rfl hx_2 (fun v3 hv3 => ?_)
  refine q_scald (m := L) hL (i.toInt + 2) hv3 hy_2 (fun v4 hv4 => ?_)
  rcases cs3 (0 ≤ v2.toInt ∧ v2.toInt < (gI g0 1 0).toInt ∧ 0 ≤ v4.toInt ∧ v4.toInt < (gI g0 1 0).toInt) (v2.toInt = v4.toInt) with pk5 | pk5 | pk5
  · refine r_callV 887 rfl [.ref 0, .int v2, .int v4] [] (Nat.le_of_ble_eq_true rfl) rfl (T_X10_swap_0 _ hI0 v2 v4) ?_
    rintro _ _ ⟨g6, rfl, hI7, hF8, v9, rfl, hr10⟩
    refine At.sti ?_
    have hF11 := Fr.tr hF0 hF8 rfl rfl
    obtain ⟨q12, q13, q14, q15⟩ := hr10
    obtain ⟨i17, i18, i19⟩ := q13
    have w16 := i17 pk5
    clear i17 i18 i19
    have f20 := congrArg Int32.toInt (hF8.1 1 0 rfl)
    have f21 := congrArg Int32.toInt (hF8.1 1 12 rfl)
    have f22 := congrArg Int32.toInt (hF8.1 1 10 rfl)
    have f23 := congrArg Int32.toInt (hF8.1 1 11 rfl)
    have f24 := congrArg Int32.toInt (hF8.1 1 4 rfl)
    have f25 := congrArg Int32.toInt (hF8.1 59 0 rfl)
    have f26 := congrArg Int32.toInt (hF8.1 59 12 rfl)
    have f27 := congrArg Int32.toInt (hF8.1 59 10 rfl)
    have f28 := congrArg Int32.toInt (hF8.1 59 11 rfl)
    have f29 := congrArg Int32.toInt (hF8.1 59 4 rfl)
    have f30 := congrArg Int32.toInt (hF8.1 116 0 rfl)
    have f31 := congrArg Int32.toInt (hF8.1 116 12 rfl)
    have f32 := congrArg Int32.toInt (hF8.1 116 10 rfl)
    have f33 := congrArg Int32.toInt (hF8.1 116 11 rfl)
    have f34 := congrArg Int32.toInt (hF8.1 116 4 rfl)
    have f35 := congrArg Int32.toInt (eA_c (j := 0) (hF8.2.1 173 rfl))
    have f36 := congrArg Int32.toInt (eA_c (j := 1) (hF8.2.1 173 rfl))
    have f37 := congrArg Int32.toInt (hF8.1 174 1 rfl)
    have f38 := congrArg Int32.toInt (hF8.1 0 16 rfl)
    have f39 := congrArg Int32.toInt (eA_c (j := 0) (hF8.2.1 233 rfl))
    have f40 := congrArg Int32.toInt (eA_c (j := 4) (hF8.2.1 233 rfl))
    have f41 := congrArg Int32.toInt (eA_c (j := 5) (hF8.2.1 233 rfl))
    have f42 := congrArg Int32.toInt (eA_c (j := 6) (hF8.2.1 233 rfl))
    have f43 := congrArg Int32.toInt (eA_c (j := 1) (hF8.2.1 233 rfl))
    have f44 := congrArg Int32.toInt (eA_c (j := 0) (hF8.2.1 234 rfl))
    have f45 := congrArg Int32.toInt (eA_c (j := 4) (hF8.2.1 234 rfl))
    have f46 := congrArg Int32.toInt (eA_c (j := 5) (hF8.2.1 234 rfl))
    have f47 := congrArg Int32.toInt (eA_c (j := 6) (hF8.2.1 234 rfl))
    have f48 := congrArg Int32.toInt (eA_c (j := 1) (hF8.2.1 234 rfl))
    have f49 := congrArg Int32.toInt (eA_c (j := 5510) (hF8.2.1 234 rfl))
    have f50 := congrArg Int32.toInt (eA_c (j := 5514) (hF8.2.1 234 rfl))
    have f51 := congrArg Int32.toInt (eA_c (j := 5515) (hF8.2.1 234 rfl))
    have f52 := congrArg Int32.toInt (eA_c (j := 5516) (hF8.2.1 234 rfl))
    have f53 := congrArg Int32.toInt (eA_c (j := 5511) (hF8.2.1 234 rfl))
    have f54 := congrArg Int32.toInt (eA_c (j := 0) (hF8.2.1 235 rfl))
    have f55 := congrArg Int32.toInt (eA_c (j := 1) (hF8.2.1 235 rfl))
    have f56 := congrArg Int32.toInt (hF8.1 231 8 rfl)
    have f57 := congrArg Int32.toInt (hF8.1 231 6 rfl)
    refine At.enter rfl ?_
    refine r_pop rfl ?_
    refine r_aload_n e2 ?_
    refine r_sload_n e0 ?_
    refine r_iload_n e3 ?_
    refine r_iconst 1 rfl ?_
    refine q_iadd (i.toInt + 1) rfl hx_1 (fun v58 hv58 => ?_)
    refine q_scald (m := L) hL (i.toInt + 1) hv58 hy_1 (fun v59 hv59 => ?_)
    have sv59 := hv2.symm.trans hv59
    subst sv59
    refine r_sload_n e0 ?_
    refine r_iload_n e3 ?_
    refine r_iconst 2 rfl ?_
    refine q_iadd (i.toInt + 2) rfl hx_2 (fun v60 hv60 => ?_)
    refine q_scald (m := L) hL (i.toInt + 2) hv60 hy_2 (fun v61 hv61 => ?_)
    have sv61 := hv4.symm.trans hv61
    subst sv61
    refine r_callV 902 rfl [.ref 231, .int v2, .int v4] [] (Nat.le_of_ble_eq_true rfl) rfl (T_X11_swap_231 _ hI7 v2 v4) ?_
    rintro _ _ ⟨g62, rfl, hI63, hF64, v65, rfl, hr66⟩
    refine At.sti ?_
    have hF67 := Fr.tr hF11 hF64 rfl rfl
    obtain ⟨q68, q69, q70⟩ := hr66
    have ek80 : (eA g6 233 0).toInt = (gI g0 1 0).toInt := (eA_ti (j := 0) (hF8.2.1 233 (by decide))).trans hR_0.symm
    have ek81 : (eA g6 233 1).toInt = (gI g0 1 4).toInt := (eA_ti (j := 1) (hF8.2.1 233 (by decide))).trans hR_4.symm
    obtain ⟨⟨i72, i73, i74⟩, sm75, sm76, sm77, sm78, sm79⟩ := q69
    have w71 := i72 (by rw [ek80]; exact pk5)
    clear i72 i73 i74
    have f82 := congrArg Int32.toInt (hF64.1 1 0 rfl)
    have f83 := congrArg Int32.toInt (hF64.1 1 12 rfl)
    have f84 := congrArg Int32.toInt (hF64.1 1 10 rfl)
    have f85 := congrArg Int32.toInt (hF64.1 1 11 rfl)
    have f86 := congrArg Int32.toInt (hF64.1 1 4 rfl)
    have f87 := congrArg Int32.toInt (hF64.1 59 0 rfl)
    have f88 := congrArg Int32.toInt (hF64.1 59 12 rfl)
    have f89 := congrArg Int32.toInt (hF64.1 59 10 rfl)
    have f90 := congrArg Int32.toInt (hF64.1 59 11 rfl)
    have f91 := congrArg Int32.toInt (hF64.1 59 4 rfl)
    have f92 := congrArg Int32.toInt (hF64.1 116 0 rfl)
    have f93 := congrArg Int32.toInt (hF64.1 116 12 rfl)
    have f94 := congrArg Int32.toInt (hF64.1 116 10 rfl)
    have f95 := congrArg Int32.toInt (hF64.1 116 11 rfl)
    have f96 := congrArg Int32.toInt (hF64.1 116 4 rfl)
    have f97 := congrArg Int32.toInt (eA_c (j := 0) (hF64.2.1 173 rfl))
    have f98 := congrArg Int32.toInt (eA_c (j := 1) (hF64.2.1 173 rfl))
    have f99 := congrArg Int32.toInt (hF64.1 174 1 rfl)
    have f100 := congrArg Int32.toInt (hF64.1 0 16 rfl)
    have f101 := congrArg Int32.toInt (eA_c (j := 0) (hF64.2.1 234 rfl))
    have f102 := congrArg Int32.toInt (eA_c (j := 4) (hF64.2.1 234 rfl))
    have f103 := congrArg Int32.toInt (eA_c (j := 5) (hF64.2.1 234 rfl))
    have f104 := congrArg Int32.toInt (eA_c (j := 6) (hF64.2.1 234 rfl))
    have f105 := congrArg Int32.toInt (eA_c (j := 1) (hF64.2.1 234 rfl))
    have f106 := congrArg Int32.toInt (eA_c (j := 5510) (hF64.2.1 234 rfl))
    have f107 := congrArg Int32.toInt (eA_c (j := 5514) (hF64.2.1 234 rfl))
    have f108 := congrArg Int32.toInt (eA_c (j := 5515) (hF64.2.1 234 rfl))
    have f109 := congrArg Int32.toInt (eA_c (j := 5516) (hF64.2.1 234 rfl))
    have f110 := congrArg Int32.toInt (eA_c (j := 5511) (hF64.2.1 234 rfl))
    have f111 := congrArg Int32.toInt (eA_c (j := 0) (hF64.2.1 235 rfl))
    have f112 := congrArg Int32.toInt (eA_c (j := 1) (hF64.2.1 235 rfl))
    have f113 := congrArg Int32.toInt (hF64.1 231 8 rfl)
    have f114 := congrArg Int32.toInt (hF64.1 231 6 rfl)
    refine At.enter rfl ?_
    refine r_pop rfl ?_
    refine r_goto ?_
    exact K _ hI63 (show LwR _ from ⟨by omega, by omega, by omega, by omega, by omega, (eA_ti (j := 0) (((hF64.2.1 173 (by decide)).trans (hF8.2.1 173 (by decide))))).trans (hR_5.trans (eA_ti (j := 0) (((hF64.2.1 235 (by decide)).trans (hF8.2.1 235 (by decide))))).symm), (eA_ti (j := 1) (((hF64.2.1 173 (by decide)).trans (hF8.2.1 173 (by decide))))).trans (hR_6.trans (eA_ti (j := 1) (((hF64.2.1 235 (by decide)).trans (hF8.2.1 235 (by decide))))).symm), (congrArg Int32.toInt (((hF64.1 174 1 (by decide)).trans (hF8.1 174 1 (by decide))))).trans (hR_7.trans (congrArg Int32.toInt (((hF64.1 231 8 (by decide)).trans (hF8.1 231 8 (by decide))))).symm), (congrArg Int32.toInt (((hF64.1 0 16 (by decide)).trans (hF8.1 0 16 (by decide))))).trans (hR_8.trans (congrArg Int32.toInt (((hF64.1 231 6 (by decide)).trans (hF8.1 231 6 (by decide))))).symm), IM0.cong hR_9 (eA_ti (j := 0) (((hF64.2.1 173 (by decide)).trans (hF8.2.1 173 (by decide))))) (congrArg Int32.toInt (((hF64.1 59 0 (by decide)).trans (hF8.1 59 0 (by decide))))) (eA_ti (j := 0) (((hF64.2.1 234 (by decide)).trans (hF8.2.1 234 (by decide))))) (congrArg Int32.toInt (((hF64.1 59 12 (by decide)).trans (hF8.1 59 12 (by decide))))) (eA_ti (j := 4) (((hF64.2.1 234 (by decide)).trans (hF8.2.1 234 (by decide))))) (congrArg Int32.toInt (((hF64.1 59 10 (by decide)).trans (hF8.1 59 10 (by decide))))) (eA_ti (j := 5) (((hF64.2.1 234 (by decide)).trans (hF8.2.1 234 (by decide))))) (congrArg Int32.toInt (((hF64.1 59 11 (by decide)).trans (hF8.1 59 11 (by decide))))) (eA_ti (j := 6) (((hF64.2.1 234 (by decide)).trans (hF8.2.1 234 (by decide))))) (congrArg Int32.toInt (((hF64.1 59 4 (by decide)).trans (hF8.1 59 4 (by decide))))) (eA_ti (j := 1) (((hF64.2.1 234 (by decide)).trans (hF8.2.1 234 (by decide))))), IM1.cong hR_10 (eA_ti (j := 1) (((hF64.2.1 173 (by decide)).trans (hF8.2.1 173 (by decide))))) (congrArg Int32.toInt (((hF64.1 116 0 (by decide)).trans (hF8.1 116 0 (by decide))))) (eA_ti (j := 5510) (((hF64.2.1 234 (by decide)).trans (hF8.2.1 234 (by decide))))) (congrArg Int32.toInt (((hF64.1 116 12 (by decide)).trans (hF8.1 116 12 (by decide))))) (eA_ti (j := 5514) (((hF64.2.1 234 (by decide)).trans (hF8.2.1 234 (by decide))))) (congrArg Int32.toInt (((hF64.1 116 10 (by decide)).trans (hF8.1 116 10 (by decide))))) (eA_ti (j := 5515) (((hF64.2.1 234 (by decide)).trans (hF8.2.1 234 (by decide))))) (congrArg Int32.toInt (((hF64.1 116 11 (by decide)).trans (hF8.1 116 11 (by decide))))) (eA_ti (j := 5516) (((hF64.2.1 234 (by decide)).trans (hF8.2.1 234 (by decide))))) (congrArg Int32.toInt (((hF64.1 116 4 (by decide)).trans (hF8.1 116 4 (by decide))))) (eA_ti (j := 5511) (((hF64.2.1 234 (by decide)).trans (hF8.2.1 234 (by decide))))), (show CT _ from ⟨fun i i0 i1 => ⟨(by have t0_ := hI0.t0; have t1_ := hI0.t1; have ek0 : (eA g6 233 0).toInt = (gI g0 1 0).toInt := (eA_ti (j := 0) (hF8.2.1 233 (by decide))).trans hR_0.symm; have x := eA_ti (j := i) (((hF64.2.1 2 (by decide)).trans (hF8.2.1 2 (by decide)))); have m := q70 (10 + 3 * i) (by omega) (by omega); have y := eA_ti (j := (10 + 3 * i)) (hF8.2.1 233 (by decide)); have k : ¬ (0 ≤ v2.toInt ∧ v2.toInt < (gI g0 1 0).toInt ∧ 0 ≤ v4.toInt ∧ v4.toInt < (gI g0 1 0).toInt ∧ v2.toInt ≠ v4.toInt) := (fun z => (show ¬ _ from pk5) ⟨z.1, z.2.1, z.2.2.1, z.2.2.2.1⟩); have k2 : ¬ (0 ≤ v2.toInt ∧ v2.toInt < (eA g6 233 0).toInt ∧ 0 ≤ v4.toInt ∧ v4.toInt < (eA g6 233 0).toInt ∧ v2.toInt ≠ v4.toInt) := (fun z => k (by rw [← ek0]; exact z)); rw [ite_an k2, ite_an k2, ite_an k2, ite_an k2] at m; exact x.trans ((hR_11.1 i i0 i1).1.trans (m.trans y).symm)), (by have t0_ := hI0.t0; have t1_ := hI0.t1; have ek0 : (eA g6 233 0).toInt = (gI g0 1 0).toInt := (eA_ti (j := 0) (hF8.2.1 233 (by decide))).trans hR_0.symm; have x := (eA_ti (j := i) (hF64.2.1 3 (by decide))).trans (q14 i i0 i1); have m := q70 (10 + 3 * i + 1) (by omega) (by omega); have y := eA_ti (j := (10 + 3 * i + 1)) (hF8.2.1 233 (by decide)); have k : ¬ (0 ≤ v2.toInt ∧ v2.toInt < (gI g0 1 0).toInt ∧ 0 ≤ v4.toInt ∧ v4.toInt < (gI g0 1 0).toInt ∧ v2.toInt ≠ v4.toInt) := (fun z => (show ¬ _ from pk5) ⟨z.1, z.2.1, z.2.2.1, z.2.2.2.1⟩); have k2 : ¬ (0 ≤ v2.toInt ∧ v2.toInt < (eA g6 233 0).toInt ∧ 0 ≤ v4.toInt ∧ v4.toInt < (eA g6 233 0).toInt ∧ v2.toInt ≠ v4.toInt) := (fun z => k (by rw [← ek0]; exact z)); rw [ite_an k, ite_an k] at x; rw [ite_an k2, ite_an k2, ite_an k2, ite_an k2] at m; exact x.trans ((hR_11.1 i i0 i1).2.1.trans (m.trans y).symm)), (by have t0_ := hI0.t0; have t1_ := hI0.t1; have ek0 : (eA g6 233 0).toInt = (gI g0 1 0).toInt := (eA_ti (j := 0) (hF8.2.1 233 (by decide))).trans hR_0.symm; have x := (eA_ti (j := i) (hF64.2.1 4 (by decide))).trans (q15 i i0 i1); have m := q70 (10 + 3 * i + 2) (by omega) (by omega); have y := eA_ti (j := (10 + 3 * i + 2)) (hF8.2.1 233 (by decide)); have k : ¬ (0 ≤ v2.toInt ∧ v2.toInt < (gI g0 1 0).toInt ∧ 0 ≤ v4.toInt ∧ v4.toInt < (gI g0 1 0).toInt ∧ v2.toInt ≠ v4.toInt) := (fun z => (show ¬ _ from pk5) ⟨z.1, z.2.1, z.2.2.1, z.2.2.2.1⟩); have k2 : ¬ (0 ≤ v2.toInt ∧ v2.toInt < (eA g6 233 0).toInt ∧ 0 ≤ v4.toInt ∧ v4.toInt < (eA g6 233 0).toInt ∧ v2.toInt ≠ v4.toInt) := (fun z => k (by rw [← ek0]; exact z)); rw [ite_an k, ite_an k] at x; rw [ite_an k2, ite_an k2, ite_an k2, ite_an k2] at m; exact x.trans ((hR_11.1 i i0 i1).2.2.trans (m.trans y).symm))⟩, fun i i0 i1 => ⟨(by have t0_ := hI0.t0; have t1_ := hI0.t1; have ek0 : (eA g6 233 0).toInt = (gI g0 1 0).toInt := (eA_ti (j := 0) (hF8.2.1 233 (by decide))).trans hR_0.symm; have x := eA_ti (j := i) (((hF64.2.1 14 (by decide)).trans (hF8.2.1 14 (by decide)))); have m := q70 (94 + 2 * i) (by omega) (by omega); have y := eA_ti (j := (94 + 2 * i)) (hF8.2.1 233 (by decide)); have k : ¬ (0 ≤ v2.toInt ∧ v2.toInt < (gI g0 1 0).toInt ∧ 0 ≤ v4.toInt ∧ v4.toInt < (gI g0 1 0).toInt ∧ v2.toInt ≠ v4.toInt) := (fun z => (show ¬ _ from pk5) ⟨z.1, z.2.1, z.2.2.1, z.2.2.2.1⟩); have k2 : ¬ (0 ≤ v2.toInt ∧ v2.toInt < (eA g6 233 0).toInt ∧ 0 ≤ v4.toInt ∧ v4.toInt < (eA g6 233 0).toInt ∧ v2.toInt ≠ v4.toInt) := (fun z => k (by rw [← ek0]; exact z)); rw [ite_an k2, ite_an k2, ite_an k2, ite_an k2] at m; exact x.trans ((hR_11.2.1 i i0 i1).1.trans (m.trans y).symm)), (by have t0_ := hI0.t0; have t1_ := hI0.t1; have ek0 : (eA g6 233 0).toInt = (gI g0 1 0).toInt := (eA_ti (j := 0) (hF8.2.1 233 (by decide))).trans hR_0.symm; have x := eA_ti (j := i) (((hF64.2.1 15 (by decide)).trans (hF8.2.1 15 (by decide)))); have m := q70 (94 + 2 * i + 1) (by omega) (by omega); have y := eA_ti (j := (94 + 2 * i + 1)) (hF8.2.1 233 (by decide)); have k : ¬ (0 ≤ v2.toInt ∧ v2.toInt < (gI g0 1 0).toInt ∧ 0 ≤ v4.toInt ∧ v4.toInt < (gI g0 1 0).toInt ∧ v2.toInt ≠ v4.toInt) := (fun z => (show ¬ _ from pk5) ⟨z.1, z.2.1, z.2.2.1, z.2.2.2.1⟩); have k2 : ¬ (0 ≤ v2.toInt ∧ v2.toInt < (eA g6 233 0).toInt ∧ 0 ≤ v4.toInt ∧ v4.toInt < (eA g6 233 0).toInt ∧ v2.toInt ≠ v4.toInt) := (fun z => k (by rw [← ek0]; exact z)); rw [ite_an k2, ite_an k2, ite_an k2, ite_an k2] at m; exact x.trans ((hR_11.2.1 i i0 i1).2.trans (m.trans y).symm))⟩, fun i i0 i1 => (by have t0_ := hI0.t0; have t1_ := hI0.t1; have ek0 : (eA g6 233 0).toInt = (gI g0 1 0).toInt := (eA_ti (j := 0) (hF8.2.1 233 (by decide))).trans hR_0.symm; have x := eA_ti (j := i) (((hF64.2.1 5 (by decide)).trans (hF8.2.1 5 (by decide)))); have m := q70 (46 + i) (by omega) (by omega); have y := eA_ti (j := (46 + i)) (hF8.2.1 233 (by decide)); have k : ¬ (0 ≤ v2.toInt ∧ v2.toInt < (gI g0 1 0).toInt ∧ 0 ≤ v4.toInt ∧ v4.toInt < (gI g0 1 0).toInt ∧ v2.toInt ≠ v4.toInt) := (fun z => (show ¬ _ from pk5) ⟨z.1, z.2.1, z.2.2.1, z.2.2.2.1⟩); have k2 : ¬ (0 ≤ v2.toInt ∧ v2.toInt < (eA g6 233 0).toInt ∧ 0 ≤ v4.toInt ∧ v4.toInt < (eA g6 233 0).toInt ∧ v2.toInt ≠ v4.toInt) := (fun z => k (by rw [← ek0]; exact z)); rw [ite_an k2, ite_an k2, ite_an k2, ite_an k2] at m; exact x.trans ((hR_11.2.2 i i0 (by omega)).trans (m.trans y).symm))⟩), CI0.cong hR_12 (((hF64.2.1 60 (by decide)).trans (hF8.2.1 60 (by decide)))) (((hF64.2.1 61 (by decide)).trans (hF8.2.1 61 (by decide)))) (((hF64.2.1 62 (by decide)).trans (hF8.2.1 62 (by decide)))) (((hF64.2.1 72 (by decide)).trans (hF8.2.1 72 (by decide)))) (((hF64.2.1 73 (by decide)).trans (hF8.2.1 73 (by decide)))) (((hF64.2.1 63 (by decide)).trans (hF8.2.1 63 (by decide)))) (((hF64.2.1 234 (by decide)).trans (hF8.2.1 234 (by decide)))) (congrArg Int32.toInt (((hF64.1 59 4 (by decide)).trans (hF8.1 59 4 (by decide))))), CI1.cong hR_13 (((hF64.2.1 117 (by decide)).trans (hF8.2.1 117 (by decide)))) (((hF64.2.1 118 (by decide)).trans (hF8.2.1 118 (by decide)))) (((hF64.2.1 119 (by decide)).trans (hF8.2.1 119 (by decide)))) (((hF64.2.1 129 (by decide)).trans (hF8.2.1 129 (by decide)))) (((hF64.2.1 130 (by decide)).trans (hF8.2.1 130 (by decide)))) (((hF64.2.1 120 (by decide)).trans (hF8.2.1 120 (by decide)))) (((hF64.2.1 234 (by decide)).trans (hF8.2.1 234 (by decide)))) (congrArg Int32.toInt (((hF64.1 116 4 (by decide)).trans (hF8.1 116 4 (by decide))))), (show RT _ from fun i i0 i1 => (eA_ti (((hF64.2.1 175 (by decide)).trans (hF8.2.1 175 (by decide))))).trans ((hR_14 i i0 (by omega)).trans (eA_ti (((hF64.2.1 236 (by decide)).trans (hF8.2.1 236 (by decide))))).symm))⟩)
  · refine r_callV 887 rfl [.ref 0, .int v2, .int v4] [] (Nat.le_of_ble_eq_true rfl) rfl (T_X10_swap_0 _ hI0 v2 v4) ?_
    rintro _ _ ⟨g115, rfl, hI116, hF117, v118, rfl, hr119⟩
    refine At.sti ?_
    have hF120 := Fr.tr hF0 hF117 rfl rfl
    obtain ⟨q121, q122, q123, q124⟩ := hr119
    obtain ⟨i126, i127, i128⟩ := q122
    have w125 := i127 ⟨pk5.1, pk5.2⟩
    clear i126 i127 i128
    have f129 := congrArg Int32.toInt (hF117.1 1 0 rfl)
    have f130 := congrArg Int32.toInt (hF117.1 1 12 rfl)
    have f131 := congrArg Int32.toInt (hF117.1 1 10 rfl)
    have f132 := congrArg Int32.toInt (hF117.1 1 11 rfl)
    have f133 := congrArg Int32.toInt (hF117.1 1 4 rfl)
    have f134 := congrArg Int32.toInt (hF117.1 59 0 rfl)
    have f135 := congrArg Int32.toInt (hF117.1 59 12 rfl)
    have f136 := congrArg Int32.toInt (hF117.1 59 10 rfl)
    have f137 := congrArg Int32.toInt (hF117.1 59 11 rfl)
    have f138 := congrArg Int32.toInt (hF117.1 59 4 rfl)
    have f139 := congrArg Int32.toInt (hF117.1 116 0 rfl)
    have f140 := congrArg Int32.toInt (hF117.1 116 12 rfl)
    have f141 := congrArg Int32.toInt (hF117.1 116 10 rfl)
    have f142 := congrArg Int32.toInt (hF117.1 116 11 rfl)
    have f143 := congrArg Int32.toInt (hF117.1 116 4 rfl)
    have f144 := congrArg Int32.toInt (eA_c (j := 0) (hF117.2.1 173 rfl))
    have f145 := congrArg Int32.toInt (eA_c (j := 1) (hF117.2.1 173 rfl))
    have f146 := congrArg Int32.toInt (hF117.1 174 1 rfl)
    have f147 := congrArg Int32.toInt (hF117.1 0 16 rfl)
    have f148 := congrArg Int32.toInt (eA_c (j := 0) (hF117.2.1 233 rfl))
    have f149 := congrArg Int32.toInt (eA_c (j := 4) (hF117.2.1 233 rfl))
    have f150 := congrArg Int32.toInt (eA_c (j := 5) (hF117.2.1 233 rfl))
    have f151 := congrArg Int32.toInt (eA_c (j := 6) (hF117.2.1 233 rfl))
    have f152 := congrArg Int32.toInt (eA_c (j := 1) (hF117.2.1 233 rfl))
    have f153 := congrArg Int32.toInt (eA_c (j := 0) (hF117.2.1 234 rfl))
    have f154 := congrArg Int32.toInt (eA_c (j := 4) (hF117.2.1 234 rfl))
    have f155 := congrArg Int32.toInt (eA_c (j := 5) (hF117.2.1 234 rfl))
    have f156 := congrArg Int32.toInt (eA_c (j := 6) (hF117.2.1 234 rfl))
    have f157 := congrArg Int32.toInt (eA_c (j := 1) (hF117.2.1 234 rfl))
    have f158 := congrArg Int32.toInt (eA_c (j := 5510) (hF117.2.1 234 rfl))
    have f159 := congrArg Int32.toInt (eA_c (j := 5514) (hF117.2.1 234 rfl))
    have f160 := congrArg Int32.toInt (eA_c (j := 5515) (hF117.2.1 234 rfl))
    have f161 := congrArg Int32.toInt (eA_c (j := 5516) (hF117.2.1 234 rfl))
    have f162 := congrArg Int32.toInt (eA_c (j := 5511) (hF117.2.1 234 rfl))
    have f163 := congrArg Int32.toInt (eA_c (j := 0) (hF117.2.1 235 rfl))
    have f164 := congrArg Int32.toInt (eA_c (j := 1) (hF117.2.1 235 rfl))
    have f165 := congrArg Int32.toInt (hF117.1 231 8 rfl)
    have f166 := congrArg Int32.toInt (hF117.1 231 6 rfl)
    refine At.enter rfl ?_
    refine r_pop rfl ?_
    refine r_aload_n e2 ?_
    refine r_sload_n e0 ?_
    refine r_iload_n e3 ?_
    refine r_iconst 1 rfl ?_
    refine q_iadd (i.toInt + 1) rfl hx_1 (fun v167 hv167 => ?_)
    refine q_scald (m := L) hL (i.toInt + 1) hv167 hy_1 (fun v168 hv168 => ?_)
    have sv168 := hv2.symm.trans hv168
    subst sv168
    refine r_sload_n e0 ?_
    refine r_iload_n e3 ?_
    refine r_iconst 2 rfl ?_
    refine q_iadd (i.toInt + 2) rfl hx_2 (fun v169 hv169 => ?_)
    refine q_scald (m := L) hL (i.toInt + 2) hv169 hy_2 (fun v170 hv170 => ?_)
    have sv170 := hv4.symm.trans hv170
    subst sv170
    refine r_callV 902 rfl [.ref 231, .int v2, .int v4] [] (Nat.le_of_ble_eq_true rfl) rfl (T_X11_swap_231 _ hI116 v2 v4) ?_
    rintro _ _ ⟨g171, rfl, hI172, hF173, v174, rfl, hr175⟩
    refine At.sti ?_
    have hF176 := Fr.tr hF120 hF173 rfl rfl
    obtain ⟨q177, q178, q179⟩ := hr175
    have ek189 : (eA g115 233 0).toInt = (gI g0 1 0).toInt := (eA_ti (j := 0) (hF117.2.1 233 (by decide))).trans hR_0.symm
    have ek190 : (eA g115 233 1).toInt = (gI g0 1 4).toInt := (eA_ti (j := 1) (hF117.2.1 233 (by decide))).trans hR_4.symm
    obtain ⟨⟨i181, i182, i183⟩, sm184, sm185, sm186, sm187, sm188⟩ := q178
    have w180 := i182 ⟨(by rw [ek189]; exact pk5.1), pk5.2⟩
    clear i181 i182 i183
    have f191 := congrArg Int32.toInt (hF173.1 1 0 rfl)
    have f192 := congrArg Int32.toInt (hF173.1 1 12 rfl)
    have f193 := congrArg Int32.toInt (hF173.1 1 10 rfl)
    have f194 := congrArg Int32.toInt (hF173.1 1 11 rfl)
    have f195 := congrArg Int32.toInt (hF173.1 1 4 rfl)
    have f196 := congrArg Int32.toInt (hF173.1 59 0 rfl)
    have f197 := congrArg Int32.toInt (hF173.1 59 12 rfl)
    have f198 := congrArg Int32.toInt (hF173.1 59 10 rfl)
    have f199 := congrArg Int32.toInt (hF173.1 59 11 rfl)
    have f200 := congrArg Int32.toInt (hF173.1 59 4 rfl)
    have f201 := congrArg Int32.toInt (hF173.1 116 0 rfl)
    have f202 := congrArg Int32.toInt (hF173.1 116 12 rfl)
    have f203 := congrArg Int32.toInt (hF173.1 116 10 rfl)
    have f204 := congrArg Int32.toInt (hF173.1 116 11 rfl)
    have f205 := congrArg Int32.toInt (hF173.1 116 4 rfl)
    have f206 := congrArg Int32.toInt (eA_c (j := 0) (hF173.2.1 173 rfl))
    have f207 := congrArg Int32.toInt (eA_c (j := 1) (hF173.2.1 173 rfl))
    have f208 := congrArg Int32.toInt (hF173.1 174 1 rfl)
    have f209 := congrArg Int32.toInt (hF173.1 0 16 rfl)
    have f210 := congrArg Int32.toInt (eA_c (j := 0) (hF173.2.1 234 rfl))
    have f211 := congrArg Int32.toInt (eA_c (j := 4) (hF173.2.1 234 rfl))
    have f212 := congrArg Int32.toInt (eA_c (j := 5) (hF173.2.1 234 rfl))
    have f213 := congrArg Int32.toInt (eA_c (j := 6) (hF173.2.1 234 rfl))
    have f214 := congrArg Int32.toInt (eA_c (j := 1) (hF173.2.1 234 rfl))
    have f215 := congrArg Int32.toInt (eA_c (j := 5510) (hF173.2.1 234 rfl))
    have f216 := congrArg Int32.toInt (eA_c (j := 5514) (hF173.2.1 234 rfl))
    have f217 := congrArg Int32.toInt (eA_c (j := 5515) (hF173.2.1 234 rfl))
    have f218 := congrArg Int32.toInt (eA_c (j := 5516) (hF173.2.1 234 rfl))
    have f219 := congrArg Int32.toInt (eA_c (j := 5511) (hF173.2.1 234 rfl))
    have f220 := congrArg Int32.toInt (eA_c (j := 0) (hF173.2.1 235 rfl))
    have f221 := congrArg Int32.toInt (eA_c (j := 1) (hF173.2.1 235 rfl))
    have f222 := congrArg Int32.toInt (hF173.1 231 8 rfl)
    have f223 := congrArg Int32.toInt (hF173.1 231 6 rfl)
    refine At.enter rfl ?_
    refine r_pop rfl ?_
    refine r_goto ?_
    exact K _ hI172 (show LwR _ from ⟨by omega, by omega, by omega, by omega, by omega, (eA_ti (j := 0) (((hF173.2.1 173 (by decide)).trans (hF117.2.1 173 (by decide))))).trans (hR_5.trans (eA_ti (j := 0) (((hF173.2.1 235 (by decide)).trans (hF117.2.1 235 (by decide))))).symm), (eA_ti (j := 1) (((hF173.2.1 173 (by decide)).trans (hF117.2.1 173 (by decide))))).trans (hR_6.trans (eA_ti (j := 1) (((hF173.2.1 235 (by decide)).trans (hF117.2.1 235 (by decide))))).symm), (congrArg Int32.toInt (((hF173.1 174 1 (by decide)).trans (hF117.1 174 1 (by decide))))).trans (hR_7.trans (congrArg Int32.toInt (((hF173.1 231 8 (by decide)).trans (hF117.1 231 8 (by decide))))).symm), (congrArg Int32.toInt (((hF173.1 0 16 (by decide)).trans (hF117.1 0 16 (by decide))))).trans (hR_8.trans (congrArg Int32.toInt (((hF173.1 231 6 (by decide)).trans (hF117.1 231 6 (by decide))))).symm), IM0.cong hR_9 (eA_ti (j := 0) (((hF173.2.1 173 (by decide)).trans (hF117.2.1 173 (by decide))))) (congrArg Int32.toInt (((hF173.1 59 0 (by decide)).trans (hF117.1 59 0 (by decide))))) (eA_ti (j := 0) (((hF173.2.1 234 (by decide)).trans (hF117.2.1 234 (by decide))))) (congrArg Int32.toInt (((hF173.1 59 12 (by decide)).trans (hF117.1 59 12 (by decide))))) (eA_ti (j := 4) (((hF173.2.1 234 (by decide)).trans (hF117.2.1 234 (by decide))))) (congrArg Int32.toInt (((hF173.1 59 10 (by decide)).trans (hF117.1 59 10 (by decide))))) (eA_ti (j := 5) (((hF173.2.1 234 (by decide)).trans (hF117.2.1 234 (by decide))))) (congrArg Int32.toInt (((hF173.1 59 11 (by decide)).trans (hF117.1 59 11 (by decide))))) (eA_ti (j := 6) (((hF173.2.1 234 (by decide)).trans (hF117.2.1 234 (by decide))))) (congrArg Int32.toInt (((hF173.1 59 4 (by decide)).trans (hF117.1 59 4 (by decide))))) (eA_ti (j := 1) (((hF173.2.1 234 (by decide)).trans (hF117.2.1 234 (by decide))))), IM1.cong hR_10 (eA_ti (j := 1) (((hF173.2.1 173 (by decide)).trans (hF117.2.1 173 (by decide))))) (congrArg Int32.toInt (((hF173.1 116 0 (by decide)).trans (hF117.1 116 0 (by decide))))) (eA_ti (j := 5510) (((hF173.2.1 234 (by decide)).trans (hF117.2.1 234 (by decide))))) (congrArg Int32.toInt (((hF173.1 116 12 (by decide)).trans (hF117.1 116 12 (by decide))))) (eA_ti (j := 5514) (((hF173.2.1 234 (by decide)).trans (hF117.2.1 234 (by decide))))) (congrArg Int32.toInt (((hF173.1 116 10 (by decide)).trans (hF117.1 116 10 (by decide))))) (eA_ti (j := 5515) (((hF173.2.1 234 (by decide)).trans (hF117.2.1 234 (by decide))))) (congrArg Int32.toInt (((hF173.1 116 11 (by decide)).trans (hF117.1 116 11 (by decide))))) (eA_ti (j := 5516) (((hF173.2.1 234 (by decide)).trans (hF117.2.1 234 (by decide))))) (congrArg Int32.toInt (((hF173.1 116 4 (by decide)).trans (hF117.1 116 4 (by decide))))) (eA_ti (j := 5511) (((hF173.2.1 234 (by decide)).trans (hF117.2.1 234 (by decide))))), (show CT _ from ⟨fun i i0 i1 => ⟨(by have t0_ := hI0.t0; have t1_ := hI0.t1; have ek0 : (eA g115 233 0).toInt = (gI g0 1 0).toInt := (eA_ti (j := 0) (hF117.2.1 233 (by decide))).trans hR_0.symm; have x := eA_ti (j := i) (((hF173.2.1 2 (by decide)).trans (hF117.2.1 2 (by decide)))); have m := q179 (10 + 3 * i) (by omega) (by omega); have y := eA_ti (j := (10 + 3 * i)) (hF117.2.1 233 (by decide)); have k : ¬ (0 ≤ v2.toInt ∧ v2.toInt < (gI g0 1 0).toInt ∧ 0 ≤ v4.toInt ∧ v4.toInt < (gI g0 1 0).toInt ∧ v2.toInt ≠ v4.toInt) := (fun z => z.2.2.2.2 pk5.2); have k2 : ¬ (0 ≤ v2.toInt ∧ v2.toInt < (eA g115 233 0).toInt ∧ 0 ≤ v4.toInt ∧ v4.toInt < (eA g115 233 0).toInt ∧ v2.toInt ≠ v4.toInt) := (fun z => k (by rw [← ek0]; exact z)); rw [ite_an k2, ite_an k2, ite_an k2, ite_an k2] at m; exact x.trans ((hR_11.1 i i0 i1).1.trans (m.trans y).symm)), (by have t0_ := hI0.t0; have t1_ := hI0.t1; have ek0 : (eA g115 233 0).toInt = (gI g0 1 0).toInt := (eA_ti (j := 0) (hF117.2.1 233 (by decide))).trans hR_0.symm; have x := (eA_ti (j := i) (hF173.2.1 3 (by decide))).trans (q123 i i0 i1); have m := q179 (10 + 3 * i + 1) (by omega) (by omega); have y := eA_ti (j := (10 + 3 * i + 1)) (hF117.2.1 233 (by decide)); have k : ¬ (0 ≤ v2.toInt ∧ v2.toInt < (gI g0 1 0).toInt ∧ 0 ≤ v4.toInt ∧ v4.toInt < (gI g0 1 0).toInt ∧ v2.toInt ≠ v4.toInt) := (fun z => z.2.2.2.2 pk5.2); have k2 : ¬ (0 ≤ v2.toInt ∧ v2.toInt < (eA g115 233 0).toInt ∧ 0 ≤ v4.toInt ∧ v4.toInt < (eA g115 233 0).toInt ∧ v2.toInt ≠ v4.toInt) := (fun z => k (by rw [← ek0]; exact z)); rw [ite_an k, ite_an k] at x; rw [ite_an k2, ite_an k2, ite_an k2, ite_an k2] at m; exact x.trans ((hR_11.1 i i0 i1).2.1.trans (m.trans y).symm)), (by have t0_ := hI0.t0; have t1_ := hI0.t1; have ek0 : (eA g115 233 0).toInt = (gI g0 1 0).toInt := (eA_ti (j := 0) (hF117.2.1 233 (by decide))).trans hR_0.symm; have x := (eA_ti (j := i) (hF173.2.1 4 (by decide))).trans (q124 i i0 i1); have m := q179 (10 + 3 * i + 2) (by omega) (by omega); have y := eA_ti (j := (10 + 3 * i + 2)) (hF117.2.1 233 (by decide)); have k : ¬ (0 ≤ v2.toInt ∧ v2.toInt < (gI g0 1 0).toInt ∧ 0 ≤ v4.toInt ∧ v4.toInt < (gI g0 1 0).toInt ∧ v2.toInt ≠ v4.toInt) := (fun z => z.2.2.2.2 pk5.2); have k2 : ¬ (0 ≤ v2.toInt ∧ v2.toInt < (eA g115 233 0).toInt ∧ 0 ≤ v4.toInt ∧ v4.toInt < (eA g115 233 0).toInt ∧ v2.toInt ≠ v4.toInt) := (fun z => k (by rw [← ek0]; exact z)); rw [ite_an k, ite_an k] at x; rw [ite_an k2, ite_an k2, ite_an k2, ite_an k2] at m; exact x.trans ((hR_11.1 i i0 i1).2.2.trans (m.trans y).symm))⟩, fun i i0 i1 => ⟨(by have t0_ := hI0.t0; have t1_ := hI0.t1; have ek0 : (eA g115 233 0).toInt = (gI g0 1 0).toInt := (eA_ti (j := 0) (hF117.2.1 233 (by decide))).trans hR_0.symm; have x := eA_ti (j := i) (((hF173.2.1 14 (by decide)).trans (hF117.2.1 14 (by decide)))); have m := q179 (94 + 2 * i) (by omega) (by omega); have y := eA_ti (j := (94 + 2 * i)) (hF117.2.1 233 (by decide)); have k : ¬ (0 ≤ v2.toInt ∧ v2.toInt < (gI g0 1 0).toInt ∧ 0 ≤ v4.toInt ∧ v4.toInt < (gI g0 1 0).toInt ∧ v2.toInt ≠ v4.toInt) := (fun z => z.2.2.2.2 pk5.2); have k2 : ¬ (0 ≤ v2.toInt ∧ v2.toInt < (eA g115 233 0).toInt ∧ 0 ≤ v4.toInt ∧ v4.toInt < (eA g115 233 0).toInt ∧ v2.toInt ≠ v4.toInt) := (fun z => k (by rw [← ek0]; exact z)); rw [ite_an k2, ite_an k2, ite_an k2, ite_an k2] at m; exact x.trans ((hR_11.2.1 i i0 i1).1.trans (m.trans y).symm)), (by have t0_ := hI0.t0; have t1_ := hI0.t1; have ek0 : (eA g115 233 0).toInt = (gI g0 1 0).toInt := (eA_ti (j := 0) (hF117.2.1 233 (by decide))).trans hR_0.symm; have x := eA_ti (j := i) (((hF173.2.1 15 (by decide)).trans (hF117.2.1 15 (by decide)))); have m := q179 (94 + 2 * i + 1) (by omega) (by omega); have y := eA_ti (j := (94 + 2 * i + 1)) (hF117.2.1 233 (by decide)); have k : ¬ (0 ≤ v2.toInt ∧ v2.toInt < (gI g0 1 0).toInt ∧ 0 ≤ v4.toInt ∧ v4.toInt < (gI g0 1 0).toInt ∧ v2.toInt ≠ v4.toInt) := (fun z => z.2.2.2.2 pk5.2); have k2 : ¬ (0 ≤ v2.toInt ∧ v2.toInt < (eA g115 233 0).toInt ∧ 0 ≤ v4.toInt ∧ v4.toInt < (eA g115 233 0).toInt ∧ v2.toInt ≠ v4.toInt) := (fun z => k (by rw [← ek0]; exact z)); rw [ite_an k2, ite_an k2, ite_an k2, ite_an k2] at m; exact x.trans ((hR_11.2.1 i i0 i1).2.trans (m.trans y).symm))⟩, fun i i0 i1 => (by have t0_ := hI0.t0; have t1_ := hI0.t1; have ek0 : (eA g115 233 0).toInt = (gI g0 1 0).toInt := (eA_ti (j := 0) (hF117.2.1 233 (by decide))).trans hR_0.symm; have x := eA_ti (j := i) (((hF173.2.1 5 (by decide)).trans (hF117.2.1 5 (by decide)))); have m := q179 (46 + i) (by omega) (by omega); have y := eA_ti (j := (46 + i)) (hF117.2.1 233 (by decide)); have k : ¬ (0 ≤ v2.toInt ∧ v2.toInt < (gI g0 1 0).toInt ∧ 0 ≤ v4.toInt ∧ v4.toInt < (gI g0 1 0).toInt ∧ v2.toInt ≠ v4.toInt) := (fun z => z.2.2.2.2 pk5.2); have k2 : ¬ (0 ≤ v2.toInt ∧ v2.toInt < (eA g115 233 0).toInt ∧ 0 ≤ v4.toInt ∧ v4.toInt < (eA g115 233 0).toInt ∧ v2.toInt ≠ v4.toInt) := (fun z => k (by rw [← ek0]; exact z)); rw [ite_an k2, ite_an k2, ite_an k2, ite_an k2] at m; exact x.trans ((hR_11.2.2 i i0 (by omega)).trans (m.trans y).symm))⟩), CI0.cong hR_12 (((hF173.2.1 60 (by decide)).trans (hF117.2.1 60 (by decide)))) (((hF173.2.1 61 (by decide)).trans (hF117.2.1 61 (by decide)))) (((hF173.2.1 62 (by decide)).trans (hF117.2.1 62 (by decide)))) (((hF173.2.1 72 (by decide)).trans (hF117.2.1 72 (by decide)))) (((hF173.2.1 73 (by decide)).trans (hF117.2.1 73 (by decide)))) (((hF173.2.1 63 (by decide)).trans (hF117.2.1 63 (by decide)))) (((hF173.2.1 234 (by decide)).trans (hF117.2.1 234 (by decide)))) (congrArg Int32.toInt (((hF173.1 59 4 (by decide)).trans (hF117.1 59 4 (by decide))))), CI1.cong hR_13 (((hF173.2.1 117 (by decide)).trans (hF117.2.1 117 (by decide)))) (((hF173.2.1 118 (by decide)).trans (hF117.2.1 118 (by decide)))) (((hF173.2.1 119 (by decide)).trans (hF117.2.1 119 (by decide)))) (((hF173.2.1 129 (by decide)).trans (hF117.2.1 129 (by decide)))) (((hF173.2.1 130 (by decide)).trans (hF117.2.1 130 (by decide)))) (((hF173.2.1 120 (by decide)).trans (hF117.2.1 120 (by decide)))) (((hF173.2.1 234 (by decide)).trans (hF117.2.1 234 (by decide)))) (congrArg Int32.toInt (((hF173.1 116 4 (by decide)).trans (hF117.1 116 4 (by decide))))), (show RT _ from fun i i0 i1 => (eA_ti (((hF173.2.1 175 (by decide)).trans (hF117.2.1 175 (by decide))))).trans ((hR_14 i i0 (by omega)).trans (eA_ti (((hF173.2.1 236 (by decide)).trans (hF117.2.1 236 (by decide))))).symm))⟩)
  · refine r_callV 887 rfl [.ref 0, .int v2, .int v4] [] (Nat.le_of_ble_eq_true rfl) rfl (T_X10_swap_0 _ hI0 v2 v4) ?_
    rintro _ _ ⟨g224, rfl, hI225, hF226, v227, rfl, hr228⟩
    refine At.sti ?_
    have hF229 := Fr.tr hF0 hF226 rfl rfl
    obtain ⟨q230, q231, q232, q233⟩ := hr228
    obtain ⟨i235, i236, i237⟩ := q231
    have w234 := i237 ⟨pk5.1, pk5.2⟩
    clear i235 i236 i237
    have f238 := congrArg Int32.toInt (hF226.1 1 0 rfl)
    have f239 := congrArg Int32.toInt (hF226.1 1 12 rfl)
    have f240 := congrArg Int32.toInt (hF226.1 1 10 rfl)
    have f241 := congrArg Int32.toInt (hF226.1 1 11 rfl)
    have f242 := congrArg Int32.toInt (hF226.1 1 4 rfl)
    have f243 := congrArg Int32.toInt (hF226.1 59 0 rfl)
    have f244 := congrArg Int32.toInt (hF226.1 59 12 rfl)
    have f245 := congrArg Int32.toInt (hF226.1 59 10 rfl)
    have f246 := congrArg Int32.toInt (hF226.1 59 11 rfl)
    have f247 := congrArg Int32.toInt (hF226.1 59 4 rfl)
    have f248 := congrArg Int32.toInt (hF226.1 116 0 rfl)
    have f249 := congrArg Int32.toInt (hF226.1 116 12 rfl)
    have f250 := congrArg Int32.toInt (hF226.1 116 10 rfl)
    have f251 := congrArg Int32.toInt (hF226.1 116 11 rfl)
    have f252 := congrArg Int32.toInt (hF226.1 116 4 rfl)
    have f253 := congrArg Int32.toInt (eA_c (j := 0) (hF226.2.1 173 rfl))
    have f254 := congrArg Int32.toInt (eA_c (j := 1) (hF226.2.1 173 rfl))
    have f255 := congrArg Int32.toInt (hF226.1 174 1 rfl)
    have f256 := congrArg Int32.toInt (hF226.1 0 16 rfl)
    have f257 := congrArg Int32.toInt (eA_c (j := 0) (hF226.2.1 233 rfl))
    have f258 := congrArg Int32.toInt (eA_c (j := 4) (hF226.2.1 233 rfl))
    have f259 := congrArg Int32.toInt (eA_c (j := 5) (hF226.2.1 233 rfl))
    have f260 := congrArg Int32.toInt (eA_c (j := 6) (hF226.2.1 233 rfl))
    have f261 := congrArg Int32.toInt (eA_c (j := 1) (hF226.2.1 233 rfl))
    have f262 := congrArg Int32.toInt (eA_c (j := 0) (hF226.2.1 234 rfl))
    have f263 := congrArg Int32.toInt (eA_c (j := 4) (hF226.2.1 234 rfl))
    have f264 := congrArg Int32.toInt (eA_c (j := 5) (hF226.2.1 234 rfl))
    have f265 := congrArg Int32.toInt (eA_c (j := 6) (hF226.2.1 234 rfl))
    have f266 := congrArg Int32.toInt (eA_c (j := 1) (hF226.2.1 234 rfl))
    have f267 := congrArg Int32.toInt (eA_c (j := 5510) (hF226.2.1 234 rfl))
    have f268 := congrArg Int32.toInt (eA_c (j := 5514) (hF226.2.1 234 rfl))
    have f269 := congrArg Int32.toInt (eA_c (j := 5515) (hF226.2.1 234 rfl))
    have f270 := congrArg Int32.toInt (eA_c (j := 5516) (hF226.2.1 234 rfl))
    have f271 := congrArg Int32.toInt (eA_c (j := 5511) (hF226.2.1 234 rfl))
    have f272 := congrArg Int32.toInt (eA_c (j := 0) (hF226.2.1 235 rfl))
    have f273 := congrArg Int32.toInt (eA_c (j := 1) (hF226.2.1 235 rfl))
    have f274 := congrArg Int32.toInt (hF226.1 231 8 rfl)
    have f275 := congrArg Int32.toInt (hF226.1 231 6 rfl)
    refine At.enter rfl ?_
    refine r_pop rfl ?_
    refine r_aload_n e2 ?_
    refine r_sload_n e0 ?_
    refine r_iload_n e3 ?_
    refine r_iconst 1 rfl ?_
    refine q_iadd (i.toInt + 1) rfl hx_1 (fun v276 hv276 => ?_)
    refine q_scald (m := L) hL (i.toInt + 1) hv276 hy_1 (fun v277 hv277 => ?_)
    have sv277 := hv2.symm.trans hv277
    subst sv277
    refine r_sload_n e0 ?_
    refine r_iload_n e3 ?_
    refine r_iconst 2 rfl ?_
    refine q_iadd (i.toInt + 2) rfl hx_2 (fun v278 hv278 => ?_)
    refine q_scald (m := L) hL (i.toInt + 2) hv278 hy_2 (fun v279 hv279 => ?_)
    have sv279 := hv4.symm.trans hv279
    subst sv279
    refine r_callV 902 rfl [.ref 231, .int v2, .int v4] [] (Nat.le_of_ble_eq_true rfl) rfl (T_X11_swap_231 _ hI225 v2 v4) ?_
    rintro _ _ ⟨g280, rfl, hI281, hF282, v283, rfl, hr284⟩
    refine At.sti ?_
    have hF285 := Fr.tr hF229 hF282 rfl rfl
    obtain ⟨q286, q287, q288⟩ := hr284
    have ek298 : (eA g224 233 0).toInt = (gI g0 1 0).toInt := (eA_ti (j := 0) (hF226.2.1 233 (by decide))).trans hR_0.symm
    have ek299 : (eA g224 233 1).toInt = (gI g0 1 4).toInt := (eA_ti (j := 1) (hF226.2.1 233 (by decide))).trans hR_4.symm
    obtain ⟨⟨i290, i291, i292⟩, sm293, sm294, sm295, sm296, sm297⟩ := q287
    have w289 := i292 ⟨(by rw [ek298]; exact pk5.1), pk5.2⟩
    clear i290 i291 i292
    have f300 := congrArg Int32.toInt (hF282.1 1 0 rfl)
    have f301 := congrArg Int32.toInt (hF282.1 1 12 rfl)
    have f302 := congrArg Int32.toInt (hF282.1 1 10 rfl)
    have f303 := congrArg Int32.toInt (hF282.1 1 11 rfl)
    have f304 := congrArg Int32.toInt (hF282.1 1 4 rfl)
    have f305 := congrArg Int32.toInt (hF282.1 59 0 rfl)
    have f306 := congrArg Int32.toInt (hF282.1 59 12 rfl)
    have f307 := congrArg Int32.toInt (hF282.1 59 10 rfl)
    have f308 := congrArg Int32.toInt (hF282.1 59 11 rfl)
    have f309 := congrArg Int32.toInt (hF282.1 59 4 rfl)
    have f310 := congrArg Int32.toInt (hF282.1 116 0 rfl)
    have f311 := congrArg Int32.toInt (hF282.1 116 12 rfl)
    have f312 := congrArg Int32.toInt (hF282.1 116 10 rfl)
    have f313 := congrArg Int32.toInt (hF282.1 116 11 rfl)
    have f314 := congrArg Int32.toInt (hF282.1 116 4 rfl)
    have f315 := congrArg Int32.toInt (eA_c (j := 0) (hF282.2.1 173 rfl))
    have f316 := congrArg Int32.toInt (eA_c (j := 1) (hF282.2.1 173 rfl))
    have f317 := congrArg Int32.toInt (hF282.1 174 1 rfl)
    have f318 := congrArg Int32.toInt (hF282.1 0 16 rfl)
    have f319 := congrArg Int32.toInt (eA_c (j := 0) (hF282.2.1 234 rfl))
    have f320 := congrArg Int32.toInt (eA_c (j := 4) (hF282.2.1 234 rfl))
    have f321 := congrArg Int32.toInt (eA_c (j := 5) (hF282.2.1 234 rfl))
    have f322 := congrArg Int32.toInt (eA_c (j := 6) (hF282.2.1 234 rfl))
    have f323 := congrArg Int32.toInt (eA_c (j := 1) (hF282.2.1 234 rfl))
    have f324 := congrArg Int32.toInt (eA_c (j := 5510) (hF282.2.1 234 rfl))
    have f325 := congrArg Int32.toInt (eA_c (j := 5514) (hF282.2.1 234 rfl))
    have f326 := congrArg Int32.toInt (eA_c (j := 5515) (hF282.2.1 234 rfl))
    have f327 := congrArg Int32.toInt (eA_c (j := 5516) (hF282.2.1 234 rfl))
    have f328 := congrArg Int32.toInt (eA_c (j := 5511) (hF282.2.1 234 rfl))
    have f329 := congrArg Int32.toInt (eA_c (j := 0) (hF282.2.1 235 rfl))
    have f330 := congrArg Int32.toInt (eA_c (j := 1) (hF282.2.1 235 rfl))
    have f331 := congrArg Int32.toInt (hF282.1 231 8 rfl)
    have f332 := congrArg Int32.toInt (hF282.1 231 6 rfl)
    refine At.enter rfl ?_
    refine r_pop rfl ?_
    refine r_goto ?_
    exact K _ hI281 (show LwR _ from ⟨by omega, by omega, by omega, by omega, by omega, (eA_ti (j := 0) (((hF282.2.1 173 (by decide)).trans (hF226.2.1 173 (by decide))))).trans (hR_5.trans (eA_ti (j := 0) (((hF282.2.1 235 (by decide)).trans (hF226.2.1 235 (by decide))))).symm), (eA_ti (j := 1) (((hF282.2.1 173 (by decide)).trans (hF226.2.1 173 (by decide))))).trans (hR_6.trans (eA_ti (j := 1) (((hF282.2.1 235 (by decide)).trans (hF226.2.1 235 (by decide))))).symm), (congrArg Int32.toInt (((hF282.1 174 1 (by decide)).trans (hF226.1 174 1 (by decide))))).trans (hR_7.trans (congrArg Int32.toInt (((hF282.1 231 8 (by decide)).trans (hF226.1 231 8 (by decide))))).symm), (congrArg Int32.toInt (((hF282.1 0 16 (by decide)).trans (hF226.1 0 16 (by decide))))).trans (hR_8.trans (congrArg Int32.toInt (((hF282.1 231 6 (by decide)).trans (hF226.1 231 6 (by decide))))).symm), IM0.cong hR_9 (eA_ti (j := 0) (((hF282.2.1 173 (by decide)).trans (hF226.2.1 173 (by decide))))) (congrArg Int32.toInt (((hF282.1 59 0 (by decide)).trans (hF226.1 59 0 (by decide))))) (eA_ti (j := 0) (((hF282.2.1 234 (by decide)).trans (hF226.2.1 234 (by decide))))) (congrArg Int32.toInt (((hF282.1 59 12 (by decide)).trans (hF226.1 59 12 (by decide))))) (eA_ti (j := 4) (((hF282.2.1 234 (by decide)).trans (hF226.2.1 234 (by decide))))) (congrArg Int32.toInt (((hF282.1 59 10 (by decide)).trans (hF226.1 59 10 (by decide))))) (eA_ti (j := 5) (((hF282.2.1 234 (by decide)).trans (hF226.2.1 234 (by decide))))) (congrArg Int32.toInt (((hF282.1 59 11 (by decide)).trans (hF226.1 59 11 (by decide))))) (eA_ti (j := 6) (((hF282.2.1 234 (by decide)).trans (hF226.2.1 234 (by decide))))) (congrArg Int32.toInt (((hF282.1 59 4 (by decide)).trans (hF226.1 59 4 (by decide))))) (eA_ti (j := 1) (((hF282.2.1 234 (by decide)).trans (hF226.2.1 234 (by decide))))), IM1.cong hR_10 (eA_ti (j := 1) (((hF282.2.1 173 (by decide)).trans (hF226.2.1 173 (by decide))))) (congrArg Int32.toInt (((hF282.1 116 0 (by decide)).trans (hF226.1 116 0 (by decide))))) (eA_ti (j := 5510) (((hF282.2.1 234 (by decide)).trans (hF226.2.1 234 (by decide))))) (congrArg Int32.toInt (((hF282.1 116 12 (by decide)).trans (hF226.1 116 12 (by decide))))) (eA_ti (j := 5514) (((hF282.2.1 234 (by decide)).trans (hF226.2.1 234 (by decide))))) (congrArg Int32.toInt (((hF282.1 116 10 (by decide)).trans (hF226.1 116 10 (by decide))))) (eA_ti (j := 5515) (((hF282.2.1 234 (by decide)).trans (hF226.2.1 234 (by decide))))) (congrArg Int32.toInt (((hF282.1 116 11 (by decide)).trans (hF226.1 116 11 (by decide))))) (eA_ti (j := 5516) (((hF282.2.1 234 (by decide)).trans (hF226.2.1 234 (by decide))))) (congrArg Int32.toInt (((hF282.1 116 4 (by decide)).trans (hF226.1 116 4 (by decide))))) (eA_ti (j := 5511) (((hF282.2.1 234 (by decide)).trans (hF226.2.1 234 (by decide))))), (show CT _ from ⟨fun i i0 i1 => ⟨(by have t0_ := hI0.t0; have t1_ := hI0.t1; have ek0 : (eA g224 233 0).toInt = (gI g0 1 0).toInt := (eA_ti (j := 0) (hF226.2.1 233 (by decide))).trans hR_0.symm; have x := eA_ti (j := i) (((hF282.2.1 2 (by decide)).trans (hF226.2.1 2 (by decide)))); have m := q288 (10 + 3 * i) (by omega) (by omega); have y := eA_ti (j := (10 + 3 * i)) (hF226.2.1 233 (by decide)); have k : 0 ≤ v2.toInt ∧ v2.toInt < (gI g0 1 0).toInt ∧ 0 ≤ v4.toInt ∧ v4.toInt < (gI g0 1 0).toInt ∧ v2.toInt ≠ v4.toInt := ⟨pk5.1.1, pk5.1.2.1, pk5.1.2.2.1, pk5.1.2.2.2, pk5.2⟩; have k2 : 0 ≤ v2.toInt ∧ v2.toInt < (eA g224 233 0).toInt ∧ 0 ≤ v4.toInt ∧ v4.toInt < (eA g224 233 0).toInt ∧ v2.toInt ≠ v4.toInt := (by rw [ek0]; exact k); rw [ite_ap k2, ite_ap k2, ite_ap k2, ite_ap k2] at m; exact x.trans ((hR_11.1 i i0 i1).1.trans ((m.trans (if4n (by omega) (by omega) (by omega) (by omega))).trans y).symm)), (by have t0_ := hI0.t0; have t1_ := hI0.t1; have ek0 : (eA g224 233 0).toInt = (gI g0 1 0).toInt := (eA_ti (j := 0) (hF226.2.1 233 (by decide))).trans hR_0.symm; have x := (eA_ti (j := i) (hF282.2.1 3 (by decide))).trans (q232 i i0 i1); have m := q288 (10 + 3 * i + 1) (by omega) (by omega); have y := eA_ti (j := (10 + 3 * i + 1)) (hF226.2.1 233 (by decide)); have k : 0 ≤ v2.toInt ∧ v2.toInt < (gI g0 1 0).toInt ∧ 0 ≤ v4.toInt ∧ v4.toInt < (gI g0 1 0).toInt ∧ v2.toInt ≠ v4.toInt := ⟨pk5.1.1, pk5.1.2.1, pk5.1.2.2.1, pk5.1.2.2.2, pk5.2⟩; have k2 : 0 ≤ v2.toInt ∧ v2.toInt < (eA g224 233 0).toInt ∧ 0 ≤ v4.toInt ∧ v4.toInt < (eA g224 233 0).toInt ∧ v2.toInt ≠ v4.toInt := (by rw [ek0]; exact k); rw [ite_ap k2, ite_ap k2, ite_ap k2, ite_ap k2] at m; rw [ite_ap k, ite_ap k] at x; exact x.trans ((swp1 (S := fun j => (eA g0 3 j).toInt) (M := fun j => (eA g224 233 j).toInt) (fun j j0 j1 => (hR_11.1 j j0 j1).2.1.trans (eA_ti (hF226.2.1 233 (by decide))).symm) ⟨by omega, by omega⟩ ⟨by omega, by omega⟩ ⟨i0, i1⟩).trans m.symm)), (by have t0_ := hI0.t0; have t1_ := hI0.t1; have ek0 : (eA g224 233 0).toInt = (gI g0 1 0).toInt := (eA_ti (j := 0) (hF226.2.1 233 (by decide))).trans hR_0.symm; have x := (eA_ti (j := i) (hF282.2.1 4 (by decide))).trans (q233 i i0 i1); have m := q288 (10 + 3 * i + 2) (by omega) (by omega); have y := eA_ti (j := (10 + 3 * i + 2)) (hF226.2.1 233 (by decide)); have k : 0 ≤ v2.toInt ∧ v2.toInt < (gI g0 1 0).toInt ∧ 0 ≤ v4.toInt ∧ v4.toInt < (gI g0 1 0).toInt ∧ v2.toInt ≠ v4.toInt := ⟨pk5.1.1, pk5.1.2.1, pk5.1.2.2.1, pk5.1.2.2.2, pk5.2⟩; have k2 : 0 ≤ v2.toInt ∧ v2.toInt < (eA g224 233 0).toInt ∧ 0 ≤ v4.toInt ∧ v4.toInt < (eA g224 233 0).toInt ∧ v2.toInt ≠ v4.toInt := (by rw [ek0]; exact k); rw [ite_ap k2, ite_ap k2, ite_ap k2, ite_ap k2] at m; rw [ite_ap k, ite_ap k] at x; exact x.trans ((swp2 (S := fun j => (eA g0 4 j).toInt) (M := fun j => (eA g224 233 j).toInt) (fun j j0 j1 => (hR_11.1 j j0 j1).2.2.trans (eA_ti (hF226.2.1 233 (by decide))).symm) ⟨by omega, by omega⟩ ⟨by omega, by omega⟩ ⟨i0, i1⟩).trans m.symm))⟩, fun i i0 i1 => ⟨(by have t0_ := hI0.t0; have t1_ := hI0.t1; have ek0 : (eA g224 233 0).toInt = (gI g0 1 0).toInt := (eA_ti (j := 0) (hF226.2.1 233 (by decide))).trans hR_0.symm; have x := eA_ti (j := i) (((hF282.2.1 14 (by decide)).trans (hF226.2.1 14 (by decide)))); have m := q288 (94 + 2 * i) (by omega) (by omega); have y := eA_ti (j := (94 + 2 * i)) (hF226.2.1 233 (by decide)); have k : 0 ≤ v2.toInt ∧ v2.toInt < (gI g0 1 0).toInt ∧ 0 ≤ v4.toInt ∧ v4.toInt < (gI g0 1 0).toInt ∧ v2.toInt ≠ v4.toInt := ⟨pk5.1.1, pk5.1.2.1, pk5.1.2.2.1, pk5.1.2.2.2, pk5.2⟩; have k2 : 0 ≤ v2.toInt ∧ v2.toInt < (eA g224 233 0).toInt ∧ 0 ≤ v4.toInt ∧ v4.toInt < (eA g224 233 0).toInt ∧ v2.toInt ≠ v4.toInt := (by rw [ek0]; exact k); rw [ite_ap k2, ite_ap k2, ite_ap k2, ite_ap k2] at m; exact x.trans ((hR_11.2.1 i i0 i1).1.trans ((m.trans (if4n (by omega) (by omega) (by omega) (by omega))).trans y).symm)), (by have t0_ := hI0.t0; have t1_ := hI0.t1; have ek0 : (eA g224 233 0).toInt = (gI g0 1 0).toInt := (eA_ti (j := 0) (hF226.2.1 233 (by decide))).trans hR_0.symm; have x := eA_ti (j := i) (((hF282.2.1 15 (by decide)).trans (hF226.2.1 15 (by decide)))); have m := q288 (94 + 2 * i + 1) (by omega) (by omega); have y := eA_ti (j := (94 + 2 * i + 1)) (hF226.2.1 233 (by decide)); have k : 0 ≤ v2.toInt ∧ v2.toInt < (gI g0 1 0).toInt ∧ 0 ≤ v4.toInt ∧ v4.toInt < (gI g0 1 0).toInt ∧ v2.toInt ≠ v4.toInt := ⟨pk5.1.1, pk5.1.2.1, pk5.1.2.2.1, pk5.1.2.2.2, pk5.2⟩; have k2 : 0 ≤ v2.toInt ∧ v2.toInt < (eA g224 233 0).toInt ∧ 0 ≤ v4.toInt ∧ v4.toInt < (eA g224 233 0).toInt ∧ v2.toInt ≠ v4.toInt := (by rw [ek0]; exact k); rw [ite_ap k2, ite_ap k2, ite_ap k2, ite_ap k2] at m; exact x.trans ((hR_11.2.1 i i0 i1).2.trans ((m.trans (if4n (by omega) (by omega) (by omega) (by omega))).trans y).symm))⟩, fun i i0 i1 => (by have t0_ := hI0.t0; have t1_ := hI0.t1; have ek0 : (eA g224 233 0).toInt = (gI g0 1 0).toInt := (eA_ti (j := 0) (hF226.2.1 233 (by decide))).trans hR_0.symm; have x := eA_ti (j := i) (((hF282.2.1 5 (by decide)).trans (hF226.2.1 5 (by decide)))); have m := q288 (46 + i) (by omega) (by omega); have y := eA_ti (j := (46 + i)) (hF226.2.1 233 (by decide)); have k : 0 ≤ v2.toInt ∧ v2.toInt < (gI g0 1 0).toInt ∧ 0 ≤ v4.toInt ∧ v4.toInt < (gI g0 1 0).toInt ∧ v2.toInt ≠ v4.toInt := ⟨pk5.1.1, pk5.1.2.1, pk5.1.2.2.1, pk5.1.2.2.2, pk5.2⟩; have k2 : 0 ≤ v2.toInt ∧ v2.toInt < (eA g224 233 0).toInt ∧ 0 ≤ v4.toInt ∧ v4.toInt < (eA g224 233 0).toInt ∧ v2.toInt ≠ v4.toInt := (by rw [ek0]; exact k); rw [ite_ap k2, ite_ap k2, ite_ap k2, ite_ap k2] at m; exact x.trans ((hR_11.2.2 i i0 (by omega)).trans ((m.trans (if4n (by omega) (by omega) (by omega) (by omega))).trans y).symm))⟩), CI0.cong hR_12 (((hF282.2.1 60 (by decide)).trans (hF226.2.1 60 (by decide)))) (((hF282.2.1 61 (by decide)).trans (hF226.2.1 61 (by decide)))) (((hF282.2.1 62 (by decide)).trans (hF226.2.1 62 (by decide)))) (((hF282.2.1 72 (by decide)).trans (hF226.2.1 72 (by decide)))) (((hF282.2.1 73 (by decide)).trans (hF226.2.1 73 (by decide)))) (((hF282.2.1 63 (by decide)).trans (hF226.2.1 63 (by decide)))) (((hF282.2.1 234 (by decide)).trans (hF226.2.1 234 (by decide)))) (congrArg Int32.toInt (((hF282.1 59 4 (by decide)).trans (hF226.1 59 4 (by decide))))), CI1.cong hR_13 (((hF282.2.1 117 (by decide)).trans (hF226.2.1 117 (by decide)))) (((hF282.2.1 118 (by decide)).trans (hF226.2.1 118 (by decide)))) (((hF282.2.1 119 (by decide)).trans (hF226.2.1 119 (by decide)))) (((hF282.2.1 129 (by decide)).trans (hF226.2.1 129 (by decide)))) (((hF282.2.1 130 (by decide)).trans (hF226.2.1 130 (by decide)))) (((hF282.2.1 120 (by decide)).trans (hF226.2.1 120 (by decide)))) (((hF282.2.1 234 (by decide)).trans (hF226.2.1 234 (by decide)))) (congrArg Int32.toInt (((hF282.1 116 4 (by decide)).trans (hF226.1 116 4 (by decide))))), (show RT _ from fun i i0 i1 => (eA_ti (((hF282.2.1 175 (by decide)).trans (hF226.2.1 175 (by decide))))).trans ((hR_14 i i0 (by omega)).trans (eA_ti (((hF282.2.1 236 (by decide)).trans (hF226.2.1 236 (by decide))))).symm))⟩)
