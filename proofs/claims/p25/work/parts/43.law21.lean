set_option maxRecDepth 100000 in
set_option maxHeartbeats 8000000 in
theorem lq_c21 (d : Nat) {N : Nat} {g0 : List en_E} (hI0 : HI g0) (hR0 : LwR g0) {ys : List Int32} {L : Nat} (hL : ys.length = L) (hL2 : L ≤ 3584) {l : en_L} {i : Int32} (e0 : en_get 0 l = some (.float 0)) (e1 : en_get 1 l = some (.ref 0)) (e2 : en_get 2 l = some (.ref 231)) (e3 : en_get 3 l = some (.int i)) (hi : 0 ≤ i.toInt ∧ i.toInt + 7 ≤ L) {Ph : Option Value → en_H → Prop} (K : ∀ g1 : List en_E, HI g1 → LwR g1 → At (d + 423) (some ys) (some .boolean) bs_L_law (1330, l, [], (g1, N)) Ph) : At (d + 423) (some ys) (some .boolean) bs_L_law (873, l, [], (g0, N)) Ph := by
  have hF0 : Fr F_law A_law g0 g0 := Fr.rf
  have hx_1 : -2147483648 ≤ i.toInt + 1 ∧ i.toInt + 1 ≤ 2147483647 := by omega
  have hx_2 : -2147483648 ≤ i.toInt + 2 ∧ i.toInt + 2 ≤ 2147483647 := by omega
  have hx_3 : -2147483648 ≤ i.toInt + 3 ∧ i.toInt + 3 ≤ 2147483647 := by omega
  have hx_4 : -2147483648 ≤ i.toInt + 4 ∧ i.toInt + 4 ≤ 2147483647 := by omega
  have hx_5 : -2147483648 ≤ i.toInt + 5 ∧ i.toInt + 5 ≤ 2147483647 := by omega
  have hx_6 : -2147483648 ≤ i.toInt + 6 ∧ i.toInt + 6 ≤ 2147483647 := by omega
  have hy_0 : 0 ≤ i.toInt ∧ i.toInt < (L : Int) := by omega
  have hy_1 : 0 ≤ i.toInt + 1 ∧ i.toInt + 1 < (L : Int) := by omega
  have hy_2 : 0 ≤ i.toInt + 2 ∧ i.toInt + 2 < (L : Int) := by omega
  have hy_3 : 0 ≤ i.toInt + 3 ∧ i.toInt + 3 < (L : Int) := by omega
  have hy_4 : 0 ≤ i.toInt + 4 ∧ i.toInt + 4 < (L : Int) := by omega
  have hy_5 : 0 ≤ i.toInt + 5 ∧ i.toInt + 5 < (L : Int) := by omega
  have hy_6 : 0 ≤ i.toInt + 6 ∧ i.toInt + 6 < (L : Int) := by omega
  unfold LwR at hR0
  obtain ⟨hR_0, hR_1, hR_2, hR_3, hR_4, hR_5, hR_6, hR_7, hR_8, hR_9, hR_10, hR_11, hR_12, hR_13, hR_14, hR_15, hR_16, hR_17, hR_18, hR_19, hR_20⟩ := hR0
  refine At.enter rfl ?_
  refine r_aload_n e1 ?_
  refine r_sload_n e0 ?_
  refine r_iload_n e3 ?_
  refine r_iconst 1 rfl ?_
  refine q_iadd (i.toInt + 1) rfl hx_1 (fun v1 hv1 => ?_)
  refine q_scald (m := L) hL (i.toInt + 1) hv1 hy_1 (fun v2 hv2 => ?_)
  refine r_sload_n e0 ?_
  refine r_iload_n e3 ?_
  refine r_iconst 2 rfl ?_
  refine q_iadd (i.toInt + 2) rfl hx_2 (fun v3 hv3 => ?_)
  refine q_scald (m := L) hL (i.toInt + 2) hv3 hy_2 (fun v4 hv4 => ?_)
  rcases cs3 (0 ≤ v2.toInt ∧ v2.toInt < (gI g0 1 0).toInt ∧ 0 ≤ v4.toInt ∧ v4.toInt < (gI g0 1 0).toInt) (v2.toInt = v4.toInt) with pk5 | pk5 | pk5
  · refine r_callV 887 rfl [.ref 0, .int v2, .int v4] [] (Nat.le_of_ble_eq_true rfl) rfl (T_X10_swap_0 _ hI0 v2 v4) ?_
    rintro _ _ ⟨g6, rfl, hI7, hF8, v9, rfl, hr10⟩
    refine At.sti ?_
    have hF11 := Fr.tr hF0 hF8 rfl rfl
    have fe12 : PH _ := hr10.2.2
    replace hr10 := And.intro hr10.1 hr10.2.1
    obtain ⟨q13, q14, q15, q16⟩ := hr10
    obtain ⟨i18, i19, i20⟩ := q14
    have w17 := i18 pk5
    clear i18 i19 i20
    have f21 := congrArg Int32.toInt (hF8.1 1 0 rfl)
    have f22 := congrArg Int32.toInt (hF8.1 1 12 rfl)
    have f23 := congrArg Int32.toInt (hF8.1 1 10 rfl)
    have f24 := congrArg Int32.toInt (hF8.1 1 11 rfl)
    have f25 := congrArg Int32.toInt (hF8.1 1 4 rfl)
    have f26 := congrArg Int32.toInt (hF8.1 1 6 rfl)
    have f27 := congrArg Int32.toInt (hF8.1 1 9 rfl)
    have f28 := congrArg Int32.toInt (hF8.1 59 0 rfl)
    have f29 := congrArg Int32.toInt (hF8.1 59 12 rfl)
    have f30 := congrArg Int32.toInt (hF8.1 59 10 rfl)
    have f31 := congrArg Int32.toInt (hF8.1 59 11 rfl)
    have f32 := congrArg Int32.toInt (hF8.1 59 4 rfl)
    have f33 := congrArg Int32.toInt (hF8.1 59 6 rfl)
    have f34 := congrArg Int32.toInt (hF8.1 59 9 rfl)
    have f35 := congrArg Int32.toInt (hF8.1 116 0 rfl)
    have f36 := congrArg Int32.toInt (hF8.1 116 12 rfl)
    have f37 := congrArg Int32.toInt (hF8.1 116 10 rfl)
    have f38 := congrArg Int32.toInt (hF8.1 116 11 rfl)
    have f39 := congrArg Int32.toInt (hF8.1 116 4 rfl)
    have f40 := congrArg Int32.toInt (hF8.1 116 6 rfl)
    have f41 := congrArg Int32.toInt (hF8.1 116 9 rfl)
    have f42 := congrArg Int32.toInt (eA_c (j := 0) (hF8.2.1 173 rfl))
    have f43 := congrArg Int32.toInt (eA_c (j := 1) (hF8.2.1 173 rfl))
    have f44 := congrArg Int32.toInt (hF8.1 174 1 rfl)
    have f45 := congrArg Int32.toInt (hF8.1 0 16 rfl)
    have f46 := congrArg Int32.toInt (hF8.1 176 2 rfl)
    have f47 := congrArg Int32.toInt (eA_c (j := 0) (hF8.2.1 233 rfl))
    have f48 := congrArg Int32.toInt (eA_c (j := 4) (hF8.2.1 233 rfl))
    have f49 := congrArg Int32.toInt (eA_c (j := 5) (hF8.2.1 233 rfl))
    have f50 := congrArg Int32.toInt (eA_c (j := 6) (hF8.2.1 233 rfl))
    have f51 := congrArg Int32.toInt (eA_c (j := 1) (hF8.2.1 233 rfl))
    have f52 := congrArg Int32.toInt (eA_c (j := 2) (hF8.2.1 233 rfl))
    have f53 := congrArg Int32.toInt (eA_c (j := 3) (hF8.2.1 233 rfl))
    have f54 := congrArg Int32.toInt (eA_c (j := 0) (hF8.2.1 234 rfl))
    have f55 := congrArg Int32.toInt (eA_c (j := 4) (hF8.2.1 234 rfl))
    have f56 := congrArg Int32.toInt (eA_c (j := 5) (hF8.2.1 234 rfl))
    have f57 := congrArg Int32.toInt (eA_c (j := 6) (hF8.2.1 234 rfl))
    have f58 := congrArg Int32.toInt (eA_c (j := 1) (hF8.2.1 234 rfl))
    have f59 := congrArg Int32.toInt (eA_c (j := 2) (hF8.2.1 234 rfl))
    have f60 := congrArg Int32.toInt (eA_c (j := 3) (hF8.2.1 234 rfl))
    have f61 := congrArg Int32.toInt (eA_c (j := 5510) (hF8.2.1 234 rfl))
    have f62 := congrArg Int32.toInt (eA_c (j := 5514) (hF8.2.1 234 rfl))
    have f63 := congrArg Int32.toInt (eA_c (j := 5515) (hF8.2.1 234 rfl))
    have f64 := congrArg Int32.toInt (eA_c (j := 5516) (hF8.2.1 234 rfl))
    have f65 := congrArg Int32.toInt (eA_c (j := 5511) (hF8.2.1 234 rfl))
    have f66 := congrArg Int32.toInt (eA_c (j := 5512) (hF8.2.1 234 rfl))
    have f67 := congrArg Int32.toInt (eA_c (j := 5513) (hF8.2.1 234 rfl))
    have f68 := congrArg Int32.toInt (eA_c (j := 0) (hF8.2.1 235 rfl))
    have f69 := congrArg Int32.toInt (eA_c (j := 1) (hF8.2.1 235 rfl))
    have f70 := congrArg Int32.toInt (hF8.1 231 8 rfl)
    have f71 := congrArg Int32.toInt (hF8.1 231 6 rfl)
    have f72 := congrArg Int32.toInt (hF8.1 231 13 rfl)
    refine At.enter rfl ?_
    refine r_pop rfl ?_
    refine r_aload_n e2 ?_
    refine r_sload_n e0 ?_
    refine r_iload_n e3 ?_
    refine r_iconst 1 rfl ?_
    refine q_iadd (i.toInt + 1) rfl hx_1 (fun v73 hv73 => ?_)
    refine q_scald (m := L) hL (i.toInt + 1) hv73 hy_1 (fun v74 hv74 => ?_)
    have sv74 := hv2.symm.trans hv74
    subst sv74
    refine r_sload_n e0 ?_
    refine r_iload_n e3 ?_
    refine r_iconst 2 rfl ?_
    refine q_iadd (i.toInt + 2) rfl hx_2 (fun v75 hv75 => ?_)
    refine q_scald (m := L) hL (i.toInt + 2) hv75 hy_2 (fun v76 hv76 => ?_)
    have sv76 := hv4.symm.trans hv76
    subst sv76
    refine r_callV 902 rfl [.ref 231, .int v2, .int v4] [] (Nat.le_of_ble_eq_true rfl) rfl (T_X11_swap_231 _ hI7 v2 v4) ?_
    rintro _ _ ⟨g77, rfl, hI78, hF79, v80, rfl, hr81⟩
    refine At.sti ?_
    have hF82 := Fr.tr hF11 hF79 rfl rfl
    obtain ⟨q84, q85, q86⟩ := hr81
    have ek98 : (eA g6 233 0).toInt = (gI g0 1 0).toInt := (eA_ti (j := 0) (hF8.2.1 233 (by decide))).trans hR_0.symm
    have ek99 : (eA g6 233 1).toInt = (gI g0 1 4).toInt := (eA_ti (j := 1) (hF8.2.1 233 (by decide))).trans hR_4.symm
    obtain ⟨⟨i88, i89, i90⟩, sm91, sm92, sm93, sm94, sm95, sm96, sm97⟩ := q85
    have w87 := i88 (by rw [ek98]; exact pk5)
    clear i88 i89 i90
    have f100 := congrArg Int32.toInt (hF79.1 1 0 rfl)
    have f101 := congrArg Int32.toInt (hF79.1 1 12 rfl)
    have f102 := congrArg Int32.toInt (hF79.1 1 10 rfl)
    have f103 := congrArg Int32.toInt (hF79.1 1 11 rfl)
    have f104 := congrArg Int32.toInt (hF79.1 1 4 rfl)
    have f105 := congrArg Int32.toInt (hF79.1 1 6 rfl)
    have f106 := congrArg Int32.toInt (hF79.1 1 9 rfl)
    have f107 := congrArg Int32.toInt (hF79.1 59 0 rfl)
    have f108 := congrArg Int32.toInt (hF79.1 59 12 rfl)
    have f109 := congrArg Int32.toInt (hF79.1 59 10 rfl)
    have f110 := congrArg Int32.toInt (hF79.1 59 11 rfl)
    have f111 := congrArg Int32.toInt (hF79.1 59 4 rfl)
    have f112 := congrArg Int32.toInt (hF79.1 59 6 rfl)
    have f113 := congrArg Int32.toInt (hF79.1 59 9 rfl)
    have f114 := congrArg Int32.toInt (hF79.1 116 0 rfl)
    have f115 := congrArg Int32.toInt (hF79.1 116 12 rfl)
    have f116 := congrArg Int32.toInt (hF79.1 116 10 rfl)
    have f117 := congrArg Int32.toInt (hF79.1 116 11 rfl)
    have f118 := congrArg Int32.toInt (hF79.1 116 4 rfl)
    have f119 := congrArg Int32.toInt (hF79.1 116 6 rfl)
    have f120 := congrArg Int32.toInt (hF79.1 116 9 rfl)
    have f121 := congrArg Int32.toInt (eA_c (j := 0) (hF79.2.1 173 rfl))
    have f122 := congrArg Int32.toInt (eA_c (j := 1) (hF79.2.1 173 rfl))
    have f123 := congrArg Int32.toInt (hF79.1 174 1 rfl)
    have f124 := congrArg Int32.toInt (hF79.1 0 16 rfl)
    have f125 := congrArg Int32.toInt (hF79.1 176 2 rfl)
    have f126 := congrArg Int32.toInt (eA_c (j := 0) (hF79.2.1 234 rfl))
    have f127 := congrArg Int32.toInt (eA_c (j := 4) (hF79.2.1 234 rfl))
    have f128 := congrArg Int32.toInt (eA_c (j := 5) (hF79.2.1 234 rfl))
    have f129 := congrArg Int32.toInt (eA_c (j := 6) (hF79.2.1 234 rfl))
    have f130 := congrArg Int32.toInt (eA_c (j := 1) (hF79.2.1 234 rfl))
    have f131 := congrArg Int32.toInt (eA_c (j := 2) (hF79.2.1 234 rfl))
    have f132 := congrArg Int32.toInt (eA_c (j := 3) (hF79.2.1 234 rfl))
    have f133 := congrArg Int32.toInt (eA_c (j := 5510) (hF79.2.1 234 rfl))
    have f134 := congrArg Int32.toInt (eA_c (j := 5514) (hF79.2.1 234 rfl))
    have f135 := congrArg Int32.toInt (eA_c (j := 5515) (hF79.2.1 234 rfl))
    have f136 := congrArg Int32.toInt (eA_c (j := 5516) (hF79.2.1 234 rfl))
    have f137 := congrArg Int32.toInt (eA_c (j := 5511) (hF79.2.1 234 rfl))
    have f138 := congrArg Int32.toInt (eA_c (j := 5512) (hF79.2.1 234 rfl))
    have f139 := congrArg Int32.toInt (eA_c (j := 5513) (hF79.2.1 234 rfl))
    have f140 := congrArg Int32.toInt (eA_c (j := 0) (hF79.2.1 235 rfl))
    have f141 := congrArg Int32.toInt (eA_c (j := 1) (hF79.2.1 235 rfl))
    have f142 := congrArg Int32.toInt (hF79.1 231 8 rfl)
    have f143 := congrArg Int32.toInt (hF79.1 231 6 rfl)
    have f144 := congrArg Int32.toInt (hF79.1 231 13 rfl)
    refine At.enter rfl ?_
    refine r_pop rfl ?_
    refine r_goto ?_
    exact K _ hI78 (show LwR _ from ⟨by omega, by omega, by omega, by omega, by omega, by omega, by omega, (eA_ti (j := 0) (((hF79.2.1 173 (by decide)).trans (hF8.2.1 173 (by decide))))).trans (hR_7.trans (eA_ti (j := 0) (((hF79.2.1 235 (by decide)).trans (hF8.2.1 235 (by decide))))).symm), (eA_ti (j := 1) (((hF79.2.1 173 (by decide)).trans (hF8.2.1 173 (by decide))))).trans (hR_8.trans (eA_ti (j := 1) (((hF79.2.1 235 (by decide)).trans (hF8.2.1 235 (by decide))))).symm), (congrArg Int32.toInt (((hF79.1 174 1 (by decide)).trans (hF8.1 174 1 (by decide))))).trans (hR_9.trans (congrArg Int32.toInt (((hF79.1 231 8 (by decide)).trans (hF8.1 231 8 (by decide))))).symm), (congrArg Int32.toInt (((hF79.1 0 16 (by decide)).trans (hF8.1 0 16 (by decide))))).trans (hR_10.trans (congrArg Int32.toInt (((hF79.1 231 6 (by decide)).trans (hF8.1 231 6 (by decide))))).symm), (congrArg Int32.toInt (((hF79.1 176 2 (by decide)).trans (hF8.1 176 2 (by decide))))).trans (hR_11.trans (congrArg Int32.toInt (((hF79.1 231 13 (by decide)).trans (hF8.1 231 13 (by decide))))).symm), IM0.cong hR_12 (eA_ti (j := 0) (((hF79.2.1 173 (by decide)).trans (hF8.2.1 173 (by decide))))) (congrArg Int32.toInt (((hF79.1 59 0 (by decide)).trans (hF8.1 59 0 (by decide))))) (eA_ti (j := 0) (((hF79.2.1 234 (by decide)).trans (hF8.2.1 234 (by decide))))) (congrArg Int32.toInt (((hF79.1 59 12 (by decide)).trans (hF8.1 59 12 (by decide))))) (eA_ti (j := 4) (((hF79.2.1 234 (by decide)).trans (hF8.2.1 234 (by decide))))) (congrArg Int32.toInt (((hF79.1 59 10 (by decide)).trans (hF8.1 59 10 (by decide))))) (eA_ti (j := 5) (((hF79.2.1 234 (by decide)).trans (hF8.2.1 234 (by decide))))) (congrArg Int32.toInt (((hF79.1 59 11 (by decide)).trans (hF8.1 59 11 (by decide))))) (eA_ti (j := 6) (((hF79.2.1 234 (by decide)).trans (hF8.2.1 234 (by decide))))) (congrArg Int32.toInt (((hF79.1 59 4 (by decide)).trans (hF8.1 59 4 (by decide))))) (eA_ti (j := 1) (((hF79.2.1 234 (by decide)).trans (hF8.2.1 234 (by decide))))) (congrArg Int32.toInt (((hF79.1 59 6 (by decide)).trans (hF8.1 59 6 (by decide))))) (eA_ti (j := 2) (((hF79.2.1 234 (by decide)).trans (hF8.2.1 234 (by decide))))) (congrArg Int32.toInt (((hF79.1 59 9 (by decide)).trans (hF8.1 59 9 (by decide))))) (eA_ti (j := 3) (((hF79.2.1 234 (by decide)).trans (hF8.2.1 234 (by decide))))), IM1.cong hR_13 (eA_ti (j := 1) (((hF79.2.1 173 (by decide)).trans (hF8.2.1 173 (by decide))))) (congrArg Int32.toInt (((hF79.1 116 0 (by decide)).trans (hF8.1 116 0 (by decide))))) (eA_ti (j := 5510) (((hF79.2.1 234 (by decide)).trans (hF8.2.1 234 (by decide))))) (congrArg Int32.toInt (((hF79.1 116 12 (by decide)).trans (hF8.1 116 12 (by decide))))) (eA_ti (j := 5514) (((hF79.2.1 234 (by decide)).trans (hF8.2.1 234 (by decide))))) (congrArg Int32.toInt (((hF79.1 116 10 (by decide)).trans (hF8.1 116 10 (by decide))))) (eA_ti (j := 5515) (((hF79.2.1 234 (by decide)).trans (hF8.2.1 234 (by decide))))) (congrArg Int32.toInt (((hF79.1 116 11 (by decide)).trans (hF8.1 116 11 (by decide))))) (eA_ti (j := 5516) (((hF79.2.1 234 (by decide)).trans (hF8.2.1 234 (by decide))))) (congrArg Int32.toInt (((hF79.1 116 4 (by decide)).trans (hF8.1 116 4 (by decide))))) (eA_ti (j := 5511) (((hF79.2.1 234 (by decide)).trans (hF8.2.1 234 (by decide))))) (congrArg Int32.toInt (((hF79.1 116 6 (by decide)).trans (hF8.1 116 6 (by decide))))) (eA_ti (j := 5512) (((hF79.2.1 234 (by decide)).trans (hF8.2.1 234 (by decide))))) (congrArg Int32.toInt (((hF79.1 116 9 (by decide)).trans (hF8.1 116 9 (by decide))))) (eA_ti (j := 5513) (((hF79.2.1 234 (by decide)).trans (hF8.2.1 234 (by decide))))), (show CT _ from ⟨fun i i0 i1 => ⟨(by have t0_ := hI0.t0; have t1_ := hI0.t1; have ek0 : (eA g6 233 0).toInt = (gI g0 1 0).toInt := (eA_ti (j := 0) (hF8.2.1 233 (by decide))).trans hR_0.symm; have x := eA_ti (j := i) (((hF79.2.1 2 (by decide)).trans (hF8.2.1 2 (by decide)))); have m := q86 (10 + 3 * i) (by omega) (by omega); have y := eA_ti (j := (10 + 3 * i)) (hF8.2.1 233 (by decide)); have k : ¬ (0 ≤ v2.toInt ∧ v2.toInt < (gI g0 1 0).toInt ∧ 0 ≤ v4.toInt ∧ v4.toInt < (gI g0 1 0).toInt ∧ v2.toInt ≠ v4.toInt) := (fun z => (show ¬ _ from pk5) ⟨z.1, z.2.1, z.2.2.1, z.2.2.2.1⟩); have k2 : ¬ (0 ≤ v2.toInt ∧ v2.toInt < (eA g6 233 0).toInt ∧ 0 ≤ v4.toInt ∧ v4.toInt < (eA g6 233 0).toInt ∧ v2.toInt ≠ v4.toInt) := (fun z => k (by rw [← ek0]; exact z)); rw [ite_an k2, ite_an k2, ite_an k2, ite_an k2] at m; exact x.trans ((hR_14.1 i i0 i1).1.trans (m.trans y).symm)), (by have t0_ := hI0.t0; have t1_ := hI0.t1; have ek0 : (eA g6 233 0).toInt = (gI g0 1 0).toInt := (eA_ti (j := 0) (hF8.2.1 233 (by decide))).trans hR_0.symm; have x := (eA_ti (j := i) (hF79.2.1 3 (by decide))).trans (q15 i i0 i1); have m := q86 (10 + 3 * i + 1) (by omega) (by omega); have y := eA_ti (j := (10 + 3 * i + 1)) (hF8.2.1 233 (by decide)); have k : ¬ (0 ≤ v2.toInt ∧ v2.toInt < (gI g0 1 0).toInt ∧ 0 ≤ v4.toInt ∧ v4.toInt < (gI g0 1 0).toInt ∧ v2.toInt ≠ v4.toInt) := (fun z => (show ¬ _ from pk5) ⟨z.1, z.2.1, z.2.2.1, z.2.2.2.1⟩); have k2 : ¬ (0 ≤ v2.toInt ∧ v2.toInt < (eA g6 233 0).toInt ∧ 0 ≤ v4.toInt ∧ v4.toInt < (eA g6 233 0).toInt ∧ v2.toInt ≠ v4.toInt) := (fun z => k (by rw [← ek0]; exact z)); rw [ite_an k, ite_an k] at x; rw [ite_an k2, ite_an k2, ite_an k2, ite_an k2] at m; exact x.trans ((hR_14.1 i i0 i1).2.1.trans (m.trans y).symm)), (by have t0_ := hI0.t0; have t1_ := hI0.t1; have ek0 : (eA g6 233 0).toInt = (gI g0 1 0).toInt := (eA_ti (j := 0) (hF8.2.1 233 (by decide))).trans hR_0.symm; have x := (eA_ti (j := i) (hF79.2.1 4 (by decide))).trans (q16 i i0 i1); have m := q86 (10 + 3 * i + 2) (by omega) (by omega); have y := eA_ti (j := (10 + 3 * i + 2)) (hF8.2.1 233 (by decide)); have k : ¬ (0 ≤ v2.toInt ∧ v2.toInt < (gI g0 1 0).toInt ∧ 0 ≤ v4.toInt ∧ v4.toInt < (gI g0 1 0).toInt ∧ v2.toInt ≠ v4.toInt) := (fun z => (show ¬ _ from pk5) ⟨z.1, z.2.1, z.2.2.1, z.2.2.2.1⟩); have k2 : ¬ (0 ≤ v2.toInt ∧ v2.toInt < (eA g6 233 0).toInt ∧ 0 ≤ v4.toInt ∧ v4.toInt < (eA g6 233 0).toInt ∧ v2.toInt ≠ v4.toInt) := (fun z => k (by rw [← ek0]; exact z)); rw [ite_an k, ite_an k] at x; rw [ite_an k2, ite_an k2, ite_an k2, ite_an k2] at m; exact x.trans ((hR_14.1 i i0 i1).2.2.trans (m.trans y).symm))⟩, fun i i0 i1 => ⟨(by have t0_ := hI0.t0; have t1_ := hI0.t1; have ek0 : (eA g6 233 0).toInt = (gI g0 1 0).toInt := (eA_ti (j := 0) (hF8.2.1 233 (by decide))).trans hR_0.symm; have x := eA_ti (j := i) (((hF79.2.1 14 (by decide)).trans (hF8.2.1 14 (by decide)))); have m := q86 (94 + 2 * i) (by omega) (by omega); have y := eA_ti (j := (94 + 2 * i)) (hF8.2.1 233 (by decide)); have k : ¬ (0 ≤ v2.toInt ∧ v2.toInt < (gI g0 1 0).toInt ∧ 0 ≤ v4.toInt ∧ v4.toInt < (gI g0 1 0).toInt ∧ v2.toInt ≠ v4.toInt) := (fun z => (show ¬ _ from pk5) ⟨z.1, z.2.1, z.2.2.1, z.2.2.2.1⟩); have k2 : ¬ (0 ≤ v2.toInt ∧ v2.toInt < (eA g6 233 0).toInt ∧ 0 ≤ v4.toInt ∧ v4.toInt < (eA g6 233 0).toInt ∧ v2.toInt ≠ v4.toInt) := (fun z => k (by rw [← ek0]; exact z)); rw [ite_an k2, ite_an k2, ite_an k2, ite_an k2] at m; exact x.trans ((hR_14.2.1 i i0 i1).1.trans (m.trans y).symm)), (by have t0_ := hI0.t0; have t1_ := hI0.t1; have ek0 : (eA g6 233 0).toInt = (gI g0 1 0).toInt := (eA_ti (j := 0) (hF8.2.1 233 (by decide))).trans hR_0.symm; have x := eA_ti (j := i) (((hF79.2.1 15 (by decide)).trans (hF8.2.1 15 (by decide)))); have m := q86 (94 + 2 * i + 1) (by omega) (by omega); have y := eA_ti (j := (94 + 2 * i + 1)) (hF8.2.1 233 (by decide)); have k : ¬ (0 ≤ v2.toInt ∧ v2.toInt < (gI g0 1 0).toInt ∧ 0 ≤ v4.toInt ∧ v4.toInt < (gI g0 1 0).toInt ∧ v2.toInt ≠ v4.toInt) := (fun z => (show ¬ _ from pk5) ⟨z.1, z.2.1, z.2.2.1, z.2.2.2.1⟩); have k2 : ¬ (0 ≤ v2.toInt ∧ v2.toInt < (eA g6 233 0).toInt ∧ 0 ≤ v4.toInt ∧ v4.toInt < (eA g6 233 0).toInt ∧ v2.toInt ≠ v4.toInt) := (fun z => k (by rw [← ek0]; exact z)); rw [ite_an k2, ite_an k2, ite_an k2, ite_an k2] at m; exact x.trans ((hR_14.2.1 i i0 i1).2.trans (m.trans y).symm))⟩, fun i i0 i1 => (by have t0_ := hI0.t0; have t1_ := hI0.t1; have ek0 : (eA g6 233 0).toInt = (gI g0 1 0).toInt := (eA_ti (j := 0) (hF8.2.1 233 (by decide))).trans hR_0.symm; have x := eA_ti (j := i) (((hF79.2.1 5 (by decide)).trans (hF8.2.1 5 (by decide)))); have m := q86 (46 + i) (by omega) (by omega); have y := eA_ti (j := (46 + i)) (hF8.2.1 233 (by decide)); have k : ¬ (0 ≤ v2.toInt ∧ v2.toInt < (gI g0 1 0).toInt ∧ 0 ≤ v4.toInt ∧ v4.toInt < (gI g0 1 0).toInt ∧ v2.toInt ≠ v4.toInt) := (fun z => (show ¬ _ from pk5) ⟨z.1, z.2.1, z.2.2.1, z.2.2.2.1⟩); have k2 : ¬ (0 ≤ v2.toInt ∧ v2.toInt < (eA g6 233 0).toInt ∧ 0 ≤ v4.toInt ∧ v4.toInt < (eA g6 233 0).toInt ∧ v2.toInt ≠ v4.toInt) := (fun z => k (by rw [← ek0]; exact z)); rw [ite_an k2, ite_an k2, ite_an k2, ite_an k2] at m; exact x.trans ((hR_14.2.2 i i0 (by omega)).trans (m.trans y).symm))⟩), CI0.cong hR_15 (((hF79.2.1 60 (by decide)).trans (hF8.2.1 60 (by decide)))) (((hF79.2.1 61 (by decide)).trans (hF8.2.1 61 (by decide)))) (((hF79.2.1 62 (by decide)).trans (hF8.2.1 62 (by decide)))) (((hF79.2.1 72 (by decide)).trans (hF8.2.1 72 (by decide)))) (((hF79.2.1 73 (by decide)).trans (hF8.2.1 73 (by decide)))) (((hF79.2.1 63 (by decide)).trans (hF8.2.1 63 (by decide)))) (((hF79.2.1 234 (by decide)).trans (hF8.2.1 234 (by decide)))) (congrArg Int32.toInt (((hF79.1 59 4 (by decide)).trans (hF8.1 59 4 (by decide))))), CI1.cong hR_16 (((hF79.2.1 117 (by decide)).trans (hF8.2.1 117 (by decide)))) (((hF79.2.1 118 (by decide)).trans (hF8.2.1 118 (by decide)))) (((hF79.2.1 119 (by decide)).trans (hF8.2.1 119 (by decide)))) (((hF79.2.1 129 (by decide)).trans (hF8.2.1 129 (by decide)))) (((hF79.2.1 130 (by decide)).trans (hF8.2.1 130 (by decide)))) (((hF79.2.1 120 (by decide)).trans (hF8.2.1 120 (by decide)))) (((hF79.2.1 234 (by decide)).trans (hF8.2.1 234 (by decide)))) (congrArg Int32.toInt (((hF79.1 116 4 (by decide)).trans (hF8.1 116 4 (by decide))))), (show RT _ from fun i i0 i1 => (eA_ti (((hF79.2.1 175 (by decide)).trans (hF8.2.1 175 (by decide))))).trans ((hR_17 i i0 (by omega)).trans (eA_ti (((hF79.2.1 236 (by decide)).trans (hF8.2.1 236 (by decide))))).symm)), (show BYX _ from fun i i0 i1 => by rw [TX.c (((hF79.2.1 175 (by decide)).trans (hF8.2.1 175 (by decide))))]; exact hR_18 i i0 (by have i2 : i < (gI _ 174 1).toInt := i1; show i < (gI g0 174 1).toInt; omega)), (LAWR_c hR_19 (LSA_tr (LSA_tr LSA_rf (LSA_fr hF8 rfl)) (LSA_fr hF79 rfl)) (((hF79.1 1 6 (by decide)).trans (hF8.1 1 6 (by decide)))) (((hF79.1 59 6 (by decide)).trans (hF8.1 59 6 (by decide)))) (((hF79.1 116 6 (by decide)).trans (hF8.1 116 6 (by decide)))) (((hF79.2.1 173 (by decide)).trans (hF8.2.1 173 (by decide)))) (fun i i0 i1 => (R3_swap hI7 q86 i i0 i1).trans (eA_ti (hF8.2.1 233 (by decide)))) (((hF79.2.1 234 (by decide)).trans (hF8.2.1 234 (by decide)))) (TOLDX_fr hF79 rfl rfl rfl rfl (fe12.1 hR_19.2.2.2.2))), (SETX_fr hF79 rfl rfl rfl rfl rfl (fe12.2 hR_20))⟩)
  · refine r_callV 887 rfl [.ref 0, .int v2, .int v4] [] (Nat.le_of_ble_eq_true rfl) rfl (T_X10_swap_0 _ hI0 v2 v4) ?_
    rintro _ _ ⟨g145, rfl, hI146, hF147, v148, rfl, hr149⟩
    refine At.sti ?_
    have hF150 := Fr.tr hF0 hF147 rfl rfl
    have fe151 : PH _ := hr149.2.2
    replace hr149 := And.intro hr149.1 hr149.2.1
    obtain ⟨q152, q153, q154, q155⟩ := hr149
    obtain ⟨i157, i158, i159⟩ := q153
    have w156 := i158 ⟨pk5.1, pk5.2⟩
    clear i157 i158 i159
    have f160 := congrArg Int32.toInt (hF147.1 1 0 rfl)
    have f161 := congrArg Int32.toInt (hF147.1 1 12 rfl)
    have f162 := congrArg Int32.toInt (hF147.1 1 10 rfl)
    have f163 := congrArg Int32.toInt (hF147.1 1 11 rfl)
    have f164 := congrArg Int32.toInt (hF147.1 1 4 rfl)
    have f165 := congrArg Int32.toInt (hF147.1 1 6 rfl)
    have f166 := congrArg Int32.toInt (hF147.1 1 9 rfl)
    have f167 := congrArg Int32.toInt (hF147.1 59 0 rfl)
    have f168 := congrArg Int32.toInt (hF147.1 59 12 rfl)
    have f169 := congrArg Int32.toInt (hF147.1 59 10 rfl)
    have f170 := congrArg Int32.toInt (hF147.1 59 11 rfl)
    have f171 := congrArg Int32.toInt (hF147.1 59 4 rfl)
    have f172 := congrArg Int32.toInt (hF147.1 59 6 rfl)
    have f173 := congrArg Int32.toInt (hF147.1 59 9 rfl)
    have f174 := congrArg Int32.toInt (hF147.1 116 0 rfl)
    have f175 := congrArg Int32.toInt (hF147.1 116 12 rfl)
    have f176 := congrArg Int32.toInt (hF147.1 116 10 rfl)
    have f177 := congrArg Int32.toInt (hF147.1 116 11 rfl)
    have f178 := congrArg Int32.toInt (hF147.1 116 4 rfl)
    have f179 := congrArg Int32.toInt (hF147.1 116 6 rfl)
    have f180 := congrArg Int32.toInt (hF147.1 116 9 rfl)
    have f181 := congrArg Int32.toInt (eA_c (j := 0) (hF147.2.1 173 rfl))
    have f182 := congrArg Int32.toInt (eA_c (j := 1) (hF147.2.1 173 rfl))
    have f183 := congrArg Int32.toInt (hF147.1 174 1 rfl)
    have f184 := congrArg Int32.toInt (hF147.1 0 16 rfl)
    have f185 := congrArg Int32.toInt (hF147.1 176 2 rfl)
    have f186 := congrArg Int32.toInt (eA_c (j := 0) (hF147.2.1 233 rfl))
    have f187 := congrArg Int32.toInt (eA_c (j := 4) (hF147.2.1 233 rfl))
    have f188 := congrArg Int32.toInt (eA_c (j := 5) (hF147.2.1 233 rfl))
    have f189 := congrArg Int32.toInt (eA_c (j := 6) (hF147.2.1 233 rfl))
    have f190 := congrArg Int32.toInt (eA_c (j := 1) (hF147.2.1 233 rfl))
    have f191 := congrArg Int32.toInt (eA_c (j := 2) (hF147.2.1 233 rfl))
    have f192 := congrArg Int32.toInt (eA_c (j := 3) (hF147.2.1 233 rfl))
    have f193 := congrArg Int32.toInt (eA_c (j := 0) (hF147.2.1 234 rfl))
    have f194 := congrArg Int32.toInt (eA_c (j := 4) (hF147.2.1 234 rfl))
    have f195 := congrArg Int32.toInt (eA_c (j := 5) (hF147.2.1 234 rfl))
    have f196 := congrArg Int32.toInt (eA_c (j := 6) (hF147.2.1 234 rfl))
    have f197 := congrArg Int32.toInt (eA_c (j := 1) (hF147.2.1 234 rfl))
    have f198 := congrArg Int32.toInt (eA_c (j := 2) (hF147.2.1 234 rfl))
    have f199 := congrArg Int32.toInt (eA_c (j := 3) (hF147.2.1 234 rfl))
    have f200 := congrArg Int32.toInt (eA_c (j := 5510) (hF147.2.1 234 rfl))
    have f201 := congrArg Int32.toInt (eA_c (j := 5514) (hF147.2.1 234 rfl))
    have f202 := congrArg Int32.toInt (eA_c (j := 5515) (hF147.2.1 234 rfl))
    have f203 := congrArg Int32.toInt (eA_c (j := 5516) (hF147.2.1 234 rfl))
    have f204 := congrArg Int32.toInt (eA_c (j := 5511) (hF147.2.1 234 rfl))
    have f205 := congrArg Int32.toInt (eA_c (j := 5512) (hF147.2.1 234 rfl))
    have f206 := congrArg Int32.toInt (eA_c (j := 5513) (hF147.2.1 234 rfl))
    have f207 := congrArg Int32.toInt (eA_c (j := 0) (hF147.2.1 235 rfl))
    have f208 := congrArg Int32.toInt (eA_c (j := 1) (hF147.2.1 235 rfl))
    have f209 := congrArg Int32.toInt (hF147.1 231 8 rfl)
    have f210 := congrArg Int32.toInt (hF147.1 231 6 rfl)
    have f211 := congrArg Int32.toInt (hF147.1 231 13 rfl)
    refine At.enter rfl ?_
    refine r_pop rfl ?_
    refine r_aload_n e2 ?_
    refine r_sload_n e0 ?_
    refine r_iload_n e3 ?_
    refine r_iconst 1 rfl ?_
    refine q_iadd (i.toInt + 1) rfl hx_1 (fun v212 hv212 => ?_)
    refine q_scald (m := L) hL (i.toInt + 1) hv212 hy_1 (fun v213 hv213 => ?_)
    have sv213 := hv2.symm.trans hv213
    subst sv213
    refine r_sload_n e0 ?_
    refine r_iload_n e3 ?_
    refine r_iconst 2 rfl ?_
    refine q_iadd (i.toInt + 2) rfl hx_2 (fun v214 hv214 => ?_)
    refine q_scald (m := L) hL (i.toInt + 2) hv214 hy_2 (fun v215 hv215 => ?_)
    have sv215 := hv4.symm.trans hv215
    subst sv215
    refine r_callV 902 rfl [.ref 231, .int v2, .int v4] [] (Nat.le_of_ble_eq_true rfl) rfl (T_X11_swap_231 _ hI146 v2 v4) ?_
    rintro _ _ ⟨g216, rfl, hI217, hF218, v219, rfl, hr220⟩
    refine At.sti ?_
    have hF221 := Fr.tr hF150 hF218 rfl rfl
    obtain ⟨q223, q224, q225⟩ := hr220
    have ek237 : (eA g145 233 0).toInt = (gI g0 1 0).toInt := (eA_ti (j := 0) (hF147.2.1 233 (by decide))).trans hR_0.symm
    have ek238 : (eA g145 233 1).toInt = (gI g0 1 4).toInt := (eA_ti (j := 1) (hF147.2.1 233 (by decide))).trans hR_4.symm
    obtain ⟨⟨i227, i228, i229⟩, sm230, sm231, sm232, sm233, sm234, sm235, sm236⟩ := q224
    have w226 := i228 ⟨(by rw [ek237]; exact pk5.1), pk5.2⟩
    clear i227 i228 i229
    have f239 := congrArg Int32.toInt (hF218.1 1 0 rfl)
    have f240 := congrArg Int32.toInt (hF218.1 1 12 rfl)
    have f241 := congrArg Int32.toInt (hF218.1 1 10 rfl)
    have f242 := congrArg Int32.toInt (hF218.1 1 11 rfl)
    have f243 := congrArg Int32.toInt (hF218.1 1 4 rfl)
    have f244 := congrArg Int32.toInt (hF218.1 1 6 rfl)
    have f245 := congrArg Int32.toInt (hF218.1 1 9 rfl)
    have f246 := congrArg Int32.toInt (hF218.1 59 0 rfl)
    have f247 := congrArg Int32.toInt (hF218.1 59 12 rfl)
    have f248 := congrArg Int32.toInt (hF218.1 59 10 rfl)
    have f249 := congrArg Int32.toInt (hF218.1 59 11 rfl)
    have f250 := congrArg Int32.toInt (hF218.1 59 4 rfl)
    have f251 := congrArg Int32.toInt (hF218.1 59 6 rfl)
    have f252 := congrArg Int32.toInt (hF218.1 59 9 rfl)
    have f253 := congrArg Int32.toInt (hF218.1 116 0 rfl)
    have f254 := congrArg Int32.toInt (hF218.1 116 12 rfl)
    have f255 := congrArg Int32.toInt (hF218.1 116 10 rfl)
    have f256 := congrArg Int32.toInt (hF218.1 116 11 rfl)
    have f257 := congrArg Int32.toInt (hF218.1 116 4 rfl)
    have f258 := congrArg Int32.toInt (hF218.1 116 6 rfl)
    have f259 := congrArg Int32.toInt (hF218.1 116 9 rfl)
    have f260 := congrArg Int32.toInt (eA_c (j := 0) (hF218.2.1 173 rfl))
    have f261 := congrArg Int32.toInt (eA_c (j := 1) (hF218.2.1 173 rfl))
    have f262 := congrArg Int32.toInt (hF218.1 174 1 rfl)
    have f263 := congrArg Int32.toInt (hF218.1 0 16 rfl)
    have f264 := congrArg Int32.toInt (hF218.1 176 2 rfl)
    have f265 := congrArg Int32.toInt (eA_c (j := 0) (hF218.2.1 234 rfl))
    have f266 := congrArg Int32.toInt (eA_c (j := 4) (hF218.2.1 234 rfl))
    have f267 := congrArg Int32.toInt (eA_c (j := 5) (hF218.2.1 234 rfl))
    have f268 := congrArg Int32.toInt (eA_c (j := 6) (hF218.2.1 234 rfl))
    have f269 := congrArg Int32.toInt (eA_c (j := 1) (hF218.2.1 234 rfl))
    have f270 := congrArg Int32.toInt (eA_c (j := 2) (hF218.2.1 234 rfl))
    have f271 := congrArg Int32.toInt (eA_c (j := 3) (hF218.2.1 234 rfl))
    have f272 := congrArg Int32.toInt (eA_c (j := 5510) (hF218.2.1 234 rfl))
    have f273 := congrArg Int32.toInt (eA_c (j := 5514) (hF218.2.1 234 rfl))
    have f274 := congrArg Int32.toInt (eA_c (j := 5515) (hF218.2.1 234 rfl))
    have f275 := congrArg Int32.toInt (eA_c (j := 5516) (hF218.2.1 234 rfl))
    have f276 := congrArg Int32.toInt (eA_c (j := 5511) (hF218.2.1 234 rfl))
    have f277 := congrArg Int32.toInt (eA_c (j := 5512) (hF218.2.1 234 rfl))
    have f278 := congrArg Int32.toInt (eA_c (j := 5513) (hF218.2.1 234 rfl))
    have f279 := congrArg Int32.toInt (eA_c (j := 0) (hF218.2.1 235 rfl))
    have f280 := congrArg Int32.toInt (eA_c (j := 1) (hF218.2.1 235 rfl))
    have f281 := congrArg Int32.toInt (hF218.1 231 8 rfl)
    have f282 := congrArg Int32.toInt (hF218.1 231 6 rfl)
    have f283 := congrArg Int32.toInt (hF218.1 231 13 rfl)
    refine At.enter rfl ?_
    refine r_pop rfl ?_
    refine r_goto ?_
    exact K _ hI217 (show LwR _ from ⟨by omega, by omega, by omega, by omega, by omega, by omega, by omega, (eA_ti (j := 0) (((hF218.2.1 173 (by decide)).trans (hF147.2.1 173 (by decide))))).trans (hR_7.trans (eA_ti (j := 0) (((hF218.2.1 235 (by decide)).trans (hF147.2.1 235 (by decide))))).symm), (eA_ti (j := 1) (((hF218.2.1 173 (by decide)).trans (hF147.2.1 173 (by decide))))).trans (hR_8.trans (eA_ti (j := 1) (((hF218.2.1 235 (by decide)).trans (hF147.2.1 235 (by decide))))).symm), (congrArg Int32.toInt (((hF218.1 174 1 (by decide)).trans (hF147.1 174 1 (by decide))))).trans (hR_9.trans (congrArg Int32.toInt (((hF218.1 231 8 (by decide)).trans (hF147.1 231 8 (by decide))))).symm), (congrArg Int32.toInt (((hF218.1 0 16 (by decide)).trans (hF147.1 0 16 (by decide))))).trans (hR_10.trans (congrArg Int32.toInt (((hF218.1 231 6 (by decide)).trans (hF147.1 231 6 (by decide))))).symm), (congrArg Int32.toInt (((hF218.1 176 2 (by decide)).trans (hF147.1 176 2 (by decide))))).trans (hR_11.trans (congrArg Int32.toInt (((hF218.1 231 13 (by decide)).trans (hF147.1 231 13 (by decide))))).symm), IM0.cong hR_12 (eA_ti (j := 0) (((hF218.2.1 173 (by decide)).trans (hF147.2.1 173 (by decide))))) (congrArg Int32.toInt (((hF218.1 59 0 (by decide)).trans (hF147.1 59 0 (by decide))))) (eA_ti (j := 0) (((hF218.2.1 234 (by decide)).trans (hF147.2.1 234 (by decide))))) (congrArg Int32.toInt (((hF218.1 59 12 (by decide)).trans (hF147.1 59 12 (by decide))))) (eA_ti (j := 4) (((hF218.2.1 234 (by decide)).trans (hF147.2.1 234 (by decide))))) (congrArg Int32.toInt (((hF218.1 59 10 (by decide)).trans (hF147.1 59 10 (by decide))))) (eA_ti (j := 5) (((hF218.2.1 234 (by decide)).trans (hF147.2.1 234 (by decide))))) (congrArg Int32.toInt (((hF218.1 59 11 (by decide)).trans (hF147.1 59 11 (by decide))))) (eA_ti (j := 6) (((hF218.2.1 234 (by decide)).trans (hF147.2.1 234 (by decide))))) (congrArg Int32.toInt (((hF218.1 59 4 (by decide)).trans (hF147.1 59 4 (by decide))))) (eA_ti (j := 1) (((hF218.2.1 234 (by decide)).trans (hF147.2.1 234 (by decide))))) (congrArg Int32.toInt (((hF218.1 59 6 (by decide)).trans (hF147.1 59 6 (by decide))))) (eA_ti (j := 2) (((hF218.2.1 234 (by decide)).trans (hF147.2.1 234 (by decide))))) (congrArg Int32.toInt (((hF218.1 59 9 (by decide)).trans (hF147.1 59 9 (by decide))))) (eA_ti (j := 3) (((hF218.2.1 234 (by decide)).trans (hF147.2.1 234 (by decide))))), IM1.cong hR_13 (eA_ti (j := 1) (((hF218.2.1 173 (by decide)).trans (hF147.2.1 173 (by decide))))) (congrArg Int32.toInt (((hF218.1 116 0 (by decide)).trans (hF147.1 116 0 (by decide))))) (eA_ti (j := 5510) (((hF218.2.1 234 (by decide)).trans (hF147.2.1 234 (by decide))))) (congrArg Int32.toInt (((hF218.1 116 12 (by decide)).trans (hF147.1 116 12 (by decide))))) (eA_ti (j := 5514) (((hF218.2.1 234 (by decide)).trans (hF147.2.1 234 (by decide))))) (congrArg Int32.toInt (((hF218.1 116 10 (by decide)).trans (hF147.1 116 10 (by decide))))) (eA_ti (j := 5515) (((hF218.2.1 234 (by decide)).trans (hF147.2.1 234 (by decide))))) (congrArg Int32.toInt (((hF218.1 116 11 (by decide)).trans (hF147.1 116 11 (by decide))))) (eA_ti (j := 5516) (((hF218.2.1 234 (by decide)).trans (hF147.2.1 234 (by decide))))) (congrArg Int32.toInt (((hF218.1 116 4 (by decide)).trans (hF147.1 116 4 (by decide))))) (eA_ti (j := 5511) (((hF218.2.1 234 (by decide)).trans (hF147.2.1 234 (by decide))))) (congrArg Int32.toInt (((hF218.1 116 6 (by decide)).trans (hF147.1 116 6 (by decide))))) (eA_ti (j := 5512) (((hF218.2.1 234 (by decide)).trans (hF147.2.1 234 (by decide))))) (congrArg Int32.toInt (((hF218.1 116 9 (by decide)).trans (hF147.1 116 9 (by decide))))) (eA_ti (j := 5513) (((hF218.2.1 234 (by decide)).trans (hF147.2.1 234 (by decide))))), (show CT _ from ⟨fun i i0 i1 => ⟨(by have t0_ := hI0.t0; have t1_ := hI0.t1; have ek0 : (eA g145 233 0).toInt = (gI g0 1 0).toInt := (eA_ti (j := 0) (hF147.2.1 233 (by decide))).trans hR_0.symm; have x := eA_ti (j := i) (((hF218.2.1 2 (by decide)).trans (hF147.2.1 2 (by decide)))); have m := q225 (10 + 3 * i) (by omega) (by omega); have y := eA_ti (j := (10 + 3 * i)) (hF147.2.1 233 (by decide)); have k : ¬ (0 ≤ v2.toInt ∧ v2.toInt < (gI g0 1 0).toInt ∧ 0 ≤ v4.toInt ∧ v4.toInt < (gI g0 1 0).toInt ∧ v2.toInt ≠ v4.toInt) := (fun z => z.2.2.2.2 pk5.2); have k2 : ¬ (0 ≤ v2.toInt ∧ v2.toInt < (eA g145 233 0).toInt ∧ 0 ≤ v4.toInt ∧ v4.toInt < (eA g145 233 0).toInt ∧ v2.toInt ≠ v4.toInt) := (fun z => k (by rw [← ek0]; exact z)); rw [ite_an k2, ite_an k2, ite_an k2, ite_an k2] at m; exact x.trans ((hR_14.1 i i0 i1).1.trans (m.trans y).symm)), (by have t0_ := hI0.t0; have t1_ := hI0.t1; have ek0 : (eA g145 233 0).toInt = (gI g0 1 0).toInt := (eA_ti (j := 0) (hF147.2.1 233 (by decide))).trans hR_0.symm; have x := (eA_ti (j := i) (hF218.2.1 3 (by decide))).trans (q154 i i0 i1); have m := q225 (10 + 3 * i + 1) (by omega) (by omega); have y := eA_ti (j := (10 + 3 * i + 1)) (hF147.2.1 233 (by decide)); have k : ¬ (0 ≤ v2.toInt ∧ v2.toInt < (gI g0 1 0).toInt ∧ 0 ≤ v4.toInt ∧ v4.toInt < (gI g0 1 0).toInt ∧ v2.toInt ≠ v4.toInt) := (fun z => z.2.2.2.2 pk5.2); have k2 : ¬ (0 ≤ v2.toInt ∧ v2.toInt < (eA g145 233 0).toInt ∧ 0 ≤ v4.toInt ∧ v4.toInt < (eA g145 233 0).toInt ∧ v2.toInt ≠ v4.toInt) := (fun z => k (by rw [← ek0]; exact z)); rw [ite_an k, ite_an k] at x; rw [ite_an k2, ite_an k2, ite_an k2, ite_an k2] at m; exact x.trans ((hR_14.1 i i0 i1).2.1.trans (m.trans y).symm)), (by have t0_ := hI0.t0; have t1_ := hI0.t1; have ek0 : (eA g145 233 0).toInt = (gI g0 1 0).toInt := (eA_ti (j := 0) (hF147.2.1 233 (by decide))).trans hR_0.symm; have x := (eA_ti (j := i) (hF218.2.1 4 (by decide))).trans (q155 i i0 i1); have m := q225 (10 + 3 * i + 2) (by omega) (by omega); have y := eA_ti (j := (10 + 3 * i + 2)) (hF147.2.1 233 (by decide)); have k : ¬ (0 ≤ v2.toInt ∧ v2.toInt < (gI g0 1 0).toInt ∧ 0 ≤ v4.toInt ∧ v4.toInt < (gI g0 1 0).toInt ∧ v2.toInt ≠ v4.toInt) := (fun z => z.2.2.2.2 pk5.2); have k2 : ¬ (0 ≤ v2.toInt ∧ v2.toInt < (eA g145 233 0).toInt ∧ 0 ≤ v4.toInt ∧ v4.toInt < (eA g145 233 0).toInt ∧ v2.toInt ≠ v4.toInt) := (fun z => k (by rw [← ek0]; exact z)); rw [ite_an k, ite_an k] at x; rw [ite_an k2, ite_an k2, ite_an k2, ite_an k2] at m; exact x.trans ((hR_14.1 i i0 i1).2.2.trans (m.trans y).symm))⟩, fun i i0 i1 => ⟨(by have t0_ := hI0.t0; have t1_ := hI0.t1; have ek0 : (eA g145 233 0).toInt = (gI g0 1 0).toInt := (eA_ti (j := 0) (hF147.2.1 233 (by decide))).trans hR_0.symm; have x := eA_ti (j := i) (((hF218.2.1 14 (by decide)).trans (hF147.2.1 14 (by decide)))); have m := q225 (94 + 2 * i) (by omega) (by omega); have y := eA_ti (j := (94 + 2 * i)) (hF147.2.1 233 (by decide)); have k : ¬ (0 ≤ v2.toInt ∧ v2.toInt < (gI g0 1 0).toInt ∧ 0 ≤ v4.toInt ∧ v4.toInt < (gI g0 1 0).toInt ∧ v2.toInt ≠ v4.toInt) := (fun z => z.2.2.2.2 pk5.2); have k2 : ¬ (0 ≤ v2.toInt ∧ v2.toInt < (eA g145 233 0).toInt ∧ 0 ≤ v4.toInt ∧ v4.toInt < (eA g145 233 0).toInt ∧ v2.toInt ≠ v4.toInt) := (fun z => k (by rw [← ek0]; exact z)); rw [ite_an k2, ite_an k2, ite_an k2, ite_an k2] at m; exact x.trans ((hR_14.2.1 i i0 i1).1.trans (m.trans y).symm)), (by have t0_ := hI0.t0; have t1_ := hI0.t1; have ek0 : (eA g145 233 0).toInt = (gI g0 1 0).toInt := (eA_ti (j := 0) (hF147.2.1 233 (by decide))).trans hR_0.symm; have x := eA_ti (j := i) (((hF218.2.1 15 (by decide)).trans (hF147.2.1 15 (by decide)))); have m := q225 (94 + 2 * i + 1) (by omega) (by omega); have y := eA_ti (j := (94 + 2 * i + 1)) (hF147.2.1 233 (by decide)); have k : ¬ (0 ≤ v2.toInt ∧ v2.toInt < (gI g0 1 0).toInt ∧ 0 ≤ v4.toInt ∧ v4.toInt < (gI g0 1 0).toInt ∧ v2.toInt ≠ v4.toInt) := (fun z => z.2.2.2.2 pk5.2); have k2 : ¬ (0 ≤ v2.toInt ∧ v2.toInt < (eA g145 233 0).toInt ∧ 0 ≤ v4.toInt ∧ v4.toInt < (eA g145 233 0).toInt ∧ v2.toInt ≠ v4.toInt) := (fun z => k (by rw [← ek0]; exact z)); rw [ite_an k2, ite_an k2, ite_an k2, ite_an k2] at m; exact x.trans ((hR_14.2.1 i i0 i1).2.trans (m.trans y).symm))⟩, fun i i0 i1 => (by have t0_ := hI0.t0; have t1_ := hI0.t1; have ek0 : (eA g145 233 0).toInt = (gI g0 1 0).toInt := (eA_ti (j := 0) (hF147.2.1 233 (by decide))).trans hR_0.symm; have x := eA_ti (j := i) (((hF218.2.1 5 (by decide)).trans (hF147.2.1 5 (by decide)))); have m := q225 (46 + i) (by omega) (by omega); have y := eA_ti (j := (46 + i)) (hF147.2.1 233 (by decide)); have k : ¬ (0 ≤ v2.toInt ∧ v2.toInt < (gI g0 1 0).toInt ∧ 0 ≤ v4.toInt ∧ v4.toInt < (gI g0 1 0).toInt ∧ v2.toInt ≠ v4.toInt) := (fun z => z.2.2.2.2 pk5.2); have k2 : ¬ (0 ≤ v2.toInt ∧ v2.toInt < (eA g145 233 0).toInt ∧ 0 ≤ v4.toInt ∧ v4.toInt < (eA g145 233 0).toInt ∧ v2.toInt ≠ v4.toInt) := (fun z => k (by rw [← ek0]; exact z)); rw [ite_an k2, ite_an k2, ite_an k2, ite_an k2] at m; exact x.trans ((hR_14.2.2 i i0 (by omega)).trans (m.trans y).symm))⟩), CI0.cong hR_15 (((hF218.2.1 60 (by decide)).trans (hF147.2.1 60 (by decide)))) (((hF218.2.1 61 (by decide)).trans (hF147.2.1 61 (by decide)))) (((hF218.2.1 62 (by decide)).trans (hF147.2.1 62 (by decide)))) (((hF218.2.1 72 (by decide)).trans (hF147.2.1 72 (by decide)))) (((hF218.2.1 73 (by decide)).trans (hF147.2.1 73 (by decide)))) (((hF218.2.1 63 (by decide)).trans (hF147.2.1 63 (by decide)))) (((hF218.2.1 234 (by decide)).trans (hF147.2.1 234 (by decide)))) (congrArg Int32.toInt (((hF218.1 59 4 (by decide)).trans (hF147.1 59 4 (by decide))))), CI1.cong hR_16 (((hF218.2.1 117 (by decide)).trans (hF147.2.1 117 (by decide)))) (((hF218.2.1 118 (by decide)).trans (hF147.2.1 118 (by decide)))) (((hF218.2.1 119 (by decide)).trans (hF147.2.1 119 (by decide)))) (((hF218.2.1 129 (by decide)).trans (hF147.2.1 129 (by decide)))) (((hF218.2.1 130 (by decide)).trans (hF147.2.1 130 (by decide)))) (((hF218.2.1 120 (by decide)).trans (hF147.2.1 120 (by decide)))) (((hF218.2.1 234 (by decide)).trans (hF147.2.1 234 (by decide)))) (congrArg Int32.toInt (((hF218.1 116 4 (by decide)).trans (hF147.1 116 4 (by decide))))), (show RT _ from fun i i0 i1 => (eA_ti (((hF218.2.1 175 (by decide)).trans (hF147.2.1 175 (by decide))))).trans ((hR_17 i i0 (by omega)).trans (eA_ti (((hF218.2.1 236 (by decide)).trans (hF147.2.1 236 (by decide))))).symm)), (show BYX _ from fun i i0 i1 => by rw [TX.c (((hF218.2.1 175 (by decide)).trans (hF147.2.1 175 (by decide))))]; exact hR_18 i i0 (by have i2 : i < (gI _ 174 1).toInt := i1; show i < (gI g0 174 1).toInt; omega)), (LAWR_c hR_19 (LSA_tr (LSA_tr LSA_rf (LSA_fr hF147 rfl)) (LSA_fr hF218 rfl)) (((hF218.1 1 6 (by decide)).trans (hF147.1 1 6 (by decide)))) (((hF218.1 59 6 (by decide)).trans (hF147.1 59 6 (by decide)))) (((hF218.1 116 6 (by decide)).trans (hF147.1 116 6 (by decide)))) (((hF218.2.1 173 (by decide)).trans (hF147.2.1 173 (by decide)))) (fun i i0 i1 => (R3_swap hI146 q225 i i0 i1).trans (eA_ti (hF147.2.1 233 (by decide)))) (((hF218.2.1 234 (by decide)).trans (hF147.2.1 234 (by decide)))) (TOLDX_fr hF218 rfl rfl rfl rfl (fe151.1 hR_19.2.2.2.2))), (SETX_fr hF218 rfl rfl rfl rfl rfl (fe151.2 hR_20))⟩)
  · refine r_callV 887 rfl [.ref 0, .int v2, .int v4] [] (Nat.le_of_ble_eq_true rfl) rfl (T_X10_swap_0 _ hI0 v2 v4) ?_
    rintro _ _ ⟨g284, rfl, hI285, hF286, v287, rfl, hr288⟩
    refine At.sti ?_
    have hF289 := Fr.tr hF0 hF286 rfl rfl
    have fe290 : PH _ := hr288.2.2
    replace hr288 := And.intro hr288.1 hr288.2.1
    obtain ⟨q291, q292, q293, q294⟩ := hr288
    obtain ⟨i296, i297, i298⟩ := q292
    have w295 := i298 ⟨pk5.1, pk5.2⟩
    clear i296 i297 i298
    have f299 := congrArg Int32.toInt (hF286.1 1 0 rfl)
    have f300 := congrArg Int32.toInt (hF286.1 1 12 rfl)
    have f301 := congrArg Int32.toInt (hF286.1 1 10 rfl)
    have f302 := congrArg Int32.toInt (hF286.1 1 11 rfl)
    have f303 := congrArg Int32.toInt (hF286.1 1 4 rfl)
    have f304 := congrArg Int32.toInt (hF286.1 1 6 rfl)
    have f305 := congrArg Int32.toInt (hF286.1 1 9 rfl)
    have f306 := congrArg Int32.toInt (hF286.1 59 0 rfl)
    have f307 := congrArg Int32.toInt (hF286.1 59 12 rfl)
    have f308 := congrArg Int32.toInt (hF286.1 59 10 rfl)
    have f309 := congrArg Int32.toInt (hF286.1 59 11 rfl)
    have f310 := congrArg Int32.toInt (hF286.1 59 4 rfl)
    have f311 := congrArg Int32.toInt (hF286.1 59 6 rfl)
    have f312 := congrArg Int32.toInt (hF286.1 59 9 rfl)
    have f313 := congrArg Int32.toInt (hF286.1 116 0 rfl)
    have f314 := congrArg Int32.toInt (hF286.1 116 12 rfl)
    have f315 := congrArg Int32.toInt (hF286.1 116 10 rfl)
    have f316 := congrArg Int32.toInt (hF286.1 116 11 rfl)
    have f317 := congrArg Int32.toInt (hF286.1 116 4 rfl)
    have f318 := congrArg Int32.toInt (hF286.1 116 6 rfl)
    have f319 := congrArg Int32.toInt (hF286.1 116 9 rfl)
    have f320 := congrArg Int32.toInt (eA_c (j := 0) (hF286.2.1 173 rfl))
    have f321 := congrArg Int32.toInt (eA_c (j := 1) (hF286.2.1 173 rfl))
    have f322 := congrArg Int32.toInt (hF286.1 174 1 rfl)
    have f323 := congrArg Int32.toInt (hF286.1 0 16 rfl)
    have f324 := congrArg Int32.toInt (hF286.1 176 2 rfl)
    have f325 := congrArg Int32.toInt (eA_c (j := 0) (hF286.2.1 233 rfl))
    have f326 := congrArg Int32.toInt (eA_c (j := 4) (hF286.2.1 233 rfl))
    have f327 := congrArg Int32.toInt (eA_c (j := 5) (hF286.2.1 233 rfl))
    have f328 := congrArg Int32.toInt (eA_c (j := 6) (hF286.2.1 233 rfl))
    have f329 := congrArg Int32.toInt (eA_c (j := 1) (hF286.2.1 233 rfl))
    have f330 := congrArg Int32.toInt (eA_c (j := 2) (hF286.2.1 233 rfl))
    have f331 := congrArg Int32.toInt (eA_c (j := 3) (hF286.2.1 233 rfl))
    have f332 := congrArg Int32.toInt (eA_c (j := 0) (hF286.2.1 234 rfl))
    have f333 := congrArg Int32.toInt (eA_c (j := 4) (hF286.2.1 234 rfl))
    have f334 := congrArg Int32.toInt (eA_c (j := 5) (hF286.2.1 234 rfl))
    have f335 := congrArg Int32.toInt (eA_c (j := 6) (hF286.2.1 234 rfl))
    have f336 := congrArg Int32.toInt (eA_c (j := 1) (hF286.2.1 234 rfl))
    have f337 := congrArg Int32.toInt (eA_c (j := 2) (hF286.2.1 234 rfl))
    have f338 := congrArg Int32.toInt (eA_c (j := 3) (hF286.2.1 234 rfl))
    have f339 := congrArg Int32.toInt (eA_c (j := 5510) (hF286.2.1 234 rfl))
    have f340 := congrArg Int32.toInt (eA_c (j := 5514) (hF286.2.1 234 rfl))
    have f341 := congrArg Int32.toInt (eA_c (j := 5515) (hF286.2.1 234 rfl))
    have f342 := congrArg Int32.toInt (eA_c (j := 5516) (hF286.2.1 234 rfl))
    have f343 := congrArg Int32.toInt (eA_c (j := 5511) (hF286.2.1 234 rfl))
    have f344 := congrArg Int32.toInt (eA_c (j := 5512) (hF286.2.1 234 rfl))
    have f345 := congrArg Int32.toInt (eA_c (j := 5513) (hF286.2.1 234 rfl))
    have f346 := congrArg Int32.toInt (eA_c (j := 0) (hF286.2.1 235 rfl))
    have f347 := congrArg Int32.toInt (eA_c (j := 1) (hF286.2.1 235 rfl))
    have f348 := congrArg Int32.toInt (hF286.1 231 8 rfl)
    have f349 := congrArg Int32.toInt (hF286.1 231 6 rfl)
    have f350 := congrArg Int32.toInt (hF286.1 231 13 rfl)
    refine At.enter rfl ?_
    refine r_pop rfl ?_
    refine r_aload_n e2 ?_
    refine r_sload_n e0 ?_
    refine r_iload_n e3 ?_
    refine r_iconst 1 rfl ?_
    refine q_iadd (i.toInt + 1) rfl hx_1 (fun v351 hv351 => ?_)
    refine q_scald (m := L) hL (i.toInt + 1) hv351 hy_1 (fun v352 hv352 => ?_)
    have sv352 := hv2.symm.trans hv352
    subst sv352
    refine r_sload_n e0 ?_
    refine r_iload_n e3 ?_
    refine r_iconst 2 rfl ?_
    refine q_iadd (i.toInt + 2) rfl hx_2 (fun v353 hv353 => ?_)
    refine q_scald (m := L) hL (i.toInt + 2) hv353 hy_2 (fun v354 hv354 => ?_)
    have sv354 := hv4.symm.trans hv354
    subst sv354
    refine r_callV 902 rfl [.ref 231, .int v2, .int v4] [] (Nat.le_of_ble_eq_true rfl) rfl (T_X11_swap_231 _ hI285 v2 v4) ?_
    rintro _ _ ⟨g355, rfl, hI356, hF357, v358, rfl, hr359⟩
    refine At.sti ?_
    have hF360 := Fr.tr hF289 hF357 rfl rfl
    obtain ⟨q362, q363, q364⟩ := hr359
    have ek376 : (eA g284 233 0).toInt = (gI g0 1 0).toInt := (eA_ti (j := 0) (hF286.2.1 233 (by decide))).trans hR_0.symm
    have ek377 : (eA g284 233 1).toInt = (gI g0 1 4).toInt := (eA_ti (j := 1) (hF286.2.1 233 (by decide))).trans hR_4.symm
    obtain ⟨⟨i366, i367, i368⟩, sm369, sm370, sm371, sm372, sm373, sm374, sm375⟩ := q363
    have w365 := i368 ⟨(by rw [ek376]; exact pk5.1), pk5.2⟩
    clear i366 i367 i368
    have f378 := congrArg Int32.toInt (hF357.1 1 0 rfl)
    have f379 := congrArg Int32.toInt (hF357.1 1 12 rfl)
    have f380 := congrArg Int32.toInt (hF357.1 1 10 rfl)
    have f381 := congrArg Int32.toInt (hF357.1 1 11 rfl)
    have f382 := congrArg Int32.toInt (hF357.1 1 4 rfl)
    have f383 := congrArg Int32.toInt (hF357.1 1 6 rfl)
    have f384 := congrArg Int32.toInt (hF357.1 1 9 rfl)
    have f385 := congrArg Int32.toInt (hF357.1 59 0 rfl)
    have f386 := congrArg Int32.toInt (hF357.1 59 12 rfl)
    have f387 := congrArg Int32.toInt (hF357.1 59 10 rfl)
    have f388 := congrArg Int32.toInt (hF357.1 59 11 rfl)
    have f389 := congrArg Int32.toInt (hF357.1 59 4 rfl)
    have f390 := congrArg Int32.toInt (hF357.1 59 6 rfl)
    have f391 := congrArg Int32.toInt (hF357.1 59 9 rfl)
    have f392 := congrArg Int32.toInt (hF357.1 116 0 rfl)
    have f393 := congrArg Int32.toInt (hF357.1 116 12 rfl)
    have f394 := congrArg Int32.toInt (hF357.1 116 10 rfl)
    have f395 := congrArg Int32.toInt (hF357.1 116 11 rfl)
    have f396 := congrArg Int32.toInt (hF357.1 116 4 rfl)
    have f397 := congrArg Int32.toInt (hF357.1 116 6 rfl)
    have f398 := congrArg Int32.toInt (hF357.1 116 9 rfl)
    have f399 := congrArg Int32.toInt (eA_c (j := 0) (hF357.2.1 173 rfl))
    have f400 := congrArg Int32.toInt (eA_c (j := 1) (hF357.2.1 173 rfl))
    have f401 := congrArg Int32.toInt (hF357.1 174 1 rfl)
    have f402 := congrArg Int32.toInt (hF357.1 0 16 rfl)
    have f403 := congrArg Int32.toInt (hF357.1 176 2 rfl)
    have f404 := congrArg Int32.toInt (eA_c (j := 0) (hF357.2.1 234 rfl))
    have f405 := congrArg Int32.toInt (eA_c (j := 4) (hF357.2.1 234 rfl))
    have f406 := congrArg Int32.toInt (eA_c (j := 5) (hF357.2.1 234 rfl))
    have f407 := congrArg Int32.toInt (eA_c (j := 6) (hF357.2.1 234 rfl))
    have f408 := congrArg Int32.toInt (eA_c (j := 1) (hF357.2.1 234 rfl))
    have f409 := congrArg Int32.toInt (eA_c (j := 2) (hF357.2.1 234 rfl))
    have f410 := congrArg Int32.toInt (eA_c (j := 3) (hF357.2.1 234 rfl))
    have f411 := congrArg Int32.toInt (eA_c (j := 5510) (hF357.2.1 234 rfl))
    have f412 := congrArg Int32.toInt (eA_c (j := 5514) (hF357.2.1 234 rfl))
    have f413 := congrArg Int32.toInt (eA_c (j := 5515) (hF357.2.1 234 rfl))
    have f414 := congrArg Int32.toInt (eA_c (j := 5516) (hF357.2.1 234 rfl))
    have f415 := congrArg Int32.toInt (eA_c (j := 5511) (hF357.2.1 234 rfl))
    have f416 := congrArg Int32.toInt (eA_c (j := 5512) (hF357.2.1 234 rfl))
    have f417 := congrArg Int32.toInt (eA_c (j := 5513) (hF357.2.1 234 rfl))
    have f418 := congrArg Int32.toInt (eA_c (j := 0) (hF357.2.1 235 rfl))
    have f419 := congrArg Int32.toInt (eA_c (j := 1) (hF357.2.1 235 rfl))
    have f420 := congrArg Int32.toInt (hF357.1 231 8 rfl)
    have f421 := congrArg Int32.toInt (hF357.1 231 6 rfl)
    have f422 := congrArg Int32.toInt (hF357.1 231 13 rfl)
    refine At.enter rfl ?_
    refine r_pop rfl ?_
    refine r_goto ?_
    exact K _ hI356 (show LwR _ from ⟨by omega, by omega, by omega, by omega, by omega, by omega, by omega, (eA_ti (j := 0) (((hF357.2.1 173 (by decide)).trans (hF286.2.1 173 (by decide))))).trans (hR_7.trans (eA_ti (j := 0) (((hF357.2.1 235 (by decide)).trans (hF286.2.1 235 (by decide))))).symm), (eA_ti (j := 1) (((hF357.2.1 173 (by decide)).trans (hF286.2.1 173 (by decide))))).trans (hR_8.trans (eA_ti (j := 1) (((hF357.2.1 235 (by decide)).trans (hF286.2.1 235 (by decide))))).symm), (congrArg Int32.toInt (((hF357.1 174 1 (by decide)).trans (hF286.1 174 1 (by decide))))).trans (hR_9.trans (congrArg Int32.toInt (((hF357.1 231 8 (by decide)).trans (hF286.1 231 8 (by decide))))).symm), (congrArg Int32.toInt (((hF357.1 0 16 (by decide)).trans (hF286.1 0 16 (by decide))))).trans (hR_10.trans (congrArg Int32.toInt (((hF357.1 231 6 (by decide)).trans (hF286.1 231 6 (by decide))))).symm), (congrArg Int32.toInt (((hF357.1 176 2 (by decide)).trans (hF286.1 176 2 (by decide))))).trans (hR_11.trans (congrArg Int32.toInt (((hF357.1 231 13 (by decide)).trans (hF286.1 231 13 (by decide))))).symm), IM0.cong hR_12 (eA_ti (j := 0) (((hF357.2.1 173 (by decide)).trans (hF286.2.1 173 (by decide))))) (congrArg Int32.toInt (((hF357.1 59 0 (by decide)).trans (hF286.1 59 0 (by decide))))) (eA_ti (j := 0) (((hF357.2.1 234 (by decide)).trans (hF286.2.1 234 (by decide))))) (congrArg Int32.toInt (((hF357.1 59 12 (by decide)).trans (hF286.1 59 12 (by decide))))) (eA_ti (j := 4) (((hF357.2.1 234 (by decide)).trans (hF286.2.1 234 (by decide))))) (congrArg Int32.toInt (((hF357.1 59 10 (by decide)).trans (hF286.1 59 10 (by decide))))) (eA_ti (j := 5) (((hF357.2.1 234 (by decide)).trans (hF286.2.1 234 (by decide))))) (congrArg Int32.toInt (((hF357.1 59 11 (by decide)).trans (hF286.1 59 11 (by decide))))) (eA_ti (j := 6) (((hF357.2.1 234 (by decide)).trans (hF286.2.1 234 (by decide))))) (congrArg Int32.toInt (((hF357.1 59 4 (by decide)).trans (hF286.1 59 4 (by decide))))) (eA_ti (j := 1) (((hF357.2.1 234 (by decide)).trans (hF286.2.1 234 (by decide))))) (congrArg Int32.toInt (((hF357.1 59 6 (by decide)).trans (hF286.1 59 6 (by decide))))) (eA_ti (j := 2) (((hF357.2.1 234 (by decide)).trans (hF286.2.1 234 (by decide))))) (congrArg Int32.toInt (((hF357.1 59 9 (by decide)).trans (hF286.1 59 9 (by decide))))) (eA_ti (j := 3) (((hF357.2.1 234 (by decide)).trans (hF286.2.1 234 (by decide))))), IM1.cong hR_13 (eA_ti (j := 1) (((hF357.2.1 173 (by decide)).trans (hF286.2.1 173 (by decide))))) (congrArg Int32.toInt (((hF357.1 116 0 (by decide)).trans (hF286.1 116 0 (by decide))))) (eA_ti (j := 5510) (((hF357.2.1 234 (by decide)).trans (hF286.2.1 234 (by decide))))) (congrArg Int32.toInt (((hF357.1 116 12 (by decide)).trans (hF286.1 116 12 (by decide))))) (eA_ti (j := 5514) (((hF357.2.1 234 (by decide)).trans (hF286.2.1 234 (by decide))))) (congrArg Int32.toInt (((hF357.1 116 10 (by decide)).trans (hF286.1 116 10 (by decide))))) (eA_ti (j := 5515) (((hF357.2.1 234 (by decide)).trans (hF286.2.1 234 (by decide))))) (congrArg Int32.toInt (((hF357.1 116 11 (by decide)).trans (hF286.1 116 11 (by decide))))) (eA_ti (j := 5516) (((hF357.2.1 234 (by decide)).trans (hF286.2.1 234 (by decide))))) (congrArg Int32.toInt (((hF357.1 116 4 (by decide)).trans (hF286.1 116 4 (by decide))))) (eA_ti (j := 5511) (((hF357.2.1 234 (by decide)).trans (hF286.2.1 234 (by decide))))) (congrArg Int32.toInt (((hF357.1 116 6 (by decide)).trans (hF286.1 116 6 (by decide))))) (eA_ti (j := 5512) (((hF357.2.1 234 (by decide)).trans (hF286.2.1 234 (by decide))))) (congrArg Int32.toInt (((hF357.1 116 9 (by decide)).trans (hF286.1 116 9 (by decide))))) (eA_ti (j := 5513) (((hF357.2.1 234 (by decide)).trans (hF286.2.1 234 (by decide))))), (show CT _ from ⟨fun i i0 i1 => ⟨(by have t0_ := hI0.t0; have t1_ := hI0.t1; have ek0 : (eA g284 233 0).toInt = (gI g0 1 0).toInt := (eA_ti (j := 0) (hF286.2.1 233 (by decide))).trans hR_0.symm; have x := eA_ti (j := i) (((hF357.2.1 2 (by decide)).trans (hF286.2.1 2 (by decide)))); have m := q364 (10 + 3 * i) (by omega) (by omega); have y := eA_ti (j := (10 + 3 * i)) (hF286.2.1 233 (by decide)); have k : 0 ≤ v2.toInt ∧ v2.toInt < (gI g0 1 0).toInt ∧ 0 ≤ v4.toInt ∧ v4.toInt < (gI g0 1 0).toInt ∧ v2.toInt ≠ v4.toInt := ⟨pk5.1.1, pk5.1.2.1, pk5.1.2.2.1, pk5.1.2.2.2, pk5.2⟩; have k2 : 0 ≤ v2.toInt ∧ v2.toInt < (eA g284 233 0).toInt ∧ 0 ≤ v4.toInt ∧ v4.toInt < (eA g284 233 0).toInt ∧ v2.toInt ≠ v4.toInt := (by rw [ek0]; exact k); rw [ite_ap k2, ite_ap k2, ite_ap k2, ite_ap k2] at m; exact x.trans ((hR_14.1 i i0 i1).1.trans ((m.trans (if4n (by omega) (by omega) (by omega) (by omega))).trans y).symm)), (by have t0_ := hI0.t0; have t1_ := hI0.t1; have ek0 : (eA g284 233 0).toInt = (gI g0 1 0).toInt := (eA_ti (j := 0) (hF286.2.1 233 (by decide))).trans hR_0.symm; have x := (eA_ti (j := i) (hF357.2.1 3 (by decide))).trans (q293 i i0 i1); have m := q364 (10 + 3 * i + 1) (by omega) (by omega); have y := eA_ti (j := (10 + 3 * i + 1)) (hF286.2.1 233 (by decide)); have k : 0 ≤ v2.toInt ∧ v2.toInt < (gI g0 1 0).toInt ∧ 0 ≤ v4.toInt ∧ v4.toInt < (gI g0 1 0).toInt ∧ v2.toInt ≠ v4.toInt := ⟨pk5.1.1, pk5.1.2.1, pk5.1.2.2.1, pk5.1.2.2.2, pk5.2⟩; have k2 : 0 ≤ v2.toInt ∧ v2.toInt < (eA g284 233 0).toInt ∧ 0 ≤ v4.toInt ∧ v4.toInt < (eA g284 233 0).toInt ∧ v2.toInt ≠ v4.toInt := (by rw [ek0]; exact k); rw [ite_ap k2, ite_ap k2, ite_ap k2, ite_ap k2] at m; rw [ite_ap k, ite_ap k] at x; exact x.trans ((swp1 (S := fun j => (eA g0 3 j).toInt) (M := fun j => (eA g284 233 j).toInt) (fun j j0 j1 => (hR_14.1 j j0 j1).2.1.trans (eA_ti (hF286.2.1 233 (by decide))).symm) ⟨by omega, by omega⟩ ⟨by omega, by omega⟩ ⟨i0, i1⟩).trans m.symm)), (by have t0_ := hI0.t0; have t1_ := hI0.t1; have ek0 : (eA g284 233 0).toInt = (gI g0 1 0).toInt := (eA_ti (j := 0) (hF286.2.1 233 (by decide))).trans hR_0.symm; have x := (eA_ti (j := i) (hF357.2.1 4 (by decide))).trans (q294 i i0 i1); have m := q364 (10 + 3 * i + 2) (by omega) (by omega); have y := eA_ti (j := (10 + 3 * i + 2)) (hF286.2.1 233 (by decide)); have k : 0 ≤ v2.toInt ∧ v2.toInt < (gI g0 1 0).toInt ∧ 0 ≤ v4.toInt ∧ v4.toInt < (gI g0 1 0).toInt ∧ v2.toInt ≠ v4.toInt := ⟨pk5.1.1, pk5.1.2.1, pk5.1.2.2.1, pk5.1.2.2.2, pk5.2⟩; have k2 : 0 ≤ v2.toInt ∧ v2.toInt < (eA g284 233 0).toInt ∧ 0 ≤ v4.toInt ∧ v4.toInt < (eA g284 233 0).toInt ∧ v2.toInt ≠ v4.toInt := (by rw [ek0]; exact k); rw [ite_ap k2, ite_ap k2, ite_ap k2, ite_ap k2] at m; rw [ite_ap k, ite_ap k] at x; exact x.trans ((swp2 (S := fun j => (eA g0 4 j).toInt) (M := fun j => (eA g284 233 j).toInt) (fun j j0 j1 => (hR_14.1 j j0 j1).2.2.trans (eA_ti (hF286.2.1 233 (by decide))).symm) ⟨by omega, by omega⟩ ⟨by omega, by omega⟩ ⟨i0, i1⟩).trans m.symm))⟩, fun i i0 i1 => ⟨(by have t0_ := hI0.t0; have t1_ := hI0.t1; have ek0 : (eA g284 233 0).toInt = (gI g0 1 0).toInt := (eA_ti (j := 0) (hF286.2.1 233 (by decide))).trans hR_0.symm; have x := eA_ti (j := i) (((hF357.2.1 14 (by decide)).trans (hF286.2.1 14 (by decide)))); have m := q364 (94 + 2 * i) (by omega) (by omega); have y := eA_ti (j := (94 + 2 * i)) (hF286.2.1 233 (by decide)); have k : 0 ≤ v2.toInt ∧ v2.toInt < (gI g0 1 0).toInt ∧ 0 ≤ v4.toInt ∧ v4.toInt < (gI g0 1 0).toInt ∧ v2.toInt ≠ v4.toInt := ⟨pk5.1.1, pk5.1.2.1, pk5.1.2.2.1, pk5.1.2.2.2, pk5.2⟩; have k2 : 0 ≤ v2.toInt ∧ v2.toInt < (eA g284 233 0).toInt ∧ 0 ≤ v4.toInt ∧ v4.toInt < (eA g284 233 0).toInt ∧ v2.toInt ≠ v4.toInt := (by rw [ek0]; exact k); rw [ite_ap k2, ite_ap k2, ite_ap k2, ite_ap k2] at m; exact x.trans ((hR_14.2.1 i i0 i1).1.trans ((m.trans (if4n (by omega) (by omega) (by omega) (by omega))).trans y).symm)), (by have t0_ := hI0.t0; have t1_ := hI0.t1; have ek0 : (eA g284 233 0).toInt = (gI g0 1 0).toInt := (eA_ti (j := 0) (hF286.2.1 233 (by decide))).trans hR_0.symm; have x := eA_ti (j := i) (((hF357.2.1 15 (by decide)).trans (hF286.2.1 15 (by decide)))); have m := q364 (94 + 2 * i + 1) (by omega) (by omega); have y := eA_ti (j := (94 + 2 * i + 1)) (hF286.2.1 233 (by decide)); have k : 0 ≤ v2.toInt ∧ v2.toInt < (gI g0 1 0).toInt ∧ 0 ≤ v4.toInt ∧ v4.toInt < (gI g0 1 0).toInt ∧ v2.toInt ≠ v4.toInt := ⟨pk5.1.1, pk5.1.2.1, pk5.1.2.2.1, pk5.1.2.2.2, pk5.2⟩; have k2 : 0 ≤ v2.toInt ∧ v2.toInt < (eA g284 233 0).toInt ∧ 0 ≤ v4.toInt ∧ v4.toInt < (eA g284 233 0).toInt ∧ v2.toInt ≠ v4.toInt := (by rw [ek0]; exact k); rw [ite_ap k2, ite_ap k2, ite_ap k2, ite_ap k2] at m; exact x.trans ((hR_14.2.1 i i0 i1).2.trans ((m.trans (if4n (by omega) (by omega) (by omega) (by omega))).trans y).symm))⟩, fun i i0 i1 => (by have t0_ := hI0.t0; have t1_ := hI0.t1; have ek0 : (eA g284 233 0).toInt = (gI g0 1 0).toInt := (eA_ti (j := 0) (hF286.2.1 233 (by decide))).trans hR_0.symm; have x := eA_ti (j := i) (((hF357.2.1 5 (by decide)).trans (hF286.2.1 5 (by decide)))); have m := q364 (46 + i) (by omega) (by omega); have y := eA_ti (j := (46 + i)) (hF286.2.1 233 (by decide)); have k : 0 ≤ v2.toInt ∧ v2.toInt < (gI g0 1 0).toInt ∧ 0 ≤ v4.toInt ∧ v4.toInt < (gI g0 1 0).toInt ∧ v2.toInt ≠ v4.toInt := ⟨pk5.1.1, pk5.1.2.1, pk5.1.2.2.1, pk5.1.2.2.2, pk5.2⟩; have k2 : 0 ≤ v2.toInt ∧ v2.toInt < (eA g284 233 0).toInt ∧ 0 ≤ v4.toInt ∧ v4.toInt < (eA g284 233 0).toInt ∧ v2.toInt ≠ v4.toInt := (by rw [ek0]; exact k); rw [ite_ap k2, ite_ap k2, ite_ap k2, ite_ap k2] at m; exact x.trans ((hR_14.2.2 i i0 (by omega)).trans ((m.trans (if4n (by omega) (by omega) (by omega) (by omega))).trans y).symm))⟩), CI0.cong hR_15 (((hF357.2.1 60 (by decide)).trans (hF286.2.1 60 (by decide)))) (((hF357.2.1 61 (by decide)).trans (hF286.2.1 61 (by decide)))) (((hF357.2.1 62 (by decide)).trans (hF286.2.1 62 (by decide)))) (((hF357.2.1 72 (by decide)).trans (hF286.2.1 72 (by decide)))) (((hF357.2.1 73 (by decide)).trans (hF286.2.1 73 (by decide)))) (((hF357.2.1 63 (by decide)).trans (hF286.2.1 63 (by decide)))) (((hF357.2.1 234 (by decide)).trans (hF286.2.1 234 (by decide)))) (congrArg Int32.toInt (((hF357.1 59 4 (by decide)).trans (hF286.1 59 4 (by decide))))), CI1.cong hR_16 (((hF357.2.1 117 (by decide)).trans (hF286.2.1 117 (by decide)))) (((hF357.2.1 118 (by decide)).trans (hF286.2.1 118 (by decide)))) (((hF357.2.1 119 (by decide)).trans (hF286.2.1 119 (by decide)))) (((hF357.2.1 129 (by decide)).trans (hF286.2.1 129 (by decide)))) (((hF357.2.1 130 (by decide)).trans (hF286.2.1 130 (by decide)))) (((hF357.2.1 120 (by decide)).trans (hF286.2.1 120 (by decide)))) (((hF357.2.1 234 (by decide)).trans (hF286.2.1 234 (by decide)))) (congrArg Int32.toInt (((hF357.1 116 4 (by decide)).trans (hF286.1 116 4 (by decide))))), (show RT _ from fun i i0 i1 => (eA_ti (((hF357.2.1 175 (by decide)).trans (hF286.2.1 175 (by decide))))).trans ((hR_17 i i0 (by omega)).trans (eA_ti (((hF357.2.1 236 (by decide)).trans (hF286.2.1 236 (by decide))))).symm)), (show BYX _ from fun i i0 i1 => by rw [TX.c (((hF357.2.1 175 (by decide)).trans (hF286.2.1 175 (by decide))))]; exact hR_18 i i0 (by have i2 : i < (gI _ 174 1).toInt := i1; show i < (gI g0 174 1).toInt; omega)), (LAWR_c hR_19 (LSA_tr (LSA_tr LSA_rf (LSA_fr hF286 rfl)) (LSA_fr hF357 rfl)) (((hF357.1 1 6 (by decide)).trans (hF286.1 1 6 (by decide)))) (((hF357.1 59 6 (by decide)).trans (hF286.1 59 6 (by decide)))) (((hF357.1 116 6 (by decide)).trans (hF286.1 116 6 (by decide)))) (((hF357.2.1 173 (by decide)).trans (hF286.2.1 173 (by decide)))) (fun i i0 i1 => (R3_swap hI285 q364 i i0 i1).trans (eA_ti (hF286.2.1 233 (by decide)))) (((hF357.2.1 234 (by decide)).trans (hF286.2.1 234 (by decide)))) (TOLDX_fr hF357 rfl rfl rfl rfl (fe290.1 hR_19.2.2.2.2))), (SETX_fr hF357 rfl rfl rfl rfl rfl (fe290.2 hR_20))⟩)
