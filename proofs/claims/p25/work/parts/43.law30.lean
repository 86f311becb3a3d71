set_option maxRecDepth 100000 in
set_option maxHeartbeats 8000000 in
theorem lq_c30 (d : Nat) {N : Nat} {g0 : List en_E} (hI0 : HI g0) (hR0 : LwR g0) {ys : List Int32} {L : Nat} (hL : ys.length = L) (hL2 : L ≤ 3584) {l : en_L} {i : Int32} (e0 : en_get 0 l = some (.float 0)) (e1 : en_get 1 l = some (.ref 0)) (e2 : en_get 2 l = some (.ref 231)) (e3 : en_get 3 l = some (.int i)) (hi : 0 ≤ i.toInt ∧ i.toInt + 7 ≤ L) {Ph : Option Value → en_H → Prop} (K : ∀ g1 : List en_E, HI g1 → LwR g1 → At (d + 423) (some ys) (some .boolean) bs_L_law (1330, l, [], (g1, N)) Ph) : At (d + 423) (some ys) (some .boolean) bs_L_law (1090, l, [], (g0, N)) Ph := by
  have hF0 : Fr F_law A_law g0 g0 := Fr.rf
  have hx_1 : -2147483648 ≤ i.toInt + 1 ∧ i.toInt + 1 ≤ 2147483647 := by omega
  have hx_2 : -2147483648 ≤ i.toInt + 2 ∧ i.toInt + 2 ≤ 2147483647 := by omega
  have hx_3 : -2147483648 ≤ i.toInt + 3 ∧ i.toInt + 3 ≤ 2147483647 := by omega
  have hx_4 : -2147483648 ≤ i.toInt + 4 ∧ i.toInt + 4 ≤ 2147483647 := by omega
  have hx_5 : -2147483648 ≤ i.toInt + 5 ∧ i.toInt + 5 ≤ 2147483647 := by omega
  have hx_6 : -2147483648 ≤ i.toInt + 6 ∧ i.toInt + 6 ≤ 2147483647 := by omega
  have hy_0 : 0 ≤ i.toInt ∧ i.toInt < (L : Int) := by omega
  have hy_1 : 0 ≤ i.toInt + 1 ∧ i.toInt + 1 < (L : Int) := by omega
  have hy_2 : 0 ≤ i.toInt + 2 ∧ i.toInt + 2 < (L : Int) := by omega
  have hy_3 : 0 ≤ i.toInt + 3 ∧ i.toInt + 3 < (L : Int) := by omega
  have hy_4 : 0 ≤ i.toInt + 4 ∧ i.toInt + 4 < (L : Int) := by omega
  have hy_5 : 0 ≤ i.toInt + 5 ∧ i.toInt + 5 < (L : Int) := by omega
  have hy_6 : 0 ≤ i.toInt + 6 ∧ i.toInt + 6 < (L : Int) := by omega
  unfold LwR at hR0
  obtain ⟨hR_0, hR_1, hR_2, hR_3, hR_4, hR_5, hR_6, hR_7, hR_8, hR_9, hR_10, hR_11, hR_12, hR_13, hR_14, hR_15, hR_16, hR_17, hR_18, hR_19, hR_20⟩ := hR0
  refine At.enter rfl ?_
  refine r_aload_n e1 ?_
  refine r_sload_n e0 ?_
  refine r_iload_n e3 ?_
  refine r_iconst 1 rfl ?_
  refine q_iadd (i.toInt + 1) rfl hx_1 (fun v1 hv1 => ?_)
  refine q_scald (m := L) hL (i.toInt + 1) hv1 hy_1 (fun v2 hv2 => ?_)
  refine r_sload_n e0 ?_
  refine r_iload_n e3 ?_
  refine r_iconst 2 rfl ?_
  refine q_iadd (i.toInt + 2) rfl hx_2 (fun v3 hv3 => ?_)
  refine q_scald (m := L) hL (i.toInt + 2) hv3 hy_2 (fun v4 hv4 => ?_)
  rcases cs4 (0 ≤ v4.toInt ∧ v4.toInt ≤ 99) (0 ≤ v2.toInt ∧ v2.toInt < (gI g0 1 0).toInt) (8 ≤ (gI g0 1 12).toInt) with pk5 | pk5 | pk5 | pk5
  · refine r_callV 1104 rfl [.ref 0, .int v2, .int v4] [] (Nat.le_of_ble_eq_true rfl) rfl (T_X10_sign_0 _ hI0 v2 v4) ?_
    rintro _ _ ⟨g6, rfl, hI7, hF8, v9, rfl, hr10⟩
    refine At.sti ?_
    have hF11 := Fr.tr hF0 hF8 rfl rfl
    obtain ⟨q13, q14, q15, q16⟩ := hr10
    obtain ⟨i18, i19, i20, i21⟩ := q14
    have w17 := i18 pk5
    clear i18 i19 i20 i21
    have f22 := congrArg Int32.toInt (hF8.1 1 0 rfl)
    have f23 := congrArg Int32.toInt (hF8.1 1 10 rfl)
    have f24 := congrArg Int32.toInt (hF8.1 1 11 rfl)
    have f25 := congrArg Int32.toInt (hF8.1 1 4 rfl)
    have f26 := congrArg Int32.toInt (hF8.1 1 6 rfl)
    have f27 := congrArg Int32.toInt (hF8.1 1 9 rfl)
    have f28 := congrArg Int32.toInt (hF8.1 59 0 rfl)
    have f29 := congrArg Int32.toInt (hF8.1 59 12 rfl)
    have f30 := congrArg Int32.toInt (hF8.1 59 10 rfl)
    have f31 := congrArg Int32.toInt (hF8.1 59 11 rfl)
    have f32 := congrArg Int32.toInt (hF8.1 59 4 rfl)
    have f33 := congrArg Int32.toInt (hF8.1 59 6 rfl)
    have f34 := congrArg Int32.toInt (hF8.1 59 9 rfl)
    have f35 := congrArg Int32.toInt (hF8.1 116 0 rfl)
    have f36 := congrArg Int32.toInt (hF8.1 116 12 rfl)
    have f37 := congrArg Int32.toInt (hF8.1 116 10 rfl)
    have f38 := congrArg Int32.toInt (hF8.1 116 11 rfl)
    have f39 := congrArg Int32.toInt (hF8.1 116 4 rfl)
    have f40 := congrArg Int32.toInt (hF8.1 116 6 rfl)
    have f41 := congrArg Int32.toInt (hF8.1 116 9 rfl)
    have f42 := congrArg Int32.toInt (eA_c (j := 0) (hF8.2.1 173 rfl))
    have f43 := congrArg Int32.toInt (eA_c (j := 1) (hF8.2.1 173 rfl))
    have f44 := congrArg Int32.toInt (hF8.1 174 1 rfl)
    have f45 := congrArg Int32.toInt (hF8.1 0 16 rfl)
    have f46 := congrArg Int32.toInt (hF8.1 176 2 rfl)
    have f47 := congrArg Int32.toInt (eA_c (j := 0) (hF8.2.1 233 rfl))
    have f48 := congrArg Int32.toInt (eA_c (j := 4) (hF8.2.1 233 rfl))
    have f49 := congrArg Int32.toInt (eA_c (j := 5) (hF8.2.1 233 rfl))
    have f50 := congrArg Int32.toInt (eA_c (j := 6) (hF8.2.1 233 rfl))
    have f51 := congrArg Int32.toInt (eA_c (j := 1) (hF8.2.1 233 rfl))
    have f52 := congrArg Int32.toInt (eA_c (j := 2) (hF8.2.1 233 rfl))
    have f53 := congrArg Int32.toInt (eA_c (j := 3) (hF8.2.1 233 rfl))
    have f54 := congrArg Int32.toInt (eA_c (j := 0) (hF8.2.1 234 rfl))
    have f55 := congrArg Int32.toInt (eA_c (j := 4) (hF8.2.1 234 rfl))
    have f56 := congrArg Int32.toInt (eA_c (j := 5) (hF8.2.1 234 rfl))
    have f57 := congrArg Int32.toInt (eA_c (j := 6) (hF8.2.1 234 rfl))
    have f58 := congrArg Int32.toInt (eA_c (j := 1) (hF8.2.1 234 rfl))
    have f59 := congrArg Int32.toInt (eA_c (j := 2) (hF8.2.1 234 rfl))
    have f60 := congrArg Int32.toInt (eA_c (j := 3) (hF8.2.1 234 rfl))
    have f61 := congrArg Int32.toInt (eA_c (j := 5510) (hF8.2.1 234 rfl))
    have f62 := congrArg Int32.toInt (eA_c (j := 5514) (hF8.2.1 234 rfl))
    have f63 := congrArg Int32.toInt (eA_c (j := 5515) (hF8.2.1 234 rfl))
    have f64 := congrArg Int32.toInt (eA_c (j := 5516) (hF8.2.1 234 rfl))
    have f65 := congrArg Int32.toInt (eA_c (j := 5511) (hF8.2.1 234 rfl))
    have f66 := congrArg Int32.toInt (eA_c (j := 5512) (hF8.2.1 234 rfl))
    have f67 := congrArg Int32.toInt (eA_c (j := 5513) (hF8.2.1 234 rfl))
    have f68 := congrArg Int32.toInt (eA_c (j := 0) (hF8.2.1 235 rfl))
    have f69 := congrArg Int32.toInt (eA_c (j := 1) (hF8.2.1 235 rfl))
    have f70 := congrArg Int32.toInt (hF8.1 231 8 rfl)
    have f71 := congrArg Int32.toInt (hF8.1 231 6 rfl)
    have f72 := congrArg Int32.toInt (hF8.1 231 13 rfl)
    refine At.enter rfl ?_
    refine r_pop rfl ?_
    refine r_aload_n e2 ?_
    refine r_sload_n e0 ?_
    refine r_iload_n e3 ?_
    refine r_iconst 1 rfl ?_
    refine q_iadd (i.toInt + 1) rfl hx_1 (fun v73 hv73 => ?_)
    refine q_scald (m := L) hL (i.toInt + 1) hv73 hy_1 (fun v74 hv74 => ?_)
    have sv74 := hv2.symm.trans hv74
    subst sv74
    refine r_sload_n e0 ?_
    refine r_iload_n e3 ?_
    refine r_iconst 2 rfl ?_
    refine q_iadd (i.toInt + 2) rfl hx_2 (fun v75 hv75 => ?_)
    refine q_scald (m := L) hL (i.toInt + 2) hv75 hy_2 (fun v76 hv76 => ?_)
    have sv76 := hv4.symm.trans hv76
    subst sv76
    refine r_callV 1119 rfl [.ref 231, .int v2, .int v4] [] (Nat.le_of_ble_eq_true rfl) rfl (T_X11_sign_231 _ hI7 v2 v4) ?_
    rintro _ _ ⟨g77, rfl, hI78, hF79, v80, rfl, hr81⟩
    refine At.sti ?_
    have hF82 := Fr.tr hF11 hF79 rfl rfl
    obtain ⟨q84, q85, q86⟩ := hr81
    have ek98 : (eA g6 233 0).toInt = (gI g0 1 0).toInt := (eA_ti (j := 0) (hF8.2.1 233 (by decide))).trans hR_0.symm
    have ek99 : (eA g6 233 1).toInt = (gI g0 1 4).toInt := (eA_ti (j := 1) (hF8.2.1 233 (by decide))).trans hR_4.symm
    have ek100 : (eA g6 233 4).toInt = (gI g0 1 12).toInt := (eA_ti (j := 4) (hF8.2.1 233 (by decide))).trans hR_1.symm
    obtain ⟨⟨i88, i89, i90, i91⟩, sm92, sm93, sm94, sm95, sm96, sm97⟩ := q85
    have w87 := i88 pk5
    clear i88 i89 i90 i91
    have f101 := congrArg Int32.toInt (hF79.1 1 0 rfl)
    have f102 := congrArg Int32.toInt (hF79.1 1 12 rfl)
    have f103 := congrArg Int32.toInt (hF79.1 1 10 rfl)
    have f104 := congrArg Int32.toInt (hF79.1 1 11 rfl)
    have f105 := congrArg Int32.toInt (hF79.1 1 4 rfl)
    have f106 := congrArg Int32.toInt (hF79.1 1 6 rfl)
    have f107 := congrArg Int32.toInt (hF79.1 1 9 rfl)
    have f108 := congrArg Int32.toInt (hF79.1 59 0 rfl)
    have f109 := congrArg Int32.toInt (hF79.1 59 12 rfl)
    have f110 := congrArg Int32.toInt (hF79.1 59 10 rfl)
    have f111 := congrArg Int32.toInt (hF79.1 59 11 rfl)
    have f112 := congrArg Int32.toInt (hF79.1 59 4 rfl)
    have f113 := congrArg Int32.toInt (hF79.1 59 6 rfl)
    have f114 := congrArg Int32.toInt (hF79.1 59 9 rfl)
    have f115 := congrArg Int32.toInt (hF79.1 116 0 rfl)
    have f116 := congrArg Int32.toInt (hF79.1 116 12 rfl)
    have f117 := congrArg Int32.toInt (hF79.1 116 10 rfl)
    have f118 := congrArg Int32.toInt (hF79.1 116 11 rfl)
    have f119 := congrArg Int32.toInt (hF79.1 116 4 rfl)
    have f120 := congrArg Int32.toInt (hF79.1 116 6 rfl)
    have f121 := congrArg Int32.toInt (hF79.1 116 9 rfl)
    have f122 := congrArg Int32.toInt (eA_c (j := 0) (hF79.2.1 173 rfl))
    have f123 := congrArg Int32.toInt (eA_c (j := 1) (hF79.2.1 173 rfl))
    have f124 := congrArg Int32.toInt (hF79.1 174 1 rfl)
    have f125 := congrArg Int32.toInt (hF79.1 0 16 rfl)
    have f126 := congrArg Int32.toInt (hF79.1 176 2 rfl)
    have f127 := congrArg Int32.toInt (eA_c (j := 0) (hF79.2.1 234 rfl))
    have f128 := congrArg Int32.toInt (eA_c (j := 4) (hF79.2.1 234 rfl))
    have f129 := congrArg Int32.toInt (eA_c (j := 5) (hF79.2.1 234 rfl))
    have f130 := congrArg Int32.toInt (eA_c (j := 6) (hF79.2.1 234 rfl))
    have f131 := congrArg Int32.toInt (eA_c (j := 1) (hF79.2.1 234 rfl))
    have f132 := congrArg Int32.toInt (eA_c (j := 2) (hF79.2.1 234 rfl))
    have f133 := congrArg Int32.toInt (eA_c (j := 3) (hF79.2.1 234 rfl))
    have f134 := congrArg Int32.toInt (eA_c (j := 5510) (hF79.2.1 234 rfl))
    have f135 := congrArg Int32.toInt (eA_c (j := 5514) (hF79.2.1 234 rfl))
    have f136 := congrArg Int32.toInt (eA_c (j := 5515) (hF79.2.1 234 rfl))
    have f137 := congrArg Int32.toInt (eA_c (j := 5516) (hF79.2.1 234 rfl))
    have f138 := congrArg Int32.toInt (eA_c (j := 5511) (hF79.2.1 234 rfl))
    have f139 := congrArg Int32.toInt (eA_c (j := 5512) (hF79.2.1 234 rfl))
    have f140 := congrArg Int32.toInt (eA_c (j := 5513) (hF79.2.1 234 rfl))
    have f141 := congrArg Int32.toInt (eA_c (j := 0) (hF79.2.1 235 rfl))
    have f142 := congrArg Int32.toInt (eA_c (j := 1) (hF79.2.1 235 rfl))
    have f143 := congrArg Int32.toInt (hF79.1 231 8 rfl)
    have f144 := congrArg Int32.toInt (hF79.1 231 6 rfl)
    have f145 := congrArg Int32.toInt (hF79.1 231 13 rfl)
    refine At.enter rfl ?_
    refine r_pop rfl ?_
    refine r_goto ?_
    exact K _ hI78 (show LwR _ from ⟨by omega, by omega, by omega, by omega, by omega, by omega, by omega, (eA_ti (j := 0) (((hF79.2.1 173 (by decide)).trans (hF8.2.1 173 (by decide))))).trans (hR_7.trans (eA_ti (j := 0) (((hF79.2.1 235 (by decide)).trans (hF8.2.1 235 (by decide))))).symm), (eA_ti (j := 1) (((hF79.2.1 173 (by decide)).trans (hF8.2.1 173 (by decide))))).trans (hR_8.trans (eA_ti (j := 1) (((hF79.2.1 235 (by decide)).trans (hF8.2.1 235 (by decide))))).symm), (congrArg Int32.toInt (((hF79.1 174 1 (by decide)).trans (hF8.1 174 1 (by decide))))).trans (hR_9.trans (congrArg Int32.toInt (((hF79.1 231 8 (by decide)).trans (hF8.1 231 8 (by decide))))).symm), (congrArg Int32.toInt (((hF79.1 0 16 (by decide)).trans (hF8.1 0 16 (by decide))))).trans (hR_10.trans (congrArg Int32.toInt (((hF79.1 231 6 (by decide)).trans (hF8.1 231 6 (by decide))))).symm), (congrArg Int32.toInt (((hF79.1 176 2 (by decide)).trans (hF8.1 176 2 (by decide))))).trans (hR_11.trans (congrArg Int32.toInt (((hF79.1 231 13 (by decide)).trans (hF8.1 231 13 (by decide))))).symm), IM0.cong hR_12 (eA_ti (j := 0) (((hF79.2.1 173 (by decide)).trans (hF8.2.1 173 (by decide))))) (congrArg Int32.toInt (((hF79.1 59 0 (by decide)).trans (hF8.1 59 0 (by decide))))) (eA_ti (j := 0) (((hF79.2.1 234 (by decide)).trans (hF8.2.1 234 (by decide))))) (congrArg Int32.toInt (((hF79.1 59 12 (by decide)).trans (hF8.1 59 12 (by decide))))) (eA_ti (j := 4) (((hF79.2.1 234 (by decide)).trans (hF8.2.1 234 (by decide))))) (congrArg Int32.toInt (((hF79.1 59 10 (by decide)).trans (hF8.1 59 10 (by decide))))) (eA_ti (j := 5) (((hF79.2.1 234 (by decide)).trans (hF8.2.1 234 (by decide))))) (congrArg Int32.toInt (((hF79.1 59 11 (by decide)).trans (hF8.1 59 11 (by decide))))) (eA_ti (j := 6) (((hF79.2.1 234 (by decide)).trans (hF8.2.1 234 (by decide))))) (congrArg Int32.toInt (((hF79.1 59 4 (by decide)).trans (hF8.1 59 4 (by decide))))) (eA_ti (j := 1) (((hF79.2.1 234 (by decide)).trans (hF8.2.1 234 (by decide))))) (congrArg Int32.toInt (((hF79.1 59 6 (by decide)).trans (hF8.1 59 6 (by decide))))) (eA_ti (j := 2) (((hF79.2.1 234 (by decide)).trans (hF8.2.1 234 (by decide))))) (congrArg Int32.toInt (((hF79.1 59 9 (by decide)).trans (hF8.1 59 9 (by decide))))) (eA_ti (j := 3) (((hF79.2.1 234 (by decide)).trans (hF8.2.1 234 (by decide))))), IM1.cong hR_13 (eA_ti (j := 1) (((hF79.2.1 173 (by decide)).trans (hF8.2.1 173 (by decide))))) (congrArg Int32.toInt (((hF79.1 116 0 (by decide)).trans (hF8.1 116 0 (by decide))))) (eA_ti (j := 5510) (((hF79.2.1 234 (by decide)).trans (hF8.2.1 234 (by decide))))) (congrArg Int32.toInt (((hF79.1 116 12 (by decide)).trans (hF8.1 116 12 (by decide))))) (eA_ti (j := 5514) (((hF79.2.1 234 (by decide)).trans (hF8.2.1 234 (by decide))))) (congrArg Int32.toInt (((hF79.1 116 10 (by decide)).trans (hF8.1 116 10 (by decide))))) (eA_ti (j := 5515) (((hF79.2.1 234 (by decide)).trans (hF8.2.1 234 (by decide))))) (congrArg Int32.toInt (((hF79.1 116 11 (by decide)).trans (hF8.1 116 11 (by decide))))) (eA_ti (j := 5516) (((hF79.2.1 234 (by decide)).trans (hF8.2.1 234 (by decide))))) (congrArg Int32.toInt (((hF79.1 116 4 (by decide)).trans (hF8.1 116 4 (by decide))))) (eA_ti (j := 5511) (((hF79.2.1 234 (by decide)).trans (hF8.2.1 234 (by decide))))) (congrArg Int32.toInt (((hF79.1 116 6 (by decide)).trans (hF8.1 116 6 (by decide))))) (eA_ti (j := 5512) (((hF79.2.1 234 (by decide)).trans (hF8.2.1 234 (by decide))))) (congrArg Int32.toInt (((hF79.1 116 9 (by decide)).trans (hF8.1 116 9 (by decide))))) (eA_ti (j := 5513) (((hF79.2.1 234 (by decide)).trans (hF8.2.1 234 (by decide))))), (show CT _ from ⟨fun i i0 i1 => ⟨(by have t0_ := hI0.t0; have t1_ := hI0.t1; have t4_ := hI0.t4; have o := (hR_14.1 i i0 i1).1; have x := eA_ti (j := i) (((hF79.2.1 2 (by decide)).trans (hF8.2.1 2 (by decide)))); have m := q86 (10 + 3 * i) (by omega) (by omega); have y1 := eA_ti (j := ((10 + 3 * i))) (hF8.2.1 233 (by decide)); (try split at m) <;> (try split at m) <;> omega), (by have t0_ := hI0.t0; have t1_ := hI0.t1; have t4_ := hI0.t4; have o := (hR_14.1 i i0 i1).2.1; have x := eA_ti (j := i) (((hF79.2.1 3 (by decide)).trans (hF8.2.1 3 (by decide)))); have m := q86 (10 + 3 * i + 1) (by omega) (by omega); have y1 := eA_ti (j := ((10 + 3 * i + 1))) (hF8.2.1 233 (by decide)); (try split at m) <;> (try split at m) <;> omega), (by have t0_ := hI0.t0; have t1_ := hI0.t1; have t4_ := hI0.t4; have o := (hR_14.1 i i0 i1).2.2; have x := eA_ti (j := i) (((hF79.2.1 4 (by decide)).trans (hF8.2.1 4 (by decide)))); have m := q86 (10 + 3 * i + 2) (by omega) (by omega); have y1 := eA_ti (j := ((10 + 3 * i + 2))) (hF8.2.1 233 (by decide)); (try split at m) <;> (try split at m) <;> omega)⟩, fun i i0 i1 => ⟨(by have t0_ := hI0.t0; have t1_ := hI0.t1; have t4_ := hI0.t4; have o := (hR_14.2.1 i i0 i1).1; have x := (eA_ti (j := i) (hF79.2.1 14 (by decide))).trans (q15 i i0 i1); have m := q86 (94 + 2 * i) (by omega) (by omega); have y1 := eA_ti (j := ((94 + 2 * i))) (hF8.2.1 233 (by decide)); (try split at x) <;> (try split at m) <;> (try split at m) <;> omega), (by have t0_ := hI0.t0; have t1_ := hI0.t1; have t4_ := hI0.t4; have o := (hR_14.2.1 i i0 i1).2; have x := (eA_ti (j := i) (hF79.2.1 15 (by decide))).trans (q16 i i0 i1); have m := q86 (94 + 2 * i + 1) (by omega) (by omega); have y1 := eA_ti (j := ((94 + 2 * i + 1))) (hF8.2.1 233 (by decide)); (try split at x) <;> (try split at m) <;> (try split at m) <;> omega)⟩, fun i i0 i1 => (by have t0_ := hI0.t0; have t1_ := hI0.t1; have t4_ := hI0.t4; have o : i < 6 * (gI g0 1 4).toInt → _ := fun hz => hR_14.2.2 i i0 hz; have x := eA_ti (j := i) (((hF79.2.1 5 (by decide)).trans (hF8.2.1 5 (by decide)))); have m := q86 (46 + i) (by omega) (by omega); have y1 := eA_ti (j := ((46 + i))) (hF8.2.1 233 (by decide)); (try split at m) <;> (try split at m) <;> omega)⟩), CI0.cong hR_15 (((hF79.2.1 60 (by decide)).trans (hF8.2.1 60 (by decide)))) (((hF79.2.1 61 (by decide)).trans (hF8.2.1 61 (by decide)))) (((hF79.2.1 62 (by decide)).trans (hF8.2.1 62 (by decide)))) (((hF79.2.1 72 (by decide)).trans (hF8.2.1 72 (by decide)))) (((hF79.2.1 73 (by decide)).trans (hF8.2.1 73 (by decide)))) (((hF79.2.1 63 (by decide)).trans (hF8.2.1 63 (by decide)))) (((hF79.2.1 234 (by decide)).trans (hF8.2.1 234 (by decide)))) (congrArg Int32.toInt (((hF79.1 59 4 (by decide)).trans (hF8.1 59 4 (by decide))))), CI1.cong hR_16 (((hF79.2.1 117 (by decide)).trans (hF8.2.1 117 (by decide)))) (((hF79.2.1 118 (by decide)).trans (hF8.2.1 118 (by decide)))) (((hF79.2.1 119 (by decide)).trans (hF8.2.1 119 (by decide)))) (((hF79.2.1 129 (by decide)).trans (hF8.2.1 129 (by decide)))) (((hF79.2.1 130 (by decide)).trans (hF8.2.1 130 (by decide)))) (((hF79.2.1 120 (by decide)).trans (hF8.2.1 120 (by decide)))) (((hF79.2.1 234 (by decide)).trans (hF8.2.1 234 (by decide)))) (congrArg Int32.toInt (((hF79.1 116 4 (by decide)).trans (hF8.1 116 4 (by decide))))), (show RT _ from fun i i0 i1 => (eA_ti (((hF79.2.1 175 (by decide)).trans (hF8.2.1 175 (by decide))))).trans ((hR_17 i i0 (by omega)).trans (eA_ti (((hF79.2.1 236 (by decide)).trans (hF8.2.1 236 (by decide))))).symm)), (show BYX _ from fun i i0 i1 => by rw [TX.c (((hF79.2.1 175 (by decide)).trans (hF8.2.1 175 (by decide))))]; exact hR_18 i i0 (by have i2 : i < (gI _ 174 1).toInt := i1; show i < (gI g0 174 1).toInt; omega)), (LAWR_c hR_19 (LSA_tr (LSA_tr LSA_rf (LSA_fr hF8 rfl)) (LSA_fr hF79 rfl)) (((hF79.1 1 6 (by decide)).trans (hF8.1 1 6 (by decide)))) (((hF79.1 59 6 (by decide)).trans (hF8.1 59 6 (by decide)))) (((hF79.1 116 6 (by decide)).trans (hF8.1 116 6 (by decide)))) (((hF79.2.1 173 (by decide)).trans (hF8.2.1 173 (by decide)))) (fun i i0 i1 => (R3_sign hI7 q86 i i0 i1).trans (eA_ti (hF8.2.1 233 (by decide)))) (((hF79.2.1 234 (by decide)).trans (hF8.2.1 234 (by decide)))) (TOLDX_fr hF79 rfl rfl rfl rfl (TOLDX_fr hF8 rfl rfl rfl rfl hR_19.2.2.2.2))), (SETX_fr hF79 rfl rfl rfl rfl rfl (SETX_fr hF8 rfl rfl rfl rfl rfl hR_20))⟩)
  · refine r_callV 1104 rfl [.ref 0, .int v2, .int v4] [] (Nat.le_of_ble_eq_true rfl) rfl (T_X10_sign_0 _ hI0 v2 v4) ?_
    rintro _ _ ⟨g146, rfl, hI147, hF148, v149, rfl, hr150⟩
    refine At.sti ?_
    have hF151 := Fr.tr hF0 hF148 rfl rfl
    obtain ⟨q153, q154, q155, q156⟩ := hr150
    obtain ⟨i158, i159, i160, i161⟩ := q154
    have w157 := i159 ⟨pk5.1, pk5.2⟩
    clear i158 i159 i160 i161
    have f162 := congrArg Int32.toInt (hF148.1 1 0 rfl)
    have f163 := congrArg Int32.toInt (hF148.1 1 10 rfl)
    have f164 := congrArg Int32.toInt (hF148.1 1 11 rfl)
    have f165 := congrArg Int32.toInt (hF148.1 1 4 rfl)
    have f166 := congrArg Int32.toInt (hF148.1 1 6 rfl)
    have f167 := congrArg Int32.toInt (hF148.1 1 9 rfl)
    have f168 := congrArg Int32.toInt (hF148.1 59 0 rfl)
    have f169 := congrArg Int32.toInt (hF148.1 59 12 rfl)
    have f170 := congrArg Int32.toInt (hF148.1 59 10 rfl)
    have f171 := congrArg Int32.toInt (hF148.1 59 11 rfl)
    have f172 := congrArg Int32.toInt (hF148.1 59 4 rfl)
    have f173 := congrArg Int32.toInt (hF148.1 59 6 rfl)
    have f174 := congrArg Int32.toInt (hF148.1 59 9 rfl)
    have f175 := congrArg Int32.toInt (hF148.1 116 0 rfl)
    have f176 := congrArg Int32.toInt (hF148.1 116 12 rfl)
    have f177 := congrArg Int32.toInt (hF148.1 116 10 rfl)
    have f178 := congrArg Int32.toInt (hF148.1 116 11 rfl)
    have f179 := congrArg Int32.toInt (hF148.1 116 4 rfl)
    have f180 := congrArg Int32.toInt (hF148.1 116 6 rfl)
    have f181 := congrArg Int32.toInt (hF148.1 116 9 rfl)
    have f182 := congrArg Int32.toInt (eA_c (j := 0) (hF148.2.1 173 rfl))
    have f183 := congrArg Int32.toInt (eA_c (j := 1) (hF148.2.1 173 rfl))
    have f184 := congrArg Int32.toInt (hF148.1 174 1 rfl)
    have f185 := congrArg Int32.toInt (hF148.1 0 16 rfl)
    have f186 := congrArg Int32.toInt (hF148.1 176 2 rfl)
    have f187 := congrArg Int32.toInt (eA_c (j := 0) (hF148.2.1 233 rfl))
    have f188 := congrArg Int32.toInt (eA_c (j := 4) (hF148.2.1 233 rfl))
    have f189 := congrArg Int32.toInt (eA_c (j := 5) (hF148.2.1 233 rfl))
    have f190 := congrArg Int32.toInt (eA_c (j := 6) (hF148.2.1 233 rfl))
    have f191 := congrArg Int32.toInt (eA_c (j := 1) (hF148.2.1 233 rfl))
    have f192 := congrArg Int32.toInt (eA_c (j := 2) (hF148.2.1 233 rfl))
    have f193 := congrArg Int32.toInt (eA_c (j := 3) (hF148.2.1 233 rfl))
    have f194 := congrArg Int32.toInt (eA_c (j := 0) (hF148.2.1 234 rfl))
    have f195 := congrArg Int32.toInt (eA_c (j := 4) (hF148.2.1 234 rfl))
    have f196 := congrArg Int32.toInt (eA_c (j := 5) (hF148.2.1 234 rfl))
    have f197 := congrArg Int32.toInt (eA_c (j := 6) (hF148.2.1 234 rfl))
    have f198 := congrArg Int32.toInt (eA_c (j := 1) (hF148.2.1 234 rfl))
    have f199 := congrArg Int32.toInt (eA_c (j := 2) (hF148.2.1 234 rfl))
    have f200 := congrArg Int32.toInt (eA_c (j := 3) (hF148.2.1 234 rfl))
    have f201 := congrArg Int32.toInt (eA_c (j := 5510) (hF148.2.1 234 rfl))
    have f202 := congrArg Int32.toInt (eA_c (j := 5514) (hF148.2.1 234 rfl))
    have f203 := congrArg Int32.toInt (eA_c (j := 5515) (hF148.2.1 234 rfl))
    have f204 := congrArg Int32.toInt (eA_c (j := 5516) (hF148.2.1 234 rfl))
    have f205 := congrArg Int32.toInt (eA_c (j := 5511) (hF148.2.1 234 rfl))
    have f206 := congrArg Int32.toInt (eA_c (j := 5512) (hF148.2.1 234 rfl))
    have f207 := congrArg Int32.toInt (eA_c (j := 5513) (hF148.2.1 234 rfl))
    have f208 := congrArg Int32.toInt (eA_c (j := 0) (hF148.2.1 235 rfl))
    have f209 := congrArg Int32.toInt (eA_c (j := 1) (hF148.2.1 235 rfl))
    have f210 := congrArg Int32.toInt (hF148.1 231 8 rfl)
    have f211 := congrArg Int32.toInt (hF148.1 231 6 rfl)
    have f212 := congrArg Int32.toInt (hF148.1 231 13 rfl)
    refine At.enter rfl ?_
    refine r_pop rfl ?_
    refine r_aload_n e2 ?_
    refine r_sload_n e0 ?_
    refine r_iload_n e3 ?_
    refine r_iconst 1 rfl ?_
    refine q_iadd (i.toInt + 1) rfl hx_1 (fun v213 hv213 => ?_)
    refine q_scald (m := L) hL (i.toInt + 1) hv213 hy_1 (fun v214 hv214 => ?_)
    have sv214 := hv2.symm.trans hv214
    subst sv214
    refine r_sload_n e0 ?_
    refine r_iload_n e3 ?_
    refine r_iconst 2 rfl ?_
    refine q_iadd (i.toInt + 2) rfl hx_2 (fun v215 hv215 => ?_)
    refine q_scald (m := L) hL (i.toInt + 2) hv215 hy_2 (fun v216 hv216 => ?_)
    have sv216 := hv4.symm.trans hv216
    subst sv216
    refine r_callV 1119 rfl [.ref 231, .int v2, .int v4] [] (Nat.le_of_ble_eq_true rfl) rfl (T_X11_sign_231 _ hI147 v2 v4) ?_
    rintro _ _ ⟨g217, rfl, hI218, hF219, v220, rfl, hr221⟩
    refine At.sti ?_
    have hF222 := Fr.tr hF151 hF219 rfl rfl
    obtain ⟨q224, q225, q226⟩ := hr221
    have ek238 : (eA g146 233 0).toInt = (gI g0 1 0).toInt := (eA_ti (j := 0) (hF148.2.1 233 (by decide))).trans hR_0.symm
    have ek239 : (eA g146 233 1).toInt = (gI g0 1 4).toInt := (eA_ti (j := 1) (hF148.2.1 233 (by decide))).trans hR_4.symm
    have ek240 : (eA g146 233 4).toInt = (gI g0 1 12).toInt := (eA_ti (j := 4) (hF148.2.1 233 (by decide))).trans hR_1.symm
    obtain ⟨⟨i228, i229, i230, i231⟩, sm232, sm233, sm234, sm235, sm236, sm237⟩ := q225
    have w227 := i229 ⟨pk5.1, (by rw [ek238]; exact pk5.2)⟩
    clear i228 i229 i230 i231
    have f241 := congrArg Int32.toInt (hF219.1 1 0 rfl)
    have f242 := congrArg Int32.toInt (hF219.1 1 12 rfl)
    have f243 := congrArg Int32.toInt (hF219.1 1 10 rfl)
    have f244 := congrArg Int32.toInt (hF219.1 1 11 rfl)
    have f245 := congrArg Int32.toInt (hF219.1 1 4 rfl)
    have f246 := congrArg Int32.toInt (hF219.1 1 6 rfl)
    have f247 := congrArg Int32.toInt (hF219.1 1 9 rfl)
    have f248 := congrArg Int32.toInt (hF219.1 59 0 rfl)
    have f249 := congrArg Int32.toInt (hF219.1 59 12 rfl)
    have f250 := congrArg Int32.toInt (hF219.1 59 10 rfl)
    have f251 := congrArg Int32.toInt (hF219.1 59 11 rfl)
    have f252 := congrArg Int32.toInt (hF219.1 59 4 rfl)
    have f253 := congrArg Int32.toInt (hF219.1 59 6 rfl)
    have f254 := congrArg Int32.toInt (hF219.1 59 9 rfl)
    have f255 := congrArg Int32.toInt (hF219.1 116 0 rfl)
    have f256 := congrArg Int32.toInt (hF219.1 116 12 rfl)
    have f257 := congrArg Int32.toInt (hF219.1 116 10 rfl)
    have f258 := congrArg Int32.toInt (hF219.1 116 11 rfl)
    have f259 := congrArg Int32.toInt (hF219.1 116 4 rfl)
    have f260 := congrArg Int32.toInt (hF219.1 116 6 rfl)
    have f261 := congrArg Int32.toInt (hF219.1 116 9 rfl)
    have f262 := congrArg Int32.toInt (eA_c (j := 0) (hF219.2.1 173 rfl))
    have f263 := congrArg Int32.toInt (eA_c (j := 1) (hF219.2.1 173 rfl))
    have f264 := congrArg Int32.toInt (hF219.1 174 1 rfl)
    have f265 := congrArg Int32.toInt (hF219.1 0 16 rfl)
    have f266 := congrArg Int32.toInt (hF219.1 176 2 rfl)
    have f267 := congrArg Int32.toInt (eA_c (j := 0) (hF219.2.1 234 rfl))
    have f268 := congrArg Int32.toInt (eA_c (j := 4) (hF219.2.1 234 rfl))
    have f269 := congrArg Int32.toInt (eA_c (j := 5) (hF219.2.1 234 rfl))
    have f270 := congrArg Int32.toInt (eA_c (j := 6) (hF219.2.1 234 rfl))
    have f271 := congrArg Int32.toInt (eA_c (j := 1) (hF219.2.1 234 rfl))
    have f272 := congrArg Int32.toInt (eA_c (j := 2) (hF219.2.1 234 rfl))
    have f273 := congrArg Int32.toInt (eA_c (j := 3) (hF219.2.1 234 rfl))
    have f274 := congrArg Int32.toInt (eA_c (j := 5510) (hF219.2.1 234 rfl))
    have f275 := congrArg Int32.toInt (eA_c (j := 5514) (hF219.2.1 234 rfl))
    have f276 := congrArg Int32.toInt (eA_c (j := 5515) (hF219.2.1 234 rfl))
    have f277 := congrArg Int32.toInt (eA_c (j := 5516) (hF219.2.1 234 rfl))
    have f278 := congrArg Int32.toInt (eA_c (j := 5511) (hF219.2.1 234 rfl))
    have f279 := congrArg Int32.toInt (eA_c (j := 5512) (hF219.2.1 234 rfl))
    have f280 := congrArg Int32.toInt (eA_c (j := 5513) (hF219.2.1 234 rfl))
    have f281 := congrArg Int32.toInt (eA_c (j := 0) (hF219.2.1 235 rfl))
    have f282 := congrArg Int32.toInt (eA_c (j := 1) (hF219.2.1 235 rfl))
    have f283 := congrArg Int32.toInt (hF219.1 231 8 rfl)
    have f284 := congrArg Int32.toInt (hF219.1 231 6 rfl)
    have f285 := congrArg Int32.toInt (hF219.1 231 13 rfl)
    refine At.enter rfl ?_
    refine r_pop rfl ?_
    refine r_goto ?_
    exact K _ hI218 (show LwR _ from ⟨by omega, by omega, by omega, by omega, by omega, by omega, by omega, (eA_ti (j := 0) (((hF219.2.1 173 (by decide)).trans (hF148.2.1 173 (by decide))))).trans (hR_7.trans (eA_ti (j := 0) (((hF219.2.1 235 (by decide)).trans (hF148.2.1 235 (by decide))))).symm), (eA_ti (j := 1) (((hF219.2.1 173 (by decide)).trans (hF148.2.1 173 (by decide))))).trans (hR_8.trans (eA_ti (j := 1) (((hF219.2.1 235 (by decide)).trans (hF148.2.1 235 (by decide))))).symm), (congrArg Int32.toInt (((hF219.1 174 1 (by decide)).trans (hF148.1 174 1 (by decide))))).trans (hR_9.trans (congrArg Int32.toInt (((hF219.1 231 8 (by decide)).trans (hF148.1 231 8 (by decide))))).symm), (congrArg Int32.toInt (((hF219.1 0 16 (by decide)).trans (hF148.1 0 16 (by decide))))).trans (hR_10.trans (congrArg Int32.toInt (((hF219.1 231 6 (by decide)).trans (hF148.1 231 6 (by decide))))).symm), (congrArg Int32.toInt (((hF219.1 176 2 (by decide)).trans (hF148.1 176 2 (by decide))))).trans (hR_11.trans (congrArg Int32.toInt (((hF219.1 231 13 (by decide)).trans (hF148.1 231 13 (by decide))))).symm), IM0.cong hR_12 (eA_ti (j := 0) (((hF219.2.1 173 (by decide)).trans (hF148.2.1 173 (by decide))))) (congrArg Int32.toInt (((hF219.1 59 0 (by decide)).trans (hF148.1 59 0 (by decide))))) (eA_ti (j := 0) (((hF219.2.1 234 (by decide)).trans (hF148.2.1 234 (by decide))))) (congrArg Int32.toInt (((hF219.1 59 12 (by decide)).trans (hF148.1 59 12 (by decide))))) (eA_ti (j := 4) (((hF219.2.1 234 (by decide)).trans (hF148.2.1 234 (by decide))))) (congrArg Int32.toInt (((hF219.1 59 10 (by decide)).trans (hF148.1 59 10 (by decide))))) (eA_ti (j := 5) (((hF219.2.1 234 (by decide)).trans (hF148.2.1 234 (by decide))))) (congrArg Int32.toInt (((hF219.1 59 11 (by decide)).trans (hF148.1 59 11 (by decide))))) (eA_ti (j := 6) (((hF219.2.1 234 (by decide)).trans (hF148.2.1 234 (by decide))))) (congrArg Int32.toInt (((hF219.1 59 4 (by decide)).trans (hF148.1 59 4 (by decide))))) (eA_ti (j := 1) (((hF219.2.1 234 (by decide)).trans (hF148.2.1 234 (by decide))))) (congrArg Int32.toInt (((hF219.1 59 6 (by decide)).trans (hF148.1 59 6 (by decide))))) (eA_ti (j := 2) (((hF219.2.1 234 (by decide)).trans (hF148.2.1 234 (by decide))))) (congrArg Int32.toInt (((hF219.1 59 9 (by decide)).trans (hF148.1 59 9 (by decide))))) (eA_ti (j := 3) (((hF219.2.1 234 (by decide)).trans (hF148.2.1 234 (by decide))))), IM1.cong hR_13 (eA_ti (j := 1) (((hF219.2.1 173 (by decide)).trans (hF148.2.1 173 (by decide))))) (congrArg Int32.toInt (((hF219.1 116 0 (by decide)).trans (hF148.1 116 0 (by decide))))) (eA_ti (j := 5510) (((hF219.2.1 234 (by decide)).trans (hF148.2.1 234 (by decide))))) (congrArg Int32.toInt (((hF219.1 116 12 (by decide)).trans (hF148.1 116 12 (by decide))))) (eA_ti (j := 5514) (((hF219.2.1 234 (by decide)).trans (hF148.2.1 234 (by decide))))) (congrArg Int32.toInt (((hF219.1 116 10 (by decide)).trans (hF148.1 116 10 (by decide))))) (eA_ti (j := 5515) (((hF219.2.1 234 (by decide)).trans (hF148.2.1 234 (by decide))))) (congrArg Int32.toInt (((hF219.1 116 11 (by decide)).trans (hF148.1 116 11 (by decide))))) (eA_ti (j := 5516) (((hF219.2.1 234 (by decide)).trans (hF148.2.1 234 (by decide))))) (congrArg Int32.toInt (((hF219.1 116 4 (by decide)).trans (hF148.1 116 4 (by decide))))) (eA_ti (j := 5511) (((hF219.2.1 234 (by decide)).trans (hF148.2.1 234 (by decide))))) (congrArg Int32.toInt (((hF219.1 116 6 (by decide)).trans (hF148.1 116 6 (by decide))))) (eA_ti (j := 5512) (((hF219.2.1 234 (by decide)).trans (hF148.2.1 234 (by decide))))) (congrArg Int32.toInt (((hF219.1 116 9 (by decide)).trans (hF148.1 116 9 (by decide))))) (eA_ti (j := 5513) (((hF219.2.1 234 (by decide)).trans (hF148.2.1 234 (by decide))))), (show CT _ from ⟨fun i i0 i1 => ⟨(by have t0_ := hI0.t0; have t1_ := hI0.t1; have t4_ := hI0.t4; have o := (hR_14.1 i i0 i1).1; have x := eA_ti (j := i) (((hF219.2.1 2 (by decide)).trans (hF148.2.1 2 (by decide)))); have m := q226 (10 + 3 * i) (by omega) (by omega); have y1 := eA_ti (j := ((10 + 3 * i))) (hF148.2.1 233 (by decide)); (try split at m) <;> (try split at m) <;> omega), (by have t0_ := hI0.t0; have t1_ := hI0.t1; have t4_ := hI0.t4; have o := (hR_14.1 i i0 i1).2.1; have x := eA_ti (j := i) (((hF219.2.1 3 (by decide)).trans (hF148.2.1 3 (by decide)))); have m := q226 (10 + 3 * i + 1) (by omega) (by omega); have y1 := eA_ti (j := ((10 + 3 * i + 1))) (hF148.2.1 233 (by decide)); (try split at m) <;> (try split at m) <;> omega), (by have t0_ := hI0.t0; have t1_ := hI0.t1; have t4_ := hI0.t4; have o := (hR_14.1 i i0 i1).2.2; have x := eA_ti (j := i) (((hF219.2.1 4 (by decide)).trans (hF148.2.1 4 (by decide)))); have m := q226 (10 + 3 * i + 2) (by omega) (by omega); have y1 := eA_ti (j := ((10 + 3 * i + 2))) (hF148.2.1 233 (by decide)); (try split at m) <;> (try split at m) <;> omega)⟩, fun i i0 i1 => ⟨(by have t0_ := hI0.t0; have t1_ := hI0.t1; have t4_ := hI0.t4; have o := (hR_14.2.1 i i0 i1).1; have x := (eA_ti (j := i) (hF219.2.1 14 (by decide))).trans (q155 i i0 i1); have m := q226 (94 + 2 * i) (by omega) (by omega); have y1 := eA_ti (j := ((94 + 2 * i))) (hF148.2.1 233 (by decide)); (try split at x) <;> (try split at m) <;> (try split at m) <;> omega), (by have t0_ := hI0.t0; have t1_ := hI0.t1; have t4_ := hI0.t4; have o := (hR_14.2.1 i i0 i1).2; have x := (eA_ti (j := i) (hF219.2.1 15 (by decide))).trans (q156 i i0 i1); have m := q226 (94 + 2 * i + 1) (by omega) (by omega); have y1 := eA_ti (j := ((94 + 2 * i + 1))) (hF148.2.1 233 (by decide)); (try split at x) <;> (try split at m) <;> (try split at m) <;> omega)⟩, fun i i0 i1 => (by have t0_ := hI0.t0; have t1_ := hI0.t1; have t4_ := hI0.t4; have o : i < 6 * (gI g0 1 4).toInt → _ := fun hz => hR_14.2.2 i i0 hz; have x := eA_ti (j := i) (((hF219.2.1 5 (by decide)).trans (hF148.2.1 5 (by decide)))); have m := q226 (46 + i) (by omega) (by omega); have y1 := eA_ti (j := ((46 + i))) (hF148.2.1 233 (by decide)); (try split at m) <;> (try split at m) <;> omega)⟩), CI0.cong hR_15 (((hF219.2.1 60 (by decide)).trans (hF148.2.1 60 (by decide)))) (((hF219.2.1 61 (by decide)).trans (hF148.2.1 61 (by decide)))) (((hF219.2.1 62 (by decide)).trans (hF148.2.1 62 (by decide)))) (((hF219.2.1 72 (by decide)).trans (hF148.2.1 72 (by decide)))) (((hF219.2.1 73 (by decide)).trans (hF148.2.1 73 (by decide)))) (((hF219.2.1 63 (by decide)).trans (hF148.2.1 63 (by decide)))) (((hF219.2.1 234 (by decide)).trans (hF148.2.1 234 (by decide)))) (congrArg Int32.toInt (((hF219.1 59 4 (by decide)).trans (hF148.1 59 4 (by decide))))), CI1.cong hR_16 (((hF219.2.1 117 (by decide)).trans (hF148.2.1 117 (by decide)))) (((hF219.2.1 118 (by decide)).trans (hF148.2.1 118 (by decide)))) (((hF219.2.1 119 (by decide)).trans (hF148.2.1 119 (by decide)))) (((hF219.2.1 129 (by decide)).trans (hF148.2.1 129 (by decide)))) (((hF219.2.1 130 (by decide)).trans (hF148.2.1 130 (by decide)))) (((hF219.2.1 120 (by decide)).trans (hF148.2.1 120 (by decide)))) (((hF219.2.1 234 (by decide)).trans (hF148.2.1 234 (by decide)))) (congrArg Int32.toInt (((hF219.1 116 4 (by decide)).trans (hF148.1 116 4 (by decide))))), (show RT _ from fun i i0 i1 => (eA_ti (((hF219.2.1 175 (by decide)).trans (hF148.2.1 175 (by decide))))).trans ((hR_17 i i0 (by omega)).trans (eA_ti (((hF219.2.1 236 (by decide)).trans (hF148.2.1 236 (by decide))))).symm)), (show BYX _ from fun i i0 i1 => by rw [TX.c (((hF219.2.1 175 (by decide)).trans (hF148.2.1 175 (by decide))))]; exact hR_18 i i0 (by have i2 : i < (gI _ 174 1).toInt := i1; show i < (gI g0 174 1).toInt; omega)), (LAWR_c hR_19 (LSA_tr (LSA_tr LSA_rf (LSA_fr hF148 rfl)) (LSA_fr hF219 rfl)) (((hF219.1 1 6 (by decide)).trans (hF148.1 1 6 (by decide)))) (((hF219.1 59 6 (by decide)).trans (hF148.1 59 6 (by decide)))) (((hF219.1 116 6 (by decide)).trans (hF148.1 116 6 (by decide)))) (((hF219.2.1 173 (by decide)).trans (hF148.2.1 173 (by decide)))) (fun i i0 i1 => (R3_sign hI147 q226 i i0 i1).trans (eA_ti (hF148.2.1 233 (by decide)))) (((hF219.2.1 234 (by decide)).trans (hF148.2.1 234 (by decide)))) (TOLDX_fr hF219 rfl rfl rfl rfl (TOLDX_fr hF148 rfl rfl rfl rfl hR_19.2.2.2.2))), (SETX_fr hF219 rfl rfl rfl rfl rfl (SETX_fr hF148 rfl rfl rfl rfl rfl hR_20))⟩)
  · refine r_callV 1104 rfl [.ref 0, .int v2, .int v4] [] (Nat.le_of_ble_eq_true rfl) rfl (T_X10_sign_0 _ hI0 v2 v4) ?_
    rintro _ _ ⟨g286, rfl, hI287, hF288, v289, rfl, hr290⟩
    refine At.sti ?_
    have hF291 := Fr.tr hF0 hF288 rfl rfl
    obtain ⟨q293, q294, q295, q296⟩ := hr290
    obtain ⟨i298, i299, i300, i301⟩ := q294
    have w297 := i300 ⟨pk5.1, pk5.2.1, pk5.2.2⟩
    clear i298 i299 i300 i301
    have f302 := congrArg Int32.toInt (hF288.1 1 0 rfl)
    have f303 := congrArg Int32.toInt (hF288.1 1 10 rfl)
    have f304 := congrArg Int32.toInt (hF288.1 1 11 rfl)
    have f305 := congrArg Int32.toInt (hF288.1 1 4 rfl)
    have f306 := congrArg Int32.toInt (hF288.1 1 6 rfl)
    have f307 := congrArg Int32.toInt (hF288.1 1 9 rfl)
    have f308 := congrArg Int32.toInt (hF288.1 59 0 rfl)
    have f309 := congrArg Int32.toInt (hF288.1 59 12 rfl)
    have f310 := congrArg Int32.toInt (hF288.1 59 10 rfl)
    have f311 := congrArg Int32.toInt (hF288.1 59 11 rfl)
    have f312 := congrArg Int32.toInt (hF288.1 59 4 rfl)
    have f313 := congrArg Int32.toInt (hF288.1 59 6 rfl)
    have f314 := congrArg Int32.toInt (hF288.1 59 9 rfl)
    have f315 := congrArg Int32.toInt (hF288.1 116 0 rfl)
    have f316 := congrArg Int32.toInt (hF288.1 116 12 rfl)
    have f317 := congrArg Int32.toInt (hF288.1 116 10 rfl)
    have f318 := congrArg Int32.toInt (hF288.1 116 11 rfl)
    have f319 := congrArg Int32.toInt (hF288.1 116 4 rfl)
    have f320 := congrArg Int32.toInt (hF288.1 116 6 rfl)
    have f321 := congrArg Int32.toInt (hF288.1 116 9 rfl)
    have f322 := congrArg Int32.toInt (eA_c (j := 0) (hF288.2.1 173 rfl))
    have f323 := congrArg Int32.toInt (eA_c (j := 1) (hF288.2.1 173 rfl))
    have f324 := congrArg Int32.toInt (hF288.1 174 1 rfl)
    have f325 := congrArg Int32.toInt (hF288.1 0 16 rfl)
    have f326 := congrArg Int32.toInt (hF288.1 176 2 rfl)
    have f327 := congrArg Int32.toInt (eA_c (j := 0) (hF288.2.1 233 rfl))
    have f328 := congrArg Int32.toInt (eA_c (j := 4) (hF288.2.1 233 rfl))
    have f329 := congrArg Int32.toInt (eA_c (j := 5) (hF288.2.1 233 rfl))
    have f330 := congrArg Int32.toInt (eA_c (j := 6) (hF288.2.1 233 rfl))
    have f331 := congrArg Int32.toInt (eA_c (j := 1) (hF288.2.1 233 rfl))
    have f332 := congrArg Int32.toInt (eA_c (j := 2) (hF288.2.1 233 rfl))
    have f333 := congrArg Int32.toInt (eA_c (j := 3) (hF288.2.1 233 rfl))
    have f334 := congrArg Int32.toInt (eA_c (j := 0) (hF288.2.1 234 rfl))
    have f335 := congrArg Int32.toInt (eA_c (j := 4) (hF288.2.1 234 rfl))
    have f336 := congrArg Int32.toInt (eA_c (j := 5) (hF288.2.1 234 rfl))
    have f337 := congrArg Int32.toInt (eA_c (j := 6) (hF288.2.1 234 rfl))
    have f338 := congrArg Int32.toInt (eA_c (j := 1) (hF288.2.1 234 rfl))
    have f339 := congrArg Int32.toInt (eA_c (j := 2) (hF288.2.1 234 rfl))
    have f340 := congrArg Int32.toInt (eA_c (j := 3) (hF288.2.1 234 rfl))
    have f341 := congrArg Int32.toInt (eA_c (j := 5510) (hF288.2.1 234 rfl))
    have f342 := congrArg Int32.toInt (eA_c (j := 5514) (hF288.2.1 234 rfl))
    have f343 := congrArg Int32.toInt (eA_c (j := 5515) (hF288.2.1 234 rfl))
    have f344 := congrArg Int32.toInt (eA_c (j := 5516) (hF288.2.1 234 rfl))
    have f345 := congrArg Int32.toInt (eA_c (j := 5511) (hF288.2.1 234 rfl))
    have f346 := congrArg Int32.toInt (eA_c (j := 5512) (hF288.2.1 234 rfl))
    have f347 := congrArg Int32.toInt (eA_c (j := 5513) (hF288.2.1 234 rfl))
    have f348 := congrArg Int32.toInt (eA_c (j := 0) (hF288.2.1 235 rfl))
    have f349 := congrArg Int32.toInt (eA_c (j := 1) (hF288.2.1 235 rfl))
    have f350 := congrArg Int32.toInt (hF288.1 231 8 rfl)
    have f351 := congrArg Int32.toInt (hF288.1 231 6 rfl)
    have f352 := congrArg Int32.toInt (hF288.1 231 13 rfl)
    refine At.enter rfl ?_
    refine r_pop rfl ?_
    refine r_aload_n e2 ?_
    refine r_sload_n e0 ?_
    refine r_iload_n e3 ?_
    refine r_iconst 1 rfl ?_
    refine q_iadd (i.toInt + 1) rfl hx_1 (fun v353 hv353 => ?_)
    refine q_scald (m := L) hL (i.toInt + 1) hv353 hy_1 (fun v354 hv354 => ?_)
    have sv354 := hv2.symm.trans hv354
    subst sv354
    refine r_sload_n e0 ?_
    refine r_iload_n e3 ?_
    refine r_iconst 2 rfl ?_
    refine q_iadd (i.toInt + 2) rfl hx_2 (fun v355 hv355 => ?_)
    refine q_scald (m := L) hL (i.toInt + 2) hv355 hy_2 (fun v356 hv356 => ?_)
    have sv356 := hv4.symm.trans hv356
    subst sv356
    refine r_callV 1119 rfl [.ref 231, .int v2, .int v4] [] (Nat.le_of_ble_eq_true rfl) rfl (T_X11_sign_231 _ hI287 v2 v4) ?_
    rintro _ _ ⟨g357, rfl, hI358, hF359, v360, rfl, hr361⟩
    refine At.sti ?_
    have hF362 := Fr.tr hF291 hF359 rfl rfl
    obtain ⟨q364, q365, q366⟩ := hr361
    have ek378 : (eA g286 233 0).toInt = (gI g0 1 0).toInt := (eA_ti (j := 0) (hF288.2.1 233 (by decide))).trans hR_0.symm
    have ek379 : (eA g286 233 1).toInt = (gI g0 1 4).toInt := (eA_ti (j := 1) (hF288.2.1 233 (by decide))).trans hR_4.symm
    have ek380 : (eA g286 233 4).toInt = (gI g0 1 12).toInt := (eA_ti (j := 4) (hF288.2.1 233 (by decide))).trans hR_1.symm
    obtain ⟨⟨i368, i369, i370, i371⟩, sm372, sm373, sm374, sm375, sm376, sm377⟩ := q365
    have w367 := i370 ⟨pk5.1, (by rw [ek378]; exact pk5.2.1), (by rw [ek380]; exact pk5.2.2)⟩
    clear i368 i369 i370 i371
    have f381 := congrArg Int32.toInt (hF359.1 1 0 rfl)
    have f382 := congrArg Int32.toInt (hF359.1 1 12 rfl)
    have f383 := congrArg Int32.toInt (hF359.1 1 10 rfl)
    have f384 := congrArg Int32.toInt (hF359.1 1 11 rfl)
    have f385 := congrArg Int32.toInt (hF359.1 1 4 rfl)
    have f386 := congrArg Int32.toInt (hF359.1 1 6 rfl)
    have f387 := congrArg Int32.toInt (hF359.1 1 9 rfl)
    have f388 := congrArg Int32.toInt (hF359.1 59 0 rfl)
    have f389 := congrArg Int32.toInt (hF359.1 59 12 rfl)
    have f390 := congrArg Int32.toInt (hF359.1 59 10 rfl)
    have f391 := congrArg Int32.toInt (hF359.1 59 11 rfl)
    have f392 := congrArg Int32.toInt (hF359.1 59 4 rfl)
    have f393 := congrArg Int32.toInt (hF359.1 59 6 rfl)
    have f394 := congrArg Int32.toInt (hF359.1 59 9 rfl)
    have f395 := congrArg Int32.toInt (hF359.1 116 0 rfl)
    have f396 := congrArg Int32.toInt (hF359.1 116 12 rfl)
    have f397 := congrArg Int32.toInt (hF359.1 116 10 rfl)
    have f398 := congrArg Int32.toInt (hF359.1 116 11 rfl)
    have f399 := congrArg Int32.toInt (hF359.1 116 4 rfl)
    have f400 := congrArg Int32.toInt (hF359.1 116 6 rfl)
    have f401 := congrArg Int32.toInt (hF359.1 116 9 rfl)
    have f402 := congrArg Int32.toInt (eA_c (j := 0) (hF359.2.1 173 rfl))
    have f403 := congrArg Int32.toInt (eA_c (j := 1) (hF359.2.1 173 rfl))
    have f404 := congrArg Int32.toInt (hF359.1 174 1 rfl)
    have f405 := congrArg Int32.toInt (hF359.1 0 16 rfl)
    have f406 := congrArg Int32.toInt (hF359.1 176 2 rfl)
    have f407 := congrArg Int32.toInt (eA_c (j := 0) (hF359.2.1 234 rfl))
    have f408 := congrArg Int32.toInt (eA_c (j := 4) (hF359.2.1 234 rfl))
    have f409 := congrArg Int32.toInt (eA_c (j := 5) (hF359.2.1 234 rfl))
    have f410 := congrArg Int32.toInt (eA_c (j := 6) (hF359.2.1 234 rfl))
    have f411 := congrArg Int32.toInt (eA_c (j := 1) (hF359.2.1 234 rfl))
    have f412 := congrArg Int32.toInt (eA_c (j := 2) (hF359.2.1 234 rfl))
    have f413 := congrArg Int32.toInt (eA_c (j := 3) (hF359.2.1 234 rfl))
    have f414 := congrArg Int32.toInt (eA_c (j := 5510) (hF359.2.1 234 rfl))
    have f415 := congrArg Int32.toInt (eA_c (j := 5514) (hF359.2.1 234 rfl))
    have f416 := congrArg Int32.toInt (eA_c (j := 5515) (hF359.2.1 234 rfl))
    have f417 := congrArg Int32.toInt (eA_c (j := 5516) (hF359.2.1 234 rfl))
    have f418 := congrArg Int32.toInt (eA_c (j := 5511) (hF359.2.1 234 rfl))
    have f419 := congrArg Int32.toInt (eA_c (j := 5512) (hF359.2.1 234 rfl))
    have f420 := congrArg Int32.toInt (eA_c (j := 5513) (hF359.2.1 234 rfl))
    have f421 := congrArg Int32.toInt (eA_c (j := 0) (hF359.2.1 235 rfl))
    have f422 := congrArg Int32.toInt (eA_c (j := 1) (hF359.2.1 235 rfl))
    have f423 := congrArg Int32.toInt (hF359.1 231 8 rfl)
    have f424 := congrArg Int32.toInt (hF359.1 231 6 rfl)
    have f425 := congrArg Int32.toInt (hF359.1 231 13 rfl)
    refine At.enter rfl ?_
    refine r_pop rfl ?_
    refine r_goto ?_
    exact K _ hI358 (show LwR _ from ⟨by omega, by omega, by omega, by omega, by omega, by omega, by omega, (eA_ti (j := 0) (((hF359.2.1 173 (by decide)).trans (hF288.2.1 173 (by decide))))).trans (hR_7.trans (eA_ti (j := 0) (((hF359.2.1 235 (by decide)).trans (hF288.2.1 235 (by decide))))).symm), (eA_ti (j := 1) (((hF359.2.1 173 (by decide)).trans (hF288.2.1 173 (by decide))))).trans (hR_8.trans (eA_ti (j := 1) (((hF359.2.1 235 (by decide)).trans (hF288.2.1 235 (by decide))))).symm), (congrArg Int32.toInt (((hF359.1 174 1 (by decide)).trans (hF288.1 174 1 (by decide))))).trans (hR_9.trans (congrArg Int32.toInt (((hF359.1 231 8 (by decide)).trans (hF288.1 231 8 (by decide))))).symm), (congrArg Int32.toInt (((hF359.1 0 16 (by decide)).trans (hF288.1 0 16 (by decide))))).trans (hR_10.trans (congrArg Int32.toInt (((hF359.1 231 6 (by decide)).trans (hF288.1 231 6 (by decide))))).symm), (congrArg Int32.toInt (((hF359.1 176 2 (by decide)).trans (hF288.1 176 2 (by decide))))).trans (hR_11.trans (congrArg Int32.toInt (((hF359.1 231 13 (by decide)).trans (hF288.1 231 13 (by decide))))).symm), IM0.cong hR_12 (eA_ti (j := 0) (((hF359.2.1 173 (by decide)).trans (hF288.2.1 173 (by decide))))) (congrArg Int32.toInt (((hF359.1 59 0 (by decide)).trans (hF288.1 59 0 (by decide))))) (eA_ti (j := 0) (((hF359.2.1 234 (by decide)).trans (hF288.2.1 234 (by decide))))) (congrArg Int32.toInt (((hF359.1 59 12 (by decide)).trans (hF288.1 59 12 (by decide))))) (eA_ti (j := 4) (((hF359.2.1 234 (by decide)).trans (hF288.2.1 234 (by decide))))) (congrArg Int32.toInt (((hF359.1 59 10 (by decide)).trans (hF288.1 59 10 (by decide))))) (eA_ti (j := 5) (((hF359.2.1 234 (by decide)).trans (hF288.2.1 234 (by decide))))) (congrArg Int32.toInt (((hF359.1 59 11 (by decide)).trans (hF288.1 59 11 (by decide))))) (eA_ti (j := 6) (((hF359.2.1 234 (by decide)).trans (hF288.2.1 234 (by decide))))) (congrArg Int32.toInt (((hF359.1 59 4 (by decide)).trans (hF288.1 59 4 (by decide))))) (eA_ti (j := 1) (((hF359.2.1 234 (by decide)).trans (hF288.2.1 234 (by decide))))) (congrArg Int32.toInt (((hF359.1 59 6 (by decide)).trans (hF288.1 59 6 (by decide))))) (eA_ti (j := 2) (((hF359.2.1 234 (by decide)).trans (hF288.2.1 234 (by decide))))) (congrArg Int32.toInt (((hF359.1 59 9 (by decide)).trans (hF288.1 59 9 (by decide))))) (eA_ti (j := 3) (((hF359.2.1 234 (by decide)).trans (hF288.2.1 234 (by decide))))), IM1.cong hR_13 (eA_ti (j := 1) (((hF359.2.1 173 (by decide)).trans (hF288.2.1 173 (by decide))))) (congrArg Int32.toInt (((hF359.1 116 0 (by decide)).trans (hF288.1 116 0 (by decide))))) (eA_ti (j := 5510) (((hF359.2.1 234 (by decide)).trans (hF288.2.1 234 (by decide))))) (congrArg Int32.toInt (((hF359.1 116 12 (by decide)).trans (hF288.1 116 12 (by decide))))) (eA_ti (j := 5514) (((hF359.2.1 234 (by decide)).trans (hF288.2.1 234 (by decide))))) (congrArg Int32.toInt (((hF359.1 116 10 (by decide)).trans (hF288.1 116 10 (by decide))))) (eA_ti (j := 5515) (((hF359.2.1 234 (by decide)).trans (hF288.2.1 234 (by decide))))) (congrArg Int32.toInt (((hF359.1 116 11 (by decide)).trans (hF288.1 116 11 (by decide))))) (eA_ti (j := 5516) (((hF359.2.1 234 (by decide)).trans (hF288.2.1 234 (by decide))))) (congrArg Int32.toInt (((hF359.1 116 4 (by decide)).trans (hF288.1 116 4 (by decide))))) (eA_ti (j := 5511) (((hF359.2.1 234 (by decide)).trans (hF288.2.1 234 (by decide))))) (congrArg Int32.toInt (((hF359.1 116 6 (by decide)).trans (hF288.1 116 6 (by decide))))) (eA_ti (j := 5512) (((hF359.2.1 234 (by decide)).trans (hF288.2.1 234 (by decide))))) (congrArg Int32.toInt (((hF359.1 116 9 (by decide)).trans (hF288.1 116 9 (by decide))))) (eA_ti (j := 5513) (((hF359.2.1 234 (by decide)).trans (hF288.2.1 234 (by decide))))), (show CT _ from ⟨fun i i0 i1 => ⟨(by have t0_ := hI0.t0; have t1_ := hI0.t1; have t4_ := hI0.t4; have o := (hR_14.1 i i0 i1).1; have x := eA_ti (j := i) (((hF359.2.1 2 (by decide)).trans (hF288.2.1 2 (by decide)))); have m := q366 (10 + 3 * i) (by omega) (by omega); have y1 := eA_ti (j := ((10 + 3 * i))) (hF288.2.1 233 (by decide)); (try split at m) <;> (try split at m) <;> omega), (by have t0_ := hI0.t0; have t1_ := hI0.t1; have t4_ := hI0.t4; have o := (hR_14.1 i i0 i1).2.1; have x := eA_ti (j := i) (((hF359.2.1 3 (by decide)).trans (hF288.2.1 3 (by decide)))); have m := q366 (10 + 3 * i + 1) (by omega) (by omega); have y1 := eA_ti (j := ((10 + 3 * i + 1))) (hF288.2.1 233 (by decide)); (try split at m) <;> (try split at m) <;> omega), (by have t0_ := hI0.t0; have t1_ := hI0.t1; have t4_ := hI0.t4; have o := (hR_14.1 i i0 i1).2.2; have x := eA_ti (j := i) (((hF359.2.1 4 (by decide)).trans (hF288.2.1 4 (by decide)))); have m := q366 (10 + 3 * i + 2) (by omega) (by omega); have y1 := eA_ti (j := ((10 + 3 * i + 2))) (hF288.2.1 233 (by decide)); (try split at m) <;> (try split at m) <;> omega)⟩, fun i i0 i1 => ⟨(by have t0_ := hI0.t0; have t1_ := hI0.t1; have t4_ := hI0.t4; have o := (hR_14.2.1 i i0 i1).1; have x := (eA_ti (j := i) (hF359.2.1 14 (by decide))).trans (q295 i i0 i1); have m := q366 (94 + 2 * i) (by omega) (by omega); have y1 := eA_ti (j := ((94 + 2 * i))) (hF288.2.1 233 (by decide)); (try split at x) <;> (try split at m) <;> (try split at m) <;> omega), (by have t0_ := hI0.t0; have t1_ := hI0.t1; have t4_ := hI0.t4; have o := (hR_14.2.1 i i0 i1).2; have x := (eA_ti (j := i) (hF359.2.1 15 (by decide))).trans (q296 i i0 i1); have m := q366 (94 + 2 * i + 1) (by omega) (by omega); have y1 := eA_ti (j := ((94 + 2 * i + 1))) (hF288.2.1 233 (by decide)); (try split at x) <;> (try split at m) <;> (try split at m) <;> omega)⟩, fun i i0 i1 => (by have t0_ := hI0.t0; have t1_ := hI0.t1; have t4_ := hI0.t4; have o : i < 6 * (gI g0 1 4).toInt → _ := fun hz => hR_14.2.2 i i0 hz; have x := eA_ti (j := i) (((hF359.2.1 5 (by decide)).trans (hF288.2.1 5 (by decide)))); have m := q366 (46 + i) (by omega) (by omega); have y1 := eA_ti (j := ((46 + i))) (hF288.2.1 233 (by decide)); (try split at m) <;> (try split at m) <;> omega)⟩), CI0.cong hR_15 (((hF359.2.1 60 (by decide)).trans (hF288.2.1 60 (by decide)))) (((hF359.2.1 61 (by decide)).trans (hF288.2.1 61 (by decide)))) (((hF359.2.1 62 (by decide)).trans (hF288.2.1 62 (by decide)))) (((hF359.2.1 72 (by decide)).trans (hF288.2.1 72 (by decide)))) (((hF359.2.1 73 (by decide)).trans (hF288.2.1 73 (by decide)))) (((hF359.2.1 63 (by decide)).trans (hF288.2.1 63 (by decide)))) (((hF359.2.1 234 (by decide)).trans (hF288.2.1 234 (by decide)))) (congrArg Int32.toInt (((hF359.1 59 4 (by decide)).trans (hF288.1 59 4 (by decide))))), CI1.cong hR_16 (((hF359.2.1 117 (by decide)).trans (hF288.2.1 117 (by decide)))) (((hF359.2.1 118 (by decide)).trans (hF288.2.1 118 (by decide)))) (((hF359.2.1 119 (by decide)).trans (hF288.2.1 119 (by decide)))) (((hF359.2.1 129 (by decide)).trans (hF288.2.1 129 (by decide)))) (((hF359.2.1 130 (by decide)).trans (hF288.2.1 130 (by decide)))) (((hF359.2.1 120 (by decide)).trans (hF288.2.1 120 (by decide)))) (((hF359.2.1 234 (by decide)).trans (hF288.2.1 234 (by decide)))) (congrArg Int32.toInt (((hF359.1 116 4 (by decide)).trans (hF288.1 116 4 (by decide))))), (show RT _ from fun i i0 i1 => (eA_ti (((hF359.2.1 175 (by decide)).trans (hF288.2.1 175 (by decide))))).trans ((hR_17 i i0 (by omega)).trans (eA_ti (((hF359.2.1 236 (by decide)).trans (hF288.2.1 236 (by decide))))).symm)), (show BYX _ from fun i i0 i1 => by rw [TX.c (((hF359.2.1 175 (by decide)).trans (hF288.2.1 175 (by decide))))]; exact hR_18 i i0 (by have i2 : i < (gI _ 174 1).toInt := i1; show i < (gI g0 174 1).toInt; omega)), (LAWR_c hR_19 (LSA_tr (LSA_tr LSA_rf (LSA_fr hF288 rfl)) (LSA_fr hF359 rfl)) (((hF359.1 1 6 (by decide)).trans (hF288.1 1 6 (by decide)))) (((hF359.1 59 6 (by decide)).trans (hF288.1 59 6 (by decide)))) (((hF359.1 116 6 (by decide)).trans (hF288.1 116 6 (by decide)))) (((hF359.2.1 173 (by decide)).trans (hF288.2.1 173 (by decide)))) (fun i i0 i1 => (R3_sign hI287 q366 i i0 i1).trans (eA_ti (hF288.2.1 233 (by decide)))) (((hF359.2.1 234 (by decide)).trans (hF288.2.1 234 (by decide)))) (TOLDX_fr hF359 rfl rfl rfl rfl (TOLDX_fr hF288 rfl rfl rfl rfl hR_19.2.2.2.2))), (SETX_fr hF359 rfl rfl rfl rfl rfl (SETX_fr hF288 rfl rfl rfl rfl rfl hR_20))⟩)
  · refine r_callV 1104 rfl [.ref 0, .int v2, .int v4] [] (Nat.le_of_ble_eq_true rfl) rfl (T_X10_sign_0 _ hI0 v2 v4) ?_
    rintro _ _ ⟨g426, rfl, hI427, hF428, v429, rfl, hr430⟩
    refine At.sti ?_
    have hF431 := Fr.tr hF0 hF428 rfl rfl
    obtain ⟨q433, q434, q435, q436⟩ := hr430
    obtain ⟨i438, i439, i440, i441⟩ := q434
    have w437 := i441 ⟨pk5.1, pk5.2.1, Int.not_le.mp pk5.2.2⟩
    clear i438 i439 i440 i441
    have f442 := congrArg Int32.toInt (hF428.1 1 0 rfl)
    have f443 := congrArg Int32.toInt (hF428.1 1 10 rfl)
    have f444 := congrArg Int32.toInt (hF428.1 1 11 rfl)
    have f445 := congrArg Int32.toInt (hF428.1 1 4 rfl)
    have f446 := congrArg Int32.toInt (hF428.1 1 6 rfl)
    have f447 := congrArg Int32.toInt (hF428.1 1 9 rfl)
    have f448 := congrArg Int32.toInt (hF428.1 59 0 rfl)
    have f449 := congrArg Int32.toInt (hF428.1 59 12 rfl)
    have f450 := congrArg Int32.toInt (hF428.1 59 10 rfl)
    have f451 := congrArg Int32.toInt (hF428.1 59 11 rfl)
    have f452 := congrArg Int32.toInt (hF428.1 59 4 rfl)
    have f453 := congrArg Int32.toInt (hF428.1 59 6 rfl)
    have f454 := congrArg Int32.toInt (hF428.1 59 9 rfl)
    have f455 := congrArg Int32.toInt (hF428.1 116 0 rfl)
    have f456 := congrArg Int32.toInt (hF428.1 116 12 rfl)
    have f457 := congrArg Int32.toInt (hF428.1 116 10 rfl)
    have f458 := congrArg Int32.toInt (hF428.1 116 11 rfl)
    have f459 := congrArg Int32.toInt (hF428.1 116 4 rfl)
    have f460 := congrArg Int32.toInt (hF428.1 116 6 rfl)
    have f461 := congrArg Int32.toInt (hF428.1 116 9 rfl)
    have f462 := congrArg Int32.toInt (eA_c (j := 0) (hF428.2.1 173 rfl))
    have f463 := congrArg Int32.toInt (eA_c (j := 1) (hF428.2.1 173 rfl))
    have f464 := congrArg Int32.toInt (hF428.1 174 1 rfl)
    have f465 := congrArg Int32.toInt (hF428.1 0 16 rfl)
    have f466 := congrArg Int32.toInt (hF428.1 176 2 rfl)
    have f467 := congrArg Int32.toInt (eA_c (j := 0) (hF428.2.1 233 rfl))
    have f468 := congrArg Int32.toInt (eA_c (j := 4) (hF428.2.1 233 rfl))
    have f469 := congrArg Int32.toInt (eA_c (j := 5) (hF428.2.1 233 rfl))
    have f470 := congrArg Int32.toInt (eA_c (j := 6) (hF428.2.1 233 rfl))
    have f471 := congrArg Int32.toInt (eA_c (j := 1) (hF428.2.1 233 rfl))
    have f472 := congrArg Int32.toInt (eA_c (j := 2) (hF428.2.1 233 rfl))
    have f473 := congrArg Int32.toInt (eA_c (j := 3) (hF428.2.1 233 rfl))
    have f474 := congrArg Int32.toInt (eA_c (j := 0) (hF428.2.1 234 rfl))
    have f475 := congrArg Int32.toInt (eA_c (j := 4) (hF428.2.1 234 rfl))
    have f476 := congrArg Int32.toInt (eA_c (j := 5) (hF428.2.1 234 rfl))
    have f477 := congrArg Int32.toInt (eA_c (j := 6) (hF428.2.1 234 rfl))
    have f478 := congrArg Int32.toInt (eA_c (j := 1) (hF428.2.1 234 rfl))
    have f479 := congrArg Int32.toInt (eA_c (j := 2) (hF428.2.1 234 rfl))
    have f480 := congrArg Int32.toInt (eA_c (j := 3) (hF428.2.1 234 rfl))
    have f481 := congrArg Int32.toInt (eA_c (j := 5510) (hF428.2.1 234 rfl))
    have f482 := congrArg Int32.toInt (eA_c (j := 5514) (hF428.2.1 234 rfl))
    have f483 := congrArg Int32.toInt (eA_c (j := 5515) (hF428.2.1 234 rfl))
    have f484 := congrArg Int32.toInt (eA_c (j := 5516) (hF428.2.1 234 rfl))
    have f485 := congrArg Int32.toInt (eA_c (j := 5511) (hF428.2.1 234 rfl))
    have f486 := congrArg Int32.toInt (eA_c (j := 5512) (hF428.2.1 234 rfl))
    have f487 := congrArg Int32.toInt (eA_c (j := 5513) (hF428.2.1 234 rfl))
    have f488 := congrArg Int32.toInt (eA_c (j := 0) (hF428.2.1 235 rfl))
    have f489 := congrArg Int32.toInt (eA_c (j := 1) (hF428.2.1 235 rfl))
    have f490 := congrArg Int32.toInt (hF428.1 231 8 rfl)
    have f491 := congrArg Int32.toInt (hF428.1 231 6 rfl)
    have f492 := congrArg Int32.toInt (hF428.1 231 13 rfl)
    refine At.enter rfl ?_
    refine r_pop rfl ?_
    refine r_aload_n e2 ?_
    refine r_sload_n e0 ?_
    refine r_iload_n e3 ?_
    refine r_iconst 1 rfl ?_
    refine q_iadd (i.toInt + 1) rfl hx_1 (fun v493 hv493 => ?_)
    refine q_scald (m := L) hL (i.toInt + 1) hv493 hy_1 (fun v494 hv494 => ?_)
    have sv494 := hv2.symm.trans hv494
    subst sv494
    refine r_sload_n e0 ?_
    refine r_iload_n e3 ?_
    refine r_iconst 2 rfl ?_
    refine q_iadd (i.toInt + 2) rfl hx_2 (fun v495 hv495 => ?_)
    refine q_scald (m := L) hL (i.toInt + 2) hv495 hy_2 (fun v496 hv496 => ?_)
    have sv496 := hv4.symm.trans hv496
    subst sv496
    refine r_callV 1119 rfl [.ref 231, .int v2, .int v4] [] (Nat.le_of_ble_eq_true rfl) rfl (T_X11_sign_231 _ hI427 v2 v4) ?_
    rintro _ _ ⟨g497, rfl, hI498, hF499, v500, rfl, hr501⟩
    refine At.sti ?_
    have hF502 := Fr.tr hF431 hF499 rfl rfl
    obtain ⟨q504, q505, q506⟩ := hr501
    have ek518 : (eA g426 233 0).toInt = (gI g0 1 0).toInt := (eA_ti (j := 0) (hF428.2.1 233 (by decide))).trans hR_0.symm
    have ek519 : (eA g426 233 1).toInt = (gI g0 1 4).toInt := (eA_ti (j := 1) (hF428.2.1 233 (by decide))).trans hR_4.symm
    have ek520 : (eA g426 233 4).toInt = (gI g0 1 12).toInt := (eA_ti (j := 4) (hF428.2.1 233 (by decide))).trans hR_1.symm
    obtain ⟨⟨i508, i509, i510, i511⟩, sm512, sm513, sm514, sm515, sm516, sm517⟩ := q505
    have w507 := i511 ⟨pk5.1, (by rw [ek518]; exact pk5.2.1), Int.not_le.mp (by rw [ek520]; exact pk5.2.2)⟩
    clear i508 i509 i510 i511
    have f521 := congrArg Int32.toInt (hF499.1 1 0 rfl)
    have f522 := congrArg Int32.toInt (hF499.1 1 12 rfl)
    have f523 := congrArg Int32.toInt (hF499.1 1 10 rfl)
    have f524 := congrArg Int32.toInt (hF499.1 1 11 rfl)
    have f525 := congrArg Int32.toInt (hF499.1 1 4 rfl)
    have f526 := congrArg Int32.toInt (hF499.1 1 6 rfl)
    have f527 := congrArg Int32.toInt (hF499.1 1 9 rfl)
    have f528 := congrArg Int32.toInt (hF499.1 59 0 rfl)
    have f529 := congrArg Int32.toInt (hF499.1 59 12 rfl)
    have f530 := congrArg Int32.toInt (hF499.1 59 10 rfl)
    have f531 := congrArg Int32.toInt (hF499.1 59 11 rfl)
    have f532 := congrArg Int32.toInt (hF499.1 59 4 rfl)
    have f533 := congrArg Int32.toInt (hF499.1 59 6 rfl)
    have f534 := congrArg Int32.toInt (hF499.1 59 9 rfl)
    have f535 := congrArg Int32.toInt (hF499.1 116 0 rfl)
    have f536 := congrArg Int32.toInt (hF499.1 116 12 rfl)
    have f537 := congrArg Int32.toInt (hF499.1 116 10 rfl)
    have f538 := congrArg Int32.toInt (hF499.1 116 11 rfl)
    have f539 := congrArg Int32.toInt (hF499.1 116 4 rfl)
    have f540 := congrArg Int32.toInt (hF499.1 116 6 rfl)
    have f541 := congrArg Int32.toInt (hF499.1 116 9 rfl)
    have f542 := congrArg Int32.toInt (eA_c (j := 0) (hF499.2.1 173 rfl))
    have f543 := congrArg Int32.toInt (eA_c (j := 1) (hF499.2.1 173 rfl))
    have f544 := congrArg Int32.toInt (hF499.1 174 1 rfl)
    have f545 := congrArg Int32.toInt (hF499.1 0 16 rfl)
    have f546 := congrArg Int32.toInt (hF499.1 176 2 rfl)
    have f547 := congrArg Int32.toInt (eA_c (j := 0) (hF499.2.1 234 rfl))
    have f548 := congrArg Int32.toInt (eA_c (j := 4) (hF499.2.1 234 rfl))
    have f549 := congrArg Int32.toInt (eA_c (j := 5) (hF499.2.1 234 rfl))
    have f550 := congrArg Int32.toInt (eA_c (j := 6) (hF499.2.1 234 rfl))
    have f551 := congrArg Int32.toInt (eA_c (j := 1) (hF499.2.1 234 rfl))
    have f552 := congrArg Int32.toInt (eA_c (j := 2) (hF499.2.1 234 rfl))
    have f553 := congrArg Int32.toInt (eA_c (j := 3) (hF499.2.1 234 rfl))
    have f554 := congrArg Int32.toInt (eA_c (j := 5510) (hF499.2.1 234 rfl))
    have f555 := congrArg Int32.toInt (eA_c (j := 5514) (hF499.2.1 234 rfl))
    have f556 := congrArg Int32.toInt (eA_c (j := 5515) (hF499.2.1 234 rfl))
    have f557 := congrArg Int32.toInt (eA_c (j := 5516) (hF499.2.1 234 rfl))
    have f558 := congrArg Int32.toInt (eA_c (j := 5511) (hF499.2.1 234 rfl))
    have f559 := congrArg Int32.toInt (eA_c (j := 5512) (hF499.2.1 234 rfl))
    have f560 := congrArg Int32.toInt (eA_c (j := 5513) (hF499.2.1 234 rfl))
    have f561 := congrArg Int32.toInt (eA_c (j := 0) (hF499.2.1 235 rfl))
    have f562 := congrArg Int32.toInt (eA_c (j := 1) (hF499.2.1 235 rfl))
    have f563 := congrArg Int32.toInt (hF499.1 231 8 rfl)
    have f564 := congrArg Int32.toInt (hF499.1 231 6 rfl)
    have f565 := congrArg Int32.toInt (hF499.1 231 13 rfl)
    refine At.enter rfl ?_
    refine r_pop rfl ?_
    refine r_goto ?_
    exact K _ hI498 (show LwR _ from ⟨by omega, by omega, by omega, by omega, by omega, by omega, by omega, (eA_ti (j := 0) (((hF499.2.1 173 (by decide)).trans (hF428.2.1 173 (by decide))))).trans (hR_7.trans (eA_ti (j := 0) (((hF499.2.1 235 (by decide)).trans (hF428.2.1 235 (by decide))))).symm), (eA_ti (j := 1) (((hF499.2.1 173 (by decide)).trans (hF428.2.1 173 (by decide))))).trans (hR_8.trans (eA_ti (j := 1) (((hF499.2.1 235 (by decide)).trans (hF428.2.1 235 (by decide))))).symm), (congrArg Int32.toInt (((hF499.1 174 1 (by decide)).trans (hF428.1 174 1 (by decide))))).trans (hR_9.trans (congrArg Int32.toInt (((hF499.1 231 8 (by decide)).trans (hF428.1 231 8 (by decide))))).symm), (congrArg Int32.toInt (((hF499.1 0 16 (by decide)).trans (hF428.1 0 16 (by decide))))).trans (hR_10.trans (congrArg Int32.toInt (((hF499.1 231 6 (by decide)).trans (hF428.1 231 6 (by decide))))).symm), (congrArg Int32.toInt (((hF499.1 176 2 (by decide)).trans (hF428.1 176 2 (by decide))))).trans (hR_11.trans (congrArg Int32.toInt (((hF499.1 231 13 (by decide)).trans (hF428.1 231 13 (by decide))))).symm), IM0.cong hR_12 (eA_ti (j := 0) (((hF499.2.1 173 (by decide)).trans (hF428.2.1 173 (by decide))))) (congrArg Int32.toInt (((hF499.1 59 0 (by decide)).trans (hF428.1 59 0 (by decide))))) (eA_ti (j := 0) (((hF499.2.1 234 (by decide)).trans (hF428.2.1 234 (by decide))))) (congrArg Int32.toInt (((hF499.1 59 12 (by decide)).trans (hF428.1 59 12 (by decide))))) (eA_ti (j := 4) (((hF499.2.1 234 (by decide)).trans (hF428.2.1 234 (by decide))))) (congrArg Int32.toInt (((hF499.1 59 10 (by decide)).trans (hF428.1 59 10 (by decide))))) (eA_ti (j := 5) (((hF499.2.1 234 (by decide)).trans (hF428.2.1 234 (by decide))))) (congrArg Int32.toInt (((hF499.1 59 11 (by decide)).trans (hF428.1 59 11 (by decide))))) (eA_ti (j := 6) (((hF499.2.1 234 (by decide)).trans (hF428.2.1 234 (by decide))))) (congrArg Int32.toInt (((hF499.1 59 4 (by decide)).trans (hF428.1 59 4 (by decide))))) (eA_ti (j := 1) (((hF499.2.1 234 (by decide)).trans (hF428.2.1 234 (by decide))))) (congrArg Int32.toInt (((hF499.1 59 6 (by decide)).trans (hF428.1 59 6 (by decide))))) (eA_ti (j := 2) (((hF499.2.1 234 (by decide)).trans (hF428.2.1 234 (by decide))))) (congrArg Int32.toInt (((hF499.1 59 9 (by decide)).trans (hF428.1 59 9 (by decide))))) (eA_ti (j := 3) (((hF499.2.1 234 (by decide)).trans (hF428.2.1 234 (by decide))))), IM1.cong hR_13 (eA_ti (j := 1) (((hF499.2.1 173 (by decide)).trans (hF428.2.1 173 (by decide))))) (congrArg Int32.toInt (((hF499.1 116 0 (by decide)).trans (hF428.1 116 0 (by decide))))) (eA_ti (j := 5510) (((hF499.2.1 234 (by decide)).trans (hF428.2.1 234 (by decide))))) (congrArg Int32.toInt (((hF499.1 116 12 (by decide)).trans (hF428.1 116 12 (by decide))))) (eA_ti (j := 5514) (((hF499.2.1 234 (by decide)).trans (hF428.2.1 234 (by decide))))) (congrArg Int32.toInt (((hF499.1 116 10 (by decide)).trans (hF428.1 116 10 (by decide))))) (eA_ti (j := 5515) (((hF499.2.1 234 (by decide)).trans (hF428.2.1 234 (by decide))))) (congrArg Int32.toInt (((hF499.1 116 11 (by decide)).trans (hF428.1 116 11 (by decide))))) (eA_ti (j := 5516) (((hF499.2.1 234 (by decide)).trans (hF428.2.1 234 (by decide))))) (congrArg Int32.toInt (((hF499.1 116 4 (by decide)).trans (hF428.1 116 4 (by decide))))) (eA_ti (j := 5511) (((hF499.2.1 234 (by decide)).trans (hF428.2.1 234 (by decide))))) (congrArg Int32.toInt (((hF499.1 116 6 (by decide)).trans (hF428.1 116 6 (by decide))))) (eA_ti (j := 5512) (((hF499.2.1 234 (by decide)).trans (hF428.2.1 234 (by decide))))) (congrArg Int32.toInt (((hF499.1 116 9 (by decide)).trans (hF428.1 116 9 (by decide))))) (eA_ti (j := 5513) (((hF499.2.1 234 (by decide)).trans (hF428.2.1 234 (by decide))))), (show CT _ from ⟨fun i i0 i1 => ⟨(by have t0_ := hI0.t0; have t1_ := hI0.t1; have t4_ := hI0.t4; have o := (hR_14.1 i i0 i1).1; have x := eA_ti (j := i) (((hF499.2.1 2 (by decide)).trans (hF428.2.1 2 (by decide)))); have m := q506 (10 + 3 * i) (by omega) (by omega); have y1 := eA_ti (j := ((10 + 3 * i))) (hF428.2.1 233 (by decide)); (try split at m) <;> (try split at m) <;> omega), (by have t0_ := hI0.t0; have t1_ := hI0.t1; have t4_ := hI0.t4; have o := (hR_14.1 i i0 i1).2.1; have x := eA_ti (j := i) (((hF499.2.1 3 (by decide)).trans (hF428.2.1 3 (by decide)))); have m := q506 (10 + 3 * i + 1) (by omega) (by omega); have y1 := eA_ti (j := ((10 + 3 * i + 1))) (hF428.2.1 233 (by decide)); (try split at m) <;> (try split at m) <;> omega), (by have t0_ := hI0.t0; have t1_ := hI0.t1; have t4_ := hI0.t4; have o := (hR_14.1 i i0 i1).2.2; have x := eA_ti (j := i) (((hF499.2.1 4 (by decide)).trans (hF428.2.1 4 (by decide)))); have m := q506 (10 + 3 * i + 2) (by omega) (by omega); have y1 := eA_ti (j := ((10 + 3 * i + 2))) (hF428.2.1 233 (by decide)); (try split at m) <;> (try split at m) <;> omega)⟩, fun i i0 i1 => ⟨(by have t0_ := hI0.t0; have t1_ := hI0.t1; have t4_ := hI0.t4; have o := (hR_14.2.1 i i0 i1).1; have x := (eA_ti (j := i) (hF499.2.1 14 (by decide))).trans (q435 i i0 i1); have m := q506 (94 + 2 * i) (by omega) (by omega); have y1 := eA_ti (j := ((94 + 2 * i))) (hF428.2.1 233 (by decide)); (try split at x) <;> (try split at m) <;> (try split at m) <;> omega), (by have t0_ := hI0.t0; have t1_ := hI0.t1; have t4_ := hI0.t4; have o := (hR_14.2.1 i i0 i1).2; have x := (eA_ti (j := i) (hF499.2.1 15 (by decide))).trans (q436 i i0 i1); have m := q506 (94 + 2 * i + 1) (by omega) (by omega); have y1 := eA_ti (j := ((94 + 2 * i + 1))) (hF428.2.1 233 (by decide)); (try split at x) <;> (try split at m) <;> (try split at m) <;> omega)⟩, fun i i0 i1 => (by have t0_ := hI0.t0; have t1_ := hI0.t1; have t4_ := hI0.t4; have o : i < 6 * (gI g0 1 4).toInt → _ := fun hz => hR_14.2.2 i i0 hz; have x := eA_ti (j := i) (((hF499.2.1 5 (by decide)).trans (hF428.2.1 5 (by decide)))); have m := q506 (46 + i) (by omega) (by omega); have y1 := eA_ti (j := ((46 + i))) (hF428.2.1 233 (by decide)); (try split at m) <;> (try split at m) <;> omega)⟩), CI0.cong hR_15 (((hF499.2.1 60 (by decide)).trans (hF428.2.1 60 (by decide)))) (((hF499.2.1 61 (by decide)).trans (hF428.2.1 61 (by decide)))) (((hF499.2.1 62 (by decide)).trans (hF428.2.1 62 (by decide)))) (((hF499.2.1 72 (by decide)).trans (hF428.2.1 72 (by decide)))) (((hF499.2.1 73 (by decide)).trans (hF428.2.1 73 (by decide)))) (((hF499.2.1 63 (by decide)).trans (hF428.2.1 63 (by decide)))) (((hF499.2.1 234 (by decide)).trans (hF428.2.1 234 (by decide)))) (congrArg Int32.toInt (((hF499.1 59 4 (by decide)).trans (hF428.1 59 4 (by decide))))), CI1.cong hR_16 (((hF499.2.1 117 (by decide)).trans (hF428.2.1 117 (by decide)))) (((hF499.2.1 118 (by decide)).trans (hF428.2.1 118 (by decide)))) (((hF499.2.1 119 (by decide)).trans (hF428.2.1 119 (by decide)))) (((hF499.2.1 129 (by decide)).trans (hF428.2.1 129 (by decide)))) (((hF499.2.1 130 (by decide)).trans (hF428.2.1 130 (by decide)))) (((hF499.2.1 120 (by decide)).trans (hF428.2.1 120 (by decide)))) (((hF499.2.1 234 (by decide)).trans (hF428.2.1 234 (by decide)))) (congrArg Int32.toInt (((hF499.1 116 4 (by decide)).trans (hF428.1 116 4 (by decide))))), (show RT _ from fun i i0 i1 => (eA_ti (((hF499.2.1 175 (by decide)).trans (hF428.2.1 175 (by decide))))).trans ((hR_17 i i0 (by omega)).trans (eA_ti (((hF499.2.1 236 (by decide)).trans (hF428.2.1 236 (by decide))))).symm)), (show BYX _ from fun i i0 i1 => by rw [TX.c (((hF499.2.1 175 (by decide)).trans (hF428.2.1 175 (by decide))))]; exact hR_18 i i0 (by have i2 : i < (gI _ 174 1).toInt := i1; show i < (gI g0 174 1).toInt; omega)), (LAWR_c hR_19 (LSA_tr (LSA_tr LSA_rf (LSA_fr hF428 rfl)) (LSA_fr hF499 rfl)) (((hF499.1 1 6 (by decide)).trans (hF428.1 1 6 (by decide)))) (((hF499.1 59 6 (by decide)).trans (hF428.1 59 6 (by decide)))) (((hF499.1 116 6 (by decide)).trans (hF428.1 116 6 (by decide)))) (((hF499.2.1 173 (by decide)).trans (hF428.2.1 173 (by decide)))) (fun i i0 i1 => (R3_sign hI427 q506 i i0 i1).trans (eA_ti (hF428.2.1 233 (by decide)))) (((hF499.2.1 234 (by decide)).trans (hF428.2.1 234 (by decide)))) (TOLDX_fr hF499 rfl rfl rfl rfl (TOLDX_fr hF428 rfl rfl rfl rfl hR_19.2.2.2.2))), (SETX_fr hF499 rfl rfl rfl rfl rfl (SETX_fr hF428 rfl rfl rfl rfl rfl hR_20))⟩)
