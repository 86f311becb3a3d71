set_option maxRecDepth 100000 in
set_option maxHeartbeats 8000000 in
theorem lq_c3 (d : Nat) {N : Nat} {g0 : List en_E} (hI0 : HI g0) (hR0 : LwR g0) {ys : List Int32} {L : Nat} (hL : ys.length = L) (hL2 : L ≤ 3584) {l : en_L} {i : Int32} (e0 : en_get 0 l = some (.float 0)) (e1 : en_get 1 l = some (.ref 0)) (e2 : en_get 2 l = some (.ref 231)) (e3 : en_get 3 l = some (.int i)) (hi : 0 ≤ i.toInt ∧ i.toInt + 7 ≤ L) {Ph : Option Value → en_H → Prop} (K : ∀ g1 : List en_E, HI g1 → LwR g1 → At (d + 423) (some ys) (some .boolean) bs_L_law (1330, l, [], (g1, N)) Ph) : At (d + 423) (some ys) (some .boolean) bs_L_law (327, l, [], (g0, N)) Ph := by
  have hF0 : Fr F_law A_law g0 g0 := Fr.rf
  have hx_1 : -2147483648 ≤ i.toInt + 1 ∧ i.toInt + 1 ≤ 2147483647 := by omega
  have hx_2 : -2147483648 ≤ i.toInt + 2 ∧ i.toInt + 2 ≤ 2147483647 := by omega
  have hx_3 : -2147483648 ≤ i.toInt + 3 ∧ i.toInt + 3 ≤ 2147483647 := by omega
  have hx_4 : -2147483648 ≤ i.toInt + 4 ∧ i.toInt + 4 ≤ 2147483647 := by omega
  have hx_5 : -2147483648 ≤ i.toInt + 5 ∧ i.toInt + 5 ≤ 2147483647 := by omega
  have hx_6 : -2147483648 ≤ i.toInt + 6 ∧ i.toInt + 6 ≤ 2147483647 := by omega
  have hy_0 : 0 ≤ i.toInt ∧ i.toInt < (L : Int) := by omega
  have hy_1 : 0 ≤ i.toInt + 1 ∧ i.toInt + 1 < (L : Int) := by omega
  have hy_2 : 0 ≤ i.toInt + 2 ∧ i.toInt + 2 < (L : Int) := by omega
  have hy_3 : 0 ≤ i.toInt + 3 ∧ i.toInt + 3 < (L : Int) := by omega
  have hy_4 : 0 ≤ i.toInt + 4 ∧ i.toInt + 4 < (L : Int) := by omega
  have hy_5 : 0 ≤ i.toInt + 5 ∧ i.toInt + 5 < (L : Int) := by omega
  have hy_6 : 0 ≤ i.toInt + 6 ∧ i.toInt + 6 < (L : Int) := by omega
  unfold LwR at hR0
  obtain ⟨hR_0, hR_1, hR_2, hR_3, hR_4, hR_5, hR_6, hR_7, hR_8, hR_9, hR_10, hR_11, hR_12, hR_13, hR_14⟩ := hR0
  refine At.enter rfl ?_
  refine r_aload_n e1 ?_
  refine r_sload_n e0 ?_
  refine r_iload_n e3 ?_
  refine r_iconst 1 rfl ?_
  refine q_iadd (i.toInt + 1) rfl hx_1 (fun v1 hv1 => ?_)
  refine q_scald (m := L) hL (i.toInt + 1) hv1 hy_1 (fun v2 hv2 => ?_)
  refine r_sload_n e0 ?_
  refine r_iload_n e3 ?_
  refine r_iconst 2 rfl ?_
  refine q_iadd (i.toInt + 2) rfl hx_2 (fun v3 hv3 => ?_)
  refine q_scald (m := L) hL (i.toInt + 2) hv3 hy_2 (fun v4 hv4 => ?_)
  refine r_sload_n e0 ?_
  refine r_iload_n e3 ?_
  refine r_iconst 3 rfl ?_
  refine q_iadd (i.toInt + 3) rfl hx_3 (fun v5 hv5 => ?_)
  refine q_scald (m := L) hL (i.toInt + 3) hv5 hy_3 (fun v6 hv6 => ?_)
  refine r_sload_n e0 ?_
  refine r_iload_n e3 ?_
  refine r_iconst 4 rfl ?_
  refine q_iadd (i.toInt + 4) rfl hx_4 (fun v7 hv7 => ?_)
  refine q_scald (m := L) hL (i.toInt + 4) hv7 hy_4 (fun v8 hv8 => ?_)
  refine r_sload_n e0 ?_
  refine r_iload_n e3 ?_
  refine r_iconst 5 rfl ?_
  refine q_iadd (i.toInt + 5) rfl hx_5 (fun v9 hv9 => ?_)
  refine q_scald (m := L) hL (i.toInt + 5) hv9 hy_5 (fun v10 hv10 => ?_)
  refine r_sload_n e0 ?_
  refine r_iload_n e3 ?_
  refine r_bipush 6 rfl ?_
  refine q_iadd (i.toInt + 6) rfl hx_6 (fun v11 hv11 => ?_)
  refine q_scald (m := L) hL (i.toInt + 6) hv11 hy_6 (fun v12 hv12 => ?_)
  rcases cs4 (1 ≤ v2.toInt ∧ v2.toInt ≤ 9 ∧ 0 ≤ v8.toInt ∧ v8.toInt ≤ 99 ∧ 0 ≤ v10.toInt ∧ v10.toInt ≤ 9 ∧ 0 ≤ v12.toInt ∧ v12.toInt ≤ 9999) (0 ≤ v4.toInt ∧ v4.toInt < (gI g0 1 0).toInt ∧ 0 ≤ v6.toInt ∧ v6.toInt < (gI g0 1 0).toInt) (8 ≤ (gI g0 1 4).toInt) with pk13 | pk13 | pk13 | pk13
  · refine r_callV 362 rfl [.ref 0, .int v2, .int v4, .int v6, .int v8, .int v10, .int v12] [] (Nat.le_of_ble_eq_true rfl) rfl (T_X10_load_0 _ hI0 v2 v4 v6 v8 v10 v12) ?_
    rintro _ _ ⟨g14, rfl, hI15, hF16, v17, rfl, hr18⟩
    refine At.sti ?_
    have hF19 := Fr.tr hF0 hF16 rfl rfl
    obtain ⟨q20, q21, q22⟩ := hr18
    obtain ⟨i24, i25, i26, i27⟩ := q21
    have w23 := i24 pk13
    clear i24 i25 i26 i27
    have f28 := congrArg Int32.toInt (hF16.1 1 0 rfl)
    have f29 := congrArg Int32.toInt (hF16.1 1 12 rfl)
    have f30 := congrArg Int32.toInt (hF16.1 1 10 rfl)
    have f31 := congrArg Int32.toInt (hF16.1 1 11 rfl)
    have f32 := congrArg Int32.toInt (hF16.1 59 0 rfl)
    have f33 := congrArg Int32.toInt (hF16.1 59 12 rfl)
    have f34 := congrArg Int32.toInt (hF16.1 59 10 rfl)
    have f35 := congrArg Int32.toInt (hF16.1 59 11 rfl)
    have f36 := congrArg Int32.toInt (hF16.1 59 4 rfl)
    have f37 := congrArg Int32.toInt (hF16.1 116 0 rfl)
    have f38 := congrArg Int32.toInt (hF16.1 116 12 rfl)
    have f39 := congrArg Int32.toInt (hF16.1 116 10 rfl)
    have f40 := congrArg Int32.toInt (hF16.1 116 11 rfl)
    have f41 := congrArg Int32.toInt (hF16.1 116 4 rfl)
    have f42 := congrArg Int32.toInt (eA_c (j := 0) (hF16.2.1 173 rfl))
    have f43 := congrArg Int32.toInt (eA_c (j := 1) (hF16.2.1 173 rfl))
    have f44 := congrArg Int32.toInt (hF16.1 174 1 rfl)
    have f45 := congrArg Int32.toInt (hF16.1 0 16 rfl)
    have f46 := congrArg Int32.toInt (eA_c (j := 0) (hF16.2.1 233 rfl))
    have f47 := congrArg Int32.toInt (eA_c (j := 4) (hF16.2.1 233 rfl))
    have f48 := congrArg Int32.toInt (eA_c (j := 5) (hF16.2.1 233 rfl))
    have f49 := congrArg Int32.toInt (eA_c (j := 6) (hF16.2.1 233 rfl))
    have f50 := congrArg Int32.toInt (eA_c (j := 1) (hF16.2.1 233 rfl))
    have f51 := congrArg Int32.toInt (eA_c (j := 0) (hF16.2.1 234 rfl))
    have f52 := congrArg Int32.toInt (eA_c (j := 4) (hF16.2.1 234 rfl))
    have f53 := congrArg Int32.toInt (eA_c (j := 5) (hF16.2.1 234 rfl))
    have f54 := congrArg Int32.toInt (eA_c (j := 6) (hF16.2.1 234 rfl))
    have f55 := congrArg Int32.toInt (eA_c (j := 1) (hF16.2.1 234 rfl))
    have f56 := congrArg Int32.toInt (eA_c (j := 5510) (hF16.2.1 234 rfl))
    have f57 := congrArg Int32.toInt (eA_c (j := 5514) (hF16.2.1 234 rfl))
    have f58 := congrArg Int32.toInt (eA_c (j := 5515) (hF16.2.1 234 rfl))
    have f59 := congrArg Int32.toInt (eA_c (j := 5516) (hF16.2.1 234 rfl))
    have f60 := congrArg Int32.toInt (eA_c (j := 5511) (hF16.2.1 234 rfl))
    have f61 := congrArg Int32.toInt (eA_c (j := 0) (hF16.2.1 235 rfl))
    have f62 := congrArg Int32.toInt (eA_c (j := 1) (hF16.2.1 235 rfl))
    have f63 := congrArg Int32.toInt (hF16.1 231 8 rfl)
    have f64 := congrArg Int32.toInt (hF16.1 231 6 rfl)
    refine At.enter rfl ?_
    refine r_pop rfl ?_
    refine r_aload_n e2 ?_
    refine r_sload_n e0 ?_
    refine r_iload_n e3 ?_
    refine r_iconst 1 rfl ?_
    refine q_iadd (i.toInt + 1) rfl hx_1 (fun v65 hv65 => ?_)
    refine q_scald (m := L) hL (i.toInt + 1) hv65 hy_1 (fun v66 hv66 => ?_)
    have sv66 := hv2.symm.trans hv66
    subst sv66
    refine r_sload_n e0 ?_
    refine r_iload_n e3 ?_
    refine r_iconst 2 rfl ?_
    refine q_iadd (i.toInt + 2) rfl hx_2 (fun v67 hv67 => ?_)
    refine q_scald (m := L) hL (i.toInt + 2) hv67 hy_2 (fun v68 hv68 => ?_)
    have sv68 := hv4.symm.trans hv68
    subst sv68
    refine r_sload_n e0 ?_
    refine r_iload_n e3 ?_
    refine r_iconst 3 rfl ?_
    refine q_iadd (i.toInt + 3) rfl hx_3 (fun v69 hv69 => ?_)
    refine q_scald (m := L) hL (i.toInt + 3) hv69 hy_3 (fun v70 hv70 => ?_)
    have sv70 := hv6.symm.trans hv70
    subst sv70
    refine r_sload_n e0 ?_
    refine r_iload_n e3 ?_
    refine r_iconst 4 rfl ?_
    refine q_iadd (i.toInt + 4) rfl hx_4 (fun v71 hv71 => ?_)
    refine q_scald (m := L) hL (i.toInt + 4) hv71 hy_4 (fun v72 hv72 => ?_)
    have sv72 := hv8.symm.trans hv72
    subst sv72
    refine r_sload_n e0 ?_
    refine r_iload_n e3 ?_
    refine r_iconst 5 rfl ?_
    refine q_iadd (i.toInt + 5) rfl hx_5 (fun v73 hv73 => ?_)
    refine q_scald (m := L) hL (i.toInt + 5) hv73 hy_5 (fun v74 hv74 => ?_)
    have sv74 := hv10.symm.trans hv74
    subst sv74
    refine r_sload_n e0 ?_
    refine r_iload_n e3 ?_
    refine r_bipush 6 rfl ?_
    refine q_iadd (i.toInt + 6) rfl hx_6 (fun v75 hv75 => ?_)
    refine q_scald (m := L) hL (i.toInt + 6) hv75 hy_6 (fun v76 hv76 => ?_)
    have sv76 := hv12.symm.trans hv76
    subst sv76
    refine r_callV 398 rfl [.ref 231, .int v2, .int v4, .int v6, .int v8, .int v10, .int v12] [] (Nat.le_of_ble_eq_true rfl) rfl (T_X11_load_231 _ hI15 v2 v4 v6 v8 v10 v12) ?_
    rintro _ _ ⟨g77, rfl, hI78, hF79, v80, rfl, hr81⟩
    refine At.sti ?_
    have hF82 := Fr.tr hF19 hF79 rfl rfl
    obtain ⟨q83, q84, q85, q86, q87⟩ := hr81
    have ek97 : (eA g14 233 0).toInt = (gI g0 1 0).toInt := (eA_ti (j := 0) (hF16.2.1 233 (by decide))).trans hR_0.symm
    have ek98 : (eA g14 233 1).toInt = (gI g0 1 4).toInt := (eA_ti (j := 1) (hF16.2.1 233 (by decide))).trans hR_4.symm
    obtain ⟨i89, i90, i91, i92, sm93, sm94, sm95, sm96⟩ := q84
    have w88 := i89 pk13
    clear i89 i90 i91 i92
    have f99 := congrArg Int32.toInt (hF79.1 1 0 rfl)
    have f100 := congrArg Int32.toInt (hF79.1 1 12 rfl)
    have f101 := congrArg Int32.toInt (hF79.1 1 10 rfl)
    have f102 := congrArg Int32.toInt (hF79.1 1 11 rfl)
    have f103 := congrArg Int32.toInt (hF79.1 1 4 rfl)
    have f104 := congrArg Int32.toInt (hF79.1 59 0 rfl)
    have f105 := congrArg Int32.toInt (hF79.1 59 12 rfl)
    have f106 := congrArg Int32.toInt (hF79.1 59 10 rfl)
    have f107 := congrArg Int32.toInt (hF79.1 59 11 rfl)
    have f108 := congrArg Int32.toInt (hF79.1 59 4 rfl)
    have f109 := congrArg Int32.toInt (hF79.1 116 0 rfl)
    have f110 := congrArg Int32.toInt (hF79.1 116 12 rfl)
    have f111 := congrArg Int32.toInt (hF79.1 116 10 rfl)
    have f112 := congrArg Int32.toInt (hF79.1 116 11 rfl)
    have f113 := congrArg Int32.toInt (hF79.1 116 4 rfl)
    have f114 := congrArg Int32.toInt (eA_c (j := 0) (hF79.2.1 173 rfl))
    have f115 := congrArg Int32.toInt (eA_c (j := 1) (hF79.2.1 173 rfl))
    have f116 := congrArg Int32.toInt (hF79.1 174 1 rfl)
    have f117 := congrArg Int32.toInt (hF79.1 0 16 rfl)
    have f118 := congrArg Int32.toInt (eA_c (j := 0) (hF79.2.1 234 rfl))
    have f119 := congrArg Int32.toInt (eA_c (j := 4) (hF79.2.1 234 rfl))
    have f120 := congrArg Int32.toInt (eA_c (j := 5) (hF79.2.1 234 rfl))
    have f121 := congrArg Int32.toInt (eA_c (j := 6) (hF79.2.1 234 rfl))
    have f122 := congrArg Int32.toInt (eA_c (j := 1) (hF79.2.1 234 rfl))
    have f123 := congrArg Int32.toInt (eA_c (j := 5510) (hF79.2.1 234 rfl))
    have f124 := congrArg Int32.toInt (eA_c (j := 5514) (hF79.2.1 234 rfl))
    have f125 := congrArg Int32.toInt (eA_c (j := 5515) (hF79.2.1 234 rfl))
    have f126 := congrArg Int32.toInt (eA_c (j := 5516) (hF79.2.1 234 rfl))
    have f127 := congrArg Int32.toInt (eA_c (j := 5511) (hF79.2.1 234 rfl))
    have f128 := congrArg Int32.toInt (eA_c (j := 0) (hF79.2.1 235 rfl))
    have f129 := congrArg Int32.toInt (eA_c (j := 1) (hF79.2.1 235 rfl))
    have f130 := congrArg Int32.toInt (hF79.1 231 8 rfl)
    have f131 := congrArg Int32.toInt (hF79.1 231 6 rfl)
    refine At.enter rfl ?_
    refine r_pop rfl ?_
    refine r_goto ?_
    exact K _ hI78 (show LwR _ from ⟨by omega, by omega, by omega, by omega, by omega, (eA_ti (j := 0) (((hF79.2.1 173 (by decide)).trans (hF16.2.1 173 (by decide))))).trans (hR_5.trans (eA_ti (j := 0) (((hF79.2.1 235 (by decide)).trans (hF16.2.1 235 (by decide))))).symm), (eA_ti (j := 1) (((hF79.2.1 173 (by decide)).trans (hF16.2.1 173 (by decide))))).trans (hR_6.trans (eA_ti (j := 1) (((hF79.2.1 235 (by decide)).trans (hF16.2.1 235 (by decide))))).symm), (congrArg Int32.toInt (((hF79.1 174 1 (by decide)).trans (hF16.1 174 1 (by decide))))).trans (hR_7.trans (congrArg Int32.toInt (((hF79.1 231 8 (by decide)).trans (hF16.1 231 8 (by decide))))).symm), (congrArg Int32.toInt (((hF79.1 0 16 (by decide)).trans (hF16.1 0 16 (by decide))))).trans (hR_8.trans (congrArg Int32.toInt (((hF79.1 231 6 (by decide)).trans (hF16.1 231 6 (by decide))))).symm), IM0.cong hR_9 (eA_ti (j := 0) (((hF79.2.1 173 (by decide)).trans (hF16.2.1 173 (by decide))))) (congrArg Int32.toInt (((hF79.1 59 0 (by decide)).trans (hF16.1 59 0 (by decide))))) (eA_ti (j := 0) (((hF79.2.1 234 (by decide)).trans (hF16.2.1 234 (by decide))))) (congrArg Int32.toInt (((hF79.1 59 12 (by decide)).trans (hF16.1 59 12 (by decide))))) (eA_ti (j := 4) (((hF79.2.1 234 (by decide)).trans (hF16.2.1 234 (by decide))))) (congrArg Int32.toInt (((hF79.1 59 10 (by decide)).trans (hF16.1 59 10 (by decide))))) (eA_ti (j := 5) (((hF79.2.1 234 (by decide)).trans (hF16.2.1 234 (by decide))))) (congrArg Int32.toInt (((hF79.1 59 11 (by decide)).trans (hF16.1 59 11 (by decide))))) (eA_ti (j := 6) (((hF79.2.1 234 (by decide)).trans (hF16.2.1 234 (by decide))))) (congrArg Int32.toInt (((hF79.1 59 4 (by decide)).trans (hF16.1 59 4 (by decide))))) (eA_ti (j := 1) (((hF79.2.1 234 (by decide)).trans (hF16.2.1 234 (by decide))))), IM1.cong hR_10 (eA_ti (j := 1) (((hF79.2.1 173 (by decide)).trans (hF16.2.1 173 (by decide))))) (congrArg Int32.toInt (((hF79.1 116 0 (by decide)).trans (hF16.1 116 0 (by decide))))) (eA_ti (j := 5510) (((hF79.2.1 234 (by decide)).trans (hF16.2.1 234 (by decide))))) (congrArg Int32.toInt (((hF79.1 116 12 (by decide)).trans (hF16.1 116 12 (by decide))))) (eA_ti (j := 5514) (((hF79.2.1 234 (by decide)).trans (hF16.2.1 234 (by decide))))) (congrArg Int32.toInt (((hF79.1 116 10 (by decide)).trans (hF16.1 116 10 (by decide))))) (eA_ti (j := 5515) (((hF79.2.1 234 (by decide)).trans (hF16.2.1 234 (by decide))))) (congrArg Int32.toInt (((hF79.1 116 11 (by decide)).trans (hF16.1 116 11 (by decide))))) (eA_ti (j := 5516) (((hF79.2.1 234 (by decide)).trans (hF16.2.1 234 (by decide))))) (congrArg Int32.toInt (((hF79.1 116 4 (by decide)).trans (hF16.1 116 4 (by decide))))) (eA_ti (j := 5511) (((hF79.2.1 234 (by decide)).trans (hF16.2.1 234 (by decide))))), (show CT _ from ⟨fun i i0 i1 => ⟨(by have t0_ := hI0.t0; have t1_ := hI0.t1; have o := (hR_11.1 i i0 i1).1; have x := eA_ti (j := i) (((hF79.2.1 2 (by decide)).trans (hF16.2.1 2 (by decide)))); have m := q85 (10 + 3 * i) (by omega) (by omega); have y1 := eA_ti (j := ((10 + 3 * i))) (hF16.2.1 233 (by decide)); first | exact x.trans (o.trans (m.trans y1).symm) | omega), (by have t0_ := hI0.t0; have t1_ := hI0.t1; have o := (hR_11.1 i i0 i1).2.1; have x := eA_ti (j := i) (((hF79.2.1 3 (by decide)).trans (hF16.2.1 3 (by decide)))); have m := q85 (10 + 3 * i + 1) (by omega) (by omega); have y1 := eA_ti (j := ((10 + 3 * i + 1))) (hF16.2.1 233 (by decide)); first | exact x.trans (o.trans (m.trans y1).symm) | omega), (by have t0_ := hI0.t0; have t1_ := hI0.t1; have o := (hR_11.1 i i0 i1).2.2; have x := eA_ti (j := i) (((hF79.2.1 4 (by decide)).trans (hF16.2.1 4 (by decide)))); have m := q85 (10 + 3 * i + 2) (by omega) (by omega); have y1 := eA_ti (j := ((10 + 3 * i + 2))) (hF16.2.1 233 (by decide)); first | exact x.trans (o.trans (m.trans y1).symm) | omega)⟩, fun i i0 i1 => ⟨(by have t0_ := hI0.t0; have t1_ := hI0.t1; have o := (hR_11.2.1 i i0 i1).1; have x := eA_ti (j := i) (((hF79.2.1 14 (by decide)).trans (hF16.2.1 14 (by decide)))); have m := q86 (94 + 2 * i) (by omega) (by omega); have y1 := eA_ti (j := ((94 + 2 * i))) (hF16.2.1 233 (by decide)); first | exact x.trans (o.trans (m.trans y1).symm) | omega), (by have t0_ := hI0.t0; have t1_ := hI0.t1; have o := (hR_11.2.1 i i0 i1).2; have x := eA_ti (j := i) (((hF79.2.1 15 (by decide)).trans (hF16.2.1 15 (by decide)))); have m := q86 (94 + 2 * i + 1) (by omega) (by omega); have y1 := eA_ti (j := ((94 + 2 * i + 1))) (hF16.2.1 233 (by decide)); first | exact x.trans (o.trans (m.trans y1).symm) | omega)⟩, fun i i0 i1 => (by have t0_ := hI0.t0; have t1_ := hI0.t1; have o : i < 6 * (gI g0 1 4).toInt → _ := fun hz => hR_11.2.2 i i0 hz; have t9_ := RgF.at hI78.2.1 (p := 1) (b := 4) rfl; dsimp only at t9_; have i9_ : i < 48 := (by omega); have x := (eA_ti (j := i) (hF79.2.1 5 (by decide))).trans (q22 i i0 i9_); have m := q87 (46 + i) (by omega) (by omega); have y1 := eA_ti (j := ((46 + i))) (hF16.2.1 233 (by decide)); have ek0 : (eA g14 233 0).toInt = (gI g0 1 0).toInt := (eA_ti (j := 0) (hF16.2.1 233 (by decide))).trans hR_0.symm; have ek1 : (eA g14 233 1).toInt = (gI g0 1 4).toInt := (eA_ti (j := 1) (hF16.2.1 233 (by decide))).trans hR_4.symm; have eC : ((1 ≤ v2.toInt ∧ v2.toInt ≤ 9 ∧ 0 ≤ v8.toInt ∧ v8.toInt ≤ 99 ∧ 0 ≤ v10.toInt ∧ v10.toInt ≤ 9 ∧ 0 ≤ v12.toInt ∧ v12.toInt ≤ 9999) ∧ (0 ≤ v4.toInt ∧ v4.toInt < (eA g14 233 0).toInt ∧ 0 ≤ v6.toInt ∧ v6.toInt < (eA g14 233 0).toInt) ∧ (eA g14 233 1).toInt < 8) = ((1 ≤ v2.toInt ∧ v2.toInt ≤ 9 ∧ 0 ≤ v8.toInt ∧ v8.toInt ≤ 99 ∧ 0 ≤ v10.toInt ∧ v10.toInt ≤ 9 ∧ 0 ≤ v12.toInt ∧ v12.toInt ≤ 9999) ∧ (0 ≤ v4.toInt ∧ v4.toInt < (gI g0 1 0).toInt ∧ 0 ≤ v6.toInt ∧ v6.toInt < (gI g0 1 0).toInt) ∧ (gI g0 1 4).toInt < 8) := (by rw [ek0, ek1]); have k : ¬ ((1 ≤ v2.toInt ∧ v2.toInt ≤ 9 ∧ 0 ≤ v8.toInt ∧ v8.toInt ≤ 99 ∧ 0 ≤ v10.toInt ∧ v10.toInt ≤ 9 ∧ 0 ≤ v12.toInt ∧ v12.toInt ≤ 9999) ∧ (0 ≤ v4.toInt ∧ v4.toInt < (gI g0 1 0).toInt ∧ 0 ≤ v6.toInt ∧ v6.toInt < (gI g0 1 0).toInt) ∧ (gI g0 1 4).toInt < 8) := (fun z => (show ¬ _ from pk13) z.1); have k2 : ¬ ((1 ≤ v2.toInt ∧ v2.toInt ≤ 9 ∧ 0 ≤ v8.toInt ∧ v8.toInt ≤ 99 ∧ 0 ≤ v10.toInt ∧ v10.toInt ≤ 9 ∧ 0 ≤ v12.toInt ∧ v12.toInt ≤ 9999) ∧ (0 ≤ v4.toInt ∧ v4.toInt < (eA g14 233 0).toInt ∧ 0 ≤ v6.toInt ∧ v6.toInt < (eA g14 233 0).toInt) ∧ (eA g14 233 1).toInt < 8) := fun z => k (eC.mp z); rw [ite_an k, ite_an k, ite_an k, ite_an k, ite_an k, ite_an k] at x; rw [ite_an k2, ite_an k2, ite_an k2, ite_an k2, ite_an k2, ite_an k2] at m; clear eC k2 k; omega)⟩), CI0.cong hR_12 (((hF79.2.1 60 (by decide)).trans (hF16.2.1 60 (by decide)))) (((hF79.2.1 61 (by decide)).trans (hF16.2.1 61 (by decide)))) (((hF79.2.1 62 (by decide)).trans (hF16.2.1 62 (by decide)))) (((hF79.2.1 72 (by decide)).trans (hF16.2.1 72 (by decide)))) (((hF79.2.1 73 (by decide)).trans (hF16.2.1 73 (by decide)))) (((hF79.2.1 63 (by decide)).trans (hF16.2.1 63 (by decide)))) (((hF79.2.1 234 (by decide)).trans (hF16.2.1 234 (by decide)))) (congrArg Int32.toInt (((hF79.1 59 4 (by decide)).trans (hF16.1 59 4 (by decide))))), CI1.cong hR_13 (((hF79.2.1 117 (by decide)).trans (hF16.2.1 117 (by decide)))) (((hF79.2.1 118 (by decide)).trans (hF16.2.1 118 (by decide)))) (((hF79.2.1 119 (by decide)).trans (hF16.2.1 119 (by decide)))) (((hF79.2.1 129 (by decide)).trans (hF16.2.1 129 (by decide)))) (((hF79.2.1 130 (by decide)).trans (hF16.2.1 130 (by decide)))) (((hF79.2.1 120 (by decide)).trans (hF16.2.1 120 (by decide)))) (((hF79.2.1 234 (by decide)).trans (hF16.2.1 234 (by decide)))) (congrArg Int32.toInt (((hF79.1 116 4 (by decide)).trans (hF16.1 116 4 (by decide))))), (show RT _ from fun i i0 i1 => (eA_ti (((hF79.2.1 175 (by decide)).trans (hF16.2.1 175 (by decide))))).trans ((hR_14 i i0 (by omega)).trans (eA_ti (((hF79.2.1 236 (by decide)).trans (hF16.2.1 236 (by decide))))).symm))⟩)
  · refine r_callV 362 rfl [.ref 0, .int v2, .int v4, .int v6, .int v8, .int v10, .int v12] [] (Nat.le_of_ble_eq_true rfl) rfl (T_X10_load_0 _ hI0 v2 v4 v6 v8 v10 v12) ?_
    rintro _ _ ⟨g132, rfl, hI133, hF134, v135, rfl, hr136⟩
    refine At.sti ?_
    have hF137 := Fr.tr hF0 hF134 rfl rfl
    obtain ⟨q138, q139, q140⟩ := hr136
    obtain ⟨i142, i143, i144, i145⟩ := q139
    have w141 := i143 ⟨pk13.1, pk13.2⟩
    clear i142 i143 i144 i145
    have f146 := congrArg Int32.toInt (hF134.1 1 0 rfl)
    have f147 := congrArg Int32.toInt (hF134.1 1 12 rfl)
    have f148 := congrArg Int32.toInt (hF134.1 1 10 rfl)
    have f149 := congrArg Int32.toInt (hF134.1 1 11 rfl)
    have f150 := congrArg Int32.toInt (hF134.1 59 0 rfl)
    have f151 := congrArg Int32.toInt (hF134.1 59 12 rfl)
    have f152 := congrArg Int32.toInt (hF134.1 59 10 rfl)
    have f153 := congrArg Int32.toInt (hF134.1 59 11 rfl)
    have f154 := congrArg Int32.toInt (hF134.1 59 4 rfl)
    have f155 := congrArg Int32.toInt (hF134.1 116 0 rfl)
    have f156 := congrArg Int32.toInt (hF134.1 116 12 rfl)
    have f157 := congrArg Int32.toInt (hF134.1 116 10 rfl)
    have f158 := congrArg Int32.toInt (hF134.1 116 11 rfl)
    have f159 := congrArg Int32.toInt (hF134.1 116 4 rfl)
    have f160 := congrArg Int32.toInt (eA_c (j := 0) (hF134.2.1 173 rfl))
    have f161 := congrArg Int32.toInt (eA_c (j := 1) (hF134.2.1 173 rfl))
    have f162 := congrArg Int32.toInt (hF134.1 174 1 rfl)
    have f163 := congrArg Int32.toInt (hF134.1 0 16 rfl)
    have f164 := congrArg Int32.toInt (eA_c (j := 0) (hF134.2.1 233 rfl))
    have f165 := congrArg Int32.toInt (eA_c (j := 4) (hF134.2.1 233 rfl))
    have f166 := congrArg Int32.toInt (eA_c (j := 5) (hF134.2.1 233 rfl))
    have f167 := congrArg Int32.toInt (eA_c (j := 6) (hF134.2.1 233 rfl))
    have f168 := congrArg Int32.toInt (eA_c (j := 1) (hF134.2.1 233 rfl))
    have f169 := congrArg Int32.toInt (eA_c (j := 0) (hF134.2.1 234 rfl))
    have f170 := congrArg Int32.toInt (eA_c (j := 4) (hF134.2.1 234 rfl))
    have f171 := congrArg Int32.toInt (eA_c (j := 5) (hF134.2.1 234 rfl))
    have f172 := congrArg Int32.toInt (eA_c (j := 6) (hF134.2.1 234 rfl))
    have f173 := congrArg Int32.toInt (eA_c (j := 1) (hF134.2.1 234 rfl))
    have f174 := congrArg Int32.toInt (eA_c (j := 5510) (hF134.2.1 234 rfl))
    have f175 := congrArg Int32.toInt (eA_c (j := 5514) (hF134.2.1 234 rfl))
    have f176 := congrArg Int32.toInt (eA_c (j := 5515) (hF134.2.1 234 rfl))
    have f177 := congrArg Int32.toInt (eA_c (j := 5516) (hF134.2.1 234 rfl))
    have f178 := congrArg Int32.toInt (eA_c (j := 5511) (hF134.2.1 234 rfl))
    have f179 := congrArg Int32.toInt (eA_c (j := 0) (hF134.2.1 235 rfl))
    have f180 := congrArg Int32.toInt (eA_c (j := 1) (hF134.2.1 235 rfl))
    have f181 := congrArg Int32.toInt (hF134.1 231 8 rfl)
    have f182 := congrArg Int32.toInt (hF134.1 231 6 rfl)
    refine At.enter rfl ?_
    refine r_pop rfl ?_
    refine r_aload_n e2 ?_
    refine r_sload_n e0 ?_
    refine r_iload_n e3 ?_
    refine r_iconst 1 rfl ?_
    refine q_iadd (i.toInt + 1) rfl hx_1 (fun v183 hv183 => ?_)
    refine q_scald (m := L) hL (i.toInt + 1) hv183 hy_1 (fun v184 hv184 => ?_)
    have sv184 := hv2.symm.trans hv184
    subst sv184
    refine r_sload_n e0 ?_
    refine r_iload_n e3 ?_
    refine r_iconst 2 rfl ?_
    refine q_iadd (i.toInt + 2) rfl hx_2 (fun v185 hv185 => ?_)
    refine q_scald (m := L) hL (i.toInt + 2) hv185 hy_2 (fun v186 hv186 => ?_)
    have sv186 := hv4.symm.trans hv186
    subst sv186
    refine r_sload_n e0 ?_
    refine r_iload_n e3 ?_
    refine r_iconst 3 rfl ?_
    refine q_iadd (i.toInt + 3) rfl hx_3 (fun v187 hv187 => ?_)
    refine q_scald (m := L) hL (i.toInt + 3) hv187 hy_3 (fun v188 hv188 => ?_)
    have sv188 := hv6.symm.trans hv188
    subst sv188
    refine r_sload_n e0 ?_
    refine r_iload_n e3 ?_
    refine r_iconst 4 rfl ?_
    refine q_iadd (i.toInt + 4) rfl hx_4 (fun v189 hv189 => ?_)
    refine q_scald (m := L) hL (i.toInt + 4) hv189 hy_4 (fun v190 hv190 => ?_)
    have sv190 := hv8.symm.trans hv190
    subst sv190
    refine r_sload_n e0 ?_
    refine r_iload_n e3 ?_
    refine r_iconst 5 rfl ?_
    refine q_iadd (i.toInt + 5) rfl hx_5 (fun v191 hv191 => ?_)
    refine q_scald (m := L) hL (i.toInt + 5) hv191 hy_5 (fun v192 hv192 => ?_)
    have sv192 := hv10.symm.trans hv192
    subst sv192
    refine r_sload_n e0 ?_
    refine r_iload_n e3 ?_
    refine r_bipush 6 rfl ?_
    refine q_iadd (i.toInt + 6) rfl hx_6 (fun v193 hv193 => ?_)
    refine q_scald (m := L) hL (i.toInt + 6) hv193 hy_6 (fun v194 hv194 => ?_)
    have sv194 := hv12.symm.trans hv194
    subst sv194
    refine r_callV 398 rfl [.ref 231, .int v2, .int v4, .int v6, .int v8, .int v10, .int v12] [] (Nat.le_of_ble_eq_true rfl) rfl (T_X11_load_231 _ hI133 v2 v4 v6 v8 v10 v12) ?_
    rintro _ _ ⟨g195, rfl, hI196, hF197, v198, rfl, hr199⟩
    refine At.sti ?_
    have hF200 := Fr.tr hF137 hF197 rfl rfl
    obtain ⟨q201, q202, q203, q204, q205⟩ := hr199
    have ek215 : (eA g132 233 0).toInt = (gI g0 1 0).toInt := (eA_ti (j := 0) (hF134.2.1 233 (by decide))).trans hR_0.symm
    have ek216 : (eA g132 233 1).toInt = (gI g0 1 4).toInt := (eA_ti (j := 1) (hF134.2.1 233 (by decide))).trans hR_4.symm
    obtain ⟨i207, i208, i209, i210, sm211, sm212, sm213, sm214⟩ := q202
    have w206 := i208 ⟨pk13.1, (by rw [ek215]; exact pk13.2)⟩
    clear i207 i208 i209 i210
    have f217 := congrArg Int32.toInt (hF197.1 1 0 rfl)
    have f218 := congrArg Int32.toInt (hF197.1 1 12 rfl)
    have f219 := congrArg Int32.toInt (hF197.1 1 10 rfl)
    have f220 := congrArg Int32.toInt (hF197.1 1 11 rfl)
    have f221 := congrArg Int32.toInt (hF197.1 1 4 rfl)
    have f222 := congrArg Int32.toInt (hF197.1 59 0 rfl)
    have f223 := congrArg Int32.toInt (hF197.1 59 12 rfl)
    have f224 := congrArg Int32.toInt (hF197.1 59 10 rfl)
    have f225 := congrArg Int32.toInt (hF197.1 59 11 rfl)
    have f226 := congrArg Int32.toInt (hF197.1 59 4 rfl)
    have f227 := congrArg Int32.toInt (hF197.1 116 0 rfl)
    have f228 := congrArg Int32.toInt (hF197.1 116 12 rfl)
    have f229 := congrArg Int32.toInt (hF197.1 116 10 rfl)
    have f230 := congrArg Int32.toInt (hF197.1 116 11 rfl)
    have f231 := congrArg Int32.toInt (hF197.1 116 4 rfl)
    have f232 := congrArg Int32.toInt (eA_c (j := 0) (hF197.2.1 173 rfl))
    have f233 := congrArg Int32.toInt (eA_c (j := 1) (hF197.2.1 173 rfl))
    have f234 := congrArg Int32.toInt (hF197.1 174 1 rfl)
    have f235 := congrArg Int32.toInt (hF197.1 0 16 rfl)
    have f236 := congrArg Int32.toInt (eA_c (j := 0) (hF197.2.1 234 rfl))
    have f237 := congrArg Int32.toInt (eA_c (j := 4) (hF197.2.1 234 rfl))
    have f238 := congrArg Int32.toInt (eA_c (j := 5) (hF197.2.1 234 rfl))
    have f239 := congrArg Int32.toInt (eA_c (j := 6) (hF197.2.1 234 rfl))
    have f240 := congrArg Int32.toInt (eA_c (j := 1) (hF197.2.1 234 rfl))
    have f241 := congrArg Int32.toInt (eA_c (j := 5510) (hF197.2.1 234 rfl))
    have f242 := congrArg Int32.toInt (eA_c (j := 5514) (hF197.2.1 234 rfl))
    have f243 := congrArg Int32.toInt (eA_c (j := 5515) (hF197.2.1 234 rfl))
    have f244 := congrArg Int32.toInt (eA_c (j := 5516) (hF197.2.1 234 rfl))
    have f245 := congrArg Int32.toInt (eA_c (j := 5511) (hF197.2.1 234 rfl))
    have f246 := congrArg Int32.toInt (eA_c (j := 0) (hF197.2.1 235 rfl))
    have f247 := congrArg Int32.toInt (eA_c (j := 1) (hF197.2.1 235 rfl))
    have f248 := congrArg Int32.toInt (hF197.1 231 8 rfl)
    have f249 := congrArg Int32.toInt (hF197.1 231 6 rfl)
    refine At.enter rfl ?_
    refine r_pop rfl ?_
    refine r_goto ?_
    exact K _ hI196 (show LwR _ from ⟨by omega, by omega, by omega, by omega, by omega, (eA_ti (j := 0) (((hF197.2.1 173 (by decide)).trans (hF134.2.1 173 (by decide))))).trans (hR_5.trans (eA_ti (j := 0) (((hF197.2.1 235 (by decide)).trans (hF134.2.1 235 (by decide))))).symm), (eA_ti (j := 1) (((hF197.2.1 173 (by decide)).trans (hF134.2.1 173 (by decide))))).trans (hR_6.trans (eA_ti (j := 1) (((hF197.2.1 235 (by decide)).trans (hF134.2.1 235 (by decide))))).symm), (congrArg Int32.toInt (((hF197.1 174 1 (by decide)).trans (hF134.1 174 1 (by decide))))).trans (hR_7.trans (congrArg Int32.toInt (((hF197.1 231 8 (by decide)).trans (hF134.1 231 8 (by decide))))).symm), (congrArg Int32.toInt (((hF197.1 0 16 (by decide)).trans (hF134.1 0 16 (by decide))))).trans (hR_8.trans (congrArg Int32.toInt (((hF197.1 231 6 (by decide)).trans (hF134.1 231 6 (by decide))))).symm), IM0.cong hR_9 (eA_ti (j := 0) (((hF197.2.1 173 (by decide)).trans (hF134.2.1 173 (by decide))))) (congrArg Int32.toInt (((hF197.1 59 0 (by decide)).trans (hF134.1 59 0 (by decide))))) (eA_ti (j := 0) (((hF197.2.1 234 (by decide)).trans (hF134.2.1 234 (by decide))))) (congrArg Int32.toInt (((hF197.1 59 12 (by decide)).trans (hF134.1 59 12 (by decide))))) (eA_ti (j := 4) (((hF197.2.1 234 (by decide)).trans (hF134.2.1 234 (by decide))))) (congrArg Int32.toInt (((hF197.1 59 10 (by decide)).trans (hF134.1 59 10 (by decide))))) (eA_ti (j := 5) (((hF197.2.1 234 (by decide)).trans (hF134.2.1 234 (by decide))))) (congrArg Int32.toInt (((hF197.1 59 11 (by decide)).trans (hF134.1 59 11 (by decide))))) (eA_ti (j := 6) (((hF197.2.1 234 (by decide)).trans (hF134.2.1 234 (by decide))))) (congrArg Int32.toInt (((hF197.1 59 4 (by decide)).trans (hF134.1 59 4 (by decide))))) (eA_ti (j := 1) (((hF197.2.1 234 (by decide)).trans (hF134.2.1 234 (by decide))))), IM1.cong hR_10 (eA_ti (j := 1) (((hF197.2.1 173 (by decide)).trans (hF134.2.1 173 (by decide))))) (congrArg Int32.toInt (((hF197.1 116 0 (by decide)).trans (hF134.1 116 0 (by decide))))) (eA_ti (j := 5510) (((hF197.2.1 234 (by decide)).trans (hF134.2.1 234 (by decide))))) (congrArg Int32.toInt (((hF197.1 116 12 (by decide)).trans (hF134.1 116 12 (by decide))))) (eA_ti (j := 5514) (((hF197.2.1 234 (by decide)).trans (hF134.2.1 234 (by decide))))) (congrArg Int32.toInt (((hF197.1 116 10 (by decide)).trans (hF134.1 116 10 (by decide))))) (eA_ti (j := 5515) (((hF197.2.1 234 (by decide)).trans (hF134.2.1 234 (by decide))))) (congrArg Int32.toInt (((hF197.1 116 11 (by decide)).trans (hF134.1 116 11 (by decide))))) (eA_ti (j := 5516) (((hF197.2.1 234 (by decide)).trans (hF134.2.1 234 (by decide))))) (congrArg Int32.toInt (((hF197.1 116 4 (by decide)).trans (hF134.1 116 4 (by decide))))) (eA_ti (j := 5511) (((hF197.2.1 234 (by decide)).trans (hF134.2.1 234 (by decide))))), (show CT _ from ⟨fun i i0 i1 => ⟨(by have t0_ := hI0.t0; have t1_ := hI0.t1; have o := (hR_11.1 i i0 i1).1; have x := eA_ti (j := i) (((hF197.2.1 2 (by decide)).trans (hF134.2.1 2 (by decide)))); have m := q203 (10 + 3 * i) (by omega) (by omega); have y1 := eA_ti (j := ((10 + 3 * i))) (hF134.2.1 233 (by decide)); first | exact x.trans (o.trans (m.trans y1).symm) | omega), (by have t0_ := hI0.t0; have t1_ := hI0.t1; have o := (hR_11.1 i i0 i1).2.1; have x := eA_ti (j := i) (((hF197.2.1 3 (by decide)).trans (hF134.2.1 3 (by decide)))); have m := q203 (10 + 3 * i + 1) (by omega) (by omega); have y1 := eA_ti (j := ((10 + 3 * i + 1))) (hF134.2.1 233 (by decide)); first | exact x.trans (o.trans (m.trans y1).symm) | omega), (by have t0_ := hI0.t0; have t1_ := hI0.t1; have o := (hR_11.1 i i0 i1).2.2; have x := eA_ti (j := i) (((hF197.2.1 4 (by decide)).trans (hF134.2.1 4 (by decide)))); have m := q203 (10 + 3 * i + 2) (by omega) (by omega); have y1 := eA_ti (j := ((10 + 3 * i + 2))) (hF134.2.1 233 (by decide)); first | exact x.trans (o.trans (m.trans y1).symm) | omega)⟩, fun i i0 i1 => ⟨(by have t0_ := hI0.t0; have t1_ := hI0.t1; have o := (hR_11.2.1 i i0 i1).1; have x := eA_ti (j := i) (((hF197.2.1 14 (by decide)).trans (hF134.2.1 14 (by decide)))); have m := q204 (94 + 2 * i) (by omega) (by omega); have y1 := eA_ti (j := ((94 + 2 * i))) (hF134.2.1 233 (by decide)); first | exact x.trans (o.trans (m.trans y1).symm) | omega), (by have t0_ := hI0.t0; have t1_ := hI0.t1; have o := (hR_11.2.1 i i0 i1).2; have x := eA_ti (j := i) (((hF197.2.1 15 (by decide)).trans (hF134.2.1 15 (by decide)))); have m := q204 (94 + 2 * i + 1) (by omega) (by omega); have y1 := eA_ti (j := ((94 + 2 * i + 1))) (hF134.2.1 233 (by decide)); first | exact x.trans (o.trans (m.trans y1).symm) | omega)⟩, fun i i0 i1 => (by have t0_ := hI0.t0; have t1_ := hI0.t1; have o : i < 6 * (gI g0 1 4).toInt → _ := fun hz => hR_11.2.2 i i0 hz; have t9_ := RgF.at hI196.2.1 (p := 1) (b := 4) rfl; dsimp only at t9_; have i9_ : i < 48 := (by omega); have x := (eA_ti (j := i) (hF197.2.1 5 (by decide))).trans (q140 i i0 i9_); have m := q205 (46 + i) (by omega) (by omega); have y1 := eA_ti (j := ((46 + i))) (hF134.2.1 233 (by decide)); have ek0 : (eA g132 233 0).toInt = (gI g0 1 0).toInt := (eA_ti (j := 0) (hF134.2.1 233 (by decide))).trans hR_0.symm; have ek1 : (eA g132 233 1).toInt = (gI g0 1 4).toInt := (eA_ti (j := 1) (hF134.2.1 233 (by decide))).trans hR_4.symm; have eC : ((1 ≤ v2.toInt ∧ v2.toInt ≤ 9 ∧ 0 ≤ v8.toInt ∧ v8.toInt ≤ 99 ∧ 0 ≤ v10.toInt ∧ v10.toInt ≤ 9 ∧ 0 ≤ v12.toInt ∧ v12.toInt ≤ 9999) ∧ (0 ≤ v4.toInt ∧ v4.toInt < (eA g132 233 0).toInt ∧ 0 ≤ v6.toInt ∧ v6.toInt < (eA g132 233 0).toInt) ∧ (eA g132 233 1).toInt < 8) = ((1 ≤ v2.toInt ∧ v2.toInt ≤ 9 ∧ 0 ≤ v8.toInt ∧ v8.toInt ≤ 99 ∧ 0 ≤ v10.toInt ∧ v10.toInt ≤ 9 ∧ 0 ≤ v12.toInt ∧ v12.toInt ≤ 9999) ∧ (0 ≤ v4.toInt ∧ v4.toInt < (gI g0 1 0).toInt ∧ 0 ≤ v6.toInt ∧ v6.toInt < (gI g0 1 0).toInt) ∧ (gI g0 1 4).toInt < 8) := (by rw [ek0, ek1]); have k : ¬ ((1 ≤ v2.toInt ∧ v2.toInt ≤ 9 ∧ 0 ≤ v8.toInt ∧ v8.toInt ≤ 99 ∧ 0 ≤ v10.toInt ∧ v10.toInt ≤ 9 ∧ 0 ≤ v12.toInt ∧ v12.toInt ≤ 9999) ∧ (0 ≤ v4.toInt ∧ v4.toInt < (gI g0 1 0).toInt ∧ 0 ≤ v6.toInt ∧ v6.toInt < (gI g0 1 0).toInt) ∧ (gI g0 1 4).toInt < 8) := (fun z => absurd z.2.1 pk13.2); have k2 : ¬ ((1 ≤ v2.toInt ∧ v2.toInt ≤ 9 ∧ 0 ≤ v8.toInt ∧ v8.toInt ≤ 99 ∧ 0 ≤ v10.toInt ∧ v10.toInt ≤ 9 ∧ 0 ≤ v12.toInt ∧ v12.toInt ≤ 9999) ∧ (0 ≤ v4.toInt ∧ v4.toInt < (eA g132 233 0).toInt ∧ 0 ≤ v6.toInt ∧ v6.toInt < (eA g132 233 0).toInt) ∧ (eA g132 233 1).toInt < 8) := fun z => k (eC.mp z); rw [ite_an k, ite_an k, ite_an k, ite_an k, ite_an k, ite_an k] at x; rw [ite_an k2, ite_an k2, ite_an k2, ite_an k2, ite_an k2, ite_an k2] at m; clear eC k2 k; omega)⟩), CI0.cong hR_12 (((hF197.2.1 60 (by decide)).trans (hF134.2.1 60 (by decide)))) (((hF197.2.1 61 (by decide)).trans (hF134.2.1 61 (by decide)))) (((hF197.2.1 62 (by decide)).trans (hF134.2.1 62 (by decide)))) (((hF197.2.1 72 (by decide)).trans (hF134.2.1 72 (by decide)))) (((hF197.2.1 73 (by decide)).trans (hF134.2.1 73 (by decide)))) (((hF197.2.1 63 (by decide)).trans (hF134.2.1 63 (by decide)))) (((hF197.2.1 234 (by decide)).trans (hF134.2.1 234 (by decide)))) (congrArg Int32.toInt (((hF197.1 59 4 (by decide)).trans (hF134.1 59 4 (by decide))))), CI1.cong hR_13 (((hF197.2.1 117 (by decide)).trans (hF134.2.1 117 (by decide)))) (((hF197.2.1 118 (by decide)).trans (hF134.2.1 118 (by decide)))) (((hF197.2.1 119 (by decide)).trans (hF134.2.1 119 (by decide)))) (((hF197.2.1 129 (by decide)).trans (hF134.2.1 129 (by decide)))) (((hF197.2.1 130 (by decide)).trans (hF134.2.1 130 (by decide)))) (((hF197.2.1 120 (by decide)).trans (hF134.2.1 120 (by decide)))) (((hF197.2.1 234 (by decide)).trans (hF134.2.1 234 (by decide)))) (congrArg Int32.toInt (((hF197.1 116 4 (by decide)).trans (hF134.1 116 4 (by decide))))), (show RT _ from fun i i0 i1 => (eA_ti (((hF197.2.1 175 (by decide)).trans (hF134.2.1 175 (by decide))))).trans ((hR_14 i i0 (by omega)).trans (eA_ti (((hF197.2.1 236 (by decide)).trans (hF134.2.1 236 (by decide))))).symm))⟩)
  · refine r_callV 362 rfl [.ref 0, .int v2, .int v4, .int v6, .int v8, .int v10, .int v12] [] (Nat.le_of_ble_eq_true rfl) rfl (T_X10_load_0 _ hI0 v2 v4 v6 v8 v10 v12) ?_
    rintro _ _ ⟨g250, rfl, hI251, hF252, v253, rfl, hr254⟩
    refine At.sti ?_
    have hF255 := Fr.tr hF0 hF252 rfl rfl
    obtain ⟨q256, q257, q258⟩ := hr254
    obtain ⟨i260, i261, i262, i263⟩ := q257
    have w259 := i262 ⟨pk13.1, pk13.2.1, pk13.2.2⟩
    clear i260 i261 i262 i263
    have f264 := congrArg Int32.toInt (hF252.1 1 0 rfl)
    have f265 := congrArg Int32.toInt (hF252.1 1 12 rfl)
    have f266 := congrArg Int32.toInt (hF252.1 1 10 rfl)
    have f267 := congrArg Int32.toInt (hF252.1 1 11 rfl)
    have f268 := congrArg Int32.toInt (hF252.1 59 0 rfl)
    have f269 := congrArg Int32.toInt (hF252.1 59 12 rfl)
    have f270 := congrArg Int32.toInt (hF252.1 59 10 rfl)
    have f271 := congrArg Int32.toInt (hF252.1 59 11 rfl)
    have f272 := congrArg Int32.toInt (hF252.1 59 4 rfl)
    have f273 := congrArg Int32.toInt (hF252.1 116 0 rfl)
    have f274 := congrArg Int32.toInt (hF252.1 116 12 rfl)
    have f275 := congrArg Int32.toInt (hF252.1 116 10 rfl)
    have f276 := congrArg Int32.toInt (hF252.1 116 11 rfl)
    have f277 := congrArg Int32.toInt (hF252.1 116 4 rfl)
    have f278 := congrArg Int32.toInt (eA_c (j := 0) (hF252.2.1 173 rfl))
    have f279 := congrArg Int32.toInt (eA_c (j := 1) (hF252.2.1 173 rfl))
    have f280 := congrArg Int32.toInt (hF252.1 174 1 rfl)
    have f281 := congrArg Int32.toInt (hF252.1 0 16 rfl)
    have f282 := congrArg Int32.toInt (eA_c (j := 0) (hF252.2.1 233 rfl))
    have f283 := congrArg Int32.toInt (eA_c (j := 4) (hF252.2.1 233 rfl))
    have f284 := congrArg Int32.toInt (eA_c (j := 5) (hF252.2.1 233 rfl))
    have f285 := congrArg Int32.toInt (eA_c (j := 6) (hF252.2.1 233 rfl))
    have f286 := congrArg Int32.toInt (eA_c (j := 1) (hF252.2.1 233 rfl))
    have f287 := congrArg Int32.toInt (eA_c (j := 0) (hF252.2.1 234 rfl))
    have f288 := congrArg Int32.toInt (eA_c (j := 4) (hF252.2.1 234 rfl))
    have f289 := congrArg Int32.toInt (eA_c (j := 5) (hF252.2.1 234 rfl))
    have f290 := congrArg Int32.toInt (eA_c (j := 6) (hF252.2.1 234 rfl))
    have f291 := congrArg Int32.toInt (eA_c (j := 1) (hF252.2.1 234 rfl))
    have f292 := congrArg Int32.toInt (eA_c (j := 5510) (hF252.2.1 234 rfl))
    have f293 := congrArg Int32.toInt (eA_c (j := 5514) (hF252.2.1 234 rfl))
    have f294 := congrArg Int32.toInt (eA_c (j := 5515) (hF252.2.1 234 rfl))
    have f295 := congrArg Int32.toInt (eA_c (j := 5516) (hF252.2.1 234 rfl))
    have f296 := congrArg Int32.toInt (eA_c (j := 5511) (hF252.2.1 234 rfl))
    have f297 := congrArg Int32.toInt (eA_c (j := 0) (hF252.2.1 235 rfl))
    have f298 := congrArg Int32.toInt (eA_c (j := 1) (hF252.2.1 235 rfl))
    have f299 := congrArg Int32.toInt (hF252.1 231 8 rfl)
    have f300 := congrArg Int32.toInt (hF252.1 231 6 rfl)
    refine At.enter rfl ?_
    refine r_pop rfl ?_
    refine r_aload_n e2 ?_
    refine r_sload_n e0 ?_
    refine r_iload_n e3 ?_
    refine r_iconst 1 rfl ?_
    refine q_iadd (i.toInt + 1) rfl hx_1 (fun v301 hv301 => ?_)
    refine q_scald (m := L) hL (i.toInt + 1) hv301 hy_1 (fun v302 hv302 => ?_)
    have sv302 := hv2.symm.trans hv302
    subst sv302
    refine r_sload_n e0 ?_
    refine r_iload_n e3 ?_
    refine r_iconst 2 rfl ?_
    refine q_iadd (i.toInt + 2) rfl hx_2 (fun v303 hv303 => ?_)
    refine q_scald (m := L) hL (i.toInt + 2) hv303 hy_2 (fun v304 hv304 => ?_)
    have sv304 := hv4.symm.trans hv304
    subst sv304
    refine r_sload_n e0 ?_
    refine r_iload_n e3 ?_
    refine r_iconst 3 rfl ?_
    refine q_iadd (i.toInt + 3) rfl hx_3 (fun v305 hv305 => ?_)
    refine q_scald (m := L) hL (i.toInt + 3) hv305 hy_3 (fun v306 hv306 => ?_)
    have sv306 := hv6.symm.trans hv306
    subst sv306
    refine r_sload_n e0 ?_
    refine r_iload_n e3 ?_
    refine r_iconst 4 rfl ?_
    refine q_iadd (i.toInt + 4) rfl hx_4 (fun v307 hv307 => ?_)
    refine q_scald (m := L) hL (i.toInt + 4) hv307 hy_4 (fun v308 hv308 => ?_)
    have sv308 := hv8.symm.trans hv308
    subst sv308
    refine r_sload_n e0 ?_
    refine r_iload_n e3 ?_
    refine r_iconst 5 rfl ?_
    refine q_iadd (i.toInt + 5) rfl hx_5 (fun v309 hv309 => ?_)
    refine q_scald (m := L) hL (i.toInt + 5) hv309 hy_5 (fun v310 hv310 => ?_)
    have sv310 := hv10.symm.trans hv310
    subst sv310
    refine r_sload_n e0 ?_
    refine r_iload_n e3 ?_
    refine r_bipush 6 rfl ?_
    refine q_iadd (i.toInt + 6) rfl hx_6 (fun v311 hv311 => ?_)
    refine q_scald (m := L) hL (i.toInt + 6) hv311 hy_6 (fun v312 hv312 => ?_)
    have sv312 := hv12.symm.trans hv312
    subst sv312
    refine r_callV 398 rfl [.ref 231, .int v2, .int v4, .int v6, .int v8, .int v10, .int v12] [] (Nat.le_of_ble_eq_true rfl) rfl (T_X11_load_231 _ hI251 v2 v4 v6 v8 v10 v12) ?_
    rintro _ _ ⟨g313, rfl, hI314, hF315, v316, rfl, hr317⟩
    refine At.sti ?_
    have hF318 := Fr.tr hF255 hF315 rfl rfl
    obtain ⟨q319, q320, q321, q322, q323⟩ := hr317
    have ek333 : (eA g250 233 0).toInt = (gI g0 1 0).toInt := (eA_ti (j := 0) (hF252.2.1 233 (by decide))).trans hR_0.symm
    have ek334 : (eA g250 233 1).toInt = (gI g0 1 4).toInt := (eA_ti (j := 1) (hF252.2.1 233 (by decide))).trans hR_4.symm
    obtain ⟨i325, i326, i327, i328, sm329, sm330, sm331, sm332⟩ := q320
    have w324 := i327 ⟨pk13.1, (by rw [ek333]; exact pk13.2.1), (by rw [ek334]; exact pk13.2.2)⟩
    clear i325 i326 i327 i328
    have f335 := congrArg Int32.toInt (hF315.1 1 0 rfl)
    have f336 := congrArg Int32.toInt (hF315.1 1 12 rfl)
    have f337 := congrArg Int32.toInt (hF315.1 1 10 rfl)
    have f338 := congrArg Int32.toInt (hF315.1 1 11 rfl)
    have f339 := congrArg Int32.toInt (hF315.1 1 4 rfl)
    have f340 := congrArg Int32.toInt (hF315.1 59 0 rfl)
    have f341 := congrArg Int32.toInt (hF315.1 59 12 rfl)
    have f342 := congrArg Int32.toInt (hF315.1 59 10 rfl)
    have f343 := congrArg Int32.toInt (hF315.1 59 11 rfl)
    have f344 := congrArg Int32.toInt (hF315.1 59 4 rfl)
    have f345 := congrArg Int32.toInt (hF315.1 116 0 rfl)
    have f346 := congrArg Int32.toInt (hF315.1 116 12 rfl)
    have f347 := congrArg Int32.toInt (hF315.1 116 10 rfl)
    have f348 := congrArg Int32.toInt (hF315.1 116 11 rfl)
    have f349 := congrArg Int32.toInt (hF315.1 116 4 rfl)
    have f350 := congrArg Int32.toInt (eA_c (j := 0) (hF315.2.1 173 rfl))
    have f351 := congrArg Int32.toInt (eA_c (j := 1) (hF315.2.1 173 rfl))
    have f352 := congrArg Int32.toInt (hF315.1 174 1 rfl)
    have f353 := congrArg Int32.toInt (hF315.1 0 16 rfl)
    have f354 := congrArg Int32.toInt (eA_c (j := 0) (hF315.2.1 234 rfl))
    have f355 := congrArg Int32.toInt (eA_c (j := 4) (hF315.2.1 234 rfl))
    have f356 := congrArg Int32.toInt (eA_c (j := 5) (hF315.2.1 234 rfl))
    have f357 := congrArg Int32.toInt (eA_c (j := 6) (hF315.2.1 234 rfl))
    have f358 := congrArg Int32.toInt (eA_c (j := 1) (hF315.2.1 234 rfl))
    have f359 := congrArg Int32.toInt (eA_c (j := 5510) (hF315.2.1 234 rfl))
    have f360 := congrArg Int32.toInt (eA_c (j := 5514) (hF315.2.1 234 rfl))
    have f361 := congrArg Int32.toInt (eA_c (j := 5515) (hF315.2.1 234 rfl))
    have f362 := congrArg Int32.toInt (eA_c (j := 5516) (hF315.2.1 234 rfl))
    have f363 := congrArg Int32.toInt (eA_c (j := 5511) (hF315.2.1 234 rfl))
    have f364 := congrArg Int32.toInt (eA_c (j := 0) (hF315.2.1 235 rfl))
    have f365 := congrArg Int32.toInt (eA_c (j := 1) (hF315.2.1 235 rfl))
    have f366 := congrArg Int32.toInt (hF315.1 231 8 rfl)
    have f367 := congrArg Int32.toInt (hF315.1 231 6 rfl)
    refine At.enter rfl ?_
    refine r_pop rfl ?_
    refine r_goto ?_
    exact K _ hI314 (show LwR _ from ⟨by omega, by omega, by omega, by omega, by omega, (eA_ti (j := 0) (((hF315.2.1 173 (by decide)).trans (hF252.2.1 173 (by decide))))).trans (hR_5.trans (eA_ti (j := 0) (((hF315.2.1 235 (by decide)).trans (hF252.2.1 235 (by decide))))).symm), (eA_ti (j := 1) (((hF315.2.1 173 (by decide)).trans (hF252.2.1 173 (by decide))))).trans (hR_6.trans (eA_ti (j := 1) (((hF315.2.1 235 (by decide)).trans (hF252.2.1 235 (by decide))))).symm), (congrArg Int32.toInt (((hF315.1 174 1 (by decide)).trans (hF252.1 174 1 (by decide))))).trans (hR_7.trans (congrArg Int32.toInt (((hF315.1 231 8 (by decide)).trans (hF252.1 231 8 (by decide))))).symm), (congrArg Int32.toInt (((hF315.1 0 16 (by decide)).trans (hF252.1 0 16 (by decide))))).trans (hR_8.trans (congrArg Int32.toInt (((hF315.1 231 6 (by decide)).trans (hF252.1 231 6 (by decide))))).symm), IM0.cong hR_9 (eA_ti (j := 0) (((hF315.2.1 173 (by decide)).trans (hF252.2.1 173 (by decide))))) (congrArg Int32.toInt (((hF315.1 59 0 (by decide)).trans (hF252.1 59 0 (by decide))))) (eA_ti (j := 0) (((hF315.2.1 234 (by decide)).trans (hF252.2.1 234 (by decide))))) (congrArg Int32.toInt (((hF315.1 59 12 (by decide)).trans (hF252.1 59 12 (by decide))))) (eA_ti (j := 4) (((hF315.2.1 234 (by decide)).trans (hF252.2.1 234 (by decide))))) (congrArg Int32.toInt (((hF315.1 59 10 (by decide)).trans (hF252.1 59 10 (by decide))))) (eA_ti (j := 5) (((hF315.2.1 234 (by decide)).trans (hF252.2.1 234 (by decide))))) (congrArg Int32.toInt (((hF315.1 59 11 (by decide)).trans (hF252.1 59 11 (by decide))))) (eA_ti (j := 6) (((hF315.2.1 234 (by decide)).trans (hF252.2.1 234 (by decide))))) (congrArg Int32.toInt (((hF315.1 59 4 (by decide)).trans (hF252.1 59 4 (by decide))))) (eA_ti (j := 1) (((hF315.2.1 234 (by decide)).trans (hF252.2.1 234 (by decide))))), IM1.cong hR_10 (eA_ti (j := 1) (((hF315.2.1 173 (by decide)).trans (hF252.2.1 173 (by decide))))) (congrArg Int32.toInt (((hF315.1 116 0 (by decide)).trans (hF252.1 116 0 (by decide))))) (eA_ti (j := 5510) (((hF315.2.1 234 (by decide)).trans (hF252.2.1 234 (by decide))))) (congrArg Int32.toInt (((hF315.1 116 12 (by decide)).trans (hF252.1 116 12 (by decide))))) (eA_ti (j := 5514) (((hF315.2.1 234 (by decide)).trans (hF252.2.1 234 (by decide))))) (congrArg Int32.toInt (((hF315.1 116 10 (by decide)).trans (hF252.1 116 10 (by decide))))) (eA_ti (j := 5515) (((hF315.2.1 234 (by decide)).trans (hF252.2.1 234 (by decide))))) (congrArg Int32.toInt (((hF315.1 116 11 (by decide)).trans (hF252.1 116 11 (by decide))))) (eA_ti (j := 5516) (((hF315.2.1 234 (by decide)).trans (hF252.2.1 234 (by decide))))) (congrArg Int32.toInt (((hF315.1 116 4 (by decide)).trans (hF252.1 116 4 (by decide))))) (eA_ti (j := 5511) (((hF315.2.1 234 (by decide)).trans (hF252.2.1 234 (by decide))))), (show CT _ from ⟨fun i i0 i1 => ⟨(by have t0_ := hI0.t0; have t1_ := hI0.t1; have o := (hR_11.1 i i0 i1).1; have x := eA_ti (j := i) (((hF315.2.1 2 (by decide)).trans (hF252.2.1 2 (by decide)))); have m := q321 (10 + 3 * i) (by omega) (by omega); have y1 := eA_ti (j := ((10 + 3 * i))) (hF252.2.1 233 (by decide)); first | exact x.trans (o.trans (m.trans y1).symm) | omega), (by have t0_ := hI0.t0; have t1_ := hI0.t1; have o := (hR_11.1 i i0 i1).2.1; have x := eA_ti (j := i) (((hF315.2.1 3 (by decide)).trans (hF252.2.1 3 (by decide)))); have m := q321 (10 + 3 * i + 1) (by omega) (by omega); have y1 := eA_ti (j := ((10 + 3 * i + 1))) (hF252.2.1 233 (by decide)); first | exact x.trans (o.trans (m.trans y1).symm) | omega), (by have t0_ := hI0.t0; have t1_ := hI0.t1; have o := (hR_11.1 i i0 i1).2.2; have x := eA_ti (j := i) (((hF315.2.1 4 (by decide)).trans (hF252.2.1 4 (by decide)))); have m := q321 (10 + 3 * i + 2) (by omega) (by omega); have y1 := eA_ti (j := ((10 + 3 * i + 2))) (hF252.2.1 233 (by decide)); first | exact x.trans (o.trans (m.trans y1).symm) | omega)⟩, fun i i0 i1 => ⟨(by have t0_ := hI0.t0; have t1_ := hI0.t1; have o := (hR_11.2.1 i i0 i1).1; have x := eA_ti (j := i) (((hF315.2.1 14 (by decide)).trans (hF252.2.1 14 (by decide)))); have m := q322 (94 + 2 * i) (by omega) (by omega); have y1 := eA_ti (j := ((94 + 2 * i))) (hF252.2.1 233 (by decide)); first | exact x.trans (o.trans (m.trans y1).symm) | omega), (by have t0_ := hI0.t0; have t1_ := hI0.t1; have o := (hR_11.2.1 i i0 i1).2; have x := eA_ti (j := i) (((hF315.2.1 15 (by decide)).trans (hF252.2.1 15 (by decide)))); have m := q322 (94 + 2 * i + 1) (by omega) (by omega); have y1 := eA_ti (j := ((94 + 2 * i + 1))) (hF252.2.1 233 (by decide)); first | exact x.trans (o.trans (m.trans y1).symm) | omega)⟩, fun i i0 i1 => (by have t0_ := hI0.t0; have t1_ := hI0.t1; have o : i < 6 * (gI g0 1 4).toInt → _ := fun hz => hR_11.2.2 i i0 hz; have t9_ := RgF.at hI314.2.1 (p := 1) (b := 4) rfl; dsimp only at t9_; have i9_ : i < 48 := (by omega); have x := (eA_ti (j := i) (hF315.2.1 5 (by decide))).trans (q258 i i0 i9_); have m := q323 (46 + i) (by omega) (by omega); have y1 := eA_ti (j := ((46 + i))) (hF252.2.1 233 (by decide)); have ek0 : (eA g250 233 0).toInt = (gI g0 1 0).toInt := (eA_ti (j := 0) (hF252.2.1 233 (by decide))).trans hR_0.symm; have ek1 : (eA g250 233 1).toInt = (gI g0 1 4).toInt := (eA_ti (j := 1) (hF252.2.1 233 (by decide))).trans hR_4.symm; have eC : ((1 ≤ v2.toInt ∧ v2.toInt ≤ 9 ∧ 0 ≤ v8.toInt ∧ v8.toInt ≤ 99 ∧ 0 ≤ v10.toInt ∧ v10.toInt ≤ 9 ∧ 0 ≤ v12.toInt ∧ v12.toInt ≤ 9999) ∧ (0 ≤ v4.toInt ∧ v4.toInt < (eA g250 233 0).toInt ∧ 0 ≤ v6.toInt ∧ v6.toInt < (eA g250 233 0).toInt) ∧ (eA g250 233 1).toInt < 8) = ((1 ≤ v2.toInt ∧ v2.toInt ≤ 9 ∧ 0 ≤ v8.toInt ∧ v8.toInt ≤ 99 ∧ 0 ≤ v10.toInt ∧ v10.toInt ≤ 9 ∧ 0 ≤ v12.toInt ∧ v12.toInt ≤ 9999) ∧ (0 ≤ v4.toInt ∧ v4.toInt < (gI g0 1 0).toInt ∧ 0 ≤ v6.toInt ∧ v6.toInt < (gI g0 1 0).toInt) ∧ (gI g0 1 4).toInt < 8) := (by rw [ek0, ek1]); have k : ¬ ((1 ≤ v2.toInt ∧ v2.toInt ≤ 9 ∧ 0 ≤ v8.toInt ∧ v8.toInt ≤ 99 ∧ 0 ≤ v10.toInt ∧ v10.toInt ≤ 9 ∧ 0 ≤ v12.toInt ∧ v12.toInt ≤ 9999) ∧ (0 ≤ v4.toInt ∧ v4.toInt < (gI g0 1 0).toInt ∧ 0 ≤ v6.toInt ∧ v6.toInt < (gI g0 1 0).toInt) ∧ (gI g0 1 4).toInt < 8) := (fun z => absurd pk13.2.2 (Int.not_le.mpr z.2.2)); have k2 : ¬ ((1 ≤ v2.toInt ∧ v2.toInt ≤ 9 ∧ 0 ≤ v8.toInt ∧ v8.toInt ≤ 99 ∧ 0 ≤ v10.toInt ∧ v10.toInt ≤ 9 ∧ 0 ≤ v12.toInt ∧ v12.toInt ≤ 9999) ∧ (0 ≤ v4.toInt ∧ v4.toInt < (eA g250 233 0).toInt ∧ 0 ≤ v6.toInt ∧ v6.toInt < (eA g250 233 0).toInt) ∧ (eA g250 233 1).toInt < 8) := fun z => k (eC.mp z); rw [ite_an k, ite_an k, ite_an k, ite_an k, ite_an k, ite_an k] at x; rw [ite_an k2, ite_an k2, ite_an k2, ite_an k2, ite_an k2, ite_an k2] at m; clear eC k2 k; omega)⟩), CI0.cong hR_12 (((hF315.2.1 60 (by decide)).trans (hF252.2.1 60 (by decide)))) (((hF315.2.1 61 (by decide)).trans (hF252.2.1 61 (by decide)))) (((hF315.2.1 62 (by decide)).trans (hF252.2.1 62 (by decide)))) (((hF315.2.1 72 (by decide)).trans (hF252.2.1 72 (by decide)))) (((hF315.2.1 73 (by decide)).trans (hF252.2.1 73 (by decide)))) (((hF315.2.1 63 (by decide)).trans (hF252.2.1 63 (by decide)))) (((hF315.2.1 234 (by decide)).trans (hF252.2.1 234 (by decide)))) (congrArg Int32.toInt (((hF315.1 59 4 (by decide)).trans (hF252.1 59 4 (by decide))))), CI1.cong hR_13 (((hF315.2.1 117 (by decide)).trans (hF252.2.1 117 (by decide)))) (((hF315.2.1 118 (by decide)).trans (hF252.2.1 118 (by decide)))) (((hF315.2.1 119 (by decide)).trans (hF252.2.1 119 (by decide)))) (((hF315.2.1 129 (by decide)).trans (hF252.2.1 129 (by decide)))) (((hF315.2.1 130 (by decide)).trans (hF252.2.1 130 (by decide)))) (((hF315.2.1 120 (by decide)).trans (hF252.2.1 120 (by decide)))) (((hF315.2.1 234 (by decide)).trans (hF252.2.1 234 (by decide)))) (congrArg Int32.toInt (((hF315.1 116 4 (by decide)).trans (hF252.1 116 4 (by decide))))), (show RT _ from fun i i0 i1 => (eA_ti (((hF315.2.1 175 (by decide)).trans (hF252.2.1 175 (by decide))))).trans ((hR_14 i i0 (by omega)).trans (eA_ti (((hF315.2.1 236 (by decide)).trans (hF252.2.1 236 (by decide))))).symm))⟩)
  · refine r_callV 362 rfl [.ref 0, .int v2, .int v4, .int v6, .int v8, .int v10, .int v12] [] (Nat.le_of_ble_eq_true rfl) rfl (T_X10_load_0 _ hI0 v2 v4 v6 v8 v10 v12) ?_
    rintro _ _ ⟨g368, rfl, hI369, hF370, v371, rfl, hr372⟩
    refine At.sti ?_
    have hF373 := Fr.tr hF0 hF370 rfl rfl
    obtain ⟨q374, q375, q376⟩ := hr372
    obtain ⟨i378, i379, i380, i381⟩ := q375
    have w377 := i381 ⟨pk13.1, pk13.2.1, Int.not_le.mp pk13.2.2⟩
    clear i378 i379 i380 i381
    have f382 := congrArg Int32.toInt (hF370.1 1 0 rfl)
    have f383 := congrArg Int32.toInt (hF370.1 1 12 rfl)
    have f384 := congrArg Int32.toInt (hF370.1 1 10 rfl)
    have f385 := congrArg Int32.toInt (hF370.1 1 11 rfl)
    have f386 := congrArg Int32.toInt (hF370.1 59 0 rfl)
    have f387 := congrArg Int32.toInt (hF370.1 59 12 rfl)
    have f388 := congrArg Int32.toInt (hF370.1 59 10 rfl)
    have f389 := congrArg Int32.toInt (hF370.1 59 11 rfl)
    have f390 := congrArg Int32.toInt (hF370.1 59 4 rfl)
    have f391 := congrArg Int32.toInt (hF370.1 116 0 rfl)
    have f392 := congrArg Int32.toInt (hF370.1 116 12 rfl)
    have f393 := congrArg Int32.toInt (hF370.1 116 10 rfl)
    have f394 := congrArg Int32.toInt (hF370.1 116 11 rfl)
    have f395 := congrArg Int32.toInt (hF370.1 116 4 rfl)
    have f396 := congrArg Int32.toInt (eA_c (j := 0) (hF370.2.1 173 rfl))
    have f397 := congrArg Int32.toInt (eA_c (j := 1) (hF370.2.1 173 rfl))
    have f398 := congrArg Int32.toInt (hF370.1 174 1 rfl)
    have f399 := congrArg Int32.toInt (hF370.1 0 16 rfl)
    have f400 := congrArg Int32.toInt (eA_c (j := 0) (hF370.2.1 233 rfl))
    have f401 := congrArg Int32.toInt (eA_c (j := 4) (hF370.2.1 233 rfl))
    have f402 := congrArg Int32.toInt (eA_c (j := 5) (hF370.2.1 233 rfl))
    have f403 := congrArg Int32.toInt (eA_c (j := 6) (hF370.2.1 233 rfl))
    have f404 := congrArg Int32.toInt (eA_c (j := 1) (hF370.2.1 233 rfl))
    have f405 := congrArg Int32.toInt (eA_c (j := 0) (hF370.2.1 234 rfl))
    have f406 := congrArg Int32.toInt (eA_c (j := 4) (hF370.2.1 234 rfl))
    have f407 := congrArg Int32.toInt (eA_c (j := 5) (hF370.2.1 234 rfl))
    have f408 := congrArg Int32.toInt (eA_c (j := 6) (hF370.2.1 234 rfl))
    have f409 := congrArg Int32.toInt (eA_c (j := 1) (hF370.2.1 234 rfl))
    have f410 := congrArg Int32.toInt (eA_c (j := 5510) (hF370.2.1 234 rfl))
    have f411 := congrArg Int32.toInt (eA_c (j := 5514) (hF370.2.1 234 rfl))
    have f412 := congrArg Int32.toInt (eA_c (j := 5515) (hF370.2.1 234 rfl))
    have f413 := congrArg Int32.toInt (eA_c (j := 5516) (hF370.2.1 234 rfl))
    have f414 := congrArg Int32.toInt (eA_c (j := 5511) (hF370.2.1 234 rfl))
    have f415 := congrArg Int32.toInt (eA_c (j := 0) (hF370.2.1 235 rfl))
    have f416 := congrArg Int32.toInt (eA_c (j := 1) (hF370.2.1 235 rfl))
    have f417 := congrArg Int32.toInt (hF370.1 231 8 rfl)
    have f418 := congrArg Int32.toInt (hF370.1 231 6 rfl)
    refine At.enter rfl ?_
    refine r_pop rfl ?_
    refine r_aload_n e2 ?_
    refine r_sload_n e0 ?_
    refine r_iload_n e3 ?_
    refine r_iconst 1 rfl ?_
    refine q_iadd (i.toInt + 1) rfl hx_1 (fun v419 hv419 => ?_)
    refine q_scald (m := L) hL (i.toInt + 1) hv419 hy_1 (fun v420 hv420 => ?_)
    have sv420 := hv2.symm.trans hv420
    subst sv420
    refine r_sload_n e0 ?_
    refine r_iload_n e3 ?_
    refine r_iconst 2 rfl ?_
    refine q_iadd (i.toInt + 2) rfl hx_2 (fun v421 hv421 => ?_)
    refine q_scald (m := L) hL (i.toInt + 2) hv421 hy_2 (fun v422 hv422 => ?_)
    have sv422 := hv4.symm.trans hv422
    subst sv422
    refine r_sload_n e0 ?_
    refine r_iload_n e3 ?_
    refine r_iconst 3 rfl ?_
    refine q_iadd (i.toInt + 3) rfl hx_3 (fun v423 hv423 => ?_)
    refine q_scald (m := L) hL (i.toInt + 3) hv423 hy_3 (fun v424 hv424 => ?_)
    have sv424 := hv6.symm.trans hv424
    subst sv424
    refine r_sload_n e0 ?_
    refine r_iload_n e3 ?_
    refine r_iconst 4 rfl ?_
    refine q_iadd (i.toInt + 4) rfl hx_4 (fun v425 hv425 => ?_)
    refine q_scald (m := L) hL (i.toInt + 4) hv425 hy_4 (fun v426 hv426 => ?_)
    have sv426 := hv8.symm.trans hv426
    subst sv426
    refine r_sload_n e0 ?_
    refine r_iload_n e3 ?_
    refine r_iconst 5 rfl ?_
    refine q_iadd (i.toInt + 5) rfl hx_5 (fun v427 hv427 => ?_)
    refine q_scald (m := L) hL (i.toInt + 5) hv427 hy_5 (fun v428 hv428 => ?_)
    have sv428 := hv10.symm.trans hv428
    subst sv428
    refine r_sload_n e0 ?_
    refine r_iload_n e3 ?_
    refine r_bipush 6 rfl ?_
    refine q_iadd (i.toInt + 6) rfl hx_6 (fun v429 hv429 => ?_)
    refine q_scald (m := L) hL (i.toInt + 6) hv429 hy_6 (fun v430 hv430 => ?_)
    have sv430 := hv12.symm.trans hv430
    subst sv430
    refine r_callV 398 rfl [.ref 231, .int v2, .int v4, .int v6, .int v8, .int v10, .int v12] [] (Nat.le_of_ble_eq_true rfl) rfl (T_X11_load_231 _ hI369 v2 v4 v6 v8 v10 v12) ?_
    rintro _ _ ⟨g431, rfl, hI432, hF433, v434, rfl, hr435⟩
    refine At.sti ?_
    have hF436 := Fr.tr hF373 hF433 rfl rfl
    obtain ⟨q437, q438, q439, q440, q441⟩ := hr435
    have ek451 : (eA g368 233 0).toInt = (gI g0 1 0).toInt := (eA_ti (j := 0) (hF370.2.1 233 (by decide))).trans hR_0.symm
    have ek452 : (eA g368 233 1).toInt = (gI g0 1 4).toInt := (eA_ti (j := 1) (hF370.2.1 233 (by decide))).trans hR_4.symm
    obtain ⟨i443, i444, i445, i446, sm447, sm448, sm449, sm450⟩ := q438
    have w442 := i446 ⟨pk13.1, (by rw [ek451]; exact pk13.2.1), Int.not_le.mp (by rw [ek452]; exact pk13.2.2)⟩
    clear i443 i444 i445 i446
    have f453 := congrArg Int32.toInt (hF433.1 1 0 rfl)
    have f454 := congrArg Int32.toInt (hF433.1 1 12 rfl)
    have f455 := congrArg Int32.toInt (hF433.1 1 10 rfl)
    have f456 := congrArg Int32.toInt (hF433.1 1 11 rfl)
    have f457 := congrArg Int32.toInt (hF433.1 1 4 rfl)
    have f458 := congrArg Int32.toInt (hF433.1 59 0 rfl)
    have f459 := congrArg Int32.toInt (hF433.1 59 12 rfl)
    have f460 := congrArg Int32.toInt (hF433.1 59 10 rfl)
    have f461 := congrArg Int32.toInt (hF433.1 59 11 rfl)
    have f462 := congrArg Int32.toInt (hF433.1 59 4 rfl)
    have f463 := congrArg Int32.toInt (hF433.1 116 0 rfl)
    have f464 := congrArg Int32.toInt (hF433.1 116 12 rfl)
    have f465 := congrArg Int32.toInt (hF433.1 116 10 rfl)
    have f466 := congrArg Int32.toInt (hF433.1 116 11 rfl)
    have f467 := congrArg Int32.toInt (hF433.1 116 4 rfl)
    have f468 := congrArg Int32.toInt (eA_c (j := 0) (hF433.2.1 173 rfl))
    have f469 := congrArg Int32.toInt (eA_c (j := 1) (hF433.2.1 173 rfl))
    have f470 := congrArg Int32.toInt (hF433.1 174 1 rfl)
    have f471 := congrArg Int32.toInt (hF433.1 0 16 rfl)
    have f472 := congrArg Int32.toInt (eA_c (j := 0) (hF433.2.1 234 rfl))
    have f473 := congrArg Int32.toInt (eA_c (j := 4) (hF433.2.1 234 rfl))
    have f474 := congrArg Int32.toInt (eA_c (j := 5) (hF433.2.1 234 rfl))
    have f475 := congrArg Int32.toInt (eA_c (j := 6) (hF433.2.1 234 rfl))
    have f476 := congrArg Int32.toInt (eA_c (j := 1) (hF433.2.1 234 rfl))
    have f477 := congrArg Int32.toInt (eA_c (j := 5510) (hF433.2.1 234 rfl))
    have f478 := congrArg Int32.toInt (eA_c (j := 5514) (hF433.2.1 234 rfl))
    have f479 := congrArg Int32.toInt (eA_c (j := 5515) (hF433.2.1 234 rfl))
    have f480 := congrArg Int32.toInt (eA_c (j := 5516) (hF433.2.1 234 rfl))
    have f481 := congrArg Int32.toInt (eA_c (j := 5511) (hF433.2.1 234 rfl))
    have f482 := congrArg Int32.toInt (eA_c (j := 0) (hF433.2.1 235 rfl))
    have f483 := congrArg Int32.toInt (eA_c (j := 1) (hF433.2.1 235 rfl))
    have f484 := congrArg Int32.toInt (hF433.1 231 8 rfl)
    have f485 := congrArg Int32.toInt (hF433.1 231 6 rfl)
    refine At.enter rfl ?_
    refine r_pop rfl ?_
    refine r_goto ?_
    exact K _ hI432 (show LwR _ from ⟨by omega, by omega, by omega, by omega, by omega, (eA_ti (j := 0) (((hF433.2.1 173 (by decide)).trans (hF370.2.1 173 (by decide))))).trans (hR_5.trans (eA_ti (j := 0) (((hF433.2.1 235 (by decide)).trans (hF370.2.1 235 (by decide))))).symm), (eA_ti (j := 1) (((hF433.2.1 173 (by decide)).trans (hF370.2.1 173 (by decide))))).trans (hR_6.trans (eA_ti (j := 1) (((hF433.2.1 235 (by decide)).trans (hF370.2.1 235 (by decide))))).symm), (congrArg Int32.toInt (((hF433.1 174 1 (by decide)).trans (hF370.1 174 1 (by decide))))).trans (hR_7.trans (congrArg Int32.toInt (((hF433.1 231 8 (by decide)).trans (hF370.1 231 8 (by decide))))).symm), (congrArg Int32.toInt (((hF433.1 0 16 (by decide)).trans (hF370.1 0 16 (by decide))))).trans (hR_8.trans (congrArg Int32.toInt (((hF433.1 231 6 (by decide)).trans (hF370.1 231 6 (by decide))))).symm), IM0.cong hR_9 (eA_ti (j := 0) (((hF433.2.1 173 (by decide)).trans (hF370.2.1 173 (by decide))))) (congrArg Int32.toInt (((hF433.1 59 0 (by decide)).trans (hF370.1 59 0 (by decide))))) (eA_ti (j := 0) (((hF433.2.1 234 (by decide)).trans (hF370.2.1 234 (by decide))))) (congrArg Int32.toInt (((hF433.1 59 12 (by decide)).trans (hF370.1 59 12 (by decide))))) (eA_ti (j := 4) (((hF433.2.1 234 (by decide)).trans (hF370.2.1 234 (by decide))))) (congrArg Int32.toInt (((hF433.1 59 10 (by decide)).trans (hF370.1 59 10 (by decide))))) (eA_ti (j := 5) (((hF433.2.1 234 (by decide)).trans (hF370.2.1 234 (by decide))))) (congrArg Int32.toInt (((hF433.1 59 11 (by decide)).trans (hF370.1 59 11 (by decide))))) (eA_ti (j := 6) (((hF433.2.1 234 (by decide)).trans (hF370.2.1 234 (by decide))))) (congrArg Int32.toInt (((hF433.1 59 4 (by decide)).trans (hF370.1 59 4 (by decide))))) (eA_ti (j := 1) (((hF433.2.1 234 (by decide)).trans (hF370.2.1 234 (by decide))))), IM1.cong hR_10 (eA_ti (j := 1) (((hF433.2.1 173 (by decide)).trans (hF370.2.1 173 (by decide))))) (congrArg Int32.toInt (((hF433.1 116 0 (by decide)).trans (hF370.1 116 0 (by decide))))) (eA_ti (j := 5510) (((hF433.2.1 234 (by decide)).trans (hF370.2.1 234 (by decide))))) (congrArg Int32.toInt (((hF433.1 116 12 (by decide)).trans (hF370.1 116 12 (by decide))))) (eA_ti (j := 5514) (((hF433.2.1 234 (by decide)).trans (hF370.2.1 234 (by decide))))) (congrArg Int32.toInt (((hF433.1 116 10 (by decide)).trans (hF370.1 116 10 (by decide))))) (eA_ti (j := 5515) (((hF433.2.1 234 (by decide)).trans (hF370.2.1 234 (by decide))))) (congrArg Int32.toInt (((hF433.1 116 11 (by decide)).trans (hF370.1 116 11 (by decide))))) (eA_ti (j := 5516) (((hF433.2.1 234 (by decide)).trans (hF370.2.1 234 (by decide))))) (congrArg Int32.toInt (((hF433.1 116 4 (by decide)).trans (hF370.1 116 4 (by decide))))) (eA_ti (j := 5511) (((hF433.2.1 234 (by decide)).trans (hF370.2.1 234 (by decide))))), (show CT _ from ⟨fun i i0 i1 => ⟨(by have t0_ := hI0.t0; have t1_ := hI0.t1; have o := (hR_11.1 i i0 i1).1; have x := eA_ti (j := i) (((hF433.2.1 2 (by decide)).trans (hF370.2.1 2 (by decide)))); have m := q439 (10 + 3 * i) (by omega) (by omega); have y1 := eA_ti (j := ((10 + 3 * i))) (hF370.2.1 233 (by decide)); first | exact x.trans (o.trans (m.trans y1).symm) | omega), (by have t0_ := hI0.t0; have t1_ := hI0.t1; have o := (hR_11.1 i i0 i1).2.1; have x := eA_ti (j := i) (((hF433.2.1 3 (by decide)).trans (hF370.2.1 3 (by decide)))); have m := q439 (10 + 3 * i + 1) (by omega) (by omega); have y1 := eA_ti (j := ((10 + 3 * i + 1))) (hF370.2.1 233 (by decide)); first | exact x.trans (o.trans (m.trans y1).symm) | omega), (by have t0_ := hI0.t0; have t1_ := hI0.t1; have o := (hR_11.1 i i0 i1).2.2; have x := eA_ti (j := i) (((hF433.2.1 4 (by decide)).trans (hF370.2.1 4 (by decide)))); have m := q439 (10 + 3 * i + 2) (by omega) (by omega); have y1 := eA_ti (j := ((10 + 3 * i + 2))) (hF370.2.1 233 (by decide)); first | exact x.trans (o.trans (m.trans y1).symm) | omega)⟩, fun i i0 i1 => ⟨(by have t0_ := hI0.t0; have t1_ := hI0.t1; have o := (hR_11.2.1 i i0 i1).1; have x := eA_ti (j := i) (((hF433.2.1 14 (by decide)).trans (hF370.2.1 14 (by decide)))); have m := q440 (94 + 2 * i) (by omega) (by omega); have y1 := eA_ti (j := ((94 + 2 * i))) (hF370.2.1 233 (by decide)); first | exact x.trans (o.trans (m.trans y1).symm) | omega), (by have t0_ := hI0.t0; have t1_ := hI0.t1; have o := (hR_11.2.1 i i0 i1).2; have x := eA_ti (j := i) (((hF433.2.1 15 (by decide)).trans (hF370.2.1 15 (by decide)))); have m := q440 (94 + 2 * i + 1) (by omega) (by omega); have y1 := eA_ti (j := ((94 + 2 * i + 1))) (hF370.2.1 233 (by decide)); first | exact x.trans (o.trans (m.trans y1).symm) | omega)⟩, fun i i0 i1 => (by have t0_ := hI0.t0; have t1_ := hI0.t1; have o : i < 6 * (gI g0 1 4).toInt → _ := fun hz => hR_11.2.2 i i0 hz; have t9_ := RgF.at hI432.2.1 (p := 1) (b := 4) rfl; dsimp only at t9_; have i9_ : i < 48 := (by omega); have x := (eA_ti (j := i) (hF433.2.1 5 (by decide))).trans (q376 i i0 i9_); have m := q441 (46 + i) (by omega) (by omega); have y1 := eA_ti (j := ((46 + i))) (hF370.2.1 233 (by decide)); have ek0 : (eA g368 233 0).toInt = (gI g0 1 0).toInt := (eA_ti (j := 0) (hF370.2.1 233 (by decide))).trans hR_0.symm; have ek1 : (eA g368 233 1).toInt = (gI g0 1 4).toInt := (eA_ti (j := 1) (hF370.2.1 233 (by decide))).trans hR_4.symm; have eC : ((1 ≤ v2.toInt ∧ v2.toInt ≤ 9 ∧ 0 ≤ v8.toInt ∧ v8.toInt ≤ 99 ∧ 0 ≤ v10.toInt ∧ v10.toInt ≤ 9 ∧ 0 ≤ v12.toInt ∧ v12.toInt ≤ 9999) ∧ (0 ≤ v4.toInt ∧ v4.toInt < (eA g368 233 0).toInt ∧ 0 ≤ v6.toInt ∧ v6.toInt < (eA g368 233 0).toInt) ∧ (eA g368 233 1).toInt < 8) = ((1 ≤ v2.toInt ∧ v2.toInt ≤ 9 ∧ 0 ≤ v8.toInt ∧ v8.toInt ≤ 99 ∧ 0 ≤ v10.toInt ∧ v10.toInt ≤ 9 ∧ 0 ≤ v12.toInt ∧ v12.toInt ≤ 9999) ∧ (0 ≤ v4.toInt ∧ v4.toInt < (gI g0 1 0).toInt ∧ 0 ≤ v6.toInt ∧ v6.toInt < (gI g0 1 0).toInt) ∧ (gI g0 1 4).toInt < 8) := (by rw [ek0, ek1]); have k : (1 ≤ v2.toInt ∧ v2.toInt ≤ 9 ∧ 0 ≤ v8.toInt ∧ v8.toInt ≤ 99 ∧ 0 ≤ v10.toInt ∧ v10.toInt ≤ 9 ∧ 0 ≤ v12.toInt ∧ v12.toInt ≤ 9999) ∧ (0 ≤ v4.toInt ∧ v4.toInt < (gI g0 1 0).toInt ∧ 0 ≤ v6.toInt ∧ v6.toInt < (gI g0 1 0).toInt) ∧ (gI g0 1 4).toInt < 8 := ⟨pk13.1, pk13.2.1, Int.not_le.mp pk13.2.2⟩; rw [ite_ap k, ite_ap k, ite_ap k, ite_ap k, ite_ap k, ite_ap k] at x; have k2 := eC.mpr k; rw [ite_ap k2, ite_ap k2, ite_ap k2, ite_ap k2, ite_ap k2, ite_ap k2] at m; clear eC k2; rw [ek1] at m; exact x.trans ((ld6 (fun z => (o z).trans y1.symm) (by omega)).trans m.symm))⟩), CI0.cong hR_12 (((hF433.2.1 60 (by decide)).trans (hF370.2.1 60 (by decide)))) (((hF433.2.1 61 (by decide)).trans (hF370.2.1 61 (by decide)))) (((hF433.2.1 62 (by decide)).trans (hF370.2.1 62 (by decide)))) (((hF433.2.1 72 (by decide)).trans (hF370.2.1 72 (by decide)))) (((hF433.2.1 73 (by decide)).trans (hF370.2.1 73 (by decide)))) (((hF433.2.1 63 (by decide)).trans (hF370.2.1 63 (by decide)))) (((hF433.2.1 234 (by decide)).trans (hF370.2.1 234 (by decide)))) (congrArg Int32.toInt (((hF433.1 59 4 (by decide)).trans (hF370.1 59 4 (by decide))))), CI1.cong hR_13 (((hF433.2.1 117 (by decide)).trans (hF370.2.1 117 (by decide)))) (((hF433.2.1 118 (by decide)).trans (hF370.2.1 118 (by decide)))) (((hF433.2.1 119 (by decide)).trans (hF370.2.1 119 (by decide)))) (((hF433.2.1 129 (by decide)).trans (hF370.2.1 129 (by decide)))) (((hF433.2.1 130 (by decide)).trans (hF370.2.1 130 (by decide)))) (((hF433.2.1 120 (by decide)).trans (hF370.2.1 120 (by decide)))) (((hF433.2.1 234 (by decide)).trans (hF370.2.1 234 (by decide)))) (congrArg Int32.toInt (((hF433.1 116 4 (by decide)).trans (hF370.1 116 4 (by decide))))), (show RT _ from fun i i0 i1 => (eA_ti (((hF433.2.1 175 (by decide)).trans (hF370.2.1 175 (by decide))))).trans ((hR_14 i i0 (by omega)).trans (eA_ti (((hF433.2.1 236 (by decide)).trans (hF370.2.1 236 (by decide))))).symm))⟩)
