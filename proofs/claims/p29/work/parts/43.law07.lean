set_option maxRecDepth 100000 in
set_option maxHeartbeats 8000000 in
theorem lq_c7 (d : Nat) {N : Nat} {g0 : List en_E} (hI0 : HI g0) (hR0 : LwR g0) {ys : List Int32} {L : Nat} (hL : ys.length = L) (hL2 : L ≤ 3584) {l : en_L} {i : Int32} (e0 : en_get 0 l = some (.float 0)) (e1 : en_get 1 l = some (.ref 0)) (e2 : en_get 2 l = some (.ref 231)) (e3 : en_get 3 l = some (.int i)) (hi : 0 ≤ i.toInt ∧ i.toInt + 7 ≤ L) {Ph : Option Value → en_H → Prop} (K : ∀ g1 : List en_E, HI g1 → LwR g1 → At (d + 423) (some ys) (some .boolean) bs_L_law (1330, l, [], (g1, N)) Ph) : At (d + 423) (some ys) (some .boolean) bs_L_law (491, l, [], (g0, N)) Ph := by
  have hF0 : Fr F_law A_law g0 g0 := Fr.rf
  have hx_1 : -2147483648 ≤ i.toInt + 1 ∧ i.toInt + 1 ≤ 2147483647 := by omega
  have hx_2 : -2147483648 ≤ i.toInt + 2 ∧ i.toInt + 2 ≤ 2147483647 := by omega
  have hx_3 : -2147483648 ≤ i.toInt + 3 ∧ i.toInt + 3 ≤ 2147483647 := by omega
  have hx_4 : -2147483648 ≤ i.toInt + 4 ∧ i.toInt + 4 ≤ 2147483647 := by omega
  have hx_5 : -2147483648 ≤ i.toInt + 5 ∧ i.toInt + 5 ≤ 2147483647 := by omega
  have hx_6 : -2147483648 ≤ i.toInt + 6 ∧ i.toInt + 6 ≤ 2147483647 := by omega
  have hy_0 : 0 ≤ i.toInt ∧ i.toInt < (L : Int) := by omega
  have hy_1 : 0 ≤ i.toInt + 1 ∧ i.toInt + 1 < (L : Int) := by omega
  have hy_2 : 0 ≤ i.toInt + 2 ∧ i.toInt + 2 < (L : Int) := by omega
  have hy_3 : 0 ≤ i.toInt + 3 ∧ i.toInt + 3 < (L : Int) := by omega
  have hy_4 : 0 ≤ i.toInt + 4 ∧ i.toInt + 4 < (L : Int) := by omega
  have hy_5 : 0 ≤ i.toInt + 5 ∧ i.toInt + 5 < (L : Int) := by omega
  have hy_6 : 0 ≤ i.toInt + 6 ∧ i.toInt + 6 < (L : Int) := by omega
  unfold LwR at hR0
  obtain ⟨hR_0, hR_1, hR_2, hR_3, hR_4, hR_5, hR_6, hR_7, hR_8, hR_9, hR_10, hR_11, hR_12, hR_13, hR_14, hR_15, hR_16, hR_17, hR_18, hR_19, hR_20⟩ := hR0
  refine At.enter rfl ?_
  refine r_aload_n e1 ?_
  refine r_sload_n e0 ?_
  refine r_iload_n e3 ?_
  refine r_iconst 1 rfl ?_
  refine q_iadd (i.toInt + 1) rfl hx_1 (fun v1 hv1 => ?_)
  refine q_scald (m := L) hL (i.toInt + 1) hv1 hy_1 (fun v2 hv2 => ?_)
  refine r_sload_n e0 ?_
  refine r_iload_n e3 ?_
  refine r_iconst 2 rfl ?_
  refine q_iadd (i.toInt + 2) rfl hx_2 (fun v3 hv3 => ?_)
  refine q_scald (m := L) hL (i.toInt + 2) hv3 hy_2 (fun v4 hv4 => ?_)
  refine r_sload_n e0 ?_
  refine r_iload_n e3 ?_
  refine r_iconst 3 rfl ?_
  refine q_iadd (i.toInt + 3) rfl hx_3 (fun v5 hv5 => ?_)
  refine q_scald (m := L) hL (i.toInt + 3) hv5 hy_3 (fun v6 hv6 => ?_)
  refine r_sload_n e0 ?_
  refine r_iload_n e3 ?_
  refine r_iconst 4 rfl ?_
  refine q_iadd (i.toInt + 4) rfl hx_4 (fun v7 hv7 => ?_)
  refine q_scald (m := L) hL (i.toInt + 4) hv7 hy_4 (fun v8 hv8 => ?_)
  refine r_sload_n e0 ?_
  refine r_iload_n e3 ?_
  refine r_iconst 5 rfl ?_
  refine q_iadd (i.toInt + 5) rfl hx_5 (fun v9 hv9 => ?_)
  refine q_scald (m := L) hL (i.toInt + 5) hv9 hy_5 (fun v10 hv10 => ?_)
  refine r_callV 520 rfl [.ref 0, .int v2, .int v4, .int v6, .int v8, .int v10] [] (Nat.le_of_ble_eq_true rfl) rfl (T_X10_feed_0 _ hI0 v2 v4 v6 v8 v10) ?_
  rintro _ _ ⟨g11, rfl, hI12, hF13, v14, rfl, hr15⟩
  refine At.sti ?_
  have hF16 := Fr.tr hF0 hF13 rfl rfl
  obtain ⟨q18, q19, q20⟩ := hr15
  have f21 := congrArg Int32.toInt (hF13.1 1 0 rfl)
  have f22 := congrArg Int32.toInt (hF13.1 1 12 rfl)
  have f23 := congrArg Int32.toInt (hF13.1 1 10 rfl)
  have f24 := congrArg Int32.toInt (hF13.1 1 11 rfl)
  have f25 := congrArg Int32.toInt (hF13.1 1 4 rfl)
  have f26 := congrArg Int32.toInt (hF13.1 1 6 rfl)
  have f27 := congrArg Int32.toInt (hF13.1 1 9 rfl)
  have f28 := congrArg Int32.toInt (hF13.1 59 0 rfl)
  have f29 := congrArg Int32.toInt (hF13.1 59 12 rfl)
  have f30 := congrArg Int32.toInt (hF13.1 59 10 rfl)
  have f31 := congrArg Int32.toInt (hF13.1 59 11 rfl)
  have f32 := congrArg Int32.toInt (hF13.1 59 4 rfl)
  have f33 := congrArg Int32.toInt (hF13.1 59 6 rfl)
  have f34 := congrArg Int32.toInt (hF13.1 59 9 rfl)
  have f35 := congrArg Int32.toInt (hF13.1 116 0 rfl)
  have f36 := congrArg Int32.toInt (hF13.1 116 12 rfl)
  have f37 := congrArg Int32.toInt (hF13.1 116 10 rfl)
  have f38 := congrArg Int32.toInt (hF13.1 116 11 rfl)
  have f39 := congrArg Int32.toInt (hF13.1 116 4 rfl)
  have f40 := congrArg Int32.toInt (hF13.1 116 6 rfl)
  have f41 := congrArg Int32.toInt (hF13.1 116 9 rfl)
  have f42 := congrArg Int32.toInt (eA_c (j := 0) (hF13.2.1 173 rfl))
  have f43 := congrArg Int32.toInt (eA_c (j := 1) (hF13.2.1 173 rfl))
  have f45 := congrArg Int32.toInt (hF13.1 0 16 rfl)
  have f46 := congrArg Int32.toInt (hF13.1 176 2 rfl)
  have f47 := congrArg Int32.toInt (eA_c (j := 0) (hF13.2.1 233 rfl))
  have f48 := congrArg Int32.toInt (eA_c (j := 4) (hF13.2.1 233 rfl))
  have f49 := congrArg Int32.toInt (eA_c (j := 5) (hF13.2.1 233 rfl))
  have f50 := congrArg Int32.toInt (eA_c (j := 6) (hF13.2.1 233 rfl))
  have f51 := congrArg Int32.toInt (eA_c (j := 1) (hF13.2.1 233 rfl))
  have f52 := congrArg Int32.toInt (eA_c (j := 2) (hF13.2.1 233 rfl))
  have f53 := congrArg Int32.toInt (eA_c (j := 3) (hF13.2.1 233 rfl))
  have f54 := congrArg Int32.toInt (eA_c (j := 0) (hF13.2.1 234 rfl))
  have f55 := congrArg Int32.toInt (eA_c (j := 4) (hF13.2.1 234 rfl))
  have f56 := congrArg Int32.toInt (eA_c (j := 5) (hF13.2.1 234 rfl))
  have f57 := congrArg Int32.toInt (eA_c (j := 6) (hF13.2.1 234 rfl))
  have f58 := congrArg Int32.toInt (eA_c (j := 1) (hF13.2.1 234 rfl))
  have f59 := congrArg Int32.toInt (eA_c (j := 2) (hF13.2.1 234 rfl))
  have f60 := congrArg Int32.toInt (eA_c (j := 3) (hF13.2.1 234 rfl))
  have f61 := congrArg Int32.toInt (eA_c (j := 5510) (hF13.2.1 234 rfl))
  have f62 := congrArg Int32.toInt (eA_c (j := 5514) (hF13.2.1 234 rfl))
  have f63 := congrArg Int32.toInt (eA_c (j := 5515) (hF13.2.1 234 rfl))
  have f64 := congrArg Int32.toInt (eA_c (j := 5516) (hF13.2.1 234 rfl))
  have f65 := congrArg Int32.toInt (eA_c (j := 5511) (hF13.2.1 234 rfl))
  have f66 := congrArg Int32.toInt (eA_c (j := 5512) (hF13.2.1 234 rfl))
  have f67 := congrArg Int32.toInt (eA_c (j := 5513) (hF13.2.1 234 rfl))
  have f68 := congrArg Int32.toInt (eA_c (j := 0) (hF13.2.1 235 rfl))
  have f69 := congrArg Int32.toInt (eA_c (j := 1) (hF13.2.1 235 rfl))
  have f70 := congrArg Int32.toInt (hF13.1 231 8 rfl)
  have f71 := congrArg Int32.toInt (hF13.1 231 6 rfl)
  have f72 := congrArg Int32.toInt (hF13.1 231 13 rfl)
  refine At.enter rfl ?_
  refine r_pop rfl ?_
  refine r_aload_n e2 ?_
  refine r_sload_n e0 ?_
  refine r_iload_n e3 ?_
  refine r_iconst 1 rfl ?_
  refine q_iadd (i.toInt + 1) rfl hx_1 (fun v73 hv73 => ?_)
  refine q_scald (m := L) hL (i.toInt + 1) hv73 hy_1 (fun v74 hv74 => ?_)
  have sv74 := hv2.symm.trans hv74
  subst sv74
  refine r_sload_n e0 ?_
  refine r_iload_n e3 ?_
  refine r_iconst 2 rfl ?_
  refine q_iadd (i.toInt + 2) rfl hx_2 (fun v75 hv75 => ?_)
  refine q_scald (m := L) hL (i.toInt + 2) hv75 hy_2 (fun v76 hv76 => ?_)
  have sv76 := hv4.symm.trans hv76
  subst sv76
  refine r_sload_n e0 ?_
  refine r_iload_n e3 ?_
  refine r_iconst 3 rfl ?_
  refine q_iadd (i.toInt + 3) rfl hx_3 (fun v77 hv77 => ?_)
  refine q_scald (m := L) hL (i.toInt + 3) hv77 hy_3 (fun v78 hv78 => ?_)
  have sv78 := hv6.symm.trans hv78
  subst sv78
  refine r_sload_n e0 ?_
  refine r_iload_n e3 ?_
  refine r_iconst 4 rfl ?_
  refine q_iadd (i.toInt + 4) rfl hx_4 (fun v79 hv79 => ?_)
  refine q_scald (m := L) hL (i.toInt + 4) hv79 hy_4 (fun v80 hv80 => ?_)
  have sv80 := hv8.symm.trans hv80
  subst sv80
  refine r_sload_n e0 ?_
  refine r_iload_n e3 ?_
  refine r_iconst 5 rfl ?_
  refine q_iadd (i.toInt + 5) rfl hx_5 (fun v81 hv81 => ?_)
  refine q_scald (m := L) hL (i.toInt + 5) hv81 hy_5 (fun v82 hv82 => ?_)
  have sv82 := hv10.symm.trans hv82
  subst sv82
  refine r_callV 550 rfl [.ref 231, .int v2, .int v4, .int v6, .int v8, .int v10] [] (Nat.le_of_ble_eq_true rfl) rfl (T_X11_feed_231 _ hI12 v2 v4 v6 v8 v10) ?_
  rintro _ _ ⟨g83, rfl, hI84, hF85, v86, rfl, hr87⟩
  refine At.sti ?_
  have hF88 := Fr.tr hF16 hF85 rfl rfl
  obtain ⟨q90, q91, q92⟩ := hr87
  have f93 := congrArg Int32.toInt (hF85.1 1 0 rfl)
  have f94 := congrArg Int32.toInt (hF85.1 1 12 rfl)
  have f95 := congrArg Int32.toInt (hF85.1 1 10 rfl)
  have f96 := congrArg Int32.toInt (hF85.1 1 11 rfl)
  have f97 := congrArg Int32.toInt (hF85.1 1 4 rfl)
  have f98 := congrArg Int32.toInt (hF85.1 1 6 rfl)
  have f99 := congrArg Int32.toInt (hF85.1 1 9 rfl)
  have f100 := congrArg Int32.toInt (hF85.1 59 0 rfl)
  have f101 := congrArg Int32.toInt (hF85.1 59 12 rfl)
  have f102 := congrArg Int32.toInt (hF85.1 59 10 rfl)
  have f103 := congrArg Int32.toInt (hF85.1 59 11 rfl)
  have f104 := congrArg Int32.toInt (hF85.1 59 4 rfl)
  have f105 := congrArg Int32.toInt (hF85.1 59 6 rfl)
  have f106 := congrArg Int32.toInt (hF85.1 59 9 rfl)
  have f107 := congrArg Int32.toInt (hF85.1 116 0 rfl)
  have f108 := congrArg Int32.toInt (hF85.1 116 12 rfl)
  have f109 := congrArg Int32.toInt (hF85.1 116 10 rfl)
  have f110 := congrArg Int32.toInt (hF85.1 116 11 rfl)
  have f111 := congrArg Int32.toInt (hF85.1 116 4 rfl)
  have f112 := congrArg Int32.toInt (hF85.1 116 6 rfl)
  have f113 := congrArg Int32.toInt (hF85.1 116 9 rfl)
  have f114 := congrArg Int32.toInt (eA_c (j := 0) (hF85.2.1 173 rfl))
  have f115 := congrArg Int32.toInt (eA_c (j := 1) (hF85.2.1 173 rfl))
  have f116 := congrArg Int32.toInt (hF85.1 174 1 rfl)
  have f117 := congrArg Int32.toInt (hF85.1 0 16 rfl)
  have f118 := congrArg Int32.toInt (hF85.1 176 2 rfl)
  have f119 := congrArg Int32.toInt (eA_c (j := 0) (hF85.2.1 233 rfl))
  have f120 := congrArg Int32.toInt (eA_c (j := 4) (hF85.2.1 233 rfl))
  have f121 := congrArg Int32.toInt (eA_c (j := 5) (hF85.2.1 233 rfl))
  have f122 := congrArg Int32.toInt (eA_c (j := 6) (hF85.2.1 233 rfl))
  have f123 := congrArg Int32.toInt (eA_c (j := 1) (hF85.2.1 233 rfl))
  have f124 := congrArg Int32.toInt (eA_c (j := 2) (hF85.2.1 233 rfl))
  have f125 := congrArg Int32.toInt (eA_c (j := 3) (hF85.2.1 233 rfl))
  have f126 := congrArg Int32.toInt (eA_c (j := 0) (hF85.2.1 234 rfl))
  have f127 := congrArg Int32.toInt (eA_c (j := 4) (hF85.2.1 234 rfl))
  have f128 := congrArg Int32.toInt (eA_c (j := 5) (hF85.2.1 234 rfl))
  have f129 := congrArg Int32.toInt (eA_c (j := 6) (hF85.2.1 234 rfl))
  have f130 := congrArg Int32.toInt (eA_c (j := 1) (hF85.2.1 234 rfl))
  have f131 := congrArg Int32.toInt (eA_c (j := 2) (hF85.2.1 234 rfl))
  have f132 := congrArg Int32.toInt (eA_c (j := 3) (hF85.2.1 234 rfl))
  have f133 := congrArg Int32.toInt (eA_c (j := 5510) (hF85.2.1 234 rfl))
  have f134 := congrArg Int32.toInt (eA_c (j := 5514) (hF85.2.1 234 rfl))
  have f135 := congrArg Int32.toInt (eA_c (j := 5515) (hF85.2.1 234 rfl))
  have f136 := congrArg Int32.toInt (eA_c (j := 5516) (hF85.2.1 234 rfl))
  have f137 := congrArg Int32.toInt (eA_c (j := 5511) (hF85.2.1 234 rfl))
  have f138 := congrArg Int32.toInt (eA_c (j := 5512) (hF85.2.1 234 rfl))
  have f139 := congrArg Int32.toInt (eA_c (j := 5513) (hF85.2.1 234 rfl))
  have f140 := congrArg Int32.toInt (eA_c (j := 0) (hF85.2.1 235 rfl))
  have f141 := congrArg Int32.toInt (eA_c (j := 1) (hF85.2.1 235 rfl))
  have f143 := congrArg Int32.toInt (hF85.1 231 6 rfl)
  have f144 := congrArg Int32.toInt (hF85.1 231 13 rfl)
  refine At.enter rfl ?_
  refine r_pop rfl ?_
  refine r_goto ?_
  exact K _ hI84 (show LwR _ from ⟨(congrArg Int32.toInt (((hF85.1 1 0 (by decide)).trans (hF13.1 1 0 (by decide))))).trans (hR_0.trans (eA_ti (j := 0) (((hF85.2.1 233 (by decide)).trans (hF13.2.1 233 (by decide))))).symm), (congrArg Int32.toInt (((hF85.1 1 12 (by decide)).trans (hF13.1 1 12 (by decide))))).trans (hR_1.trans (eA_ti (j := 4) (((hF85.2.1 233 (by decide)).trans (hF13.2.1 233 (by decide))))).symm), (congrArg Int32.toInt (((hF85.1 1 10 (by decide)).trans (hF13.1 1 10 (by decide))))).trans (hR_2.trans (eA_ti (j := 5) (((hF85.2.1 233 (by decide)).trans (hF13.2.1 233 (by decide))))).symm), (congrArg Int32.toInt (((hF85.1 1 11 (by decide)).trans (hF13.1 1 11 (by decide))))).trans (hR_3.trans (eA_ti (j := 6) (((hF85.2.1 233 (by decide)).trans (hF13.2.1 233 (by decide))))).symm), (congrArg Int32.toInt (((hF85.1 1 4 (by decide)).trans (hF13.1 1 4 (by decide))))).trans (hR_4.trans (eA_ti (j := 1) (((hF85.2.1 233 (by decide)).trans (hF13.2.1 233 (by decide))))).symm), (congrArg Int32.toInt (((hF85.1 1 6 (by decide)).trans (hF13.1 1 6 (by decide))))).trans (hR_5.trans (eA_ti (j := 2) (((hF85.2.1 233 (by decide)).trans (hF13.2.1 233 (by decide))))).symm), (congrArg Int32.toInt (((hF85.1 1 9 (by decide)).trans (hF13.1 1 9 (by decide))))).trans (hR_6.trans (eA_ti (j := 3) (((hF85.2.1 233 (by decide)).trans (hF13.2.1 233 (by decide))))).symm), (eA_ti (j := 0) (((hF85.2.1 173 (by decide)).trans (hF13.2.1 173 (by decide))))).trans (hR_7.trans (eA_ti (j := 0) (((hF85.2.1 235 (by decide)).trans (hF13.2.1 235 (by decide))))).symm), (eA_ti (j := 1) (((hF85.2.1 173 (by decide)).trans (hF13.2.1 173 (by decide))))).trans (hR_8.trans (eA_ti (j := 1) (((hF85.2.1 235 (by decide)).trans (hF13.2.1 235 (by decide))))).symm), by first | (clear f21 f22 f23 f24 f25 f26 f27 f28 f29 f30 f31 f32 f33 f34 f35 f36 f37 f38 f39 f40 f41 f42 f43 f45 f46 f47 f48 f49 f50 f51 f52 f53 f54 f55 f56 f57 f58 f59 f60 f61 f62 f63 f64 f65 f66 f67 f68 f69 f71 f72 f93 f94 f95 f96 f97 f98 f99 f100 f101 f102 f103 f104 f105 f106 f107 f108 f109 f110 f111 f112 f113 f114 f115 f117 f118 f119 f120 f121 f122 f123 f124 f125 f126 f127 f128 f129 f130 f131 f132 f133 f134 f135 f136 f137 f138 f139 f140 f141 f143 f144; omega) | omega, (congrArg Int32.toInt (((hF85.1 0 16 (by decide)).trans (hF13.1 0 16 (by decide))))).trans (hR_10.trans (congrArg Int32.toInt (((hF85.1 231 6 (by decide)).trans (hF13.1 231 6 (by decide))))).symm), (congrArg Int32.toInt (((hF85.1 176 2 (by decide)).trans (hF13.1 176 2 (by decide))))).trans (hR_11.trans (congrArg Int32.toInt (((hF85.1 231 13 (by decide)).trans (hF13.1 231 13 (by decide))))).symm), IM0.cong hR_12 (eA_ti (j := 0) (((hF85.2.1 173 (by decide)).trans (hF13.2.1 173 (by decide))))) (congrArg Int32.toInt (((hF85.1 59 0 (by decide)).trans (hF13.1 59 0 (by decide))))) (eA_ti (j := 0) (((hF85.2.1 234 (by decide)).trans (hF13.2.1 234 (by decide))))) (congrArg Int32.toInt (((hF85.1 59 12 (by decide)).trans (hF13.1 59 12 (by decide))))) (eA_ti (j := 4) (((hF85.2.1 234 (by decide)).trans (hF13.2.1 234 (by decide))))) (congrArg Int32.toInt (((hF85.1 59 10 (by decide)).trans (hF13.1 59 10 (by decide))))) (eA_ti (j := 5) (((hF85.2.1 234 (by decide)).trans (hF13.2.1 234 (by decide))))) (congrArg Int32.toInt (((hF85.1 59 11 (by decide)).trans (hF13.1 59 11 (by decide))))) (eA_ti (j := 6) (((hF85.2.1 234 (by decide)).trans (hF13.2.1 234 (by decide))))) (congrArg Int32.toInt (((hF85.1 59 4 (by decide)).trans (hF13.1 59 4 (by decide))))) (eA_ti (j := 1) (((hF85.2.1 234 (by decide)).trans (hF13.2.1 234 (by decide))))) (congrArg Int32.toInt (((hF85.1 59 6 (by decide)).trans (hF13.1 59 6 (by decide))))) (eA_ti (j := 2) (((hF85.2.1 234 (by decide)).trans (hF13.2.1 234 (by decide))))) (congrArg Int32.toInt (((hF85.1 59 9 (by decide)).trans (hF13.1 59 9 (by decide))))) (eA_ti (j := 3) (((hF85.2.1 234 (by decide)).trans (hF13.2.1 234 (by decide))))), IM1.cong hR_13 (eA_ti (j := 1) (((hF85.2.1 173 (by decide)).trans (hF13.2.1 173 (by decide))))) (congrArg Int32.toInt (((hF85.1 116 0 (by decide)).trans (hF13.1 116 0 (by decide))))) (eA_ti (j := 5510) (((hF85.2.1 234 (by decide)).trans (hF13.2.1 234 (by decide))))) (congrArg Int32.toInt (((hF85.1 116 12 (by decide)).trans (hF13.1 116 12 (by decide))))) (eA_ti (j := 5514) (((hF85.2.1 234 (by decide)).trans (hF13.2.1 234 (by decide))))) (congrArg Int32.toInt (((hF85.1 116 10 (by decide)).trans (hF13.1 116 10 (by decide))))) (eA_ti (j := 5515) (((hF85.2.1 234 (by decide)).trans (hF13.2.1 234 (by decide))))) (congrArg Int32.toInt (((hF85.1 116 11 (by decide)).trans (hF13.1 116 11 (by decide))))) (eA_ti (j := 5516) (((hF85.2.1 234 (by decide)).trans (hF13.2.1 234 (by decide))))) (congrArg Int32.toInt (((hF85.1 116 4 (by decide)).trans (hF13.1 116 4 (by decide))))) (eA_ti (j := 5511) (((hF85.2.1 234 (by decide)).trans (hF13.2.1 234 (by decide))))) (congrArg Int32.toInt (((hF85.1 116 6 (by decide)).trans (hF13.1 116 6 (by decide))))) (eA_ti (j := 5512) (((hF85.2.1 234 (by decide)).trans (hF13.2.1 234 (by decide))))) (congrArg Int32.toInt (((hF85.1 116 9 (by decide)).trans (hF13.1 116 9 (by decide))))) (eA_ti (j := 5513) (((hF85.2.1 234 (by decide)).trans (hF13.2.1 234 (by decide))))), CT.cong hR_14 (((hF85.2.1 2 (by decide)).trans (hF13.2.1 2 (by decide)))) (((hF85.2.1 3 (by decide)).trans (hF13.2.1 3 (by decide)))) (((hF85.2.1 4 (by decide)).trans (hF13.2.1 4 (by decide)))) (((hF85.2.1 14 (by decide)).trans (hF13.2.1 14 (by decide)))) (((hF85.2.1 15 (by decide)).trans (hF13.2.1 15 (by decide)))) (((hF85.2.1 5 (by decide)).trans (hF13.2.1 5 (by decide)))) (((hF85.2.1 233 (by decide)).trans (hF13.2.1 233 (by decide)))) (congrArg Int32.toInt (((hF85.1 1 4 (by decide)).trans (hF13.1 1 4 (by decide))))), CI0.cong hR_15 (((hF85.2.1 60 (by decide)).trans (hF13.2.1 60 (by decide)))) (((hF85.2.1 61 (by decide)).trans (hF13.2.1 61 (by decide)))) (((hF85.2.1 62 (by decide)).trans (hF13.2.1 62 (by decide)))) (((hF85.2.1 72 (by decide)).trans (hF13.2.1 72 (by decide)))) (((hF85.2.1 73 (by decide)).trans (hF13.2.1 73 (by decide)))) (((hF85.2.1 63 (by decide)).trans (hF13.2.1 63 (by decide)))) (((hF85.2.1 234 (by decide)).trans (hF13.2.1 234 (by decide)))) (congrArg Int32.toInt (((hF85.1 59 4 (by decide)).trans (hF13.1 59 4 (by decide))))), CI1.cong hR_16 (((hF85.2.1 117 (by decide)).trans (hF13.2.1 117 (by decide)))) (((hF85.2.1 118 (by decide)).trans (hF13.2.1 118 (by decide)))) (((hF85.2.1 119 (by decide)).trans (hF13.2.1 119 (by decide)))) (((hF85.2.1 129 (by decide)).trans (hF13.2.1 129 (by decide)))) (((hF85.2.1 130 (by decide)).trans (hF13.2.1 130 (by decide)))) (((hF85.2.1 120 (by decide)).trans (hF13.2.1 120 (by decide)))) (((hF85.2.1 234 (by decide)).trans (hF13.2.1 234 (by decide)))) (congrArg Int32.toInt (((hF85.1 116 4 (by decide)).trans (hF13.1 116 4 (by decide))))), (show RT _ from fun i i0 i1 => by have o : i < (gI g0 174 1).toInt → _ := fun hz => hR_17 i i0 hz; have i2 : i < (gI _ 174 1).toInt := i1; have t9_ := RgF.at hI84.2.1 (p := 174) (b := 1) rfl; dsimp only at t9_; have x := (eA_ti (j := i) (hF85.2.1 175 (by decide))).trans (q20 i i0 (by omega)); have m := q92 i i0 (by omega); have y := eA_ti (j := i) (hF13.2.1 236 (by decide)); have eT : (gI g11 231 8).toInt = (gI g0 174 1).toInt := (by omega); rw [eT] at m; rcases (show ¬ ((gI g0 174 1).toInt ≤ 380) ∨ ((gI g0 174 1).toInt ≤ 380 ∧ i < (gI g0 174 1).toInt) ∨ ((gI g0 174 1).toInt ≤ 380 ∧ (gI g0 174 1).toInt + 0 ≤ i ∧ i < (gI g0 174 1).toInt + 4) ∨ ((gI g0 174 1).toInt ≤ 380 ∧ (gI g0 174 1).toInt + 4 ≤ i ∧ i < (gI g0 174 1).toInt + 8) ∨ ((gI g0 174 1).toInt ≤ 380 ∧ (gI g0 174 1).toInt + 8 ≤ i ∧ i < (gI g0 174 1).toInt + 12) ∨ ((gI g0 174 1).toInt ≤ 380 ∧ (gI g0 174 1).toInt + 12 ≤ i ∧ i < (gI g0 174 1).toInt + 16) ∨ ((gI g0 174 1).toInt ≤ 380 ∧ (gI g0 174 1).toInt + 16 ≤ i ∧ i < (gI g0 174 1).toInt + 20) ∨ ((gI g0 174 1).toInt ≤ 380 ∧ (gI g0 174 1).toInt + 20 ≤ i) from by clear x m y o; omega) with k | k | k | k | k | k | k | k; (rw [if_neg (show ¬ ((gI g0 174 1).toInt ≤ 380 ∧ (gI g0 174 1).toInt + 0 ≤ i ∧ i < (gI g0 174 1).toInt + 4) from fun z => by omega), if_neg (show ¬ ((gI g0 174 1).toInt ≤ 380 ∧ (gI g0 174 1).toInt + 4 ≤ i ∧ i < (gI g0 174 1).toInt + 8) from fun z => by omega), if_neg (show ¬ ((gI g0 174 1).toInt ≤ 380 ∧ (gI g0 174 1).toInt + 8 ≤ i ∧ i < (gI g0 174 1).toInt + 12) from fun z => by omega), if_neg (show ¬ ((gI g0 174 1).toInt ≤ 380 ∧ (gI g0 174 1).toInt + 12 ≤ i ∧ i < (gI g0 174 1).toInt + 16) from fun z => by omega), if_neg (show ¬ ((gI g0 174 1).toInt ≤ 380 ∧ (gI g0 174 1).toInt + 16 ≤ i ∧ i < (gI g0 174 1).toInt + 20) from fun z => by omega)] at x; rw [if_neg (show ¬ ((gI g0 174 1).toInt ≤ 380 ∧ (gI g0 174 1).toInt + 0 ≤ i ∧ i < (gI g0 174 1).toInt + 4) from fun z => by omega), if_neg (show ¬ ((gI g0 174 1).toInt ≤ 380 ∧ (gI g0 174 1).toInt + 4 ≤ i ∧ i < (gI g0 174 1).toInt + 8) from fun z => by omega), if_neg (show ¬ ((gI g0 174 1).toInt ≤ 380 ∧ (gI g0 174 1).toInt + 8 ≤ i ∧ i < (gI g0 174 1).toInt + 12) from fun z => by omega), if_neg (show ¬ ((gI g0 174 1).toInt ≤ 380 ∧ (gI g0 174 1).toInt + 12 ≤ i ∧ i < (gI g0 174 1).toInt + 16) from fun z => by omega), if_neg (show ¬ ((gI g0 174 1).toInt ≤ 380 ∧ (gI g0 174 1).toInt + 16 ≤ i ∧ i < (gI g0 174 1).toInt + 20) from fun z => by omega)] at m; have o2 := o (by omega); omega); (rw [if_neg (show ¬ ((gI g0 174 1).toInt ≤ 380 ∧ (gI g0 174 1).toInt + 0 ≤ i ∧ i < (gI g0 174 1).toInt + 4) from fun z => by omega), if_neg (show ¬ ((gI g0 174 1).toInt ≤ 380 ∧ (gI g0 174 1).toInt + 4 ≤ i ∧ i < (gI g0 174 1).toInt + 8) from fun z => by omega), if_neg (show ¬ ((gI g0 174 1).toInt ≤ 380 ∧ (gI g0 174 1).toInt + 8 ≤ i ∧ i < (gI g0 174 1).toInt + 12) from fun z => by omega), if_neg (show ¬ ((gI g0 174 1).toInt ≤ 380 ∧ (gI g0 174 1).toInt + 12 ≤ i ∧ i < (gI g0 174 1).toInt + 16) from fun z => by omega), if_neg (show ¬ ((gI g0 174 1).toInt ≤ 380 ∧ (gI g0 174 1).toInt + 16 ≤ i ∧ i < (gI g0 174 1).toInt + 20) from fun z => by omega)] at x; rw [if_neg (show ¬ ((gI g0 174 1).toInt ≤ 380 ∧ (gI g0 174 1).toInt + 0 ≤ i ∧ i < (gI g0 174 1).toInt + 4) from fun z => by omega), if_neg (show ¬ ((gI g0 174 1).toInt ≤ 380 ∧ (gI g0 174 1).toInt + 4 ≤ i ∧ i < (gI g0 174 1).toInt + 8) from fun z => by omega), if_neg (show ¬ ((gI g0 174 1).toInt ≤ 380 ∧ (gI g0 174 1).toInt + 8 ≤ i ∧ i < (gI g0 174 1).toInt + 12) from fun z => by omega), if_neg (show ¬ ((gI g0 174 1).toInt ≤ 380 ∧ (gI g0 174 1).toInt + 12 ≤ i ∧ i < (gI g0 174 1).toInt + 16) from fun z => by omega), if_neg (show ¬ ((gI g0 174 1).toInt ≤ 380 ∧ (gI g0 174 1).toInt + 16 ≤ i ∧ i < (gI g0 174 1).toInt + 20) from fun z => by omega)] at m; have o2 := o (by omega); omega); (rw [if_pos (show (gI g0 174 1).toInt ≤ 380 ∧ (gI g0 174 1).toInt + 0 ≤ i ∧ i < (gI g0 174 1).toInt + 4 from ⟨k.1, k.2.1, k.2.2⟩)] at x; rw [if_pos (show (gI g0 174 1).toInt ≤ 380 ∧ (gI g0 174 1).toInt + 0 ≤ i ∧ i < (gI g0 174 1).toInt + 4 from ⟨k.1, k.2.1, k.2.2⟩)] at m; clear o; omega); (rw [if_neg (show ¬ ((gI g0 174 1).toInt ≤ 380 ∧ (gI g0 174 1).toInt + 0 ≤ i ∧ i < (gI g0 174 1).toInt + 4) from fun z => by omega), if_pos (show (gI g0 174 1).toInt ≤ 380 ∧ (gI g0 174 1).toInt + 4 ≤ i ∧ i < (gI g0 174 1).toInt + 8 from ⟨k.1, k.2.1, k.2.2⟩)] at x; rw [if_neg (show ¬ ((gI g0 174 1).toInt ≤ 380 ∧ (gI g0 174 1).toInt + 0 ≤ i ∧ i < (gI g0 174 1).toInt + 4) from fun z => by omega), if_pos (show (gI g0 174 1).toInt ≤ 380 ∧ (gI g0 174 1).toInt + 4 ≤ i ∧ i < (gI g0 174 1).toInt + 8 from ⟨k.1, k.2.1, k.2.2⟩)] at m; clear o; omega); (rw [if_neg (show ¬ ((gI g0 174 1).toInt ≤ 380 ∧ (gI g0 174 1).toInt + 0 ≤ i ∧ i < (gI g0 174 1).toInt + 4) from fun z => by omega), if_neg (show ¬ ((gI g0 174 1).toInt ≤ 380 ∧ (gI g0 174 1).toInt + 4 ≤ i ∧ i < (gI g0 174 1).toInt + 8) from fun z => by omega), if_pos (show (gI g0 174 1).toInt ≤ 380 ∧ (gI g0 174 1).toInt + 8 ≤ i ∧ i < (gI g0 174 1).toInt + 12 from ⟨k.1, k.2.1, k.2.2⟩)] at x; rw [if_neg (show ¬ ((gI g0 174 1).toInt ≤ 380 ∧ (gI g0 174 1).toInt + 0 ≤ i ∧ i < (gI g0 174 1).toInt + 4) from fun z => by omega), if_neg (show ¬ ((gI g0 174 1).toInt ≤ 380 ∧ (gI g0 174 1).toInt + 4 ≤ i ∧ i < (gI g0 174 1).toInt + 8) from fun z => by omega), if_pos (show (gI g0 174 1).toInt ≤ 380 ∧ (gI g0 174 1).toInt + 8 ≤ i ∧ i < (gI g0 174 1).toInt + 12 from ⟨k.1, k.2.1, k.2.2⟩)] at m; clear o; omega); (rw [if_neg (show ¬ ((gI g0 174 1).toInt ≤ 380 ∧ (gI g0 174 1).toInt + 0 ≤ i ∧ i < (gI g0 174 1).toInt + 4) from fun z => by omega), if_neg (show ¬ ((gI g0 174 1).toInt ≤ 380 ∧ (gI g0 174 1).toInt + 4 ≤ i ∧ i < (gI g0 174 1).toInt + 8) from fun z => by omega), if_neg (show ¬ ((gI g0 174 1).toInt ≤ 380 ∧ (gI g0 174 1).toInt + 8 ≤ i ∧ i < (gI g0 174 1).toInt + 12) from fun z => by omega), if_pos (show (gI g0 174 1).toInt ≤ 380 ∧ (gI g0 174 1).toInt + 12 ≤ i ∧ i < (gI g0 174 1).toInt + 16 from ⟨k.1, k.2.1, k.2.2⟩)] at x; rw [if_neg (show ¬ ((gI g0 174 1).toInt ≤ 380 ∧ (gI g0 174 1).toInt + 0 ≤ i ∧ i < (gI g0 174 1).toInt + 4) from fun z => by omega), if_neg (show ¬ ((gI g0 174 1).toInt ≤ 380 ∧ (gI g0 174 1).toInt + 4 ≤ i ∧ i < (gI g0 174 1).toInt + 8) from fun z => by omega), if_neg (show ¬ ((gI g0 174 1).toInt ≤ 380 ∧ (gI g0 174 1).toInt + 8 ≤ i ∧ i < (gI g0 174 1).toInt + 12) from fun z => by omega), if_pos (show (gI g0 174 1).toInt ≤ 380 ∧ (gI g0 174 1).toInt + 12 ≤ i ∧ i < (gI g0 174 1).toInt + 16 from ⟨k.1, k.2.1, k.2.2⟩)] at m; clear o; omega); (rw [if_neg (show ¬ ((gI g0 174 1).toInt ≤ 380 ∧ (gI g0 174 1).toInt + 0 ≤ i ∧ i < (gI g0 174 1).toInt + 4) from fun z => by omega), if_neg (show ¬ ((gI g0 174 1).toInt ≤ 380 ∧ (gI g0 174 1).toInt + 4 ≤ i ∧ i < (gI g0 174 1).toInt + 8) from fun z => by omega), if_neg (show ¬ ((gI g0 174 1).toInt ≤ 380 ∧ (gI g0 174 1).toInt + 8 ≤ i ∧ i < (gI g0 174 1).toInt + 12) from fun z => by omega), if_neg (show ¬ ((gI g0 174 1).toInt ≤ 380 ∧ (gI g0 174 1).toInt + 12 ≤ i ∧ i < (gI g0 174 1).toInt + 16) from fun z => by omega), if_pos (show (gI g0 174 1).toInt ≤ 380 ∧ (gI g0 174 1).toInt + 16 ≤ i ∧ i < (gI g0 174 1).toInt + 20 from ⟨k.1, k.2.1, k.2.2⟩)] at x; rw [if_neg (show ¬ ((gI g0 174 1).toInt ≤ 380 ∧ (gI g0 174 1).toInt + 0 ≤ i ∧ i < (gI g0 174 1).toInt + 4) from fun z => by omega), if_neg (show ¬ ((gI g0 174 1).toInt ≤ 380 ∧ (gI g0 174 1).toInt + 4 ≤ i ∧ i < (gI g0 174 1).toInt + 8) from fun z => by omega), if_neg (show ¬ ((gI g0 174 1).toInt ≤ 380 ∧ (gI g0 174 1).toInt + 8 ≤ i ∧ i < (gI g0 174 1).toInt + 12) from fun z => by omega), if_neg (show ¬ ((gI g0 174 1).toInt ≤ 380 ∧ (gI g0 174 1).toInt + 12 ≤ i ∧ i < (gI g0 174 1).toInt + 16) from fun z => by omega), if_pos (show (gI g0 174 1).toInt ≤ 380 ∧ (gI g0 174 1).toInt + 16 ≤ i ∧ i < (gI g0 174 1).toInt + 20 from ⟨k.1, k.2.1, k.2.2⟩)] at m; clear o; omega); (rw [if_neg (show ¬ ((gI g0 174 1).toInt ≤ 380 ∧ (gI g0 174 1).toInt + 0 ≤ i ∧ i < (gI g0 174 1).toInt + 4) from fun z => by omega), if_neg (show ¬ ((gI g0 174 1).toInt ≤ 380 ∧ (gI g0 174 1).toInt + 4 ≤ i ∧ i < (gI g0 174 1).toInt + 8) from fun z => by omega), if_neg (show ¬ ((gI g0 174 1).toInt ≤ 380 ∧ (gI g0 174 1).toInt + 8 ≤ i ∧ i < (gI g0 174 1).toInt + 12) from fun z => by omega), if_neg (show ¬ ((gI g0 174 1).toInt ≤ 380 ∧ (gI g0 174 1).toInt + 12 ≤ i ∧ i < (gI g0 174 1).toInt + 16) from fun z => by omega), if_neg (show ¬ ((gI g0 174 1).toInt ≤ 380 ∧ (gI g0 174 1).toInt + 16 ≤ i ∧ i < (gI g0 174 1).toInt + 20) from fun z => by omega)] at x; rw [if_neg (show ¬ ((gI g0 174 1).toInt ≤ 380 ∧ (gI g0 174 1).toInt + 0 ≤ i ∧ i < (gI g0 174 1).toInt + 4) from fun z => by omega), if_neg (show ¬ ((gI g0 174 1).toInt ≤ 380 ∧ (gI g0 174 1).toInt + 4 ≤ i ∧ i < (gI g0 174 1).toInt + 8) from fun z => by omega), if_neg (show ¬ ((gI g0 174 1).toInt ≤ 380 ∧ (gI g0 174 1).toInt + 8 ≤ i ∧ i < (gI g0 174 1).toInt + 12) from fun z => by omega), if_neg (show ¬ ((gI g0 174 1).toInt ≤ 380 ∧ (gI g0 174 1).toInt + 12 ≤ i ∧ i < (gI g0 174 1).toInt + 16) from fun z => by omega), if_neg (show ¬ ((gI g0 174 1).toInt ≤ 380 ∧ (gI g0 174 1).toInt + 16 ≤ i ∧ i < (gI g0 174 1).toInt + 20) from fun z => by omega)] at m; clear o; omega)), (BYX.c (BYX.feed hR_18 q20 ((Int.lt_or_le 380 (gI g0 174 1).toInt).elim (fun c => Or.inl ⟨c, (q19.1 c).2⟩) (fun c => Or.inr ⟨c, (q19.2 c).2⟩)) (RgF.at hI12.2.1 (p := 174) (b := 1) rfl).2) (hF85.2.1 175 (by decide)) (hF85.1 174 1 (by decide))), (LAWR_c hR_19 (LSA_tr (LSA_tr LSA_rf (LSA_fr hF13 rfl)) (LSA_fr hF85 rfl)) (((hF85.1 1 6 (by decide)).trans (hF13.1 1 6 (by decide)))) (((hF85.1 59 6 (by decide)).trans (hF13.1 59 6 (by decide)))) (((hF85.1 116 6 (by decide)).trans (hF13.1 116 6 (by decide)))) (((hF85.2.1 173 (by decide)).trans (hF13.2.1 173 (by decide)))) (fun i i0 i1 => eA_ti (((hF85.2.1 233 (by decide)).trans (hF13.2.1 233 (by decide))))) (((hF85.2.1 234 (by decide)).trans (hF13.2.1 234 (by decide)))) (TOLDX_fr hF85 rfl rfl rfl rfl (TOLDX_fr hF13 rfl rfl rfl rfl hR_19.2.2.2.2))), (SETX_fr hF85 rfl rfl rfl rfl rfl (SETX_fr hF13 rfl rfl rfl rfl rfl hR_20))⟩)
