set_option maxRecDepth 100000 in
set_option maxHeartbeats 8000000 in
theorem lq_c1 (d : Nat) {N : Nat} {g0 : List en_E} (hI0 : HI g0) (hR0 : LwR g0) {ys : List Int32} {L : Nat} (hL : ys.length = L) (hL2 : L ≤ 3584) {l : en_L} {i : Int32} (e0 : en_get 0 l = some (.float 0)) (e1 : en_get 1 l = some (.ref 0)) (e2 : en_get 2 l = some (.ref 231)) (e3 : en_get 3 l = some (.int i)) (hi : 0 ≤ i.toInt ∧ i.toInt + 7 ≤ L) {Ph : Option Value → en_H → Prop} (K : ∀ g1 : List en_E, HI g1 → LwR g1 → At (d + 423) (some ys) (some .boolean) bs_L_law (1330, l, [], (g1, N)) Ph) : At (d + 423) (some ys) (some .boolean) bs_L_law (251, l, [], (g0, N)) Ph := by
  have hF0 : Fr F_law A_law g0 g0 := Fr.rf
  have hx_1 : -2147483648 ≤ i.toInt + 1 ∧ i.toInt + 1 ≤ 2147483647 := by omega
  have hx_2 : -2147483648 ≤ i.toInt + 2 ∧ i.toInt + 2 ≤ 2147483647 := by omega
  have hx_3 : -2147483648 ≤ i.toInt + 3 ∧ i.toInt + 3 ≤ 2147483647 := by omega
  have hx_4 : -2147483648 ≤ i.toInt + 4 ∧ i.toInt + 4 ≤ 2147483647 := by omega
  have hx_5 : -2147483648 ≤ i.toInt + 5 ∧ i.toInt + 5 ≤ 2147483647 := by omega
  have hx_6 : -2147483648 ≤ i.toInt + 6 ∧ i.toInt + 6 ≤ 2147483647 := by omega
  have hy_0 : 0 ≤ i.toInt ∧ i.toInt < (L : Int) := by omega
  have hy_1 : 0 ≤ i.toInt + 1 ∧ i.toInt + 1 < (L : Int) := by omega
  have hy_2 : 0 ≤ i.toInt + 2 ∧ i.toInt + 2 < (L : Int) := by omega
  have hy_3 : 0 ≤ i.toInt + 3 ∧ i.toInt + 3 < (L : Int) := by omega
  have hy_4 : 0 ≤ i.toInt + 4 ∧ i.toInt + 4 < (L : Int) := by omega
  have hy_5 : 0 ≤ i.toInt + 5 ∧ i.toInt + 5 < (L : Int) := by omega
  have hy_6 : 0 ≤ i.toInt + 6 ∧ i.toInt + 6 < (L : Int) := by omega
  unfold LwR at hR0
  obtain ⟨hR_0, hR_1, hR_2, hR_3, hR_4, hR_5, hR_6, hR_7, hR_8, hR_9, hR_10, hR_11, hR_12, hR_13, hR_14, hR_15, hR_16, hR_17, hR_18, hR_19, hR_20⟩ := hR0
  refine At.enter rfl ?_
  refine r_aload_n e1 ?_
  refine r_sload_n e0 ?_
  refine r_iload_n e3 ?_
  refine r_iconst 1 rfl ?_
  refine q_iadd (i.toInt + 1) rfl hx_1 (fun v1 hv1 => ?_)
  refine q_scald (m := L) hL (i.toInt + 1) hv1 hy_1 (fun v2 hv2 => ?_)
  refine r_sload_n e0 ?_
  refine r_iload_n e3 ?_
  refine r_iconst 2 rfl ?_
  refine q_iadd (i.toInt + 2) rfl hx_2 (fun v3 hv3 => ?_)
  refine q_scald (m := L) hL (i.toInt + 2) hv3 hy_2 (fun v4 hv4 => ?_)
  refine r_sload_n e0 ?_
  refine r_iload_n e3 ?_
  refine r_iconst 3 rfl ?_
  refine q_iadd (i.toInt + 3) rfl hx_3 (fun v5 hv5 => ?_)
  refine q_scald (m := L) hL (i.toInt + 3) hv5 hy_3 (fun v6 hv6 => ?_)
  refine r_callV 270 rfl [.ref 0, .int v2, .int v4, .int v6] [] (Nat.le_of_ble_eq_true rfl) rfl (T_X10_put_0 _ hI0 v2 v4 v6) ?_
  rintro _ _ ⟨g7, rfl, hI8, hF9, v10, rfl, hr11⟩
  refine At.sti ?_
  have hF12 := Fr.tr hF0 hF9 rfl rfl
  have fe13 : PH _ := hr11.2.2
  replace hr11 := And.intro hr11.1 hr11.2.1
  obtain ⟨q14, q15, q16, q17, q18⟩ := hr11
  have f19 := congrArg Int32.toInt (hF9.1 1 0 rfl)
  have f20 := congrArg Int32.toInt (hF9.1 1 12 rfl)
  have f21 := congrArg Int32.toInt (hF9.1 1 10 rfl)
  have f22 := congrArg Int32.toInt (hF9.1 1 11 rfl)
  have f23 := congrArg Int32.toInt (hF9.1 1 4 rfl)
  have f24 := congrArg Int32.toInt (hF9.1 1 6 rfl)
  have f25 := congrArg Int32.toInt (hF9.1 1 9 rfl)
  have f26 := congrArg Int32.toInt (hF9.1 59 0 rfl)
  have f27 := congrArg Int32.toInt (hF9.1 59 12 rfl)
  have f28 := congrArg Int32.toInt (hF9.1 59 10 rfl)
  have f29 := congrArg Int32.toInt (hF9.1 59 11 rfl)
  have f30 := congrArg Int32.toInt (hF9.1 59 4 rfl)
  have f31 := congrArg Int32.toInt (hF9.1 59 6 rfl)
  have f32 := congrArg Int32.toInt (hF9.1 59 9 rfl)
  have f33 := congrArg Int32.toInt (hF9.1 116 0 rfl)
  have f34 := congrArg Int32.toInt (hF9.1 116 12 rfl)
  have f35 := congrArg Int32.toInt (hF9.1 116 10 rfl)
  have f36 := congrArg Int32.toInt (hF9.1 116 11 rfl)
  have f37 := congrArg Int32.toInt (hF9.1 116 4 rfl)
  have f38 := congrArg Int32.toInt (hF9.1 116 6 rfl)
  have f39 := congrArg Int32.toInt (hF9.1 116 9 rfl)
  have f40 := congrArg Int32.toInt (eA_c (j := 0) (hF9.2.1 173 rfl))
  have f41 := congrArg Int32.toInt (eA_c (j := 1) (hF9.2.1 173 rfl))
  have f42 := congrArg Int32.toInt (hF9.1 174 1 rfl)
  have f43 := congrArg Int32.toInt (hF9.1 0 16 rfl)
  have f44 := congrArg Int32.toInt (hF9.1 176 2 rfl)
  have f45 := congrArg Int32.toInt (eA_c (j := 0) (hF9.2.1 233 rfl))
  have f46 := congrArg Int32.toInt (eA_c (j := 4) (hF9.2.1 233 rfl))
  have f47 := congrArg Int32.toInt (eA_c (j := 5) (hF9.2.1 233 rfl))
  have f48 := congrArg Int32.toInt (eA_c (j := 6) (hF9.2.1 233 rfl))
  have f49 := congrArg Int32.toInt (eA_c (j := 1) (hF9.2.1 233 rfl))
  have f50 := congrArg Int32.toInt (eA_c (j := 2) (hF9.2.1 233 rfl))
  have f51 := congrArg Int32.toInt (eA_c (j := 3) (hF9.2.1 233 rfl))
  have f52 := congrArg Int32.toInt (eA_c (j := 0) (hF9.2.1 234 rfl))
  have f53 := congrArg Int32.toInt (eA_c (j := 4) (hF9.2.1 234 rfl))
  have f54 := congrArg Int32.toInt (eA_c (j := 5) (hF9.2.1 234 rfl))
  have f55 := congrArg Int32.toInt (eA_c (j := 6) (hF9.2.1 234 rfl))
  have f56 := congrArg Int32.toInt (eA_c (j := 1) (hF9.2.1 234 rfl))
  have f57 := congrArg Int32.toInt (eA_c (j := 2) (hF9.2.1 234 rfl))
  have f58 := congrArg Int32.toInt (eA_c (j := 3) (hF9.2.1 234 rfl))
  have f59 := congrArg Int32.toInt (eA_c (j := 5510) (hF9.2.1 234 rfl))
  have f60 := congrArg Int32.toInt (eA_c (j := 5514) (hF9.2.1 234 rfl))
  have f61 := congrArg Int32.toInt (eA_c (j := 5515) (hF9.2.1 234 rfl))
  have f62 := congrArg Int32.toInt (eA_c (j := 5516) (hF9.2.1 234 rfl))
  have f63 := congrArg Int32.toInt (eA_c (j := 5511) (hF9.2.1 234 rfl))
  have f64 := congrArg Int32.toInt (eA_c (j := 5512) (hF9.2.1 234 rfl))
  have f65 := congrArg Int32.toInt (eA_c (j := 5513) (hF9.2.1 234 rfl))
  have f66 := congrArg Int32.toInt (eA_c (j := 0) (hF9.2.1 235 rfl))
  have f67 := congrArg Int32.toInt (eA_c (j := 1) (hF9.2.1 235 rfl))
  have f68 := congrArg Int32.toInt (hF9.1 231 8 rfl)
  have f69 := congrArg Int32.toInt (hF9.1 231 6 rfl)
  have f70 := congrArg Int32.toInt (hF9.1 231 13 rfl)
  refine At.enter rfl ?_
  refine r_pop rfl ?_
  refine r_aload_n e2 ?_
  refine r_sload_n e0 ?_
  refine r_iload_n e3 ?_
  refine r_iconst 1 rfl ?_
  refine q_iadd (i.toInt + 1) rfl hx_1 (fun v71 hv71 => ?_)
  refine q_scald (m := L) hL (i.toInt + 1) hv71 hy_1 (fun v72 hv72 => ?_)
  have sv72 := hv2.symm.trans hv72
  subst sv72
  refine r_sload_n e0 ?_
  refine r_iload_n e3 ?_
  refine r_iconst 2 rfl ?_
  refine q_iadd (i.toInt + 2) rfl hx_2 (fun v73 hv73 => ?_)
  refine q_scald (m := L) hL (i.toInt + 2) hv73 hy_2 (fun v74 hv74 => ?_)
  have sv74 := hv4.symm.trans hv74
  subst sv74
  refine r_sload_n e0 ?_
  refine r_iload_n e3 ?_
  refine r_iconst 3 rfl ?_
  refine q_iadd (i.toInt + 3) rfl hx_3 (fun v75 hv75 => ?_)
  refine q_scald (m := L) hL (i.toInt + 3) hv75 hy_3 (fun v76 hv76 => ?_)
  have sv76 := hv6.symm.trans hv76
  subst sv76
  refine r_callV 290 rfl [.ref 231, .int v2, .int v4, .int v6] [] (Nat.le_of_ble_eq_true rfl) rfl (T_X11_put_231 _ hI8 v2 v4 v6) ?_
  rintro _ _ ⟨g77, rfl, hI78, hF79, v80, rfl, hr81⟩
  refine At.sti ?_
  have hF82 := Fr.tr hF12 hF79 rfl rfl
  obtain ⟨q84, q85, q86⟩ := hr81
  have f87 := congrArg Int32.toInt (hF79.1 1 0 rfl)
  have f88 := congrArg Int32.toInt (hF79.1 1 12 rfl)
  have f89 := congrArg Int32.toInt (hF79.1 1 10 rfl)
  have f90 := congrArg Int32.toInt (hF79.1 1 11 rfl)
  have f91 := congrArg Int32.toInt (hF79.1 1 4 rfl)
  have f92 := congrArg Int32.toInt (hF79.1 1 6 rfl)
  have f93 := congrArg Int32.toInt (hF79.1 1 9 rfl)
  have f94 := congrArg Int32.toInt (hF79.1 59 0 rfl)
  have f95 := congrArg Int32.toInt (hF79.1 59 12 rfl)
  have f96 := congrArg Int32.toInt (hF79.1 59 10 rfl)
  have f97 := congrArg Int32.toInt (hF79.1 59 11 rfl)
  have f98 := congrArg Int32.toInt (hF79.1 59 4 rfl)
  have f99 := congrArg Int32.toInt (hF79.1 59 6 rfl)
  have f100 := congrArg Int32.toInt (hF79.1 59 9 rfl)
  have f101 := congrArg Int32.toInt (hF79.1 116 0 rfl)
  have f102 := congrArg Int32.toInt (hF79.1 116 12 rfl)
  have f103 := congrArg Int32.toInt (hF79.1 116 10 rfl)
  have f104 := congrArg Int32.toInt (hF79.1 116 11 rfl)
  have f105 := congrArg Int32.toInt (hF79.1 116 4 rfl)
  have f106 := congrArg Int32.toInt (hF79.1 116 6 rfl)
  have f107 := congrArg Int32.toInt (hF79.1 116 9 rfl)
  have f108 := congrArg Int32.toInt (eA_c (j := 0) (hF79.2.1 173 rfl))
  have f109 := congrArg Int32.toInt (eA_c (j := 1) (hF79.2.1 173 rfl))
  have f110 := congrArg Int32.toInt (hF79.1 174 1 rfl)
  have f111 := congrArg Int32.toInt (hF79.1 0 16 rfl)
  have f112 := congrArg Int32.toInt (hF79.1 176 2 rfl)
  have f120 := congrArg Int32.toInt (eA_c (j := 0) (hF79.2.1 234 rfl))
  have f121 := congrArg Int32.toInt (eA_c (j := 4) (hF79.2.1 234 rfl))
  have f122 := congrArg Int32.toInt (eA_c (j := 5) (hF79.2.1 234 rfl))
  have f123 := congrArg Int32.toInt (eA_c (j := 6) (hF79.2.1 234 rfl))
  have f124 := congrArg Int32.toInt (eA_c (j := 1) (hF79.2.1 234 rfl))
  have f125 := congrArg Int32.toInt (eA_c (j := 2) (hF79.2.1 234 rfl))
  have f126 := congrArg Int32.toInt (eA_c (j := 3) (hF79.2.1 234 rfl))
  have f127 := congrArg Int32.toInt (eA_c (j := 5510) (hF79.2.1 234 rfl))
  have f128 := congrArg Int32.toInt (eA_c (j := 5514) (hF79.2.1 234 rfl))
  have f129 := congrArg Int32.toInt (eA_c (j := 5515) (hF79.2.1 234 rfl))
  have f130 := congrArg Int32.toInt (eA_c (j := 5516) (hF79.2.1 234 rfl))
  have f131 := congrArg Int32.toInt (eA_c (j := 5511) (hF79.2.1 234 rfl))
  have f132 := congrArg Int32.toInt (eA_c (j := 5512) (hF79.2.1 234 rfl))
  have f133 := congrArg Int32.toInt (eA_c (j := 5513) (hF79.2.1 234 rfl))
  have f134 := congrArg Int32.toInt (eA_c (j := 0) (hF79.2.1 235 rfl))
  have f135 := congrArg Int32.toInt (eA_c (j := 1) (hF79.2.1 235 rfl))
  have f136 := congrArg Int32.toInt (hF79.1 231 8 rfl)
  have f137 := congrArg Int32.toInt (hF79.1 231 6 rfl)
  have f138 := congrArg Int32.toInt (hF79.1 231 13 rfl)
  refine At.enter rfl ?_
  refine r_pop rfl ?_
  refine r_goto ?_
  exact K _ hI78 (show LwR _ from ⟨by first | (clear f20 f21 f22 f23 f24 f25 f26 f27 f28 f29 f30 f31 f32 f33 f34 f35 f36 f37 f38 f39 f40 f41 f42 f43 f44 f46 f47 f48 f49 f50 f51 f52 f53 f54 f55 f56 f57 f58 f59 f60 f61 f62 f63 f64 f65 f66 f67 f68 f69 f70 f88 f89 f90 f91 f92 f93 f94 f95 f96 f97 f98 f99 f100 f101 f102 f103 f104 f105 f106 f107 f108 f109 f110 f111 f112 f120 f121 f122 f123 f124 f125 f126 f127 f128 f129 f130 f131 f132 f133 f134 f135 f136 f137 f138; omega) | omega, by first | (clear f19 f21 f22 f23 f24 f25 f26 f27 f28 f29 f30 f31 f32 f33 f34 f35 f36 f37 f38 f39 f40 f41 f42 f43 f44 f45 f47 f48 f49 f50 f51 f52 f53 f54 f55 f56 f57 f58 f59 f60 f61 f62 f63 f64 f65 f66 f67 f68 f69 f70 f87 f89 f90 f91 f92 f93 f94 f95 f96 f97 f98 f99 f100 f101 f102 f103 f104 f105 f106 f107 f108 f109 f110 f111 f112 f120 f121 f122 f123 f124 f125 f126 f127 f128 f129 f130 f131 f132 f133 f134 f135 f136 f137 f138; omega) | omega, by first | (clear f19 f20 f22 f23 f24 f25 f26 f27 f28 f29 f30 f31 f32 f33 f34 f35 f36 f37 f38 f39 f40 f41 f42 f43 f44 f45 f46 f48 f49 f50 f51 f52 f53 f54 f55 f56 f57 f58 f59 f60 f61 f62 f63 f64 f65 f66 f67 f68 f69 f70 f87 f88 f90 f91 f92 f93 f94 f95 f96 f97 f98 f99 f100 f101 f102 f103 f104 f105 f106 f107 f108 f109 f110 f111 f112 f120 f121 f122 f123 f124 f125 f126 f127 f128 f129 f130 f131 f132 f133 f134 f135 f136 f137 f138; omega) | omega, by first | (clear f19 f20 f21 f23 f24 f25 f26 f27 f28 f29 f30 f31 f32 f33 f34 f35 f36 f37 f38 f39 f40 f41 f42 f43 f44 f45 f46 f47 f49 f50 f51 f52 f53 f54 f55 f56 f57 f58 f59 f60 f61 f62 f63 f64 f65 f66 f67 f68 f69 f70 f87 f88 f89 f91 f92 f93 f94 f95 f96 f97 f98 f99 f100 f101 f102 f103 f104 f105 f106 f107 f108 f109 f110 f111 f112 f120 f121 f122 f123 f124 f125 f126 f127 f128 f129 f130 f131 f132 f133 f134 f135 f136 f137 f138; omega) | omega, by first | (clear f19 f20 f21 f22 f24 f25 f26 f27 f28 f29 f30 f31 f32 f33 f34 f35 f36 f37 f38 f39 f40 f41 f42 f43 f44 f45 f46 f47 f48 f50 f51 f52 f53 f54 f55 f56 f57 f58 f59 f60 f61 f62 f63 f64 f65 f66 f67 f68 f69 f70 f87 f88 f89 f90 f92 f93 f94 f95 f96 f97 f98 f99 f100 f101 f102 f103 f104 f105 f106 f107 f108 f109 f110 f111 f112 f120 f121 f122 f123 f124 f125 f126 f127 f128 f129 f130 f131 f132 f133 f134 f135 f136 f137 f138; omega) | omega, by first | (clear f19 f20 f21 f22 f23 f25 f26 f27 f28 f29 f30 f31 f32 f33 f34 f35 f36 f37 f38 f39 f40 f41 f42 f43 f44 f45 f46 f47 f48 f49 f51 f52 f53 f54 f55 f56 f57 f58 f59 f60 f61 f62 f63 f64 f65 f66 f67 f68 f69 f70 f87 f88 f89 f90 f91 f93 f94 f95 f96 f97 f98 f99 f100 f101 f102 f103 f104 f105 f106 f107 f108 f109 f110 f111 f112 f120 f121 f122 f123 f124 f125 f126 f127 f128 f129 f130 f131 f132 f133 f134 f135 f136 f137 f138; omega) | omega, by first | (clear f19 f20 f21 f22 f23 f24 f26 f27 f28 f29 f30 f31 f32 f33 f34 f35 f36 f37 f38 f39 f40 f41 f42 f43 f44 f45 f46 f47 f48 f49 f50 f52 f53 f54 f55 f56 f57 f58 f59 f60 f61 f62 f63 f64 f65 f66 f67 f68 f69 f70 f87 f88 f89 f90 f91 f92 f94 f95 f96 f97 f98 f99 f100 f101 f102 f103 f104 f105 f106 f107 f108 f109 f110 f111 f112 f120 f121 f122 f123 f124 f125 f126 f127 f128 f129 f130 f131 f132 f133 f134 f135 f136 f137 f138; omega) | omega, (eA_ti (j := 0) (((hF79.2.1 173 (by decide)).trans (hF9.2.1 173 (by decide))))).trans (hR_7.trans (eA_ti (j := 0) (((hF79.2.1 235 (by decide)).trans (hF9.2.1 235 (by decide))))).symm), (eA_ti (j := 1) (((hF79.2.1 173 (by decide)).trans (hF9.2.1 173 (by decide))))).trans (hR_8.trans (eA_ti (j := 1) (((hF79.2.1 235 (by decide)).trans (hF9.2.1 235 (by decide))))).symm), (congrArg Int32.toInt (((hF79.1 174 1 (by decide)).trans (hF9.1 174 1 (by decide))))).trans (hR_9.trans (congrArg Int32.toInt (((hF79.1 231 8 (by decide)).trans (hF9.1 231 8 (by decide))))).symm), (congrArg Int32.toInt (((hF79.1 0 16 (by decide)).trans (hF9.1 0 16 (by decide))))).trans (hR_10.trans (congrArg Int32.toInt (((hF79.1 231 6 (by decide)).trans (hF9.1 231 6 (by decide))))).symm), (congrArg Int32.toInt (((hF79.1 176 2 (by decide)).trans (hF9.1 176 2 (by decide))))).trans (hR_11.trans (congrArg Int32.toInt (((hF79.1 231 13 (by decide)).trans (hF9.1 231 13 (by decide))))).symm), IM0.cong hR_12 (eA_ti (j := 0) (((hF79.2.1 173 (by decide)).trans (hF9.2.1 173 (by decide))))) (congrArg Int32.toInt (((hF79.1 59 0 (by decide)).trans (hF9.1 59 0 (by decide))))) (eA_ti (j := 0) (((hF79.2.1 234 (by decide)).trans (hF9.2.1 234 (by decide))))) (congrArg Int32.toInt (((hF79.1 59 12 (by decide)).trans (hF9.1 59 12 (by decide))))) (eA_ti (j := 4) (((hF79.2.1 234 (by decide)).trans (hF9.2.1 234 (by decide))))) (congrArg Int32.toInt (((hF79.1 59 10 (by decide)).trans (hF9.1 59 10 (by decide))))) (eA_ti (j := 5) (((hF79.2.1 234 (by decide)).trans (hF9.2.1 234 (by decide))))) (congrArg Int32.toInt (((hF79.1 59 11 (by decide)).trans (hF9.1 59 11 (by decide))))) (eA_ti (j := 6) (((hF79.2.1 234 (by decide)).trans (hF9.2.1 234 (by decide))))) (congrArg Int32.toInt (((hF79.1 59 4 (by decide)).trans (hF9.1 59 4 (by decide))))) (eA_ti (j := 1) (((hF79.2.1 234 (by decide)).trans (hF9.2.1 234 (by decide))))) (congrArg Int32.toInt (((hF79.1 59 6 (by decide)).trans (hF9.1 59 6 (by decide))))) (eA_ti (j := 2) (((hF79.2.1 234 (by decide)).trans (hF9.2.1 234 (by decide))))) (congrArg Int32.toInt (((hF79.1 59 9 (by decide)).trans (hF9.1 59 9 (by decide))))) (eA_ti (j := 3) (((hF79.2.1 234 (by decide)).trans (hF9.2.1 234 (by decide))))), IM1.cong hR_13 (eA_ti (j := 1) (((hF79.2.1 173 (by decide)).trans (hF9.2.1 173 (by decide))))) (congrArg Int32.toInt (((hF79.1 116 0 (by decide)).trans (hF9.1 116 0 (by decide))))) (eA_ti (j := 5510) (((hF79.2.1 234 (by decide)).trans (hF9.2.1 234 (by decide))))) (congrArg Int32.toInt (((hF79.1 116 12 (by decide)).trans (hF9.1 116 12 (by decide))))) (eA_ti (j := 5514) (((hF79.2.1 234 (by decide)).trans (hF9.2.1 234 (by decide))))) (congrArg Int32.toInt (((hF79.1 116 10 (by decide)).trans (hF9.1 116 10 (by decide))))) (eA_ti (j := 5515) (((hF79.2.1 234 (by decide)).trans (hF9.2.1 234 (by decide))))) (congrArg Int32.toInt (((hF79.1 116 11 (by decide)).trans (hF9.1 116 11 (by decide))))) (eA_ti (j := 5516) (((hF79.2.1 234 (by decide)).trans (hF9.2.1 234 (by decide))))) (congrArg Int32.toInt (((hF79.1 116 4 (by decide)).trans (hF9.1 116 4 (by decide))))) (eA_ti (j := 5511) (((hF79.2.1 234 (by decide)).trans (hF9.2.1 234 (by decide))))) (congrArg Int32.toInt (((hF79.1 116 6 (by decide)).trans (hF9.1 116 6 (by decide))))) (eA_ti (j := 5512) (((hF79.2.1 234 (by decide)).trans (hF9.2.1 234 (by decide))))) (congrArg Int32.toInt (((hF79.1 116 9 (by decide)).trans (hF9.1 116 9 (by decide))))) (eA_ti (j := 5513) (((hF79.2.1 234 (by decide)).trans (hF9.2.1 234 (by decide))))), (show CT _ from ⟨fun i i0 i1 => ⟨(by first | (clear f26 f27 f28 f29 f30 f31 f32 f33 f34 f35 f36 f37 f38 f39 f42 f43 f44 f52 f53 f54 f55 f56 f57 f58 f59 f60 f61 f62 f63 f64 f65 f68 f69 f70 f94 f95 f96 f97 f98 f99 f100 f101 f102 f103 f104 f105 f106 f107 f110 f111 f112 f120 f121 f122 f123 f124 f125 f126 f127 f128 f129 f130 f131 f132 f133 f136 f137 f138; have t0_ := hI0.t0; have t1_ := hI0.t1; clear q15 q85; have o := (hR_14.1 i i0 i1).1; have x := (eA_ti (j := i) (hF79.2.1 2 (by decide))).trans (q16 i i0 i1); have m := q86 (10 + 3 * i) (by omega) (by omega); have y1 := eA_ti (j := ((10 + 3 * i))) (hF9.2.1 233 (by decide)); (try split at x) <;> (try split at m) <;> omega) | (have t0_ := hI0.t0; have t1_ := hI0.t1; clear q15 q85; have o := (hR_14.1 i i0 i1).1; have x := (eA_ti (j := i) (hF79.2.1 2 (by decide))).trans (q16 i i0 i1); have m := q86 (10 + 3 * i) (by omega) (by omega); have y1 := eA_ti (j := ((10 + 3 * i))) (hF9.2.1 233 (by decide)); (try split at x) <;> (try split at m) <;> omega)), (by first | (clear f26 f27 f28 f29 f30 f31 f32 f33 f34 f35 f36 f37 f38 f39 f42 f43 f44 f52 f53 f54 f55 f56 f57 f58 f59 f60 f61 f62 f63 f64 f65 f68 f69 f70 f94 f95 f96 f97 f98 f99 f100 f101 f102 f103 f104 f105 f106 f107 f110 f111 f112 f120 f121 f122 f123 f124 f125 f126 f127 f128 f129 f130 f131 f132 f133 f136 f137 f138; have t0_ := hI0.t0; have t1_ := hI0.t1; clear q15 q85; have o := (hR_14.1 i i0 i1).2.1; have x := (eA_ti (j := i) (hF79.2.1 3 (by decide))).trans (q17 i i0 i1); have m := q86 (10 + 3 * i + 1) (by omega) (by omega); have y1 := eA_ti (j := ((10 + 3 * i + 1))) (hF9.2.1 233 (by decide)); (try split at x) <;> (try split at m) <;> omega) | (have t0_ := hI0.t0; have t1_ := hI0.t1; clear q15 q85; have o := (hR_14.1 i i0 i1).2.1; have x := (eA_ti (j := i) (hF79.2.1 3 (by decide))).trans (q17 i i0 i1); have m := q86 (10 + 3 * i + 1) (by omega) (by omega); have y1 := eA_ti (j := ((10 + 3 * i + 1))) (hF9.2.1 233 (by decide)); (try split at x) <;> (try split at m) <;> omega)), (by first | (clear f26 f27 f28 f29 f30 f31 f32 f33 f34 f35 f36 f37 f38 f39 f42 f43 f44 f52 f53 f54 f55 f56 f57 f58 f59 f60 f61 f62 f63 f64 f65 f68 f69 f70 f94 f95 f96 f97 f98 f99 f100 f101 f102 f103 f104 f105 f106 f107 f110 f111 f112 f120 f121 f122 f123 f124 f125 f126 f127 f128 f129 f130 f131 f132 f133 f136 f137 f138; have t0_ := hI0.t0; have t1_ := hI0.t1; clear q15 q85; have o := (hR_14.1 i i0 i1).2.2; have x := (eA_ti (j := i) (hF79.2.1 4 (by decide))).trans (q18 i i0 i1); have m := q86 (10 + 3 * i + 2) (by omega) (by omega); have y1 := eA_ti (j := ((10 + 3 * i + 2))) (hF9.2.1 233 (by decide)); (try split at x) <;> (try split at m) <;> omega) | (have t0_ := hI0.t0; have t1_ := hI0.t1; clear q15 q85; have o := (hR_14.1 i i0 i1).2.2; have x := (eA_ti (j := i) (hF79.2.1 4 (by decide))).trans (q18 i i0 i1); have m := q86 (10 + 3 * i + 2) (by omega) (by omega); have y1 := eA_ti (j := ((10 + 3 * i + 2))) (hF9.2.1 233 (by decide)); (try split at x) <;> (try split at m) <;> omega))⟩, fun i i0 i1 => ⟨(by first | (clear f26 f27 f28 f29 f30 f31 f32 f33 f34 f35 f36 f37 f38 f39 f42 f43 f44 f52 f53 f54 f55 f56 f57 f58 f59 f60 f61 f62 f63 f64 f65 f68 f69 f70 f94 f95 f96 f97 f98 f99 f100 f101 f102 f103 f104 f105 f106 f107 f110 f111 f112 f120 f121 f122 f123 f124 f125 f126 f127 f128 f129 f130 f131 f132 f133 f136 f137 f138; have t0_ := hI0.t0; have t1_ := hI0.t1; clear q15 q85; have o := (hR_14.2.1 i i0 i1).1; have x := eA_ti (j := i) (((hF79.2.1 14 (by decide)).trans (hF9.2.1 14 (by decide)))); have m := q86 (94 + 2 * i) (by omega) (by omega); have y1 := eA_ti (j := ((94 + 2 * i))) (hF9.2.1 233 (by decide)); (try split at m) <;> omega) | (have t0_ := hI0.t0; have t1_ := hI0.t1; clear q15 q85; have o := (hR_14.2.1 i i0 i1).1; have x := eA_ti (j := i) (((hF79.2.1 14 (by decide)).trans (hF9.2.1 14 (by decide)))); have m := q86 (94 + 2 * i) (by omega) (by omega); have y1 := eA_ti (j := ((94 + 2 * i))) (hF9.2.1 233 (by decide)); (try split at m) <;> omega)), (by first | (clear f26 f27 f28 f29 f30 f31 f32 f33 f34 f35 f36 f37 f38 f39 f42 f43 f44 f52 f53 f54 f55 f56 f57 f58 f59 f60 f61 f62 f63 f64 f65 f68 f69 f70 f94 f95 f96 f97 f98 f99 f100 f101 f102 f103 f104 f105 f106 f107 f110 f111 f112 f120 f121 f122 f123 f124 f125 f126 f127 f128 f129 f130 f131 f132 f133 f136 f137 f138; have t0_ := hI0.t0; have t1_ := hI0.t1; clear q15 q85; have o := (hR_14.2.1 i i0 i1).2; have x := eA_ti (j := i) (((hF79.2.1 15 (by decide)).trans (hF9.2.1 15 (by decide)))); have m := q86 (94 + 2 * i + 1) (by omega) (by omega); have y1 := eA_ti (j := ((94 + 2 * i + 1))) (hF9.2.1 233 (by decide)); (try split at m) <;> omega) | (have t0_ := hI0.t0; have t1_ := hI0.t1; clear q15 q85; have o := (hR_14.2.1 i i0 i1).2; have x := eA_ti (j := i) (((hF79.2.1 15 (by decide)).trans (hF9.2.1 15 (by decide)))); have m := q86 (94 + 2 * i + 1) (by omega) (by omega); have y1 := eA_ti (j := ((94 + 2 * i + 1))) (hF9.2.1 233 (by decide)); (try split at m) <;> omega))⟩, fun i i0 i1 => (by first | (clear f26 f27 f28 f29 f30 f31 f32 f33 f34 f35 f36 f37 f38 f39 f42 f43 f44 f52 f53 f54 f55 f56 f57 f58 f59 f60 f61 f62 f63 f64 f65 f68 f69 f70 f94 f95 f96 f97 f98 f99 f100 f101 f102 f103 f104 f105 f106 f107 f110 f111 f112 f120 f121 f122 f123 f124 f125 f126 f127 f128 f129 f130 f131 f132 f133 f136 f137 f138; have t0_ := hI0.t0; have t1_ := hI0.t1; clear q15 q85; have o : i < 6 * (gI g0 1 4).toInt → _ := fun hz => hR_14.2.2 i i0 hz; have x := eA_ti (j := i) (((hF79.2.1 5 (by decide)).trans (hF9.2.1 5 (by decide)))); have m := q86 (46 + i) (by omega) (by omega); have y1 := eA_ti (j := ((46 + i))) (hF9.2.1 233 (by decide)); (try split at m) <;> omega) | (have t0_ := hI0.t0; have t1_ := hI0.t1; clear q15 q85; have o : i < 6 * (gI g0 1 4).toInt → _ := fun hz => hR_14.2.2 i i0 hz; have x := eA_ti (j := i) (((hF79.2.1 5 (by decide)).trans (hF9.2.1 5 (by decide)))); have m := q86 (46 + i) (by omega) (by omega); have y1 := eA_ti (j := ((46 + i))) (hF9.2.1 233 (by decide)); (try split at m) <;> omega))⟩), CI0.cong hR_15 (((hF79.2.1 60 (by decide)).trans (hF9.2.1 60 (by decide)))) (((hF79.2.1 61 (by decide)).trans (hF9.2.1 61 (by decide)))) (((hF79.2.1 62 (by decide)).trans (hF9.2.1 62 (by decide)))) (((hF79.2.1 72 (by decide)).trans (hF9.2.1 72 (by decide)))) (((hF79.2.1 73 (by decide)).trans (hF9.2.1 73 (by decide)))) (((hF79.2.1 63 (by decide)).trans (hF9.2.1 63 (by decide)))) (((hF79.2.1 234 (by decide)).trans (hF9.2.1 234 (by decide)))) (congrArg Int32.toInt (((hF79.1 59 4 (by decide)).trans (hF9.1 59 4 (by decide))))), CI1.cong hR_16 (((hF79.2.1 117 (by decide)).trans (hF9.2.1 117 (by decide)))) (((hF79.2.1 118 (by decide)).trans (hF9.2.1 118 (by decide)))) (((hF79.2.1 119 (by decide)).trans (hF9.2.1 119 (by decide)))) (((hF79.2.1 129 (by decide)).trans (hF9.2.1 129 (by decide)))) (((hF79.2.1 130 (by decide)).trans (hF9.2.1 130 (by decide)))) (((hF79.2.1 120 (by decide)).trans (hF9.2.1 120 (by decide)))) (((hF79.2.1 234 (by decide)).trans (hF9.2.1 234 (by decide)))) (congrArg Int32.toInt (((hF79.1 116 4 (by decide)).trans (hF9.1 116 4 (by decide))))), (show RT _ from fun i i0 i1 => (eA_ti (((hF79.2.1 175 (by decide)).trans (hF9.2.1 175 (by decide))))).trans ((hR_17 i i0 (by omega)).trans (eA_ti (((hF79.2.1 236 (by decide)).trans (hF9.2.1 236 (by decide))))).symm)), (show BYX _ from fun i i0 i1 => by rw [TX.c (((hF79.2.1 175 (by decide)).trans (hF9.2.1 175 (by decide))))]; exact hR_18 i i0 (by have i2 : i < (gI _ 174 1).toInt := i1; show i < (gI g0 174 1).toInt; omega)), (LAWR_c hR_19 (LSA_tr (LSA_tr LSA_rf (LSA_fr hF9 rfl)) (LSA_fr hF79 rfl)) (((hF79.1 1 6 (by decide)).trans (hF9.1 1 6 (by decide)))) (((hF79.1 59 6 (by decide)).trans (hF9.1 59 6 (by decide)))) (((hF79.1 116 6 (by decide)).trans (hF9.1 116 6 (by decide)))) (((hF79.2.1 173 (by decide)).trans (hF9.2.1 173 (by decide)))) (fun i i0 i1 => (R3_put hI8 q86 i i0 i1).trans (eA_ti (hF9.2.1 233 (by decide)))) (((hF79.2.1 234 (by decide)).trans (hF9.2.1 234 (by decide)))) (TOLDX_fr hF79 rfl rfl rfl rfl (fe13.1 hR_19.2.2.2.2))), (SETX_fr hF79 rfl rfl rfl rfl rfl (fe13.2 hR_20))⟩)
