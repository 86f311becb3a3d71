set_option maxRecDepth 100000 in
set_option maxHeartbeats 8000000 in
theorem lq_c17 (d : Nat) {N : Nat} {g0 : List en_E} (hI0 : HI g0) (hR0 : LwR g0) {ys : List Int32} {L : Nat} (hL : ys.length = L) (hL2 : L ≤ 3584) {l : en_L} {i : Int32} (e0 : en_get 0 l = some (.float 0)) (e1 : en_get 1 l = some (.ref 0)) (e2 : en_get 2 l = some (.ref 231)) (e3 : en_get 3 l = some (.int i)) (hi : 0 ≤ i.toInt ∧ i.toInt + 7 ≤ L) {Ph : Option Value → en_H → Prop} (K : ∀ g1 : List en_E, HI g1 → LwR g1 → At (d + 423) (some ys) (some .boolean) bs_L_law (1330, l, [], (g1, N)) Ph) : At (d + 423) (some ys) (some .boolean) bs_L_law (751, l, [], (g0, N)) Ph := by
  have hF0 : Fr F_law A_law g0 g0 := Fr.rf
  have hx_1 : -2147483648 ≤ i.toInt + 1 ∧ i.toInt + 1 ≤ 2147483647 := by omega
  have hx_2 : -2147483648 ≤ i.toInt + 2 ∧ i.toInt + 2 ≤ 2147483647 := by omega
  have hx_3 : -2147483648 ≤ i.toInt + 3 ∧ i.toInt + 3 ≤ 2147483647 := by omega
  have hx_4 : -2147483648 ≤ i.toInt + 4 ∧ i.toInt + 4 ≤ 2147483647 := by omega
  have hx_5 : -2147483648 ≤ i.toInt + 5 ∧ i.toInt + 5 ≤ 2147483647 := by omega
  have hx_6 : -2147483648 ≤ i.toInt + 6 ∧ i.toInt + 6 ≤ 2147483647 := by omega
  have hy_0 : 0 ≤ i.toInt ∧ i.toInt < (L : Int) := by omega
  have hy_1 : 0 ≤ i.toInt + 1 ∧ i.toInt + 1 < (L : Int) := by omega
  have hy_2 : 0 ≤ i.toInt + 2 ∧ i.toInt + 2 < (L : Int) := by omega
  have hy_3 : 0 ≤ i.toInt + 3 ∧ i.toInt + 3 < (L : Int) := by omega
  have hy_4 : 0 ≤ i.toInt + 4 ∧ i.toInt + 4 < (L : Int) := by omega
  have hy_5 : 0 ≤ i.toInt + 5 ∧ i.toInt + 5 < (L : Int) := by omega
  have hy_6 : 0 ≤ i.toInt + 6 ∧ i.toInt + 6 < (L : Int) := by omega
  unfold LwR at hR0
  obtain ⟨hR_0, hR_1, hR_2, hR_3, hR_4, hR_5, hR_6, hR_7, hR_8, hR_9, hR_10, hR_11, hR_12, hR_13, hR_14, hR_15, hR_16, hR_17, hR_18, hR_19, hR_20⟩ := hR0
  refine At.enter rfl ?_
  refine r_aload_n e1 ?_
  refine r_sload_n e0 ?_
  refine r_iload_n e3 ?_
  refine r_iconst 1 rfl ?_
  refine q_iadd (i.toInt + 1) rfl hx_1 (fun v1 hv1 => ?_)
  refine q_scald (m := L) hL (i.toInt + 1) hv1 hy_1 (fun v2 hv2 => ?_)
  refine r_sload_n e0 ?_
  refine r_iload_n e3 ?_
  refine r_iconst 2 rfl ?_
  refine q_iadd (i.toInt + 2) rfl hx_2 (fun v3 hv3 => ?_)
  refine q_scald (m := L) hL (i.toInt + 2) hv3 hy_2 (fun v4 hv4 => ?_)
  refine r_callV 765 rfl [.ref 0, .int v2, .int v4] [] (Nat.le_of_ble_eq_true rfl) rfl (T_X10_where_0 _ hI0 v2 v4) ?_
  rintro _ _ ⟨g5, rfl, hI6, hF7, v8, rfl, hr9⟩
  refine At.sti ?_
  have hF10 := Fr.tr hF0 hF7 rfl rfl
  have f12 := congrArg Int32.toInt (hF7.1 1 0 rfl)
  have f13 := congrArg Int32.toInt (hF7.1 1 12 rfl)
  have f14 := congrArg Int32.toInt (hF7.1 1 10 rfl)
  have f15 := congrArg Int32.toInt (hF7.1 1 11 rfl)
  have f16 := congrArg Int32.toInt (hF7.1 1 4 rfl)
  have f17 := congrArg Int32.toInt (hF7.1 1 6 rfl)
  have f18 := congrArg Int32.toInt (hF7.1 1 9 rfl)
  have f19 := congrArg Int32.toInt (hF7.1 59 0 rfl)
  have f20 := congrArg Int32.toInt (hF7.1 59 12 rfl)
  have f21 := congrArg Int32.toInt (hF7.1 59 10 rfl)
  have f22 := congrArg Int32.toInt (hF7.1 59 11 rfl)
  have f23 := congrArg Int32.toInt (hF7.1 59 4 rfl)
  have f24 := congrArg Int32.toInt (hF7.1 59 6 rfl)
  have f25 := congrArg Int32.toInt (hF7.1 59 9 rfl)
  have f26 := congrArg Int32.toInt (hF7.1 116 0 rfl)
  have f27 := congrArg Int32.toInt (hF7.1 116 12 rfl)
  have f28 := congrArg Int32.toInt (hF7.1 116 10 rfl)
  have f29 := congrArg Int32.toInt (hF7.1 116 11 rfl)
  have f30 := congrArg Int32.toInt (hF7.1 116 4 rfl)
  have f31 := congrArg Int32.toInt (hF7.1 116 6 rfl)
  have f32 := congrArg Int32.toInt (hF7.1 116 9 rfl)
  have f33 := congrArg Int32.toInt (eA_c (j := 0) (hF7.2.1 173 rfl))
  have f34 := congrArg Int32.toInt (eA_c (j := 1) (hF7.2.1 173 rfl))
  have f35 := congrArg Int32.toInt (hF7.1 174 1 rfl)
  have f36 := congrArg Int32.toInt (hF7.1 0 16 rfl)
  have f37 := congrArg Int32.toInt (hF7.1 176 2 rfl)
  have f38 := congrArg Int32.toInt (eA_c (j := 0) (hF7.2.1 233 rfl))
  have f39 := congrArg Int32.toInt (eA_c (j := 4) (hF7.2.1 233 rfl))
  have f40 := congrArg Int32.toInt (eA_c (j := 5) (hF7.2.1 233 rfl))
  have f41 := congrArg Int32.toInt (eA_c (j := 6) (hF7.2.1 233 rfl))
  have f42 := congrArg Int32.toInt (eA_c (j := 1) (hF7.2.1 233 rfl))
  have f43 := congrArg Int32.toInt (eA_c (j := 2) (hF7.2.1 233 rfl))
  have f44 := congrArg Int32.toInt (eA_c (j := 3) (hF7.2.1 233 rfl))
  have f45 := congrArg Int32.toInt (eA_c (j := 0) (hF7.2.1 234 rfl))
  have f46 := congrArg Int32.toInt (eA_c (j := 4) (hF7.2.1 234 rfl))
  have f47 := congrArg Int32.toInt (eA_c (j := 5) (hF7.2.1 234 rfl))
  have f48 := congrArg Int32.toInt (eA_c (j := 6) (hF7.2.1 234 rfl))
  have f49 := congrArg Int32.toInt (eA_c (j := 1) (hF7.2.1 234 rfl))
  have f50 := congrArg Int32.toInt (eA_c (j := 2) (hF7.2.1 234 rfl))
  have f51 := congrArg Int32.toInt (eA_c (j := 3) (hF7.2.1 234 rfl))
  have f52 := congrArg Int32.toInt (eA_c (j := 5510) (hF7.2.1 234 rfl))
  have f53 := congrArg Int32.toInt (eA_c (j := 5514) (hF7.2.1 234 rfl))
  have f54 := congrArg Int32.toInt (eA_c (j := 5515) (hF7.2.1 234 rfl))
  have f55 := congrArg Int32.toInt (eA_c (j := 5516) (hF7.2.1 234 rfl))
  have f56 := congrArg Int32.toInt (eA_c (j := 5511) (hF7.2.1 234 rfl))
  have f57 := congrArg Int32.toInt (eA_c (j := 5512) (hF7.2.1 234 rfl))
  have f58 := congrArg Int32.toInt (eA_c (j := 5513) (hF7.2.1 234 rfl))
  have f59 := congrArg Int32.toInt (eA_c (j := 0) (hF7.2.1 235 rfl))
  have f60 := congrArg Int32.toInt (eA_c (j := 1) (hF7.2.1 235 rfl))
  have f61 := congrArg Int32.toInt (hF7.1 231 8 rfl)
  have f62 := congrArg Int32.toInt (hF7.1 231 6 rfl)
  have f63 := congrArg Int32.toInt (hF7.1 231 13 rfl)
  refine At.enter rfl ?_
  refine r_pop rfl ?_
  refine r_aload_n e2 ?_
  refine r_sload_n e0 ?_
  refine r_iload_n e3 ?_
  refine r_iconst 1 rfl ?_
  refine q_iadd (i.toInt + 1) rfl hx_1 (fun v64 hv64 => ?_)
  refine q_scald (m := L) hL (i.toInt + 1) hv64 hy_1 (fun v65 hv65 => ?_)
  have sv65 := hv2.symm.trans hv65
  subst sv65
  refine r_sload_n e0 ?_
  refine r_iload_n e3 ?_
  refine r_iconst 2 rfl ?_
  refine q_iadd (i.toInt + 2) rfl hx_2 (fun v66 hv66 => ?_)
  refine q_scald (m := L) hL (i.toInt + 2) hv66 hy_2 (fun v67 hv67 => ?_)
  have sv67 := hv4.symm.trans hv67
  subst sv67
  refine r_callV 780 rfl [.ref 231, .int v2, .int v4] [] (Nat.le_of_ble_eq_true rfl) rfl (T_X11_where_231 _ hI6 v2 v4) ?_
  rintro _ _ ⟨g68, rfl, hI69, hF70, v71, rfl, hr72⟩
  refine At.sti ?_
  have hF73 := Fr.tr hF10 hF70 rfl rfl
  have f75 := congrArg Int32.toInt (hF70.1 1 0 rfl)
  have f76 := congrArg Int32.toInt (hF70.1 1 12 rfl)
  have f77 := congrArg Int32.toInt (hF70.1 1 10 rfl)
  have f78 := congrArg Int32.toInt (hF70.1 1 11 rfl)
  have f79 := congrArg Int32.toInt (hF70.1 1 4 rfl)
  have f80 := congrArg Int32.toInt (hF70.1 1 6 rfl)
  have f81 := congrArg Int32.toInt (hF70.1 1 9 rfl)
  have f82 := congrArg Int32.toInt (hF70.1 59 0 rfl)
  have f83 := congrArg Int32.toInt (hF70.1 59 12 rfl)
  have f84 := congrArg Int32.toInt (hF70.1 59 10 rfl)
  have f85 := congrArg Int32.toInt (hF70.1 59 11 rfl)
  have f86 := congrArg Int32.toInt (hF70.1 59 4 rfl)
  have f87 := congrArg Int32.toInt (hF70.1 59 6 rfl)
  have f88 := congrArg Int32.toInt (hF70.1 59 9 rfl)
  have f89 := congrArg Int32.toInt (hF70.1 116 0 rfl)
  have f90 := congrArg Int32.toInt (hF70.1 116 12 rfl)
  have f91 := congrArg Int32.toInt (hF70.1 116 10 rfl)
  have f92 := congrArg Int32.toInt (hF70.1 116 11 rfl)
  have f93 := congrArg Int32.toInt (hF70.1 116 4 rfl)
  have f94 := congrArg Int32.toInt (hF70.1 116 6 rfl)
  have f95 := congrArg Int32.toInt (hF70.1 116 9 rfl)
  have f96 := congrArg Int32.toInt (eA_c (j := 0) (hF70.2.1 173 rfl))
  have f97 := congrArg Int32.toInt (eA_c (j := 1) (hF70.2.1 173 rfl))
  have f98 := congrArg Int32.toInt (hF70.1 174 1 rfl)
  have f99 := congrArg Int32.toInt (hF70.1 0 16 rfl)
  have f100 := congrArg Int32.toInt (hF70.1 176 2 rfl)
  have f101 := congrArg Int32.toInt (eA_c (j := 0) (hF70.2.1 233 rfl))
  have f102 := congrArg Int32.toInt (eA_c (j := 4) (hF70.2.1 233 rfl))
  have f103 := congrArg Int32.toInt (eA_c (j := 5) (hF70.2.1 233 rfl))
  have f104 := congrArg Int32.toInt (eA_c (j := 6) (hF70.2.1 233 rfl))
  have f105 := congrArg Int32.toInt (eA_c (j := 1) (hF70.2.1 233 rfl))
  have f106 := congrArg Int32.toInt (eA_c (j := 2) (hF70.2.1 233 rfl))
  have f107 := congrArg Int32.toInt (eA_c (j := 3) (hF70.2.1 233 rfl))
  have f108 := congrArg Int32.toInt (eA_c (j := 0) (hF70.2.1 234 rfl))
  have f109 := congrArg Int32.toInt (eA_c (j := 4) (hF70.2.1 234 rfl))
  have f110 := congrArg Int32.toInt (eA_c (j := 5) (hF70.2.1 234 rfl))
  have f111 := congrArg Int32.toInt (eA_c (j := 6) (hF70.2.1 234 rfl))
  have f112 := congrArg Int32.toInt (eA_c (j := 1) (hF70.2.1 234 rfl))
  have f113 := congrArg Int32.toInt (eA_c (j := 2) (hF70.2.1 234 rfl))
  have f114 := congrArg Int32.toInt (eA_c (j := 3) (hF70.2.1 234 rfl))
  have f115 := congrArg Int32.toInt (eA_c (j := 5510) (hF70.2.1 234 rfl))
  have f116 := congrArg Int32.toInt (eA_c (j := 5514) (hF70.2.1 234 rfl))
  have f117 := congrArg Int32.toInt (eA_c (j := 5515) (hF70.2.1 234 rfl))
  have f118 := congrArg Int32.toInt (eA_c (j := 5516) (hF70.2.1 234 rfl))
  have f119 := congrArg Int32.toInt (eA_c (j := 5511) (hF70.2.1 234 rfl))
  have f120 := congrArg Int32.toInt (eA_c (j := 5512) (hF70.2.1 234 rfl))
  have f121 := congrArg Int32.toInt (eA_c (j := 5513) (hF70.2.1 234 rfl))
  have f122 := congrArg Int32.toInt (eA_c (j := 0) (hF70.2.1 235 rfl))
  have f123 := congrArg Int32.toInt (eA_c (j := 1) (hF70.2.1 235 rfl))
  have f124 := congrArg Int32.toInt (hF70.1 231 8 rfl)
  have f125 := congrArg Int32.toInt (hF70.1 231 6 rfl)
  have f126 := congrArg Int32.toInt (hF70.1 231 13 rfl)
  refine At.enter rfl ?_
  refine r_pop rfl ?_
  refine r_goto ?_
  exact K _ hI69 (show LwR _ from ⟨(congrArg Int32.toInt (((hF70.1 1 0 (by decide)).trans (hF7.1 1 0 (by decide))))).trans (hR_0.trans (eA_ti (j := 0) (((hF70.2.1 233 (by decide)).trans (hF7.2.1 233 (by decide))))).symm), (congrArg Int32.toInt (((hF70.1 1 12 (by decide)).trans (hF7.1 1 12 (by decide))))).trans (hR_1.trans (eA_ti (j := 4) (((hF70.2.1 233 (by decide)).trans (hF7.2.1 233 (by decide))))).symm), (congrArg Int32.toInt (((hF70.1 1 10 (by decide)).trans (hF7.1 1 10 (by decide))))).trans (hR_2.trans (eA_ti (j := 5) (((hF70.2.1 233 (by decide)).trans (hF7.2.1 233 (by decide))))).symm), (congrArg Int32.toInt (((hF70.1 1 11 (by decide)).trans (hF7.1 1 11 (by decide))))).trans (hR_3.trans (eA_ti (j := 6) (((hF70.2.1 233 (by decide)).trans (hF7.2.1 233 (by decide))))).symm), (congrArg Int32.toInt (((hF70.1 1 4 (by decide)).trans (hF7.1 1 4 (by decide))))).trans (hR_4.trans (eA_ti (j := 1) (((hF70.2.1 233 (by decide)).trans (hF7.2.1 233 (by decide))))).symm), (congrArg Int32.toInt (((hF70.1 1 6 (by decide)).trans (hF7.1 1 6 (by decide))))).trans (hR_5.trans (eA_ti (j := 2) (((hF70.2.1 233 (by decide)).trans (hF7.2.1 233 (by decide))))).symm), (congrArg Int32.toInt (((hF70.1 1 9 (by decide)).trans (hF7.1 1 9 (by decide))))).trans (hR_6.trans (eA_ti (j := 3) (((hF70.2.1 233 (by decide)).trans (hF7.2.1 233 (by decide))))).symm), (eA_ti (j := 0) (((hF70.2.1 173 (by decide)).trans (hF7.2.1 173 (by decide))))).trans (hR_7.trans (eA_ti (j := 0) (((hF70.2.1 235 (by decide)).trans (hF7.2.1 235 (by decide))))).symm), (eA_ti (j := 1) (((hF70.2.1 173 (by decide)).trans (hF7.2.1 173 (by decide))))).trans (hR_8.trans (eA_ti (j := 1) (((hF70.2.1 235 (by decide)).trans (hF7.2.1 235 (by decide))))).symm), (congrArg Int32.toInt (((hF70.1 174 1 (by decide)).trans (hF7.1 174 1 (by decide))))).trans (hR_9.trans (congrArg Int32.toInt (((hF70.1 231 8 (by decide)).trans (hF7.1 231 8 (by decide))))).symm), (congrArg Int32.toInt (((hF70.1 0 16 (by decide)).trans (hF7.1 0 16 (by decide))))).trans (hR_10.trans (congrArg Int32.toInt (((hF70.1 231 6 (by decide)).trans (hF7.1 231 6 (by decide))))).symm), (congrArg Int32.toInt (((hF70.1 176 2 (by decide)).trans (hF7.1 176 2 (by decide))))).trans (hR_11.trans (congrArg Int32.toInt (((hF70.1 231 13 (by decide)).trans (hF7.1 231 13 (by decide))))).symm), IM0.cong hR_12 (eA_ti (j := 0) (((hF70.2.1 173 (by decide)).trans (hF7.2.1 173 (by decide))))) (congrArg Int32.toInt (((hF70.1 59 0 (by decide)).trans (hF7.1 59 0 (by decide))))) (eA_ti (j := 0) (((hF70.2.1 234 (by decide)).trans (hF7.2.1 234 (by decide))))) (congrArg Int32.toInt (((hF70.1 59 12 (by decide)).trans (hF7.1 59 12 (by decide))))) (eA_ti (j := 4) (((hF70.2.1 234 (by decide)).trans (hF7.2.1 234 (by decide))))) (congrArg Int32.toInt (((hF70.1 59 10 (by decide)).trans (hF7.1 59 10 (by decide))))) (eA_ti (j := 5) (((hF70.2.1 234 (by decide)).trans (hF7.2.1 234 (by decide))))) (congrArg Int32.toInt (((hF70.1 59 11 (by decide)).trans (hF7.1 59 11 (by decide))))) (eA_ti (j := 6) (((hF70.2.1 234 (by decide)).trans (hF7.2.1 234 (by decide))))) (congrArg Int32.toInt (((hF70.1 59 4 (by decide)).trans (hF7.1 59 4 (by decide))))) (eA_ti (j := 1) (((hF70.2.1 234 (by decide)).trans (hF7.2.1 234 (by decide))))) (congrArg Int32.toInt (((hF70.1 59 6 (by decide)).trans (hF7.1 59 6 (by decide))))) (eA_ti (j := 2) (((hF70.2.1 234 (by decide)).trans (hF7.2.1 234 (by decide))))) (congrArg Int32.toInt (((hF70.1 59 9 (by decide)).trans (hF7.1 59 9 (by decide))))) (eA_ti (j := 3) (((hF70.2.1 234 (by decide)).trans (hF7.2.1 234 (by decide))))), IM1.cong hR_13 (eA_ti (j := 1) (((hF70.2.1 173 (by decide)).trans (hF7.2.1 173 (by decide))))) (congrArg Int32.toInt (((hF70.1 116 0 (by decide)).trans (hF7.1 116 0 (by decide))))) (eA_ti (j := 5510) (((hF70.2.1 234 (by decide)).trans (hF7.2.1 234 (by decide))))) (congrArg Int32.toInt (((hF70.1 116 12 (by decide)).trans (hF7.1 116 12 (by decide))))) (eA_ti (j := 5514) (((hF70.2.1 234 (by decide)).trans (hF7.2.1 234 (by decide))))) (congrArg Int32.toInt (((hF70.1 116 10 (by decide)).trans (hF7.1 116 10 (by decide))))) (eA_ti (j := 5515) (((hF70.2.1 234 (by decide)).trans (hF7.2.1 234 (by decide))))) (congrArg Int32.toInt (((hF70.1 116 11 (by decide)).trans (hF7.1 116 11 (by decide))))) (eA_ti (j := 5516) (((hF70.2.1 234 (by decide)).trans (hF7.2.1 234 (by decide))))) (congrArg Int32.toInt (((hF70.1 116 4 (by decide)).trans (hF7.1 116 4 (by decide))))) (eA_ti (j := 5511) (((hF70.2.1 234 (by decide)).trans (hF7.2.1 234 (by decide))))) (congrArg Int32.toInt (((hF70.1 116 6 (by decide)).trans (hF7.1 116 6 (by decide))))) (eA_ti (j := 5512) (((hF70.2.1 234 (by decide)).trans (hF7.2.1 234 (by decide))))) (congrArg Int32.toInt (((hF70.1 116 9 (by decide)).trans (hF7.1 116 9 (by decide))))) (eA_ti (j := 5513) (((hF70.2.1 234 (by decide)).trans (hF7.2.1 234 (by decide))))), CT.cong hR_14 (((hF70.2.1 2 (by decide)).trans (hF7.2.1 2 (by decide)))) (((hF70.2.1 3 (by decide)).trans (hF7.2.1 3 (by decide)))) (((hF70.2.1 4 (by decide)).trans (hF7.2.1 4 (by decide)))) (((hF70.2.1 14 (by decide)).trans (hF7.2.1 14 (by decide)))) (((hF70.2.1 15 (by decide)).trans (hF7.2.1 15 (by decide)))) (((hF70.2.1 5 (by decide)).trans (hF7.2.1 5 (by decide)))) (((hF70.2.1 233 (by decide)).trans (hF7.2.1 233 (by decide)))) (congrArg Int32.toInt (((hF70.1 1 4 (by decide)).trans (hF7.1 1 4 (by decide))))), CI0.cong hR_15 (((hF70.2.1 60 (by decide)).trans (hF7.2.1 60 (by decide)))) (((hF70.2.1 61 (by decide)).trans (hF7.2.1 61 (by decide)))) (((hF70.2.1 62 (by decide)).trans (hF7.2.1 62 (by decide)))) (((hF70.2.1 72 (by decide)).trans (hF7.2.1 72 (by decide)))) (((hF70.2.1 73 (by decide)).trans (hF7.2.1 73 (by decide)))) (((hF70.2.1 63 (by decide)).trans (hF7.2.1 63 (by decide)))) (((hF70.2.1 234 (by decide)).trans (hF7.2.1 234 (by decide)))) (congrArg Int32.toInt (((hF70.1 59 4 (by decide)).trans (hF7.1 59 4 (by decide))))), CI1.cong hR_16 (((hF70.2.1 117 (by decide)).trans (hF7.2.1 117 (by decide)))) (((hF70.2.1 118 (by decide)).trans (hF7.2.1 118 (by decide)))) (((hF70.2.1 119 (by decide)).trans (hF7.2.1 119 (by decide)))) (((hF70.2.1 129 (by decide)).trans (hF7.2.1 129 (by decide)))) (((hF70.2.1 130 (by decide)).trans (hF7.2.1 130 (by decide)))) (((hF70.2.1 120 (by decide)).trans (hF7.2.1 120 (by decide)))) (((hF70.2.1 234 (by decide)).trans (hF7.2.1 234 (by decide)))) (congrArg Int32.toInt (((hF70.1 116 4 (by decide)).trans (hF7.1 116 4 (by decide))))), (show RT _ from fun i i0 i1 => (eA_ti (((hF70.2.1 175 (by decide)).trans (hF7.2.1 175 (by decide))))).trans ((hR_17 i i0 (by omega)).trans (eA_ti (((hF70.2.1 236 (by decide)).trans (hF7.2.1 236 (by decide))))).symm)), (show BYX _ from fun i i0 i1 => by rw [TX.c (((hF70.2.1 175 (by decide)).trans (hF7.2.1 175 (by decide))))]; exact hR_18 i i0 (by have i2 : i < (gI _ 174 1).toInt := i1; show i < (gI g0 174 1).toInt; omega)), (LAWR_c hR_19 (LSA_tr (LSA_tr LSA_rf (LSA_fr hF7 rfl)) (LSA_fr hF70 rfl)) (((hF70.1 1 6 (by decide)).trans (hF7.1 1 6 (by decide)))) (((hF70.1 59 6 (by decide)).trans (hF7.1 59 6 (by decide)))) (((hF70.1 116 6 (by decide)).trans (hF7.1 116 6 (by decide)))) (((hF70.2.1 173 (by decide)).trans (hF7.2.1 173 (by decide)))) (fun i i0 i1 => eA_ti (((hF70.2.1 233 (by decide)).trans (hF7.2.1 233 (by decide))))) (((hF70.2.1 234 (by decide)).trans (hF7.2.1 234 (by decide)))) (TOLDX_fr hF70 rfl rfl rfl rfl (TOLDX_fr hF7 rfl rfl rfl rfl hR_19.2.2.2.2))), (SETX_fr hF70 rfl rfl rfl rfl rfl (SETX_fr hF7 rfl rfl rfl rfl rfl hR_20))⟩)
