set_option maxRecDepth 100000 in
set_option maxHeartbeats 8000000 in
theorem lq_c2 (d : Nat) {N : Nat} {g0 : List en_E} (hI0 : HI g0) (hR0 : LwR g0) {ys : List Int32} {L : Nat} (hL : ys.length = L) (hL2 : L ≤ 3584) {l : en_L} {i : Int32} (e0 : en_get 0 l = some (.float 0)) (e1 : en_get 1 l = some (.ref 0)) (e2 : en_get 2 l = some (.ref 231)) (e3 : en_get 3 l = some (.int i)) (hi : 0 ≤ i.toInt ∧ i.toInt + 7 ≤ L) {Ph : Option Value → en_H → Prop} (K : ∀ g1 : List en_E, HI g1 → LwR g1 → At (d + 423) (some ys) (some .boolean) bs_L_law (1330, l, [], (g1, N)) Ph) : At (d + 423) (some ys) (some .boolean) bs_L_law (294, l, [], (g0, N)) Ph := by
  have hF0 : Fr F_law A_law g0 g0 := Fr.rf
  have hx_1 : -2147483648 ≤ i.toInt + 1 ∧ i.toInt + 1 ≤ 2147483647 := by omega
  have hx_2 : -2147483648 ≤ i.toInt + 2 ∧ i.toInt + 2 ≤ 2147483647 := by omega
  have hx_3 : -2147483648 ≤ i.toInt + 3 ∧ i.toInt + 3 ≤ 2147483647 := by omega
  have hx_4 : -2147483648 ≤ i.toInt + 4 ∧ i.toInt + 4 ≤ 2147483647 := by omega
  have hx_5 : -2147483648 ≤ i.toInt + 5 ∧ i.toInt + 5 ≤ 2147483647 := by omega
  have hx_6 : -2147483648 ≤ i.toInt + 6 ∧ i.toInt + 6 ≤ 2147483647 := by omega
  have hy_0 : 0 ≤ i.toInt ∧ i.toInt < (L : Int) := by omega
  have hy_1 : 0 ≤ i.toInt + 1 ∧ i.toInt + 1 < (L : Int) := by omega
  have hy_2 : 0 ≤ i.toInt + 2 ∧ i.toInt + 2 < (L : Int) := by omega
  have hy_3 : 0 ≤ i.toInt + 3 ∧ i.toInt + 3 < (L : Int) := by omega
  have hy_4 : 0 ≤ i.toInt + 4 ∧ i.toInt + 4 < (L : Int) := by omega
  have hy_5 : 0 ≤ i.toInt + 5 ∧ i.toInt + 5 < (L : Int) := by omega
  have hy_6 : 0 ≤ i.toInt + 6 ∧ i.toInt + 6 < (L : Int) := by omega
  unfold LwR at hR0
  obtain ⟨hR_0, hR_1, hR_2, hR_3, hR_4, hR_5, hR_6, hR_7, hR_8, hR_9, hR_10, hR_11⟩ := hR0
  refine At.enter rfl ?_
  refine r_aload_n e1 ?_
  refine r_sload_n e0 ?_
  refine r_iload_n e3 ?_
  refine r_iconst 1 rfl ?_
  refine q_iadd (i.toInt + 1) rfl hx_1 (fun v1 hv1 => ?_)
  refine q_scald (m := L) hL (i.toInt + 1) hv1 hy_1 (fun v2 hv2 => ?_)
  refine r_sload_n e0 ?_
  refine r_iload_n e3 ?_
  refine r_iconst 2 rfl ?_
  refine q_iadd (i.toInt + 2) rfl hx_2 (fun v3 hv3 => ?_)
  refine q_scald (m := L) hL (i.toInt + 2) hv3 hy_2 (fun v4 hv4 => ?_)
  refine r_callV 308 rfl [.ref 0, .int v2, .int v4] [] (Nat.le_of_ble_eq_true rfl) rfl (T_X10_of_0 _ hI0 v2 v4) ?_
  rintro _ _ ⟨g5, rfl, hI6, hF7, v8, rfl, hr9⟩
  refine At.sti ?_
  have hF10 := Fr.tr hF0 hF7 rfl rfl
  have f11 := congrArg Int32.toInt (hF7.1 1 0 rfl)
  have f12 := congrArg Int32.toInt (hF7.1 1 12 rfl)
  have f13 := congrArg Int32.toInt (hF7.1 1 10 rfl)
  have f14 := congrArg Int32.toInt (hF7.1 1 11 rfl)
  have f15 := congrArg Int32.toInt (hF7.1 59 0 rfl)
  have f16 := congrArg Int32.toInt (hF7.1 59 12 rfl)
  have f17 := congrArg Int32.toInt (hF7.1 59 10 rfl)
  have f18 := congrArg Int32.toInt (hF7.1 59 11 rfl)
  have f19 := congrArg Int32.toInt (hF7.1 116 0 rfl)
  have f20 := congrArg Int32.toInt (hF7.1 116 12 rfl)
  have f21 := congrArg Int32.toInt (hF7.1 116 10 rfl)
  have f22 := congrArg Int32.toInt (hF7.1 116 11 rfl)
  have f23 := congrArg Int32.toInt (eA_c (j := 0) (hF7.2.1 173 rfl))
  have f24 := congrArg Int32.toInt (eA_c (j := 1) (hF7.2.1 173 rfl))
  have f25 := congrArg Int32.toInt (hF7.1 174 1 rfl)
  have f26 := congrArg Int32.toInt (eA_c (j := 0) (hF7.2.1 233 rfl))
  have f27 := congrArg Int32.toInt (eA_c (j := 4) (hF7.2.1 233 rfl))
  have f28 := congrArg Int32.toInt (eA_c (j := 5) (hF7.2.1 233 rfl))
  have f29 := congrArg Int32.toInt (eA_c (j := 6) (hF7.2.1 233 rfl))
  have f30 := congrArg Int32.toInt (eA_c (j := 0) (hF7.2.1 234 rfl))
  have f31 := congrArg Int32.toInt (eA_c (j := 4) (hF7.2.1 234 rfl))
  have f32 := congrArg Int32.toInt (eA_c (j := 5) (hF7.2.1 234 rfl))
  have f33 := congrArg Int32.toInt (eA_c (j := 6) (hF7.2.1 234 rfl))
  have f34 := congrArg Int32.toInt (eA_c (j := 5510) (hF7.2.1 234 rfl))
  have f35 := congrArg Int32.toInt (eA_c (j := 5514) (hF7.2.1 234 rfl))
  have f36 := congrArg Int32.toInt (eA_c (j := 5515) (hF7.2.1 234 rfl))
  have f37 := congrArg Int32.toInt (eA_c (j := 5516) (hF7.2.1 234 rfl))
  have f38 := congrArg Int32.toInt (eA_c (j := 0) (hF7.2.1 235 rfl))
  have f39 := congrArg Int32.toInt (eA_c (j := 1) (hF7.2.1 235 rfl))
  have f40 := congrArg Int32.toInt (hF7.1 231 8 rfl)
  refine At.enter rfl ?_
  refine r_pop rfl ?_
  refine r_aload_n e2 ?_
  refine r_sload_n e0 ?_
  refine r_iload_n e3 ?_
  refine r_iconst 1 rfl ?_
  refine q_iadd (i.toInt + 1) rfl hx_1 (fun v41 hv41 => ?_)
  refine q_scald (m := L) hL (i.toInt + 1) hv41 hy_1 (fun v42 hv42 => ?_)
  have sv42 := hv2.symm.trans hv42
  subst sv42
  refine r_sload_n e0 ?_
  refine r_iload_n e3 ?_
  refine r_iconst 2 rfl ?_
  refine q_iadd (i.toInt + 2) rfl hx_2 (fun v43 hv43 => ?_)
  refine q_scald (m := L) hL (i.toInt + 2) hv43 hy_2 (fun v44 hv44 => ?_)
  have sv44 := hv4.symm.trans hv44
  subst sv44
  refine r_callV 323 rfl [.ref 231, .int v2, .int v4] [] (Nat.le_of_ble_eq_true rfl) rfl (T_X11_of_231 _ hI6 v2 v4) ?_
  rintro _ _ ⟨g45, rfl, hI46, hF47, v48, rfl, hr49⟩
  refine At.sti ?_
  have hF50 := Fr.tr hF10 hF47 rfl rfl
  have f51 := congrArg Int32.toInt (hF47.1 1 0 rfl)
  have f52 := congrArg Int32.toInt (hF47.1 1 12 rfl)
  have f53 := congrArg Int32.toInt (hF47.1 1 10 rfl)
  have f54 := congrArg Int32.toInt (hF47.1 1 11 rfl)
  have f55 := congrArg Int32.toInt (hF47.1 59 0 rfl)
  have f56 := congrArg Int32.toInt (hF47.1 59 12 rfl)
  have f57 := congrArg Int32.toInt (hF47.1 59 10 rfl)
  have f58 := congrArg Int32.toInt (hF47.1 59 11 rfl)
  have f59 := congrArg Int32.toInt (hF47.1 116 0 rfl)
  have f60 := congrArg Int32.toInt (hF47.1 116 12 rfl)
  have f61 := congrArg Int32.toInt (hF47.1 116 10 rfl)
  have f62 := congrArg Int32.toInt (hF47.1 116 11 rfl)
  have f63 := congrArg Int32.toInt (eA_c (j := 0) (hF47.2.1 173 rfl))
  have f64 := congrArg Int32.toInt (eA_c (j := 1) (hF47.2.1 173 rfl))
  have f65 := congrArg Int32.toInt (hF47.1 174 1 rfl)
  have f66 := congrArg Int32.toInt (eA_c (j := 0) (hF47.2.1 233 rfl))
  have f67 := congrArg Int32.toInt (eA_c (j := 4) (hF47.2.1 233 rfl))
  have f68 := congrArg Int32.toInt (eA_c (j := 5) (hF47.2.1 233 rfl))
  have f69 := congrArg Int32.toInt (eA_c (j := 6) (hF47.2.1 233 rfl))
  have f70 := congrArg Int32.toInt (eA_c (j := 0) (hF47.2.1 234 rfl))
  have f71 := congrArg Int32.toInt (eA_c (j := 4) (hF47.2.1 234 rfl))
  have f72 := congrArg Int32.toInt (eA_c (j := 5) (hF47.2.1 234 rfl))
  have f73 := congrArg Int32.toInt (eA_c (j := 6) (hF47.2.1 234 rfl))
  have f74 := congrArg Int32.toInt (eA_c (j := 5510) (hF47.2.1 234 rfl))
  have f75 := congrArg Int32.toInt (eA_c (j := 5514) (hF47.2.1 234 rfl))
  have f76 := congrArg Int32.toInt (eA_c (j := 5515) (hF47.2.1 234 rfl))
  have f77 := congrArg Int32.toInt (eA_c (j := 5516) (hF47.2.1 234 rfl))
  have f78 := congrArg Int32.toInt (eA_c (j := 0) (hF47.2.1 235 rfl))
  have f79 := congrArg Int32.toInt (eA_c (j := 1) (hF47.2.1 235 rfl))
  have f80 := congrArg Int32.toInt (hF47.1 231 8 rfl)
  refine At.enter rfl ?_
  refine r_pop rfl ?_
  refine r_goto ?_
  exact K _ hI46 (show LwR _ from ⟨(congrArg Int32.toInt (((hF47.1 1 0 (by decide)).trans (hF7.1 1 0 (by decide))))).trans (hR_0.trans (eA_ti (j := 0) (((hF47.2.1 233 (by decide)).trans (hF7.2.1 233 (by decide))))).symm), (congrArg Int32.toInt (((hF47.1 1 12 (by decide)).trans (hF7.1 1 12 (by decide))))).trans (hR_1.trans (eA_ti (j := 4) (((hF47.2.1 233 (by decide)).trans (hF7.2.1 233 (by decide))))).symm), (congrArg Int32.toInt (((hF47.1 1 10 (by decide)).trans (hF7.1 1 10 (by decide))))).trans (hR_2.trans (eA_ti (j := 5) (((hF47.2.1 233 (by decide)).trans (hF7.2.1 233 (by decide))))).symm), (congrArg Int32.toInt (((hF47.1 1 11 (by decide)).trans (hF7.1 1 11 (by decide))))).trans (hR_3.trans (eA_ti (j := 6) (((hF47.2.1 233 (by decide)).trans (hF7.2.1 233 (by decide))))).symm), (eA_ti (j := 0) (((hF47.2.1 173 (by decide)).trans (hF7.2.1 173 (by decide))))).trans (hR_4.trans (eA_ti (j := 0) (((hF47.2.1 235 (by decide)).trans (hF7.2.1 235 (by decide))))).symm), (eA_ti (j := 1) (((hF47.2.1 173 (by decide)).trans (hF7.2.1 173 (by decide))))).trans (hR_5.trans (eA_ti (j := 1) (((hF47.2.1 235 (by decide)).trans (hF7.2.1 235 (by decide))))).symm), (congrArg Int32.toInt (((hF47.1 174 1 (by decide)).trans (hF7.1 174 1 (by decide))))).trans (hR_6.trans (congrArg Int32.toInt (((hF47.1 231 8 (by decide)).trans (hF7.1 231 8 (by decide))))).symm), IM0.cong hR_7 (eA_ti (j := 0) (((hF47.2.1 173 (by decide)).trans (hF7.2.1 173 (by decide))))) (congrArg Int32.toInt (((hF47.1 59 0 (by decide)).trans (hF7.1 59 0 (by decide))))) (eA_ti (j := 0) (((hF47.2.1 234 (by decide)).trans (hF7.2.1 234 (by decide))))) (congrArg Int32.toInt (((hF47.1 59 12 (by decide)).trans (hF7.1 59 12 (by decide))))) (eA_ti (j := 4) (((hF47.2.1 234 (by decide)).trans (hF7.2.1 234 (by decide))))) (congrArg Int32.toInt (((hF47.1 59 10 (by decide)).trans (hF7.1 59 10 (by decide))))) (eA_ti (j := 5) (((hF47.2.1 234 (by decide)).trans (hF7.2.1 234 (by decide))))) (congrArg Int32.toInt (((hF47.1 59 11 (by decide)).trans (hF7.1 59 11 (by decide))))) (eA_ti (j := 6) (((hF47.2.1 234 (by decide)).trans (hF7.2.1 234 (by decide))))), IM1.cong hR_8 (eA_ti (j := 1) (((hF47.2.1 173 (by decide)).trans (hF7.2.1 173 (by decide))))) (congrArg Int32.toInt (((hF47.1 116 0 (by decide)).trans (hF7.1 116 0 (by decide))))) (eA_ti (j := 5510) (((hF47.2.1 234 (by decide)).trans (hF7.2.1 234 (by decide))))) (congrArg Int32.toInt (((hF47.1 116 12 (by decide)).trans (hF7.1 116 12 (by decide))))) (eA_ti (j := 5514) (((hF47.2.1 234 (by decide)).trans (hF7.2.1 234 (by decide))))) (congrArg Int32.toInt (((hF47.1 116 10 (by decide)).trans (hF7.1 116 10 (by decide))))) (eA_ti (j := 5515) (((hF47.2.1 234 (by decide)).trans (hF7.2.1 234 (by decide))))) (congrArg Int32.toInt (((hF47.1 116 11 (by decide)).trans (hF7.1 116 11 (by decide))))) (eA_ti (j := 5516) (((hF47.2.1 234 (by decide)).trans (hF7.2.1 234 (by decide))))), CT.cong hR_9 (((hF47.2.1 2 (by decide)).trans (hF7.2.1 2 (by decide)))) (((hF47.2.1 3 (by decide)).trans (hF7.2.1 3 (by decide)))) (((hF47.2.1 4 (by decide)).trans (hF7.2.1 4 (by decide)))) (((hF47.2.1 14 (by decide)).trans (hF7.2.1 14 (by decide)))) (((hF47.2.1 15 (by decide)).trans (hF7.2.1 15 (by decide)))) (((hF47.2.1 233 (by decide)).trans (hF7.2.1 233 (by decide)))), CI0.cong hR_10 (((hF47.2.1 60 (by decide)).trans (hF7.2.1 60 (by decide)))) (((hF47.2.1 61 (by decide)).trans (hF7.2.1 61 (by decide)))) (((hF47.2.1 62 (by decide)).trans (hF7.2.1 62 (by decide)))) (((hF47.2.1 72 (by decide)).trans (hF7.2.1 72 (by decide)))) (((hF47.2.1 73 (by decide)).trans (hF7.2.1 73 (by decide)))) (((hF47.2.1 234 (by decide)).trans (hF7.2.1 234 (by decide)))), CI1.cong hR_11 (((hF47.2.1 117 (by decide)).trans (hF7.2.1 117 (by decide)))) (((hF47.2.1 118 (by decide)).trans (hF7.2.1 118 (by decide)))) (((hF47.2.1 119 (by decide)).trans (hF7.2.1 119 (by decide)))) (((hF47.2.1 129 (by decide)).trans (hF7.2.1 129 (by decide)))) (((hF47.2.1 130 (by decide)).trans (hF7.2.1 130 (by decide)))) (((hF47.2.1 234 (by decide)).trans (hF7.2.1 234 (by decide))))⟩)

set_option maxRecDepth 100000 in
set_option maxHeartbeats 8000000 in
theorem lq_c3 (d : Nat) {N : Nat} {g0 : List en_E} (hI0 : HI g0) (hR0 : LwR g0) {ys : List Int32} {L : Nat} (hL : ys.length = L) (hL2 : L ≤ 3584) {l : en_L} {i : Int32} (e0 : en_get 0 l = some (.float 0)) (e1 : en_get 1 l = some (.ref 0)) (e2 : en_get 2 l = some (.ref 231)) (e3 : en_get 3 l = some (.int i)) (hi : 0 ≤ i.toInt ∧ i.toInt + 7 ≤ L) {Ph : Option Value → en_H → Prop} (K : ∀ g1 : List en_E, HI g1 → LwR g1 → At (d + 423) (some ys) (some .boolean) bs_L_law (1330, l, [], (g1, N)) Ph) : At (d + 423) (some ys) (some .boolean) bs_L_law (327, l, [], (g0, N)) Ph := by
  have hF0 : Fr F_law A_law g0 g0 := Fr.rf
  have hx_1 : -2147483648 ≤ i.toInt + 1 ∧ i.toInt + 1 ≤ 2147483647 := by omega
  have hx_2 : -2147483648 ≤ i.toInt + 2 ∧ i.toInt + 2 ≤ 2147483647 := by omega
  have hx_3 : -2147483648 ≤ i.toInt + 3 ∧ i.toInt + 3 ≤ 2147483647 := by omega
  have hx_4 : -2147483648 ≤ i.toInt + 4 ∧ i.toInt + 4 ≤ 2147483647 := by omega
  have hx_5 : -2147483648 ≤ i.toInt + 5 ∧ i.toInt + 5 ≤ 2147483647 := by omega
  have hx_6 : -2147483648 ≤ i.toInt + 6 ∧ i.toInt + 6 ≤ 2147483647 := by omega
  have hy_0 : 0 ≤ i.toInt ∧ i.toInt < (L : Int) := by omega
  have hy_1 : 0 ≤ i.toInt + 1 ∧ i.toInt + 1 < (L : Int) := by omega
  have hy_2 : 0 ≤ i.toInt + 2 ∧ i.toInt + 2 < (L : Int) := by omega
  have hy_3 : 0 ≤ i.toInt + 3 ∧ i.toInt + 3 < (L : Int) := by omega
  have hy_4 : 0 ≤ i.toInt + 4 ∧ i.toInt + 4 < (L : Int) := by omega
  have hy_5 : 0 ≤ i.toInt + 5 ∧ i.toInt + 5 < (L : Int) := by omega
  have hy_6 : 0 ≤ i.toInt + 6 ∧ i.toInt + 6 < (L : Int) := by omega
  unfold LwR at hR0
  obtain ⟨hR_0, hR_1, hR_2, hR_3, hR_4, hR_5, hR_6, hR_7, hR_8, hR_9, hR_10, hR_11⟩ := hR0
  refine At.enter rfl ?_
  refine r_aload_n e1 ?_
  refine r_sload_n e0 ?_
  refine r_iload_n e3 ?_
  refine r_iconst 1 rfl ?_
  refine q_iadd (i.toInt + 1) rfl hx_1 (fun v1 hv1 => ?_)
  refine q_scald (m := L) hL (i.toInt + 1) hv1 hy_1 (fun v2 hv2 => ?_)
  refine r_sload_n e0 ?_
  refine r_iload_n e3 ?_
  refine r_iconst 2 rfl ?_
  refine q_iadd (i.toInt + 2) rfl hx_2 (fun v3 hv3 => ?_)
  refine q_scald (m := L) hL (i.toInt + 2) hv3 hy_2 (fun v4 hv4 => ?_)
  refine r_sload_n e0 ?_
  refine r_iload_n e3 ?_
  refine r_iconst 3 rfl ?_
  refine q_iadd (i.toInt + 3) rfl hx_3 (fun v5 hv5 => ?_)
  refine q_scald (m := L) hL (i.toInt + 3) hv5 hy_3 (fun v6 hv6 => ?_)
  refine r_sload_n e0 ?_
  refine r_iload_n e3 ?_
  refine r_iconst 4 rfl ?_
  refine q_iadd (i.toInt + 4) rfl hx_4 (fun v7 hv7 => ?_)
  refine q_scald (m := L) hL (i.toInt + 4) hv7 hy_4 (fun v8 hv8 => ?_)
  refine r_sload_n e0 ?_
  refine r_iload_n e3 ?_
  refine r_iconst 5 rfl ?_
  refine q_iadd (i.toInt + 5) rfl hx_5 (fun v9 hv9 => ?_)
  refine q_scald (m := L) hL (i.toInt + 5) hv9 hy_5 (fun v10 hv10 => ?_)
  refine r_sload_n e0 ?_
  refine r_iload_n e3 ?_
  refine r_bipush 6 rfl ?_
  refine q_iadd (i.toInt + 6) rfl hx_6 (fun v11 hv11 => ?_)
  refine q_scald (m := L) hL (i.toInt + 6) hv11 hy_6 (fun v12 hv12 => ?_)
  refine r_callV 362 rfl [.ref 0, .int v2, .int v4, .int v6, .int v8, .int v10, .int v12] [] (Nat.le_of_ble_eq_true rfl) rfl (T_X10_load_0 _ hI0 v2 v4 v6 v8 v10 v12) ?_
  rintro _ _ ⟨g13, rfl, hI14, hF15, v16, rfl, hr17⟩
  refine At.sti ?_
  have hF18 := Fr.tr hF0 hF15 rfl rfl
  have f19 := congrArg Int32.toInt (hF15.1 1 0 rfl)
  have f20 := congrArg Int32.toInt (hF15.1 1 12 rfl)
  have f21 := congrArg Int32.toInt (hF15.1 1 10 rfl)
  have f22 := congrArg Int32.toInt (hF15.1 1 11 rfl)
  have f23 := congrArg Int32.toInt (hF15.1 59 0 rfl)
  have f24 := congrArg Int32.toInt (hF15.1 59 12 rfl)
  have f25 := congrArg Int32.toInt (hF15.1 59 10 rfl)
  have f26 := congrArg Int32.toInt (hF15.1 59 11 rfl)
  have f27 := congrArg Int32.toInt (hF15.1 116 0 rfl)
  have f28 := congrArg Int32.toInt (hF15.1 116 12 rfl)
  have f29 := congrArg Int32.toInt (hF15.1 116 10 rfl)
  have f30 := congrArg Int32.toInt (hF15.1 116 11 rfl)
  have f31 := congrArg Int32.toInt (eA_c (j := 0) (hF15.2.1 173 rfl))
  have f32 := congrArg Int32.toInt (eA_c (j := 1) (hF15.2.1 173 rfl))
  have f33 := congrArg Int32.toInt (hF15.1 174 1 rfl)
  have f34 := congrArg Int32.toInt (eA_c (j := 0) (hF15.2.1 233 rfl))
  have f35 := congrArg Int32.toInt (eA_c (j := 4) (hF15.2.1 233 rfl))
  have f36 := congrArg Int32.toInt (eA_c (j := 5) (hF15.2.1 233 rfl))
  have f37 := congrArg Int32.toInt (eA_c (j := 6) (hF15.2.1 233 rfl))
  have f38 := congrArg Int32.toInt (eA_c (j := 0) (hF15.2.1 234 rfl))
  have f39 := congrArg Int32.toInt (eA_c (j := 4) (hF15.2.1 234 rfl))
  have f40 := congrArg Int32.toInt (eA_c (j := 5) (hF15.2.1 234 rfl))
  have f41 := congrArg Int32.toInt (eA_c (j := 6) (hF15.2.1 234 rfl))
  have f42 := congrArg Int32.toInt (eA_c (j := 5510) (hF15.2.1 234 rfl))
  have f43 := congrArg Int32.toInt (eA_c (j := 5514) (hF15.2.1 234 rfl))
  have f44 := congrArg Int32.toInt (eA_c (j := 5515) (hF15.2.1 234 rfl))
  have f45 := congrArg Int32.toInt (eA_c (j := 5516) (hF15.2.1 234 rfl))
  have f46 := congrArg Int32.toInt (eA_c (j := 0) (hF15.2.1 235 rfl))
  have f47 := congrArg Int32.toInt (eA_c (j := 1) (hF15.2.1 235 rfl))
  have f48 := congrArg Int32.toInt (hF15.1 231 8 rfl)
  refine At.enter rfl ?_
  refine r_pop rfl ?_
  refine r_aload_n e2 ?_
  refine r_sload_n e0 ?_
  refine r_iload_n e3 ?_
  refine r_iconst 1 rfl ?_
  refine q_iadd (i.toInt + 1) rfl hx_1 (fun v49 hv49 => ?_)
  refine q_scald (m := L) hL (i.toInt + 1) hv49 hy_1 (fun v50 hv50 => ?_)
  have sv50 := hv2.symm.trans hv50
  subst sv50
  refine r_sload_n e0 ?_
  refine r_iload_n e3 ?_
  refine r_iconst 2 rfl ?_
  refine q_iadd (i.toInt + 2) rfl hx_2 (fun v51 hv51 => ?_)
  refine q_scald (m := L) hL (i.toInt + 2) hv51 hy_2 (fun v52 hv52 => ?_)
  have sv52 := hv4.symm.trans hv52
  subst sv52
  refine r_sload_n e0 ?_
  refine r_iload_n e3 ?_
  refine r_iconst 3 rfl ?_
  refine q_iadd (i.toInt + 3) rfl hx_3 (fun v53 hv53 => ?_)
  refine q_scald (m := L) hL (i.toInt + 3) hv53 hy_3 (fun v54 hv54 => ?_)
  have sv54 := hv6.symm.trans hv54
  subst sv54
  refine r_sload_n e0 ?_
  refine r_iload_n e3 ?_
  refine r_iconst 4 rfl ?_
  refine q_iadd (i.toInt + 4) rfl hx_4 (fun v55 hv55 => ?_)
  refine q_scald (m := L) hL (i.toInt + 4) hv55 hy_4 (fun v56 hv56 => ?_)
  have sv56 := hv8.symm.trans hv56
  subst sv56
  refine r_sload_n e0 ?_
  refine r_iload_n e3 ?_
  refine r_iconst 5 rfl ?_
  refine q_iadd (i.toInt + 5) rfl hx_5 (fun v57 hv57 => ?_)
  refine q_scald (m := L) hL (i.toInt + 5) hv57 hy_5 (fun v58 hv58 => ?_)
  have sv58 := hv10.symm.trans hv58
  subst sv58
  refine r_sload_n e0 ?_
  refine r_iload_n e3 ?_
  refine r_bipush 6 rfl ?_
  refine q_iadd (i.toInt + 6) rfl hx_6 (fun v59 hv59 => ?_)
  refine q_scald (m := L) hL (i.toInt + 6) hv59 hy_6 (fun v60 hv60 => ?_)
  have sv60 := hv12.symm.trans hv60
  subst sv60
  refine r_callV 398 rfl [.ref 231, .int v2, .int v4, .int v6, .int v8, .int v10, .int v12] [] (Nat.le_of_ble_eq_true rfl) rfl (T_X11_load_231 _ hI14 v2 v4 v6 v8 v10 v12) ?_
  rintro _ _ ⟨g61, rfl, hI62, hF63, v64, rfl, hr65⟩
  refine At.sti ?_
  have hF66 := Fr.tr hF18 hF63 rfl rfl
  obtain ⟨q67, q68, q69, q70⟩ := hr65
  have f71 := congrArg Int32.toInt (hF63.1 1 0 rfl)
  have f72 := congrArg Int32.toInt (hF63.1 1 12 rfl)
  have f73 := congrArg Int32.toInt (hF63.1 1 10 rfl)
  have f74 := congrArg Int32.toInt (hF63.1 1 11 rfl)
  have f75 := congrArg Int32.toInt (hF63.1 59 0 rfl)
  have f76 := congrArg Int32.toInt (hF63.1 59 12 rfl)
  have f77 := congrArg Int32.toInt (hF63.1 59 10 rfl)
  have f78 := congrArg Int32.toInt (hF63.1 59 11 rfl)
  have f79 := congrArg Int32.toInt (hF63.1 116 0 rfl)
  have f80 := congrArg Int32.toInt (hF63.1 116 12 rfl)
  have f81 := congrArg Int32.toInt (hF63.1 116 10 rfl)
  have f82 := congrArg Int32.toInt (hF63.1 116 11 rfl)
  have f83 := congrArg Int32.toInt (eA_c (j := 0) (hF63.2.1 173 rfl))
  have f84 := congrArg Int32.toInt (eA_c (j := 1) (hF63.2.1 173 rfl))
  have f85 := congrArg Int32.toInt (hF63.1 174 1 rfl)
  have f86 := congrArg Int32.toInt (eA_c (j := 0) (hF63.2.1 234 rfl))
  have f87 := congrArg Int32.toInt (eA_c (j := 4) (hF63.2.1 234 rfl))
  have f88 := congrArg Int32.toInt (eA_c (j := 5) (hF63.2.1 234 rfl))
  have f89 := congrArg Int32.toInt (eA_c (j := 6) (hF63.2.1 234 rfl))
  have f90 := congrArg Int32.toInt (eA_c (j := 5510) (hF63.2.1 234 rfl))
  have f91 := congrArg Int32.toInt (eA_c (j := 5514) (hF63.2.1 234 rfl))
  have f92 := congrArg Int32.toInt (eA_c (j := 5515) (hF63.2.1 234 rfl))
  have f93 := congrArg Int32.toInt (eA_c (j := 5516) (hF63.2.1 234 rfl))
  have f94 := congrArg Int32.toInt (eA_c (j := 0) (hF63.2.1 235 rfl))
  have f95 := congrArg Int32.toInt (eA_c (j := 1) (hF63.2.1 235 rfl))
  have f96 := congrArg Int32.toInt (hF63.1 231 8 rfl)
  refine At.enter rfl ?_
  refine r_pop rfl ?_
  refine r_goto ?_
  exact K _ hI62 (show LwR _ from ⟨by omega, by omega, by omega, by omega, (eA_ti (j := 0) (((hF63.2.1 173 (by decide)).trans (hF15.2.1 173 (by decide))))).trans (hR_4.trans (eA_ti (j := 0) (((hF63.2.1 235 (by decide)).trans (hF15.2.1 235 (by decide))))).symm), (eA_ti (j := 1) (((hF63.2.1 173 (by decide)).trans (hF15.2.1 173 (by decide))))).trans (hR_5.trans (eA_ti (j := 1) (((hF63.2.1 235 (by decide)).trans (hF15.2.1 235 (by decide))))).symm), (congrArg Int32.toInt (((hF63.1 174 1 (by decide)).trans (hF15.1 174 1 (by decide))))).trans (hR_6.trans (congrArg Int32.toInt (((hF63.1 231 8 (by decide)).trans (hF15.1 231 8 (by decide))))).symm), IM0.cong hR_7 (eA_ti (j := 0) (((hF63.2.1 173 (by decide)).trans (hF15.2.1 173 (by decide))))) (congrArg Int32.toInt (((hF63.1 59 0 (by decide)).trans (hF15.1 59 0 (by decide))))) (eA_ti (j := 0) (((hF63.2.1 234 (by decide)).trans (hF15.2.1 234 (by decide))))) (congrArg Int32.toInt (((hF63.1 59 12 (by decide)).trans (hF15.1 59 12 (by decide))))) (eA_ti (j := 4) (((hF63.2.1 234 (by decide)).trans (hF15.2.1 234 (by decide))))) (congrArg Int32.toInt (((hF63.1 59 10 (by decide)).trans (hF15.1 59 10 (by decide))))) (eA_ti (j := 5) (((hF63.2.1 234 (by decide)).trans (hF15.2.1 234 (by decide))))) (congrArg Int32.toInt (((hF63.1 59 11 (by decide)).trans (hF15.1 59 11 (by decide))))) (eA_ti (j := 6) (((hF63.2.1 234 (by decide)).trans (hF15.2.1 234 (by decide))))), IM1.cong hR_8 (eA_ti (j := 1) (((hF63.2.1 173 (by decide)).trans (hF15.2.1 173 (by decide))))) (congrArg Int32.toInt (((hF63.1 116 0 (by decide)).trans (hF15.1 116 0 (by decide))))) (eA_ti (j := 5510) (((hF63.2.1 234 (by decide)).trans (hF15.2.1 234 (by decide))))) (congrArg Int32.toInt (((hF63.1 116 12 (by decide)).trans (hF15.1 116 12 (by decide))))) (eA_ti (j := 5514) (((hF63.2.1 234 (by decide)).trans (hF15.2.1 234 (by decide))))) (congrArg Int32.toInt (((hF63.1 116 10 (by decide)).trans (hF15.1 116 10 (by decide))))) (eA_ti (j := 5515) (((hF63.2.1 234 (by decide)).trans (hF15.2.1 234 (by decide))))) (congrArg Int32.toInt (((hF63.1 116 11 (by decide)).trans (hF15.1 116 11 (by decide))))) (eA_ti (j := 5516) (((hF63.2.1 234 (by decide)).trans (hF15.2.1 234 (by decide))))), (show CT _ from ⟨fun i i0 i1 => ⟨(by have t0_ := hI0.t0; have t1_ := hI0.t1; clear hr17 q68; have o := (hR_9.1 i i0 i1).1; have x := eA_ti (j := i) (((hF63.2.1 2 (by decide)).trans (hF15.2.1 2 (by decide)))); have m := q69 (10 + 3 * i) (by omega) (by omega); have y1 := eA_ti (j := ((10 + 3 * i))) (hF15.2.1 233 (by decide)); first | exact x.trans (o.trans (m.trans y1).symm) | omega), (by have t0_ := hI0.t0; have t1_ := hI0.t1; clear hr17 q68; have o := (hR_9.1 i i0 i1).2.1; have x := eA_ti (j := i) (((hF63.2.1 3 (by decide)).trans (hF15.2.1 3 (by decide)))); have m := q69 (10 + 3 * i + 1) (by omega) (by omega); have y1 := eA_ti (j := ((10 + 3 * i + 1))) (hF15.2.1 233 (by decide)); first | exact x.trans (o.trans (m.trans y1).symm) | omega), (by have t0_ := hI0.t0; have t1_ := hI0.t1; clear hr17 q68; have o := (hR_9.1 i i0 i1).2.2; have x := eA_ti (j := i) (((hF63.2.1 4 (by decide)).trans (hF15.2.1 4 (by decide)))); have m := q69 (10 + 3 * i + 2) (by omega) (by omega); have y1 := eA_ti (j := ((10 + 3 * i + 2))) (hF15.2.1 233 (by decide)); first | exact x.trans (o.trans (m.trans y1).symm) | omega)⟩, fun i i0 i1 => ⟨(by have t0_ := hI0.t0; have t1_ := hI0.t1; clear hr17 q68; have o := (hR_9.2 i i0 i1).1; have x := eA_ti (j := i) (((hF63.2.1 14 (by decide)).trans (hF15.2.1 14 (by decide)))); have m := q70 (94 + 2 * i) (by omega) (by omega); have y1 := eA_ti (j := ((94 + 2 * i))) (hF15.2.1 233 (by decide)); first | exact x.trans (o.trans (m.trans y1).symm) | omega), (by have t0_ := hI0.t0; have t1_ := hI0.t1; clear hr17 q68; have o := (hR_9.2 i i0 i1).2; have x := eA_ti (j := i) (((hF63.2.1 15 (by decide)).trans (hF15.2.1 15 (by decide)))); have m := q70 (94 + 2 * i + 1) (by omega) (by omega); have y1 := eA_ti (j := ((94 + 2 * i + 1))) (hF15.2.1 233 (by decide)); first | exact x.trans (o.trans (m.trans y1).symm) | omega)⟩⟩), CI0.cong hR_10 (((hF63.2.1 60 (by decide)).trans (hF15.2.1 60 (by decide)))) (((hF63.2.1 61 (by decide)).trans (hF15.2.1 61 (by decide)))) (((hF63.2.1 62 (by decide)).trans (hF15.2.1 62 (by decide)))) (((hF63.2.1 72 (by decide)).trans (hF15.2.1 72 (by decide)))) (((hF63.2.1 73 (by decide)).trans (hF15.2.1 73 (by decide)))) (((hF63.2.1 234 (by decide)).trans (hF15.2.1 234 (by decide)))), CI1.cong hR_11 (((hF63.2.1 117 (by decide)).trans (hF15.2.1 117 (by decide)))) (((hF63.2.1 118 (by decide)).trans (hF15.2.1 118 (by decide)))) (((hF63.2.1 119 (by decide)).trans (hF15.2.1 119 (by decide)))) (((hF63.2.1 129 (by decide)).trans (hF15.2.1 129 (by decide)))) (((hF63.2.1 130 (by decide)).trans (hF15.2.1 130 (by decide)))) (((hF63.2.1 234 (by decide)).trans (hF15.2.1 234 (by decide))))⟩)
