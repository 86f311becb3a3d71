set_option maxRecDepth 100000 in
set_option maxHeartbeats 8000000 in
theorem lq_c1 (d : Nat) {N : Nat} {g0 : List en_E} (hI0 : HI g0) (hR0 : LwR g0) {ys : List Int32} {L : Nat} (hL : ys.length = L) (hL2 : L ≤ 3584) {l : en_L} {i : Int32} (e0 : en_get 0 l = some (.float 0)) (e1 : en_get 1 l = some (.ref 0)) (e2 : en_get 2 l = some (.ref 231)) (e3 : en_get 3 l = some (.int i)) (hi : 0 ≤ i.toInt ∧ i.toInt + 7 ≤ L) {Ph : Option Value → en_H → Prop} (K : ∀ g1 : List en_E, HI g1 → LwR g1 → At (d + 423) (some ys) (some .boolean) bs_L_law (1330, l, [], (g1, N)) Ph) : At (d + 423) (some ys) (some .boolean) bs_L_law (251, l, [], (g0, N)) Ph := by
  have hF0 : Fr F_law A_law g0 g0 := Fr.rf
  have hx_1 : -2147483648 ≤ i.toInt + 1 ∧ i.toInt + 1 ≤ 2147483647 := by omega
  have hx_2 : -2147483648 ≤ i.toInt + 2 ∧ i.toInt + 2 ≤ 2147483647 := by omega
  have hx_3 : -2147483648 ≤ i.toInt + 3 ∧ i.toInt + 3 ≤ 2147483647 := by omega
  have hx_4 : -2147483648 ≤ i.toInt + 4 ∧ i.toInt + 4 ≤ 2147483647 := by omega
  have hx_5 : -2147483648 ≤ i.toInt + 5 ∧ i.toInt + 5 ≤ 2147483647 := by omega
  have hx_6 : -2147483648 ≤ i.toInt + 6 ∧ i.toInt + 6 ≤ 2147483647 := by omega
  have hy_0 : 0 ≤ i.toInt ∧ i.toInt < (L : Int) := by omega
  have hy_1 : 0 ≤ i.toInt + 1 ∧ i.toInt + 1 < (L : Int) := by omega
  have hy_2 : 0 ≤ i.toInt + 2 ∧ i.toInt + 2 < (L : Int) := by omega
  have hy_3 : 0 ≤ i.toInt + 3 ∧ i.toInt + 3 < (L : Int) := by omega
  have hy_4 : 0 ≤ i.toInt + 4 ∧ i.toInt + 4 < (L : Int) := by omega
  have hy_5 : 0 ≤ i.toInt + 5 ∧ i.toInt + 5 < (L : Int) := by omega
  have hy_6 : 0 ≤ i.toInt + 6 ∧ i.toInt + 6 < (L : Int) := by omega
  unfold LwR at hR0
  obtain ⟨hR_0, hR_1, hR_2, hR_3, hR_4, hR_5, hR_6, hR_7, hR_8, hR_9, hR_10, hR_11⟩ := hR0
  refine At.enter rfl ?_
  refine r_aload_n e1 ?_
  refine r_sload_n e0 ?_
  refine r_iload_n e3 ?_
  refine r_iconst 1 rfl ?_
  refine q_iadd (i.toInt + 1) rfl hx_1 (fun v1 hv1 => ?_)
  refine q_scald (m := L) hL (i.toInt + 1) hv1 hy_1 (fun v2 hv2 => ?_)
  refine r_sload_n e0 ?_
  refine r_iload_n e3 ?_
  refine r_iconst 2 rfl ?_
  refine q_iadd (i.toInt + 2) rfl hx_2 (fun v3 hv3 => ?_)
  refine q_scald (m := L) hL (i.toInt + 2) hv3 hy_2 (fun v4 hv4 => ?_)
  refine r_sload_n e0 ?_
  refine r_iload_n e3 ?_
  refine r_iconst 3 rfl ?_
  refine q_iadd (i.toInt + 3) rfl hx_3 (fun v5 hv5 => ?_)
  refine q_scald (m := L) hL (i.toInt + 3) hv5 hy_3 (fun v6 hv6 => ?_)
  refine r_callV 270 rfl [.ref 0, .int v2, .int v4, .int v6] [] (Nat.le_of_ble_eq_true rfl) rfl (T_X10_put_0 _ hI0 v2 v4 v6) ?_
  rintro _ _ ⟨g7, rfl, hI8, hF9, v10, rfl, hr11⟩
  refine At.sti ?_
  have hF12 := Fr.tr hF0 hF9 rfl rfl
  obtain ⟨q13, q14, q15, q16, q17⟩ := hr11
  have f18 := congrArg Int32.toInt (hF9.1 1 0 rfl)
  have f19 := congrArg Int32.toInt (hF9.1 1 12 rfl)
  have f20 := congrArg Int32.toInt (hF9.1 1 10 rfl)
  have f21 := congrArg Int32.toInt (hF9.1 1 11 rfl)
  have f22 := congrArg Int32.toInt (hF9.1 59 0 rfl)
  have f23 := congrArg Int32.toInt (hF9.1 59 12 rfl)
  have f24 := congrArg Int32.toInt (hF9.1 59 10 rfl)
  have f25 := congrArg Int32.toInt (hF9.1 59 11 rfl)
  have f26 := congrArg Int32.toInt (hF9.1 116 0 rfl)
  have f27 := congrArg Int32.toInt (hF9.1 116 12 rfl)
  have f28 := congrArg Int32.toInt (hF9.1 116 10 rfl)
  have f29 := congrArg Int32.toInt (hF9.1 116 11 rfl)
  have f30 := congrArg Int32.toInt (eA_c (j := 0) (hF9.2.1 173 rfl))
  have f31 := congrArg Int32.toInt (eA_c (j := 1) (hF9.2.1 173 rfl))
  have f32 := congrArg Int32.toInt (hF9.1 174 1 rfl)
  have f33 := congrArg Int32.toInt (eA_c (j := 0) (hF9.2.1 233 rfl))
  have f34 := congrArg Int32.toInt (eA_c (j := 4) (hF9.2.1 233 rfl))
  have f35 := congrArg Int32.toInt (eA_c (j := 5) (hF9.2.1 233 rfl))
  have f36 := congrArg Int32.toInt (eA_c (j := 6) (hF9.2.1 233 rfl))
  have f37 := congrArg Int32.toInt (eA_c (j := 0) (hF9.2.1 234 rfl))
  have f38 := congrArg Int32.toInt (eA_c (j := 4) (hF9.2.1 234 rfl))
  have f39 := congrArg Int32.toInt (eA_c (j := 5) (hF9.2.1 234 rfl))
  have f40 := congrArg Int32.toInt (eA_c (j := 6) (hF9.2.1 234 rfl))
  have f41 := congrArg Int32.toInt (eA_c (j := 5510) (hF9.2.1 234 rfl))
  have f42 := congrArg Int32.toInt (eA_c (j := 5514) (hF9.2.1 234 rfl))
  have f43 := congrArg Int32.toInt (eA_c (j := 5515) (hF9.2.1 234 rfl))
  have f44 := congrArg Int32.toInt (eA_c (j := 5516) (hF9.2.1 234 rfl))
  have f45 := congrArg Int32.toInt (eA_c (j := 0) (hF9.2.1 235 rfl))
  have f46 := congrArg Int32.toInt (eA_c (j := 1) (hF9.2.1 235 rfl))
  have f47 := congrArg Int32.toInt (hF9.1 231 8 rfl)
  refine At.enter rfl ?_
  refine r_pop rfl ?_
  refine r_aload_n e2 ?_
  refine r_sload_n e0 ?_
  refine r_iload_n e3 ?_
  refine r_iconst 1 rfl ?_
  refine q_iadd (i.toInt + 1) rfl hx_1 (fun v48 hv48 => ?_)
  refine q_scald (m := L) hL (i.toInt + 1) hv48 hy_1 (fun v49 hv49 => ?_)
  have sv49 := hv2.symm.trans hv49
  subst sv49
  refine r_sload_n e0 ?_
  refine r_iload_n e3 ?_
  refine r_iconst 2 rfl ?_
  refine q_iadd (i.toInt + 2) rfl hx_2 (fun v50 hv50 => ?_)
  refine q_scald (m := L) hL (i.toInt + 2) hv50 hy_2 (fun v51 hv51 => ?_)
  have sv51 := hv4.symm.trans hv51
  subst sv51
  refine r_sload_n e0 ?_
  refine r_iload_n e3 ?_
  refine r_iconst 3 rfl ?_
  refine q_iadd (i.toInt + 3) rfl hx_3 (fun v52 hv52 => ?_)
  refine q_scald (m := L) hL (i.toInt + 3) hv52 hy_3 (fun v53 hv53 => ?_)
  have sv53 := hv6.symm.trans hv53
  subst sv53
  refine r_callV 290 rfl [.ref 231, .int v2, .int v4, .int v6] [] (Nat.le_of_ble_eq_true rfl) rfl (T_X11_put_231 _ hI8 v2 v4 v6) ?_
  rintro _ _ ⟨g54, rfl, hI55, hF56, v57, rfl, hr58⟩
  refine At.sti ?_
  have hF59 := Fr.tr hF12 hF56 rfl rfl
  obtain ⟨q60, q61, q62⟩ := hr58
  have f63 := congrArg Int32.toInt (hF56.1 1 0 rfl)
  have f64 := congrArg Int32.toInt (hF56.1 1 12 rfl)
  have f65 := congrArg Int32.toInt (hF56.1 1 10 rfl)
  have f66 := congrArg Int32.toInt (hF56.1 1 11 rfl)
  have f67 := congrArg Int32.toInt (hF56.1 59 0 rfl)
  have f68 := congrArg Int32.toInt (hF56.1 59 12 rfl)
  have f69 := congrArg Int32.toInt (hF56.1 59 10 rfl)
  have f70 := congrArg Int32.toInt (hF56.1 59 11 rfl)
  have f71 := congrArg Int32.toInt (hF56.1 116 0 rfl)
  have f72 := congrArg Int32.toInt (hF56.1 116 12 rfl)
  have f73 := congrArg Int32.toInt (hF56.1 116 10 rfl)
  have f74 := congrArg Int32.toInt (hF56.1 116 11 rfl)
  have f75 := congrArg Int32.toInt (eA_c (j := 0) (hF56.2.1 173 rfl))
  have f76 := congrArg Int32.toInt (eA_c (j := 1) (hF56.2.1 173 rfl))
  have f77 := congrArg Int32.toInt (hF56.1 174 1 rfl)
  have f78 := congrArg Int32.toInt (eA_c (j := 0) (hF56.2.1 234 rfl))
  have f79 := congrArg Int32.toInt (eA_c (j := 4) (hF56.2.1 234 rfl))
  have f80 := congrArg Int32.toInt (eA_c (j := 5) (hF56.2.1 234 rfl))
  have f81 := congrArg Int32.toInt (eA_c (j := 6) (hF56.2.1 234 rfl))
  have f82 := congrArg Int32.toInt (eA_c (j := 5510) (hF56.2.1 234 rfl))
  have f83 := congrArg Int32.toInt (eA_c (j := 5514) (hF56.2.1 234 rfl))
  have f84 := congrArg Int32.toInt (eA_c (j := 5515) (hF56.2.1 234 rfl))
  have f85 := congrArg Int32.toInt (eA_c (j := 5516) (hF56.2.1 234 rfl))
  have f86 := congrArg Int32.toInt (eA_c (j := 0) (hF56.2.1 235 rfl))
  have f87 := congrArg Int32.toInt (eA_c (j := 1) (hF56.2.1 235 rfl))
  have f88 := congrArg Int32.toInt (hF56.1 231 8 rfl)
  refine At.enter rfl ?_
  refine r_pop rfl ?_
  refine r_goto ?_
  exact K _ hI55 (show LwR _ from ⟨by omega, by omega, by omega, by omega, (eA_ti (j := 0) (((hF56.2.1 173 (by decide)).trans (hF9.2.1 173 (by decide))))).trans (hR_4.trans (eA_ti (j := 0) (((hF56.2.1 235 (by decide)).trans (hF9.2.1 235 (by decide))))).symm), (eA_ti (j := 1) (((hF56.2.1 173 (by decide)).trans (hF9.2.1 173 (by decide))))).trans (hR_5.trans (eA_ti (j := 1) (((hF56.2.1 235 (by decide)).trans (hF9.2.1 235 (by decide))))).symm), (congrArg Int32.toInt (((hF56.1 174 1 (by decide)).trans (hF9.1 174 1 (by decide))))).trans (hR_6.trans (congrArg Int32.toInt (((hF56.1 231 8 (by decide)).trans (hF9.1 231 8 (by decide))))).symm), IM0.cong hR_7 (eA_ti (j := 0) (((hF56.2.1 173 (by decide)).trans (hF9.2.1 173 (by decide))))) (congrArg Int32.toInt (((hF56.1 59 0 (by decide)).trans (hF9.1 59 0 (by decide))))) (eA_ti (j := 0) (((hF56.2.1 234 (by decide)).trans (hF9.2.1 234 (by decide))))) (congrArg Int32.toInt (((hF56.1 59 12 (by decide)).trans (hF9.1 59 12 (by decide))))) (eA_ti (j := 4) (((hF56.2.1 234 (by decide)).trans (hF9.2.1 234 (by decide))))) (congrArg Int32.toInt (((hF56.1 59 10 (by decide)).trans (hF9.1 59 10 (by decide))))) (eA_ti (j := 5) (((hF56.2.1 234 (by decide)).trans (hF9.2.1 234 (by decide))))) (congrArg Int32.toInt (((hF56.1 59 11 (by decide)).trans (hF9.1 59 11 (by decide))))) (eA_ti (j := 6) (((hF56.2.1 234 (by decide)).trans (hF9.2.1 234 (by decide))))), IM1.cong hR_8 (eA_ti (j := 1) (((hF56.2.1 173 (by decide)).trans (hF9.2.1 173 (by decide))))) (congrArg Int32.toInt (((hF56.1 116 0 (by decide)).trans (hF9.1 116 0 (by decide))))) (eA_ti (j := 5510) (((hF56.2.1 234 (by decide)).trans (hF9.2.1 234 (by decide))))) (congrArg Int32.toInt (((hF56.1 116 12 (by decide)).trans (hF9.1 116 12 (by decide))))) (eA_ti (j := 5514) (((hF56.2.1 234 (by decide)).trans (hF9.2.1 234 (by decide))))) (congrArg Int32.toInt (((hF56.1 116 10 (by decide)).trans (hF9.1 116 10 (by decide))))) (eA_ti (j := 5515) (((hF56.2.1 234 (by decide)).trans (hF9.2.1 234 (by decide))))) (congrArg Int32.toInt (((hF56.1 116 11 (by decide)).trans (hF9.1 116 11 (by decide))))) (eA_ti (j := 5516) (((hF56.2.1 234 (by decide)).trans (hF9.2.1 234 (by decide))))), (show CT _ from ⟨fun i i0 i1 => ⟨(by have t0_ := hI0.t0; have t1_ := hI0.t1; clear q14 q61; have o := (hR_9.1 i i0 i1).1; have x := (eA_ti (j := i) (hF56.2.1 2 (by decide))).trans (q15 i i0 i1); have m := q62 (10 + 3 * i) (by omega) (by omega); have y1 := eA_ti (j := ((10 + 3 * i))) (hF9.2.1 233 (by decide)); (try split at x) <;> (try split at m) <;> omega), (by have t0_ := hI0.t0; have t1_ := hI0.t1; clear q14 q61; have o := (hR_9.1 i i0 i1).2.1; have x := (eA_ti (j := i) (hF56.2.1 3 (by decide))).trans (q16 i i0 i1); have m := q62 (10 + 3 * i + 1) (by omega) (by omega); have y1 := eA_ti (j := ((10 + 3 * i + 1))) (hF9.2.1 233 (by decide)); (try split at x) <;> (try split at m) <;> omega), (by have t0_ := hI0.t0; have t1_ := hI0.t1; clear q14 q61; have o := (hR_9.1 i i0 i1).2.2; have x := (eA_ti (j := i) (hF56.2.1 4 (by decide))).trans (q17 i i0 i1); have m := q62 (10 + 3 * i + 2) (by omega) (by omega); have y1 := eA_ti (j := ((10 + 3 * i + 2))) (hF9.2.1 233 (by decide)); (try split at x) <;> (try split at m) <;> omega)⟩, fun i i0 i1 => ⟨(by have t0_ := hI0.t0; have t1_ := hI0.t1; clear q14 q61; have o := (hR_9.2 i i0 i1).1; have x := eA_ti (j := i) (((hF56.2.1 14 (by decide)).trans (hF9.2.1 14 (by decide)))); have m := q62 (94 + 2 * i) (by omega) (by omega); have y1 := eA_ti (j := ((94 + 2 * i))) (hF9.2.1 233 (by decide)); (try split at m) <;> omega), (by have t0_ := hI0.t0; have t1_ := hI0.t1; clear q14 q61; have o := (hR_9.2 i i0 i1).2; have x := eA_ti (j := i) (((hF56.2.1 15 (by decide)).trans (hF9.2.1 15 (by decide)))); have m := q62 (94 + 2 * i + 1) (by omega) (by omega); have y1 := eA_ti (j := ((94 + 2 * i + 1))) (hF9.2.1 233 (by decide)); (try split at m) <;> omega)⟩⟩), CI0.cong hR_10 (((hF56.2.1 60 (by decide)).trans (hF9.2.1 60 (by decide)))) (((hF56.2.1 61 (by decide)).trans (hF9.2.1 61 (by decide)))) (((hF56.2.1 62 (by decide)).trans (hF9.2.1 62 (by decide)))) (((hF56.2.1 72 (by decide)).trans (hF9.2.1 72 (by decide)))) (((hF56.2.1 73 (by decide)).trans (hF9.2.1 73 (by decide)))) (((hF56.2.1 234 (by decide)).trans (hF9.2.1 234 (by decide)))), CI1.cong hR_11 (((hF56.2.1 117 (by decide)).trans (hF9.2.1 117 (by decide)))) (((hF56.2.1 118 (by decide)).trans (hF9.2.1 118 (by decide)))) (((hF56.2.1 119 (by decide)).trans (hF9.2.1 119 (by decide)))) (((hF56.2.1 129 (by decide)).trans (hF9.2.1 129 (by decide)))) (((hF56.2.1 130 (by decide)).trans (hF9.2.1 130 (by decide)))) (((hF56.2.1 234 (by decide)).trans (hF9.2.1 234 (by decide))))⟩)
