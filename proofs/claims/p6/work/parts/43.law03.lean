set_option maxRecDepth 100000 in
set_option maxHeartbeats 8000000 in
theorem lq_c3 (d : Nat) {N : Nat} {g0 : List en_E} (hI0 : HI g0) (hR0 : LwR g0) {ys : List Int32} {L : Nat} (hL : ys.length = L) (hL2 : L ≤ 3584) {l : en_L} {i : Int32} (e0 : en_get 0 l = some (.float 0)) (e1 : en_get 1 l = some (.ref 0)) (e2 : en_get 2 l = some (.ref 231)) (e3 : en_get 3 l = some (.int i)) (hi : 0 ≤ i.toInt ∧ i.toInt + 7 ≤ L) {Ph : Option Value → en_H → Prop} (K : ∀ g1 : List en_E, HI g1 → LwR g1 → At (d + 423) (some ys) (some .boolean) bs_L_law (1330, l, [], (g1, N)) Ph) : At (d + 423) (some ys) (some .boolean) bs_L_law (327, l, [], (g0, N)) Ph := by
  have hF0 : Fr F_law A_law g0 g0 := Fr.rf
  have hx_1 : -2147483648 ≤ i.toInt + 1 ∧ i.toInt + 1 ≤ 2147483647 := by omega
  have hx_2 : -2147483648 ≤ i.toInt + 2 ∧ i.toInt + 2 ≤ 2147483647 := by omega
  have hx_3 : -2147483648 ≤ i.toInt + 3 ∧ i.toInt + 3 ≤ 2147483647 := by omega
  have hx_4 : -2147483648 ≤ i.toInt + 4 ∧ i.toInt + 4 ≤ 2147483647 := by omega
  have hx_5 : -2147483648 ≤ i.toInt + 5 ∧ i.toInt + 5 ≤ 2147483647 := by omega
  have hx_6 : -2147483648 ≤ i.toInt + 6 ∧ i.toInt + 6 ≤ 2147483647 := by omega
  have hy_0 : 0 ≤ i.toInt ∧ i.toInt < (L : Int) := by omega
  have hy_1 : 0 ≤ i.toInt + 1 ∧ i.toInt + 1 < (L : Int) := by omega
  have hy_2 : 0 ≤ i.toInt + 2 ∧ i.toInt + 2 < (L : Int) := by omega
  have hy_3 : 0 ≤ i.toInt + 3 ∧ i.toInt + 3 < (L : Int) := by omega
  have hy_4 : 0 ≤ i.toInt + 4 ∧ i.toInt + 4 < (L : Int) := by omega
  have hy_5 : 0 ≤ i.toInt + 5 ∧ i.toInt + 5 < (L : Int) := by omega
  have hy_6 : 0 ≤ i.toInt + 6 ∧ i.toInt + 6 < (L : Int) := by omega
  unfold LwR at hR0
  obtain ⟨hR_0, hR_1, hR_2, hR_3, hR_4, hR_5, hR_6, hR_7, hR_8, hR_9, hR_10, hR_11, hR_12, hR_13, hR_14⟩ := hR0
  refine At.enter rfl ?_
  refine r_aload_n e1 ?_
  refine r_sload_n e0 ?_
  refine r_iload_n e3 ?_
  refine r_iconst 1 rfl ?_
  refine q_iadd (i.toInt + 1) rfl hx_1 (fun v1 hv1 => ?_)
  refine q_scald (m := L) hL (i.toInt + 1) hv1 hy_1 (fun v2 hv2 => ?_)
  refine r_sload_n e0 ?_
  refine r_iload_n e3 ?_
  refine r_iconst 2 rfl ?_
  refine q_iadd (i.toInt + 2) rfl hx_2 (fun v3 hv3 => ?_)
  refine q_scald (m := L) hL (i.toInt + 2) hv3 hy_2 (fun v4 hv4 => ?_)
  refine r_sload_n e0 ?_
  refine r_iload_n e3 ?_
  refine r_iconst 3 rfl ?_
  refine q_iadd (i.toInt + 3) rfl hx_3 (fun v5 hv5 => ?_)
  refine q_scald (m := L) hL (i.toInt + 3) hv5 hy_3 (fun v6 hv6 => ?_)
  refine r_sload_n e0 ?_
  refine r_iload_n e3 ?_
  refine r_iconst 4 rfl ?_
  refine q_iadd (i.toInt + 4) rfl hx_4 (fun v7 hv7 => ?_)
  refine q_scald (m := L) hL (i.toInt + 4) hv7 hy_4 (fun v8 hv8 => ?_)
  refine r_sload_n e0 ?_
  refine r_iload_n e3 ?_
  refine r_iconst 5 rfl ?_
  refine q_iadd (i.toInt + 5) rfl hx_5 (fun v9 hv9 => ?_)
  refine q_scald (m := L) hL (i.toInt + 5) hv9 hy_5 (fun v10 hv10 => ?_)
  refine r_sload_n e0 ?_
  refine r_iload_n e3 ?_
  refine r_bipush 6 rfl ?_
  refine q_iadd (i.toInt + 6) rfl hx_6 (fun v11 hv11 => ?_)
  refine q_scald (m := L) hL (i.toInt + 6) hv11 hy_6 (fun v12 hv12 => ?_)
  refine r_callV 362 rfl [.ref 0, .int v2, .int v4, .int v6, .int v8, .int v10, .int v12] [] (Nat.le_of_ble_eq_true rfl) rfl (T_X10_load_0 _ hI0 v2 v4 v6 v8 v10 v12) ?_
  rintro _ _ ⟨g13, rfl, hI14, hF15, v16, rfl, hr17⟩
  refine At.sti ?_
  have hF18 := Fr.tr hF0 hF15 rfl rfl
  obtain ⟨q19, q20⟩ := hr17
  have f21 := congrArg Int32.toInt (hF15.1 1 0 rfl)
  have f22 := congrArg Int32.toInt (hF15.1 1 12 rfl)
  have f23 := congrArg Int32.toInt (hF15.1 1 10 rfl)
  have f24 := congrArg Int32.toInt (hF15.1 1 11 rfl)
  have f25 := congrArg Int32.toInt (hF15.1 59 0 rfl)
  have f26 := congrArg Int32.toInt (hF15.1 59 12 rfl)
  have f27 := congrArg Int32.toInt (hF15.1 59 10 rfl)
  have f28 := congrArg Int32.toInt (hF15.1 59 11 rfl)
  have f29 := congrArg Int32.toInt (hF15.1 59 4 rfl)
  have f30 := congrArg Int32.toInt (hF15.1 116 0 rfl)
  have f31 := congrArg Int32.toInt (hF15.1 116 12 rfl)
  have f32 := congrArg Int32.toInt (hF15.1 116 10 rfl)
  have f33 := congrArg Int32.toInt (hF15.1 116 11 rfl)
  have f34 := congrArg Int32.toInt (hF15.1 116 4 rfl)
  have f35 := congrArg Int32.toInt (eA_c (j := 0) (hF15.2.1 173 rfl))
  have f36 := congrArg Int32.toInt (eA_c (j := 1) (hF15.2.1 173 rfl))
  have f37 := congrArg Int32.toInt (hF15.1 174 1 rfl)
  have f38 := congrArg Int32.toInt (hF15.1 0 16 rfl)
  have f39 := congrArg Int32.toInt (eA_c (j := 0) (hF15.2.1 233 rfl))
  have f40 := congrArg Int32.toInt (eA_c (j := 4) (hF15.2.1 233 rfl))
  have f41 := congrArg Int32.toInt (eA_c (j := 5) (hF15.2.1 233 rfl))
  have f42 := congrArg Int32.toInt (eA_c (j := 6) (hF15.2.1 233 rfl))
  have f43 := congrArg Int32.toInt (eA_c (j := 1) (hF15.2.1 233 rfl))
  have f44 := congrArg Int32.toInt (eA_c (j := 0) (hF15.2.1 234 rfl))
  have f45 := congrArg Int32.toInt (eA_c (j := 4) (hF15.2.1 234 rfl))
  have f46 := congrArg Int32.toInt (eA_c (j := 5) (hF15.2.1 234 rfl))
  have f47 := congrArg Int32.toInt (eA_c (j := 6) (hF15.2.1 234 rfl))
  have f48 := congrArg Int32.toInt (eA_c (j := 1) (hF15.2.1 234 rfl))
  have f49 := congrArg Int32.toInt (eA_c (j := 5510) (hF15.2.1 234 rfl))
  have f50 := congrArg Int32.toInt (eA_c (j := 5514) (hF15.2.1 234 rfl))
  have f51 := congrArg Int32.toInt (eA_c (j := 5515) (hF15.2.1 234 rfl))
  have f52 := congrArg Int32.toInt (eA_c (j := 5516) (hF15.2.1 234 rfl))
  have f53 := congrArg Int32.toInt (eA_c (j := 5511) (hF15.2.1 234 rfl))
  have f54 := congrArg Int32.toInt (eA_c (j := 0) (hF15.2.1 235 rfl))
  have f55 := congrArg Int32.toInt (eA_c (j := 1) (hF15.2.1 235 rfl))
  have f56 := congrArg Int32.toInt (hF15.1 231 8 rfl)
  have f57 := congrArg Int32.toInt (hF15.1 231 6 rfl)
  refine At.enter rfl ?_
  refine r_pop rfl ?_
  refine r_aload_n e2 ?_
  refine r_sload_n e0 ?_
  refine r_iload_n e3 ?_
  refine r_iconst 1 rfl ?_
  refine q_iadd (i.toInt + 1) rfl hx_1 (fun v58 hv58 => ?_)
  refine q_scald (m := L) hL (i.toInt + 1) hv58 hy_1 (fun v59 hv59 => ?_)
  have sv59 := hv2.symm.trans hv59
  subst sv59
  refine r_sload_n e0 ?_
  refine r_iload_n e3 ?_
  refine r_iconst 2 rfl ?_
  refine q_iadd (i.toInt + 2) rfl hx_2 (fun v60 hv60 => ?_)
  refine q_scald (m := L) hL (i.toInt + 2) hv60 hy_2 (fun v61 hv61 => ?_)
  have sv61 := hv4.symm.trans hv61
  subst sv61
  refine r_sload_n e0 ?_
  refine r_iload_n e3 ?_
  refine r_iconst 3 rfl ?_
  refine q_iadd (i.toInt + 3) rfl hx_3 (fun v62 hv62 => ?_)
  refine q_scald (m := L) hL (i.toInt + 3) hv62 hy_3 (fun v63 hv63 => ?_)
  have sv63 := hv6.symm.trans hv63
  subst sv63
  refine r_sload_n e0 ?_
  refine r_iload_n e3 ?_
  refine r_iconst 4 rfl ?_
  refine q_iadd (i.toInt + 4) rfl hx_4 (fun v64 hv64 => ?_)
  refine q_scald (m := L) hL (i.toInt + 4) hv64 hy_4 (fun v65 hv65 => ?_)
  have sv65 := hv8.symm.trans hv65
  subst sv65
  refine r_sload_n e0 ?_
  refine r_iload_n e3 ?_
  refine r_iconst 5 rfl ?_
  refine q_iadd (i.toInt + 5) rfl hx_5 (fun v66 hv66 => ?_)
  refine q_scald (m := L) hL (i.toInt + 5) hv66 hy_5 (fun v67 hv67 => ?_)
  have sv67 := hv10.symm.trans hv67
  subst sv67
  refine r_sload_n e0 ?_
  refine r_iload_n e3 ?_
  refine r_bipush 6 rfl ?_
  refine q_iadd (i.toInt + 6) rfl hx_6 (fun v68 hv68 => ?_)
  refine q_scald (m := L) hL (i.toInt + 6) hv68 hy_6 (fun v69 hv69 => ?_)
  have sv69 := hv12.symm.trans hv69
  subst sv69
  refine r_callV 398 rfl [.ref 231, .int v2, .int v4, .int v6, .int v8, .int v10, .int v12] [] (Nat.le_of_ble_eq_true rfl) rfl (T_X11_load_231 _ hI14 v2 v4 v6 v8 v10 v12) ?_
  rintro _ _ ⟨g70, rfl, hI71, hF72, v73, rfl, hr74⟩
  refine At.sti ?_
  have hF75 := Fr.tr hF18 hF72 rfl rfl
  obtain ⟨q76, q77, q78, q79, q80⟩ := hr74
  have f81 := congrArg Int32.toInt (hF72.1 1 0 rfl)
  have f82 := congrArg Int32.toInt (hF72.1 1 12 rfl)
  have f83 := congrArg Int32.toInt (hF72.1 1 10 rfl)
  have f84 := congrArg Int32.toInt (hF72.1 1 11 rfl)
  have f85 := congrArg Int32.toInt (hF72.1 1 4 rfl)
  have f86 := congrArg Int32.toInt (hF72.1 59 0 rfl)
  have f87 := congrArg Int32.toInt (hF72.1 59 12 rfl)
  have f88 := congrArg Int32.toInt (hF72.1 59 10 rfl)
  have f89 := congrArg Int32.toInt (hF72.1 59 11 rfl)
  have f90 := congrArg Int32.toInt (hF72.1 59 4 rfl)
  have f91 := congrArg Int32.toInt (hF72.1 116 0 rfl)
  have f92 := congrArg Int32.toInt (hF72.1 116 12 rfl)
  have f93 := congrArg Int32.toInt (hF72.1 116 10 rfl)
  have f94 := congrArg Int32.toInt (hF72.1 116 11 rfl)
  have f95 := congrArg Int32.toInt (hF72.1 116 4 rfl)
  have f96 := congrArg Int32.toInt (eA_c (j := 0) (hF72.2.1 173 rfl))
  have f97 := congrArg Int32.toInt (eA_c (j := 1) (hF72.2.1 173 rfl))
  have f98 := congrArg Int32.toInt (hF72.1 174 1 rfl)
  have f99 := congrArg Int32.toInt (hF72.1 0 16 rfl)
  have f100 := congrArg Int32.toInt (eA_c (j := 0) (hF72.2.1 234 rfl))
  have f101 := congrArg Int32.toInt (eA_c (j := 4) (hF72.2.1 234 rfl))
  have f102 := congrArg Int32.toInt (eA_c (j := 5) (hF72.2.1 234 rfl))
  have f103 := congrArg Int32.toInt (eA_c (j := 6) (hF72.2.1 234 rfl))
  have f104 := congrArg Int32.toInt (eA_c (j := 1) (hF72.2.1 234 rfl))
  have f105 := congrArg Int32.toInt (eA_c (j := 5510) (hF72.2.1 234 rfl))
  have f106 := congrArg Int32.toInt (eA_c (j := 5514) (hF72.2.1 234 rfl))
  have f107 := congrArg Int32.toInt (eA_c (j := 5515) (hF72.2.1 234 rfl))
  have f108 := congrArg Int32.toInt (eA_c (j := 5516) (hF72.2.1 234 rfl))
  have f109 := congrArg Int32.toInt (eA_c (j := 5511) (hF72.2.1 234 rfl))
  have f110 := congrArg Int32.toInt (eA_c (j := 0) (hF72.2.1 235 rfl))
  have f111 := congrArg Int32.toInt (eA_c (j := 1) (hF72.2.1 235 rfl))
  have f112 := congrArg Int32.toInt (hF72.1 231 8 rfl)
  have f113 := congrArg Int32.toInt (hF72.1 231 6 rfl)
  refine At.enter rfl ?_
  refine r_pop rfl ?_
  refine r_goto ?_
  exact K _ hI71 (show LwR _ from ⟨by omega, by omega, by omega, by omega, by omega, by omega, by omega, by omega, by omega, IM0.cong hR_9 (by omega) (by omega) (by omega) (by omega) (by omega) (by omega) (by omega) (by omega) (by omega) (by omega) (by omega), IM1.cong hR_10 (by omega) (by omega) (by omega) (by omega) (by omega) (by omega) (by omega) (by omega) (by omega) (by omega) (by omega), (show CT _ from ⟨fun i i0 i1 => ⟨(by have t0_ := hI0.t0; have t1_ := hI0.t1; clear q77; have o := (hR_11.1 i i0 i1).1; have x := eA_ti (j := i) (((hF72.2.1 2 (by decide)).trans (hF15.2.1 2 (by decide)))); have m := q78 (10 + 3 * i) (by omega) (by omega); have y1 := eA_ti (j := ((10 + 3 * i))) (hF15.2.1 233 (by decide)); omega), (by have t0_ := hI0.t0; have t1_ := hI0.t1; clear q77; have o := (hR_11.1 i i0 i1).2.1; have x := eA_ti (j := i) (((hF72.2.1 3 (by decide)).trans (hF15.2.1 3 (by decide)))); have m := q78 (10 + 3 * i + 1) (by omega) (by omega); have y1 := eA_ti (j := ((10 + 3 * i + 1))) (hF15.2.1 233 (by decide)); omega), (by have t0_ := hI0.t0; have t1_ := hI0.t1; clear q77; have o := (hR_11.1 i i0 i1).2.2; have x := eA_ti (j := i) (((hF72.2.1 4 (by decide)).trans (hF15.2.1 4 (by decide)))); have m := q78 (10 + 3 * i + 2) (by omega) (by omega); have y1 := eA_ti (j := ((10 + 3 * i + 2))) (hF15.2.1 233 (by decide)); omega)⟩, fun i i0 i1 => ⟨(by have t0_ := hI0.t0; have t1_ := hI0.t1; clear q77; have o := (hR_11.2.1 i i0 i1).1; have x := eA_ti (j := i) (((hF72.2.1 14 (by decide)).trans (hF15.2.1 14 (by decide)))); have m := q79 (94 + 2 * i) (by omega) (by omega); have y1 := eA_ti (j := ((94 + 2 * i))) (hF15.2.1 233 (by decide)); omega), (by have t0_ := hI0.t0; have t1_ := hI0.t1; clear q77; have o := (hR_11.2.1 i i0 i1).2; have x := eA_ti (j := i) (((hF72.2.1 15 (by decide)).trans (hF15.2.1 15 (by decide)))); have m := q79 (94 + 2 * i + 1) (by omega) (by omega); have y1 := eA_ti (j := ((94 + 2 * i + 1))) (hF15.2.1 233 (by decide)); omega)⟩, fun i i0 i1 => (by have t0_ := hI0.t0; have t1_ := hI0.t1; have o : i < 6 * (gI g0 1 4).toInt → _ := fun hz => hR_11.2.2 i i0 hz; have x := (eA_ti (j := i) (hF72.2.1 5 (by decide))).trans (q20 i i0 i1); have m := q80 (46 + i) (by omega) (by omega); have y1 := eA_ti (j := ((46 + i))) (hF15.2.1 233 (by decide)); have ek0 : (eA g13 233 0).toInt = (gI g0 1 0).toInt := (eA_ti (j := 0) (hF15.2.1 233 (by decide))).trans hR_0.symm; have ek1 : (eA g13 233 1).toInt = (gI g0 1 4).toInt := (eA_ti (j := 1) (hF15.2.1 233 (by decide))).trans hR_4.symm; have eC : ((1 ≤ v2.toInt ∧ v2.toInt ≤ 9 ∧ 0 ≤ v8.toInt ∧ v8.toInt ≤ 99 ∧ 0 ≤ v10.toInt ∧ v10.toInt ≤ 9 ∧ 0 ≤ v12.toInt ∧ v12.toInt ≤ 9999) ∧ (0 ≤ v4.toInt ∧ v4.toInt < (eA g13 233 0).toInt ∧ 0 ≤ v6.toInt ∧ v6.toInt < (eA g13 233 0).toInt) ∧ (eA g13 233 1).toInt < 8) = ((1 ≤ v2.toInt ∧ v2.toInt ≤ 9 ∧ 0 ≤ v8.toInt ∧ v8.toInt ≤ 99 ∧ 0 ≤ v10.toInt ∧ v10.toInt ≤ 9 ∧ 0 ≤ v12.toInt ∧ v12.toInt ≤ 9999) ∧ (0 ≤ v4.toInt ∧ v4.toInt < (gI g0 1 0).toInt ∧ 0 ≤ v6.toInt ∧ v6.toInt < (gI g0 1 0).toInt) ∧ (gI g0 1 4).toInt < 8) := (by rw [ek0, ek1]); rcases Decidable.em ((1 ≤ v2.toInt ∧ v2.toInt ≤ 9 ∧ 0 ≤ v8.toInt ∧ v8.toInt ≤ 99 ∧ 0 ≤ v10.toInt ∧ v10.toInt ≤ 9 ∧ 0 ≤ v12.toInt ∧ v12.toInt ≤ 9999) ∧ (0 ≤ v4.toInt ∧ v4.toInt < (gI g0 1 0).toInt ∧ 0 ≤ v6.toInt ∧ v6.toInt < (gI g0 1 0).toInt) ∧ (gI g0 1 4).toInt < 8) with k | k; (have k2 := eC.mpr k; rw [ite_ap k, ite_ap k, ite_ap k, ite_ap k, ite_ap k, ite_ap k] at x; rw [ite_ap k2, ite_ap k2, ite_ap k2, ite_ap k2, ite_ap k2, ite_ap k2] at m; clear eC k2; (try split at x) <;> (try split at x) <;> (try split at x) <;> (try split at x) <;> (try split at x) <;> (try split at x) <;> (try split at m) <;> (try split at m) <;> (try split at m) <;> (try split at m) <;> (try split at m) <;> (try split at m) <;> omega); (have k2 : ¬ ((1 ≤ v2.toInt ∧ v2.toInt ≤ 9 ∧ 0 ≤ v8.toInt ∧ v8.toInt ≤ 99 ∧ 0 ≤ v10.toInt ∧ v10.toInt ≤ 9 ∧ 0 ≤ v12.toInt ∧ v12.toInt ≤ 9999) ∧ (0 ≤ v4.toInt ∧ v4.toInt < (eA g13 233 0).toInt ∧ 0 ≤ v6.toInt ∧ v6.toInt < (eA g13 233 0).toInt) ∧ (eA g13 233 1).toInt < 8) := fun z => k (eC.mp z); rw [ite_an k, ite_an k, ite_an k, ite_an k, ite_an k, ite_an k] at x; rw [ite_an k2, ite_an k2, ite_an k2, ite_an k2, ite_an k2, ite_an k2] at m; clear eC k2 k; omega))⟩), CI0.cong hR_12 (((hF72.2.1 60 (by decide)).trans (hF15.2.1 60 (by decide)))) (((hF72.2.1 61 (by decide)).trans (hF15.2.1 61 (by decide)))) (((hF72.2.1 62 (by decide)).trans (hF15.2.1 62 (by decide)))) (((hF72.2.1 72 (by decide)).trans (hF15.2.1 72 (by decide)))) (((hF72.2.1 73 (by decide)).trans (hF15.2.1 73 (by decide)))) (((hF72.2.1 63 (by decide)).trans (hF15.2.1 63 (by decide)))) (((hF72.2.1 234 (by decide)).trans (hF15.2.1 234 (by decide)))) (congrArg Int32.toInt (((hF72.1 59 4 (by decide)).trans (hF15.1 59 4 (by decide))))), CI1.cong hR_13 (((hF72.2.1 117 (by decide)).trans (hF15.2.1 117 (by decide)))) (((hF72.2.1 118 (by decide)).trans (hF15.2.1 118 (by decide)))) (((hF72.2.1 119 (by decide)).trans (hF15.2.1 119 (by decide)))) (((hF72.2.1 129 (by decide)).trans (hF15.2.1 129 (by decide)))) (((hF72.2.1 130 (by decide)).trans (hF15.2.1 130 (by decide)))) (((hF72.2.1 120 (by decide)).trans (hF15.2.1 120 (by decide)))) (((hF72.2.1 234 (by decide)).trans (hF15.2.1 234 (by decide)))) (congrArg Int32.toInt (((hF72.1 116 4 (by decide)).trans (hF15.1 116 4 (by decide))))), (show RT _ from fun i i0 i1 => (eA_ti (((hF72.2.1 175 (by decide)).trans (hF15.2.1 175 (by decide))))).trans ((hR_14 i i0 (by omega)).trans (eA_ti (((hF72.2.1 236 (by decide)).trans (hF15.2.1 236 (by decide))))).symm))⟩)
