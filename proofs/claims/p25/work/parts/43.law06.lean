set_option maxRecDepth 100000 in
set_option maxHeartbeats 8000000 in
theorem lq_c6 (d : Nat) {N : Nat} {g0 : List en_E} (hI0 : HI g0) (hR0 : LwR g0) {ys : List Int32} {L : Nat} (hL : ys.length = L) (hL2 : L ≤ 3584) {l : en_L} {i : Int32} (e0 : en_get 0 l = some (.float 0)) (e1 : en_get 1 l = some (.ref 0)) (e2 : en_get 2 l = some (.ref 231)) (e3 : en_get 3 l = some (.int i)) (hi : 0 ≤ i.toInt ∧ i.toInt + 7 ≤ L) {Ph : Option Value → en_H → Prop} (K : ∀ g1 : List en_E, HI g1 → LwR g1 → At (d + 423) (some ys) (some .boolean) bs_L_law (1330, l, [], (g1, N)) Ph) : At (d + 423) (some ys) (some .boolean) bs_L_law (458, l, [], (g0, N)) Ph := by
  have hF0 : Fr F_law A_law g0 g0 := Fr.rf
  have hx_1 : -2147483648 ≤ i.toInt + 1 ∧ i.toInt + 1 ≤ 2147483647 := by omega
  have hx_2 : -2147483648 ≤ i.toInt + 2 ∧ i.toInt + 2 ≤ 2147483647 := by omega
  have hx_3 : -2147483648 ≤ i.toInt + 3 ∧ i.toInt + 3 ≤ 2147483647 := by omega
  have hx_4 : -2147483648 ≤ i.toInt + 4 ∧ i.toInt + 4 ≤ 2147483647 := by omega
  have hx_5 : -2147483648 ≤ i.toInt + 5 ∧ i.toInt + 5 ≤ 2147483647 := by omega
  have hx_6 : -2147483648 ≤ i.toInt + 6 ∧ i.toInt + 6 ≤ 2147483647 := by omega
  have hy_0 : 0 ≤ i.toInt ∧ i.toInt < (L : Int) := by omega
  have hy_1 : 0 ≤ i.toInt + 1 ∧ i.toInt + 1 < (L : Int) := by omega
  have hy_2 : 0 ≤ i.toInt + 2 ∧ i.toInt + 2 < (L : Int) := by omega
  have hy_3 : 0 ≤ i.toInt + 3 ∧ i.toInt + 3 < (L : Int) := by omega
  have hy_4 : 0 ≤ i.toInt + 4 ∧ i.toInt + 4 < (L : Int) := by omega
  have hy_5 : 0 ≤ i.toInt + 5 ∧ i.toInt + 5 < (L : Int) := by omega
  have hy_6 : 0 ≤ i.toInt + 6 ∧ i.toInt + 6 < (L : Int) := by omega
  unfold LwR at hR0
  obtain ⟨hR_0, hR_1, hR_2, hR_3, hR_4, hR_5, hR_6, hR_7, hR_8, hR_9, hR_10, hR_11, hR_12, hR_13, hR_14, hR_15, hR_16, hR_17, hR_18, hR_19, hR_20⟩ := hR0
  refine At.enter rfl ?_
  refine r_aload_n e1 ?_
  refine r_sload_n e0 ?_
  refine r_iload_n e3 ?_
  refine r_iconst 1 rfl ?_
  refine q_iadd (i.toInt + 1) rfl hx_1 (fun v1 hv1 => ?_)
  refine q_scald (m := L) hL (i.toInt + 1) hv1 hy_1 (fun v2 hv2 => ?_)
  refine r_sload_n e0 ?_
  refine r_iload_n e3 ?_
  refine r_iconst 2 rfl ?_
  refine q_iadd (i.toInt + 2) rfl hx_2 (fun v3 hv3 => ?_)
  refine q_scald (m := L) hL (i.toInt + 2) hv3 hy_2 (fun v4 hv4 => ?_)
  rcases csT (v2.toInt = 0 ∧ 0 ≤ v4.toInt ∧ v4.toInt ≤ 99) (v2.toInt = 1 ∧ 1 ≤ v4.toInt ∧ v4.toInt ≤ 4) with pk5 | pk5 | pk5
  · refine r_callV 472 rfl [.ref 0, .int v2, .int v4] [] (Nat.le_of_ble_eq_true rfl) rfl (T_X10_terms_0 _ hI0 v2 v4) ?_
    rintro _ _ ⟨g6, rfl, hI7, hF8, v9, rfl, hr10⟩
    refine At.sti ?_
    have hF11 := Fr.tr hF0 hF8 rfl rfl
    have fe12 : PH _ := hr10.2.2
    replace hr10 := And.intro hr10.1 hr10.2.1
    obtain ⟨q13, q14⟩ := hr10
    obtain ⟨i16, i17, i18⟩ := q14
    have w15 := i16 pk5
    clear i16 i17 i18
    have f19 := congrArg Int32.toInt (hF8.1 1 0 rfl)
    have f20 := congrArg Int32.toInt (hF8.1 1 12 rfl)
    have f21 := congrArg Int32.toInt (hF8.1 1 4 rfl)
    have f22 := congrArg Int32.toInt (hF8.1 1 6 rfl)
    have f23 := congrArg Int32.toInt (hF8.1 1 9 rfl)
    have f24 := congrArg Int32.toInt (hF8.1 59 0 rfl)
    have f25 := congrArg Int32.toInt (hF8.1 59 12 rfl)
    have f26 := congrArg Int32.toInt (hF8.1 59 10 rfl)
    have f27 := congrArg Int32.toInt (hF8.1 59 11 rfl)
    have f28 := congrArg Int32.toInt (hF8.1 59 4 rfl)
    have f29 := congrArg Int32.toInt (hF8.1 59 6 rfl)
    have f30 := congrArg Int32.toInt (hF8.1 59 9 rfl)
    have f31 := congrArg Int32.toInt (hF8.1 116 0 rfl)
    have f32 := congrArg Int32.toInt (hF8.1 116 12 rfl)
    have f33 := congrArg Int32.toInt (hF8.1 116 10 rfl)
    have f34 := congrArg Int32.toInt (hF8.1 116 11 rfl)
    have f35 := congrArg Int32.toInt (hF8.1 116 4 rfl)
    have f36 := congrArg Int32.toInt (hF8.1 116 6 rfl)
    have f37 := congrArg Int32.toInt (hF8.1 116 9 rfl)
    have f38 := congrArg Int32.toInt (eA_c (j := 0) (hF8.2.1 173 rfl))
    have f39 := congrArg Int32.toInt (eA_c (j := 1) (hF8.2.1 173 rfl))
    have f40 := congrArg Int32.toInt (hF8.1 174 1 rfl)
    have f41 := congrArg Int32.toInt (hF8.1 0 16 rfl)
    have f42 := congrArg Int32.toInt (hF8.1 176 2 rfl)
    have f43 := congrArg Int32.toInt (eA_c (j := 0) (hF8.2.1 233 rfl))
    have f44 := congrArg Int32.toInt (eA_c (j := 4) (hF8.2.1 233 rfl))
    have f45 := congrArg Int32.toInt (eA_c (j := 5) (hF8.2.1 233 rfl))
    have f46 := congrArg Int32.toInt (eA_c (j := 6) (hF8.2.1 233 rfl))
    have f47 := congrArg Int32.toInt (eA_c (j := 1) (hF8.2.1 233 rfl))
    have f48 := congrArg Int32.toInt (eA_c (j := 2) (hF8.2.1 233 rfl))
    have f49 := congrArg Int32.toInt (eA_c (j := 3) (hF8.2.1 233 rfl))
    have f50 := congrArg Int32.toInt (eA_c (j := 0) (hF8.2.1 234 rfl))
    have f51 := congrArg Int32.toInt (eA_c (j := 4) (hF8.2.1 234 rfl))
    have f52 := congrArg Int32.toInt (eA_c (j := 5) (hF8.2.1 234 rfl))
    have f53 := congrArg Int32.toInt (eA_c (j := 6) (hF8.2.1 234 rfl))
    have f54 := congrArg Int32.toInt (eA_c (j := 1) (hF8.2.1 234 rfl))
    have f55 := congrArg Int32.toInt (eA_c (j := 2) (hF8.2.1 234 rfl))
    have f56 := congrArg Int32.toInt (eA_c (j := 3) (hF8.2.1 234 rfl))
    have f57 := congrArg Int32.toInt (eA_c (j := 5510) (hF8.2.1 234 rfl))
    have f58 := congrArg Int32.toInt (eA_c (j := 5514) (hF8.2.1 234 rfl))
    have f59 := congrArg Int32.toInt (eA_c (j := 5515) (hF8.2.1 234 rfl))
    have f60 := congrArg Int32.toInt (eA_c (j := 5516) (hF8.2.1 234 rfl))
    have f61 := congrArg Int32.toInt (eA_c (j := 5511) (hF8.2.1 234 rfl))
    have f62 := congrArg Int32.toInt (eA_c (j := 5512) (hF8.2.1 234 rfl))
    have f63 := congrArg Int32.toInt (eA_c (j := 5513) (hF8.2.1 234 rfl))
    have f64 := congrArg Int32.toInt (eA_c (j := 0) (hF8.2.1 235 rfl))
    have f65 := congrArg Int32.toInt (eA_c (j := 1) (hF8.2.1 235 rfl))
    have f66 := congrArg Int32.toInt (hF8.1 231 8 rfl)
    have f67 := congrArg Int32.toInt (hF8.1 231 6 rfl)
    have f68 := congrArg Int32.toInt (hF8.1 231 13 rfl)
    refine At.enter rfl ?_
    refine r_pop rfl ?_
    refine r_aload_n e2 ?_
    refine r_sload_n e0 ?_
    refine r_iload_n e3 ?_
    refine r_iconst 1 rfl ?_
    refine q_iadd (i.toInt + 1) rfl hx_1 (fun v69 hv69 => ?_)
    refine q_scald (m := L) hL (i.toInt + 1) hv69 hy_1 (fun v70 hv70 => ?_)
    have sv70 := hv2.symm.trans hv70
    subst sv70
    refine r_sload_n e0 ?_
    refine r_iload_n e3 ?_
    refine r_iconst 2 rfl ?_
    refine q_iadd (i.toInt + 2) rfl hx_2 (fun v71 hv71 => ?_)
    refine q_scald (m := L) hL (i.toInt + 2) hv71 hy_2 (fun v72 hv72 => ?_)
    have sv72 := hv4.symm.trans hv72
    subst sv72
    refine r_callV 487 rfl [.ref 231, .int v2, .int v4] [] (Nat.le_of_ble_eq_true rfl) rfl (T_X11_terms_231 _ hI7 v2 v4) ?_
    rintro _ _ ⟨g73, rfl, hI74, hF75, v76, rfl, hr77⟩
    refine At.sti ?_
    have hF78 := Fr.tr hF11 hF75 rfl rfl
    obtain ⟨q80, q81, q82⟩ := hr77
    obtain ⟨⟨i84, i85, i86⟩, sm87, sm88, sm89, sm90, sm91⟩ := q81
    have w83 := i84 pk5
    clear i84 i85 i86
    have f92 := congrArg Int32.toInt (hF75.1 1 0 rfl)
    have f93 := congrArg Int32.toInt (hF75.1 1 12 rfl)
    have f94 := congrArg Int32.toInt (hF75.1 1 10 rfl)
    have f95 := congrArg Int32.toInt (hF75.1 1 11 rfl)
    have f96 := congrArg Int32.toInt (hF75.1 1 4 rfl)
    have f97 := congrArg Int32.toInt (hF75.1 1 6 rfl)
    have f98 := congrArg Int32.toInt (hF75.1 1 9 rfl)
    have f99 := congrArg Int32.toInt (hF75.1 59 0 rfl)
    have f100 := congrArg Int32.toInt (hF75.1 59 12 rfl)
    have f101 := congrArg Int32.toInt (hF75.1 59 10 rfl)
    have f102 := congrArg Int32.toInt (hF75.1 59 11 rfl)
    have f103 := congrArg Int32.toInt (hF75.1 59 4 rfl)
    have f104 := congrArg Int32.toInt (hF75.1 59 6 rfl)
    have f105 := congrArg Int32.toInt (hF75.1 59 9 rfl)
    have f106 := congrArg Int32.toInt (hF75.1 116 0 rfl)
    have f107 := congrArg Int32.toInt (hF75.1 116 12 rfl)
    have f108 := congrArg Int32.toInt (hF75.1 116 10 rfl)
    have f109 := congrArg Int32.toInt (hF75.1 116 11 rfl)
    have f110 := congrArg Int32.toInt (hF75.1 116 4 rfl)
    have f111 := congrArg Int32.toInt (hF75.1 116 6 rfl)
    have f112 := congrArg Int32.toInt (hF75.1 116 9 rfl)
    have f113 := congrArg Int32.toInt (eA_c (j := 0) (hF75.2.1 173 rfl))
    have f114 := congrArg Int32.toInt (eA_c (j := 1) (hF75.2.1 173 rfl))
    have f115 := congrArg Int32.toInt (hF75.1 174 1 rfl)
    have f116 := congrArg Int32.toInt (hF75.1 0 16 rfl)
    have f117 := congrArg Int32.toInt (hF75.1 176 2 rfl)
    have f118 := congrArg Int32.toInt (eA_c (j := 0) (hF75.2.1 234 rfl))
    have f119 := congrArg Int32.toInt (eA_c (j := 4) (hF75.2.1 234 rfl))
    have f120 := congrArg Int32.toInt (eA_c (j := 5) (hF75.2.1 234 rfl))
    have f121 := congrArg Int32.toInt (eA_c (j := 6) (hF75.2.1 234 rfl))
    have f122 := congrArg Int32.toInt (eA_c (j := 1) (hF75.2.1 234 rfl))
    have f123 := congrArg Int32.toInt (eA_c (j := 2) (hF75.2.1 234 rfl))
    have f124 := congrArg Int32.toInt (eA_c (j := 3) (hF75.2.1 234 rfl))
    have f125 := congrArg Int32.toInt (eA_c (j := 5510) (hF75.2.1 234 rfl))
    have f126 := congrArg Int32.toInt (eA_c (j := 5514) (hF75.2.1 234 rfl))
    have f127 := congrArg Int32.toInt (eA_c (j := 5515) (hF75.2.1 234 rfl))
    have f128 := congrArg Int32.toInt (eA_c (j := 5516) (hF75.2.1 234 rfl))
    have f129 := congrArg Int32.toInt (eA_c (j := 5511) (hF75.2.1 234 rfl))
    have f130 := congrArg Int32.toInt (eA_c (j := 5512) (hF75.2.1 234 rfl))
    have f131 := congrArg Int32.toInt (eA_c (j := 5513) (hF75.2.1 234 rfl))
    have f132 := congrArg Int32.toInt (eA_c (j := 0) (hF75.2.1 235 rfl))
    have f133 := congrArg Int32.toInt (eA_c (j := 1) (hF75.2.1 235 rfl))
    have f134 := congrArg Int32.toInt (hF75.1 231 8 rfl)
    have f135 := congrArg Int32.toInt (hF75.1 231 6 rfl)
    have f136 := congrArg Int32.toInt (hF75.1 231 13 rfl)
    refine At.enter rfl ?_
    refine r_pop rfl ?_
    refine r_goto ?_
    exact K _ hI74 (show LwR _ from ⟨by omega, by omega, by omega, by omega, by omega, by omega, by omega, (eA_ti (j := 0) (((hF75.2.1 173 (by decide)).trans (hF8.2.1 173 (by decide))))).trans (hR_7.trans (eA_ti (j := 0) (((hF75.2.1 235 (by decide)).trans (hF8.2.1 235 (by decide))))).symm), (eA_ti (j := 1) (((hF75.2.1 173 (by decide)).trans (hF8.2.1 173 (by decide))))).trans (hR_8.trans (eA_ti (j := 1) (((hF75.2.1 235 (by decide)).trans (hF8.2.1 235 (by decide))))).symm), (congrArg Int32.toInt (((hF75.1 174 1 (by decide)).trans (hF8.1 174 1 (by decide))))).trans (hR_9.trans (congrArg Int32.toInt (((hF75.1 231 8 (by decide)).trans (hF8.1 231 8 (by decide))))).symm), (congrArg Int32.toInt (((hF75.1 0 16 (by decide)).trans (hF8.1 0 16 (by decide))))).trans (hR_10.trans (congrArg Int32.toInt (((hF75.1 231 6 (by decide)).trans (hF8.1 231 6 (by decide))))).symm), (congrArg Int32.toInt (((hF75.1 176 2 (by decide)).trans (hF8.1 176 2 (by decide))))).trans (hR_11.trans (congrArg Int32.toInt (((hF75.1 231 13 (by decide)).trans (hF8.1 231 13 (by decide))))).symm), IM0.cong hR_12 (eA_ti (j := 0) (((hF75.2.1 173 (by decide)).trans (hF8.2.1 173 (by decide))))) (congrArg Int32.toInt (((hF75.1 59 0 (by decide)).trans (hF8.1 59 0 (by decide))))) (eA_ti (j := 0) (((hF75.2.1 234 (by decide)).trans (hF8.2.1 234 (by decide))))) (congrArg Int32.toInt (((hF75.1 59 12 (by decide)).trans (hF8.1 59 12 (by decide))))) (eA_ti (j := 4) (((hF75.2.1 234 (by decide)).trans (hF8.2.1 234 (by decide))))) (congrArg Int32.toInt (((hF75.1 59 10 (by decide)).trans (hF8.1 59 10 (by decide))))) (eA_ti (j := 5) (((hF75.2.1 234 (by decide)).trans (hF8.2.1 234 (by decide))))) (congrArg Int32.toInt (((hF75.1 59 11 (by decide)).trans (hF8.1 59 11 (by decide))))) (eA_ti (j := 6) (((hF75.2.1 234 (by decide)).trans (hF8.2.1 234 (by decide))))) (congrArg Int32.toInt (((hF75.1 59 4 (by decide)).trans (hF8.1 59 4 (by decide))))) (eA_ti (j := 1) (((hF75.2.1 234 (by decide)).trans (hF8.2.1 234 (by decide))))) (congrArg Int32.toInt (((hF75.1 59 6 (by decide)).trans (hF8.1 59 6 (by decide))))) (eA_ti (j := 2) (((hF75.2.1 234 (by decide)).trans (hF8.2.1 234 (by decide))))) (congrArg Int32.toInt (((hF75.1 59 9 (by decide)).trans (hF8.1 59 9 (by decide))))) (eA_ti (j := 3) (((hF75.2.1 234 (by decide)).trans (hF8.2.1 234 (by decide))))), IM1.cong hR_13 (eA_ti (j := 1) (((hF75.2.1 173 (by decide)).trans (hF8.2.1 173 (by decide))))) (congrArg Int32.toInt (((hF75.1 116 0 (by decide)).trans (hF8.1 116 0 (by decide))))) (eA_ti (j := 5510) (((hF75.2.1 234 (by decide)).trans (hF8.2.1 234 (by decide))))) (congrArg Int32.toInt (((hF75.1 116 12 (by decide)).trans (hF8.1 116 12 (by decide))))) (eA_ti (j := 5514) (((hF75.2.1 234 (by decide)).trans (hF8.2.1 234 (by decide))))) (congrArg Int32.toInt (((hF75.1 116 10 (by decide)).trans (hF8.1 116 10 (by decide))))) (eA_ti (j := 5515) (((hF75.2.1 234 (by decide)).trans (hF8.2.1 234 (by decide))))) (congrArg Int32.toInt (((hF75.1 116 11 (by decide)).trans (hF8.1 116 11 (by decide))))) (eA_ti (j := 5516) (((hF75.2.1 234 (by decide)).trans (hF8.2.1 234 (by decide))))) (congrArg Int32.toInt (((hF75.1 116 4 (by decide)).trans (hF8.1 116 4 (by decide))))) (eA_ti (j := 5511) (((hF75.2.1 234 (by decide)).trans (hF8.2.1 234 (by decide))))) (congrArg Int32.toInt (((hF75.1 116 6 (by decide)).trans (hF8.1 116 6 (by decide))))) (eA_ti (j := 5512) (((hF75.2.1 234 (by decide)).trans (hF8.2.1 234 (by decide))))) (congrArg Int32.toInt (((hF75.1 116 9 (by decide)).trans (hF8.1 116 9 (by decide))))) (eA_ti (j := 5513) (((hF75.2.1 234 (by decide)).trans (hF8.2.1 234 (by decide))))), (show CT _ from ⟨fun i i0 i1 => ⟨(by have t0_ := hI0.t0; have t1_ := hI0.t1; have o := (hR_14.1 i i0 i1).1; have x := eA_ti (j := i) (((hF75.2.1 2 (by decide)).trans (hF8.2.1 2 (by decide)))); have m := q82 (10 + 3 * i) (by omega) (by omega); have y1 := eA_ti (j := ((10 + 3 * i))) (hF8.2.1 233 (by decide)); first | exact x.trans (o.trans (m.trans y1).symm) | omega), (by have t0_ := hI0.t0; have t1_ := hI0.t1; have o := (hR_14.1 i i0 i1).2.1; have x := eA_ti (j := i) (((hF75.2.1 3 (by decide)).trans (hF8.2.1 3 (by decide)))); have m := q82 (10 + 3 * i + 1) (by omega) (by omega); have y1 := eA_ti (j := ((10 + 3 * i + 1))) (hF8.2.1 233 (by decide)); first | exact x.trans (o.trans (m.trans y1).symm) | omega), (by have t0_ := hI0.t0; have t1_ := hI0.t1; have o := (hR_14.1 i i0 i1).2.2; have x := eA_ti (j := i) (((hF75.2.1 4 (by decide)).trans (hF8.2.1 4 (by decide)))); have m := q82 (10 + 3 * i + 2) (by omega) (by omega); have y1 := eA_ti (j := ((10 + 3 * i + 2))) (hF8.2.1 233 (by decide)); first | exact x.trans (o.trans (m.trans y1).symm) | omega)⟩, fun i i0 i1 => ⟨(by have t0_ := hI0.t0; have t1_ := hI0.t1; have o := (hR_14.2.1 i i0 i1).1; have x := eA_ti (j := i) (((hF75.2.1 14 (by decide)).trans (hF8.2.1 14 (by decide)))); have m := q82 (94 + 2 * i) (by omega) (by omega); have y1 := eA_ti (j := ((94 + 2 * i))) (hF8.2.1 233 (by decide)); first | exact x.trans (o.trans (m.trans y1).symm) | omega), (by have t0_ := hI0.t0; have t1_ := hI0.t1; have o := (hR_14.2.1 i i0 i1).2; have x := eA_ti (j := i) (((hF75.2.1 15 (by decide)).trans (hF8.2.1 15 (by decide)))); have m := q82 (94 + 2 * i + 1) (by omega) (by omega); have y1 := eA_ti (j := ((94 + 2 * i + 1))) (hF8.2.1 233 (by decide)); first | exact x.trans (o.trans (m.trans y1).symm) | omega)⟩, fun i i0 i1 => (by have t0_ := hI0.t0; have t1_ := hI0.t1; have o : i < 6 * (gI g0 1 4).toInt → _ := fun hz => hR_14.2.2 i i0 hz; have x := eA_ti (j := i) (((hF75.2.1 5 (by decide)).trans (hF8.2.1 5 (by decide)))); have m := q82 (46 + i) (by omega) (by omega); have y1 := eA_ti (j := ((46 + i))) (hF8.2.1 233 (by decide)); omega)⟩), CI0.cong hR_15 (((hF75.2.1 60 (by decide)).trans (hF8.2.1 60 (by decide)))) (((hF75.2.1 61 (by decide)).trans (hF8.2.1 61 (by decide)))) (((hF75.2.1 62 (by decide)).trans (hF8.2.1 62 (by decide)))) (((hF75.2.1 72 (by decide)).trans (hF8.2.1 72 (by decide)))) (((hF75.2.1 73 (by decide)).trans (hF8.2.1 73 (by decide)))) (((hF75.2.1 63 (by decide)).trans (hF8.2.1 63 (by decide)))) (((hF75.2.1 234 (by decide)).trans (hF8.2.1 234 (by decide)))) (congrArg Int32.toInt (((hF75.1 59 4 (by decide)).trans (hF8.1 59 4 (by decide))))), CI1.cong hR_16 (((hF75.2.1 117 (by decide)).trans (hF8.2.1 117 (by decide)))) (((hF75.2.1 118 (by decide)).trans (hF8.2.1 118 (by decide)))) (((hF75.2.1 119 (by decide)).trans (hF8.2.1 119 (by decide)))) (((hF75.2.1 129 (by decide)).trans (hF8.2.1 129 (by decide)))) (((hF75.2.1 130 (by decide)).trans (hF8.2.1 130 (by decide)))) (((hF75.2.1 120 (by decide)).trans (hF8.2.1 120 (by decide)))) (((hF75.2.1 234 (by decide)).trans (hF8.2.1 234 (by decide)))) (congrArg Int32.toInt (((hF75.1 116 4 (by decide)).trans (hF8.1 116 4 (by decide))))), (show RT _ from fun i i0 i1 => (eA_ti (((hF75.2.1 175 (by decide)).trans (hF8.2.1 175 (by decide))))).trans ((hR_17 i i0 (by omega)).trans (eA_ti (((hF75.2.1 236 (by decide)).trans (hF8.2.1 236 (by decide))))).symm)), (show BYX _ from fun i i0 i1 => by rw [TX.c (((hF75.2.1 175 (by decide)).trans (hF8.2.1 175 (by decide))))]; exact hR_18 i i0 (by have i2 : i < (gI _ 174 1).toInt := i1; show i < (gI g0 174 1).toInt; omega)), (LAWR_c hR_19 (LSA_tr (LSA_tr LSA_rf (LSA_fr hF8 rfl)) (LSA_fr hF75 rfl)) (((hF75.1 1 6 (by decide)).trans (hF8.1 1 6 (by decide)))) (((hF75.1 59 6 (by decide)).trans (hF8.1 59 6 (by decide)))) (((hF75.1 116 6 (by decide)).trans (hF8.1 116 6 (by decide)))) (((hF75.2.1 173 (by decide)).trans (hF8.2.1 173 (by decide)))) (fun i i0 i1 => (R3_terms hI7 q82 i i0 i1).trans (eA_ti (hF8.2.1 233 (by decide)))) (((hF75.2.1 234 (by decide)).trans (hF8.2.1 234 (by decide)))) (TOLDX_fr hF75 rfl rfl rfl rfl (fe12.1 hR_19.2.2.2.2))), (SETX_fr hF75 rfl rfl rfl rfl rfl (fe12.2 hR_20))⟩)
  · refine r_callV 472 rfl [.ref 0, .int v2, .int v4] [] (Nat.le_of_ble_eq_true rfl) rfl (T_X10_terms_0 _ hI0 v2 v4) ?_
    rintro _ _ ⟨g137, rfl, hI138, hF139, v140, rfl, hr141⟩
    refine At.sti ?_
    have hF142 := Fr.tr hF0 hF139 rfl rfl
    have fe143 : PH _ := hr141.2.2
    replace hr141 := And.intro hr141.1 hr141.2.1
    obtain ⟨q144, q145⟩ := hr141
    obtain ⟨i147, i148, i149⟩ := q145
    have w146 := i148 pk5
    clear i147 i148 i149
    have f150 := congrArg Int32.toInt (hF139.1 1 0 rfl)
    have f151 := congrArg Int32.toInt (hF139.1 1 12 rfl)
    have f152 := congrArg Int32.toInt (hF139.1 1 4 rfl)
    have f153 := congrArg Int32.toInt (hF139.1 1 6 rfl)
    have f154 := congrArg Int32.toInt (hF139.1 1 9 rfl)
    have f155 := congrArg Int32.toInt (hF139.1 59 0 rfl)
    have f156 := congrArg Int32.toInt (hF139.1 59 12 rfl)
    have f157 := congrArg Int32.toInt (hF139.1 59 10 rfl)
    have f158 := congrArg Int32.toInt (hF139.1 59 11 rfl)
    have f159 := congrArg Int32.toInt (hF139.1 59 4 rfl)
    have f160 := congrArg Int32.toInt (hF139.1 59 6 rfl)
    have f161 := congrArg Int32.toInt (hF139.1 59 9 rfl)
    have f162 := congrArg Int32.toInt (hF139.1 116 0 rfl)
    have f163 := congrArg Int32.toInt (hF139.1 116 12 rfl)
    have f164 := congrArg Int32.toInt (hF139.1 116 10 rfl)
    have f165 := congrArg Int32.toInt (hF139.1 116 11 rfl)
    have f166 := congrArg Int32.toInt (hF139.1 116 4 rfl)
    have f167 := congrArg Int32.toInt (hF139.1 116 6 rfl)
    have f168 := congrArg Int32.toInt (hF139.1 116 9 rfl)
    have f169 := congrArg Int32.toInt (eA_c (j := 0) (hF139.2.1 173 rfl))
    have f170 := congrArg Int32.toInt (eA_c (j := 1) (hF139.2.1 173 rfl))
    have f171 := congrArg Int32.toInt (hF139.1 174 1 rfl)
    have f172 := congrArg Int32.toInt (hF139.1 0 16 rfl)
    have f173 := congrArg Int32.toInt (hF139.1 176 2 rfl)
    have f174 := congrArg Int32.toInt (eA_c (j := 0) (hF139.2.1 233 rfl))
    have f175 := congrArg Int32.toInt (eA_c (j := 4) (hF139.2.1 233 rfl))
    have f176 := congrArg Int32.toInt (eA_c (j := 5) (hF139.2.1 233 rfl))
    have f177 := congrArg Int32.toInt (eA_c (j := 6) (hF139.2.1 233 rfl))
    have f178 := congrArg Int32.toInt (eA_c (j := 1) (hF139.2.1 233 rfl))
    have f179 := congrArg Int32.toInt (eA_c (j := 2) (hF139.2.1 233 rfl))
    have f180 := congrArg Int32.toInt (eA_c (j := 3) (hF139.2.1 233 rfl))
    have f181 := congrArg Int32.toInt (eA_c (j := 0) (hF139.2.1 234 rfl))
    have f182 := congrArg Int32.toInt (eA_c (j := 4) (hF139.2.1 234 rfl))
    have f183 := congrArg Int32.toInt (eA_c (j := 5) (hF139.2.1 234 rfl))
    have f184 := congrArg Int32.toInt (eA_c (j := 6) (hF139.2.1 234 rfl))
    have f185 := congrArg Int32.toInt (eA_c (j := 1) (hF139.2.1 234 rfl))
    have f186 := congrArg Int32.toInt (eA_c (j := 2) (hF139.2.1 234 rfl))
    have f187 := congrArg Int32.toInt (eA_c (j := 3) (hF139.2.1 234 rfl))
    have f188 := congrArg Int32.toInt (eA_c (j := 5510) (hF139.2.1 234 rfl))
    have f189 := congrArg Int32.toInt (eA_c (j := 5514) (hF139.2.1 234 rfl))
    have f190 := congrArg Int32.toInt (eA_c (j := 5515) (hF139.2.1 234 rfl))
    have f191 := congrArg Int32.toInt (eA_c (j := 5516) (hF139.2.1 234 rfl))
    have f192 := congrArg Int32.toInt (eA_c (j := 5511) (hF139.2.1 234 rfl))
    have f193 := congrArg Int32.toInt (eA_c (j := 5512) (hF139.2.1 234 rfl))
    have f194 := congrArg Int32.toInt (eA_c (j := 5513) (hF139.2.1 234 rfl))
    have f195 := congrArg Int32.toInt (eA_c (j := 0) (hF139.2.1 235 rfl))
    have f196 := congrArg Int32.toInt (eA_c (j := 1) (hF139.2.1 235 rfl))
    have f197 := congrArg Int32.toInt (hF139.1 231 8 rfl)
    have f198 := congrArg Int32.toInt (hF139.1 231 6 rfl)
    have f199 := congrArg Int32.toInt (hF139.1 231 13 rfl)
    refine At.enter rfl ?_
    refine r_pop rfl ?_
    refine r_aload_n e2 ?_
    refine r_sload_n e0 ?_
    refine r_iload_n e3 ?_
    refine r_iconst 1 rfl ?_
    refine q_iadd (i.toInt + 1) rfl hx_1 (fun v200 hv200 => ?_)
    refine q_scald (m := L) hL (i.toInt + 1) hv200 hy_1 (fun v201 hv201 => ?_)
    have sv201 := hv2.symm.trans hv201
    subst sv201
    refine r_sload_n e0 ?_
    refine r_iload_n e3 ?_
    refine r_iconst 2 rfl ?_
    refine q_iadd (i.toInt + 2) rfl hx_2 (fun v202 hv202 => ?_)
    refine q_scald (m := L) hL (i.toInt + 2) hv202 hy_2 (fun v203 hv203 => ?_)
    have sv203 := hv4.symm.trans hv203
    subst sv203
    refine r_callV 487 rfl [.ref 231, .int v2, .int v4] [] (Nat.le_of_ble_eq_true rfl) rfl (T_X11_terms_231 _ hI138 v2 v4) ?_
    rintro _ _ ⟨g204, rfl, hI205, hF206, v207, rfl, hr208⟩
    refine At.sti ?_
    have hF209 := Fr.tr hF142 hF206 rfl rfl
    obtain ⟨q211, q212, q213⟩ := hr208
    obtain ⟨⟨i215, i216, i217⟩, sm218, sm219, sm220, sm221, sm222⟩ := q212
    have w214 := i216 pk5
    clear i215 i216 i217
    have f223 := congrArg Int32.toInt (hF206.1 1 0 rfl)
    have f224 := congrArg Int32.toInt (hF206.1 1 12 rfl)
    have f225 := congrArg Int32.toInt (hF206.1 1 10 rfl)
    have f226 := congrArg Int32.toInt (hF206.1 1 11 rfl)
    have f227 := congrArg Int32.toInt (hF206.1 1 4 rfl)
    have f228 := congrArg Int32.toInt (hF206.1 1 6 rfl)
    have f229 := congrArg Int32.toInt (hF206.1 1 9 rfl)
    have f230 := congrArg Int32.toInt (hF206.1 59 0 rfl)
    have f231 := congrArg Int32.toInt (hF206.1 59 12 rfl)
    have f232 := congrArg Int32.toInt (hF206.1 59 10 rfl)
    have f233 := congrArg Int32.toInt (hF206.1 59 11 rfl)
    have f234 := congrArg Int32.toInt (hF206.1 59 4 rfl)
    have f235 := congrArg Int32.toInt (hF206.1 59 6 rfl)
    have f236 := congrArg Int32.toInt (hF206.1 59 9 rfl)
    have f237 := congrArg Int32.toInt (hF206.1 116 0 rfl)
    have f238 := congrArg Int32.toInt (hF206.1 116 12 rfl)
    have f239 := congrArg Int32.toInt (hF206.1 116 10 rfl)
    have f240 := congrArg Int32.toInt (hF206.1 116 11 rfl)
    have f241 := congrArg Int32.toInt (hF206.1 116 4 rfl)
    have f242 := congrArg Int32.toInt (hF206.1 116 6 rfl)
    have f243 := congrArg Int32.toInt (hF206.1 116 9 rfl)
    have f244 := congrArg Int32.toInt (eA_c (j := 0) (hF206.2.1 173 rfl))
    have f245 := congrArg Int32.toInt (eA_c (j := 1) (hF206.2.1 173 rfl))
    have f246 := congrArg Int32.toInt (hF206.1 174 1 rfl)
    have f247 := congrArg Int32.toInt (hF206.1 0 16 rfl)
    have f248 := congrArg Int32.toInt (hF206.1 176 2 rfl)
    have f249 := congrArg Int32.toInt (eA_c (j := 0) (hF206.2.1 234 rfl))
    have f250 := congrArg Int32.toInt (eA_c (j := 4) (hF206.2.1 234 rfl))
    have f251 := congrArg Int32.toInt (eA_c (j := 5) (hF206.2.1 234 rfl))
    have f252 := congrArg Int32.toInt (eA_c (j := 6) (hF206.2.1 234 rfl))
    have f253 := congrArg Int32.toInt (eA_c (j := 1) (hF206.2.1 234 rfl))
    have f254 := congrArg Int32.toInt (eA_c (j := 2) (hF206.2.1 234 rfl))
    have f255 := congrArg Int32.toInt (eA_c (j := 3) (hF206.2.1 234 rfl))
    have f256 := congrArg Int32.toInt (eA_c (j := 5510) (hF206.2.1 234 rfl))
    have f257 := congrArg Int32.toInt (eA_c (j := 5514) (hF206.2.1 234 rfl))
    have f258 := congrArg Int32.toInt (eA_c (j := 5515) (hF206.2.1 234 rfl))
    have f259 := congrArg Int32.toInt (eA_c (j := 5516) (hF206.2.1 234 rfl))
    have f260 := congrArg Int32.toInt (eA_c (j := 5511) (hF206.2.1 234 rfl))
    have f261 := congrArg Int32.toInt (eA_c (j := 5512) (hF206.2.1 234 rfl))
    have f262 := congrArg Int32.toInt (eA_c (j := 5513) (hF206.2.1 234 rfl))
    have f263 := congrArg Int32.toInt (eA_c (j := 0) (hF206.2.1 235 rfl))
    have f264 := congrArg Int32.toInt (eA_c (j := 1) (hF206.2.1 235 rfl))
    have f265 := congrArg Int32.toInt (hF206.1 231 8 rfl)
    have f266 := congrArg Int32.toInt (hF206.1 231 6 rfl)
    have f267 := congrArg Int32.toInt (hF206.1 231 13 rfl)
    refine At.enter rfl ?_
    refine r_pop rfl ?_
    refine r_goto ?_
    exact K _ hI205 (show LwR _ from ⟨by omega, by omega, by omega, by omega, by omega, by omega, by omega, (eA_ti (j := 0) (((hF206.2.1 173 (by decide)).trans (hF139.2.1 173 (by decide))))).trans (hR_7.trans (eA_ti (j := 0) (((hF206.2.1 235 (by decide)).trans (hF139.2.1 235 (by decide))))).symm), (eA_ti (j := 1) (((hF206.2.1 173 (by decide)).trans (hF139.2.1 173 (by decide))))).trans (hR_8.trans (eA_ti (j := 1) (((hF206.2.1 235 (by decide)).trans (hF139.2.1 235 (by decide))))).symm), (congrArg Int32.toInt (((hF206.1 174 1 (by decide)).trans (hF139.1 174 1 (by decide))))).trans (hR_9.trans (congrArg Int32.toInt (((hF206.1 231 8 (by decide)).trans (hF139.1 231 8 (by decide))))).symm), (congrArg Int32.toInt (((hF206.1 0 16 (by decide)).trans (hF139.1 0 16 (by decide))))).trans (hR_10.trans (congrArg Int32.toInt (((hF206.1 231 6 (by decide)).trans (hF139.1 231 6 (by decide))))).symm), (congrArg Int32.toInt (((hF206.1 176 2 (by decide)).trans (hF139.1 176 2 (by decide))))).trans (hR_11.trans (congrArg Int32.toInt (((hF206.1 231 13 (by decide)).trans (hF139.1 231 13 (by decide))))).symm), IM0.cong hR_12 (eA_ti (j := 0) (((hF206.2.1 173 (by decide)).trans (hF139.2.1 173 (by decide))))) (congrArg Int32.toInt (((hF206.1 59 0 (by decide)).trans (hF139.1 59 0 (by decide))))) (eA_ti (j := 0) (((hF206.2.1 234 (by decide)).trans (hF139.2.1 234 (by decide))))) (congrArg Int32.toInt (((hF206.1 59 12 (by decide)).trans (hF139.1 59 12 (by decide))))) (eA_ti (j := 4) (((hF206.2.1 234 (by decide)).trans (hF139.2.1 234 (by decide))))) (congrArg Int32.toInt (((hF206.1 59 10 (by decide)).trans (hF139.1 59 10 (by decide))))) (eA_ti (j := 5) (((hF206.2.1 234 (by decide)).trans (hF139.2.1 234 (by decide))))) (congrArg Int32.toInt (((hF206.1 59 11 (by decide)).trans (hF139.1 59 11 (by decide))))) (eA_ti (j := 6) (((hF206.2.1 234 (by decide)).trans (hF139.2.1 234 (by decide))))) (congrArg Int32.toInt (((hF206.1 59 4 (by decide)).trans (hF139.1 59 4 (by decide))))) (eA_ti (j := 1) (((hF206.2.1 234 (by decide)).trans (hF139.2.1 234 (by decide))))) (congrArg Int32.toInt (((hF206.1 59 6 (by decide)).trans (hF139.1 59 6 (by decide))))) (eA_ti (j := 2) (((hF206.2.1 234 (by decide)).trans (hF139.2.1 234 (by decide))))) (congrArg Int32.toInt (((hF206.1 59 9 (by decide)).trans (hF139.1 59 9 (by decide))))) (eA_ti (j := 3) (((hF206.2.1 234 (by decide)).trans (hF139.2.1 234 (by decide))))), IM1.cong hR_13 (eA_ti (j := 1) (((hF206.2.1 173 (by decide)).trans (hF139.2.1 173 (by decide))))) (congrArg Int32.toInt (((hF206.1 116 0 (by decide)).trans (hF139.1 116 0 (by decide))))) (eA_ti (j := 5510) (((hF206.2.1 234 (by decide)).trans (hF139.2.1 234 (by decide))))) (congrArg Int32.toInt (((hF206.1 116 12 (by decide)).trans (hF139.1 116 12 (by decide))))) (eA_ti (j := 5514) (((hF206.2.1 234 (by decide)).trans (hF139.2.1 234 (by decide))))) (congrArg Int32.toInt (((hF206.1 116 10 (by decide)).trans (hF139.1 116 10 (by decide))))) (eA_ti (j := 5515) (((hF206.2.1 234 (by decide)).trans (hF139.2.1 234 (by decide))))) (congrArg Int32.toInt (((hF206.1 116 11 (by decide)).trans (hF139.1 116 11 (by decide))))) (eA_ti (j := 5516) (((hF206.2.1 234 (by decide)).trans (hF139.2.1 234 (by decide))))) (congrArg Int32.toInt (((hF206.1 116 4 (by decide)).trans (hF139.1 116 4 (by decide))))) (eA_ti (j := 5511) (((hF206.2.1 234 (by decide)).trans (hF139.2.1 234 (by decide))))) (congrArg Int32.toInt (((hF206.1 116 6 (by decide)).trans (hF139.1 116 6 (by decide))))) (eA_ti (j := 5512) (((hF206.2.1 234 (by decide)).trans (hF139.2.1 234 (by decide))))) (congrArg Int32.toInt (((hF206.1 116 9 (by decide)).trans (hF139.1 116 9 (by decide))))) (eA_ti (j := 5513) (((hF206.2.1 234 (by decide)).trans (hF139.2.1 234 (by decide))))), (show CT _ from ⟨fun i i0 i1 => ⟨(by have t0_ := hI0.t0; have t1_ := hI0.t1; have o := (hR_14.1 i i0 i1).1; have x := eA_ti (j := i) (((hF206.2.1 2 (by decide)).trans (hF139.2.1 2 (by decide)))); have m := q213 (10 + 3 * i) (by omega) (by omega); have y1 := eA_ti (j := ((10 + 3 * i))) (hF139.2.1 233 (by decide)); first | exact x.trans (o.trans (m.trans y1).symm) | omega), (by have t0_ := hI0.t0; have t1_ := hI0.t1; have o := (hR_14.1 i i0 i1).2.1; have x := eA_ti (j := i) (((hF206.2.1 3 (by decide)).trans (hF139.2.1 3 (by decide)))); have m := q213 (10 + 3 * i + 1) (by omega) (by omega); have y1 := eA_ti (j := ((10 + 3 * i + 1))) (hF139.2.1 233 (by decide)); first | exact x.trans (o.trans (m.trans y1).symm) | omega), (by have t0_ := hI0.t0; have t1_ := hI0.t1; have o := (hR_14.1 i i0 i1).2.2; have x := eA_ti (j := i) (((hF206.2.1 4 (by decide)).trans (hF139.2.1 4 (by decide)))); have m := q213 (10 + 3 * i + 2) (by omega) (by omega); have y1 := eA_ti (j := ((10 + 3 * i + 2))) (hF139.2.1 233 (by decide)); first | exact x.trans (o.trans (m.trans y1).symm) | omega)⟩, fun i i0 i1 => ⟨(by have t0_ := hI0.t0; have t1_ := hI0.t1; have o := (hR_14.2.1 i i0 i1).1; have x := eA_ti (j := i) (((hF206.2.1 14 (by decide)).trans (hF139.2.1 14 (by decide)))); have m := q213 (94 + 2 * i) (by omega) (by omega); have y1 := eA_ti (j := ((94 + 2 * i))) (hF139.2.1 233 (by decide)); first | exact x.trans (o.trans (m.trans y1).symm) | omega), (by have t0_ := hI0.t0; have t1_ := hI0.t1; have o := (hR_14.2.1 i i0 i1).2; have x := eA_ti (j := i) (((hF206.2.1 15 (by decide)).trans (hF139.2.1 15 (by decide)))); have m := q213 (94 + 2 * i + 1) (by omega) (by omega); have y1 := eA_ti (j := ((94 + 2 * i + 1))) (hF139.2.1 233 (by decide)); first | exact x.trans (o.trans (m.trans y1).symm) | omega)⟩, fun i i0 i1 => (by have t0_ := hI0.t0; have t1_ := hI0.t1; have o : i < 6 * (gI g0 1 4).toInt → _ := fun hz => hR_14.2.2 i i0 hz; have x := eA_ti (j := i) (((hF206.2.1 5 (by decide)).trans (hF139.2.1 5 (by decide)))); have m := q213 (46 + i) (by omega) (by omega); have y1 := eA_ti (j := ((46 + i))) (hF139.2.1 233 (by decide)); omega)⟩), CI0.cong hR_15 (((hF206.2.1 60 (by decide)).trans (hF139.2.1 60 (by decide)))) (((hF206.2.1 61 (by decide)).trans (hF139.2.1 61 (by decide)))) (((hF206.2.1 62 (by decide)).trans (hF139.2.1 62 (by decide)))) (((hF206.2.1 72 (by decide)).trans (hF139.2.1 72 (by decide)))) (((hF206.2.1 73 (by decide)).trans (hF139.2.1 73 (by decide)))) (((hF206.2.1 63 (by decide)).trans (hF139.2.1 63 (by decide)))) (((hF206.2.1 234 (by decide)).trans (hF139.2.1 234 (by decide)))) (congrArg Int32.toInt (((hF206.1 59 4 (by decide)).trans (hF139.1 59 4 (by decide))))), CI1.cong hR_16 (((hF206.2.1 117 (by decide)).trans (hF139.2.1 117 (by decide)))) (((hF206.2.1 118 (by decide)).trans (hF139.2.1 118 (by decide)))) (((hF206.2.1 119 (by decide)).trans (hF139.2.1 119 (by decide)))) (((hF206.2.1 129 (by decide)).trans (hF139.2.1 129 (by decide)))) (((hF206.2.1 130 (by decide)).trans (hF139.2.1 130 (by decide)))) (((hF206.2.1 120 (by decide)).trans (hF139.2.1 120 (by decide)))) (((hF206.2.1 234 (by decide)).trans (hF139.2.1 234 (by decide)))) (congrArg Int32.toInt (((hF206.1 116 4 (by decide)).trans (hF139.1 116 4 (by decide))))), (show RT _ from fun i i0 i1 => (eA_ti (((hF206.2.1 175 (by decide)).trans (hF139.2.1 175 (by decide))))).trans ((hR_17 i i0 (by omega)).trans (eA_ti (((hF206.2.1 236 (by decide)).trans (hF139.2.1 236 (by decide))))).symm)), (show BYX _ from fun i i0 i1 => by rw [TX.c (((hF206.2.1 175 (by decide)).trans (hF139.2.1 175 (by decide))))]; exact hR_18 i i0 (by have i2 : i < (gI _ 174 1).toInt := i1; show i < (gI g0 174 1).toInt; omega)), (LAWR_c hR_19 (LSA_tr (LSA_tr LSA_rf (LSA_fr hF139 rfl)) (LSA_fr hF206 rfl)) (((hF206.1 1 6 (by decide)).trans (hF139.1 1 6 (by decide)))) (((hF206.1 59 6 (by decide)).trans (hF139.1 59 6 (by decide)))) (((hF206.1 116 6 (by decide)).trans (hF139.1 116 6 (by decide)))) (((hF206.2.1 173 (by decide)).trans (hF139.2.1 173 (by decide)))) (fun i i0 i1 => (R3_terms hI138 q213 i i0 i1).trans (eA_ti (hF139.2.1 233 (by decide)))) (((hF206.2.1 234 (by decide)).trans (hF139.2.1 234 (by decide)))) (TOLDX_fr hF206 rfl rfl rfl rfl (fe143.1 hR_19.2.2.2.2))), (SETX_fr hF206 rfl rfl rfl rfl rfl (fe143.2 hR_20))⟩)
  · refine r_callV 472 rfl [.ref 0, .int v2, .int v4] [] (Nat.le_of_ble_eq_true rfl) rfl (T_X10_terms_0 _ hI0 v2 v4) ?_
    rintro _ _ ⟨g268, rfl, hI269, hF270, v271, rfl, hr272⟩
    refine At.sti ?_
    have hF273 := Fr.tr hF0 hF270 rfl rfl
    have fe274 : PH _ := hr272.2.2
    replace hr272 := And.intro hr272.1 hr272.2.1
    obtain ⟨q275, q276⟩ := hr272
    obtain ⟨i278, i279, i280⟩ := q276
    have w277 := i280 pk5
    clear i278 i279 i280
    have f281 := congrArg Int32.toInt (hF270.1 1 0 rfl)
    have f282 := congrArg Int32.toInt (hF270.1 1 12 rfl)
    have f283 := congrArg Int32.toInt (hF270.1 1 4 rfl)
    have f284 := congrArg Int32.toInt (hF270.1 1 6 rfl)
    have f285 := congrArg Int32.toInt (hF270.1 1 9 rfl)
    have f286 := congrArg Int32.toInt (hF270.1 59 0 rfl)
    have f287 := congrArg Int32.toInt (hF270.1 59 12 rfl)
    have f288 := congrArg Int32.toInt (hF270.1 59 10 rfl)
    have f289 := congrArg Int32.toInt (hF270.1 59 11 rfl)
    have f290 := congrArg Int32.toInt (hF270.1 59 4 rfl)
    have f291 := congrArg Int32.toInt (hF270.1 59 6 rfl)
    have f292 := congrArg Int32.toInt (hF270.1 59 9 rfl)
    have f293 := congrArg Int32.toInt (hF270.1 116 0 rfl)
    have f294 := congrArg Int32.toInt (hF270.1 116 12 rfl)
    have f295 := congrArg Int32.toInt (hF270.1 116 10 rfl)
    have f296 := congrArg Int32.toInt (hF270.1 116 11 rfl)
    have f297 := congrArg Int32.toInt (hF270.1 116 4 rfl)
    have f298 := congrArg Int32.toInt (hF270.1 116 6 rfl)
    have f299 := congrArg Int32.toInt (hF270.1 116 9 rfl)
    have f300 := congrArg Int32.toInt (eA_c (j := 0) (hF270.2.1 173 rfl))
    have f301 := congrArg Int32.toInt (eA_c (j := 1) (hF270.2.1 173 rfl))
    have f302 := congrArg Int32.toInt (hF270.1 174 1 rfl)
    have f303 := congrArg Int32.toInt (hF270.1 0 16 rfl)
    have f304 := congrArg Int32.toInt (hF270.1 176 2 rfl)
    have f305 := congrArg Int32.toInt (eA_c (j := 0) (hF270.2.1 233 rfl))
    have f306 := congrArg Int32.toInt (eA_c (j := 4) (hF270.2.1 233 rfl))
    have f307 := congrArg Int32.toInt (eA_c (j := 5) (hF270.2.1 233 rfl))
    have f308 := congrArg Int32.toInt (eA_c (j := 6) (hF270.2.1 233 rfl))
    have f309 := congrArg Int32.toInt (eA_c (j := 1) (hF270.2.1 233 rfl))
    have f310 := congrArg Int32.toInt (eA_c (j := 2) (hF270.2.1 233 rfl))
    have f311 := congrArg Int32.toInt (eA_c (j := 3) (hF270.2.1 233 rfl))
    have f312 := congrArg Int32.toInt (eA_c (j := 0) (hF270.2.1 234 rfl))
    have f313 := congrArg Int32.toInt (eA_c (j := 4) (hF270.2.1 234 rfl))
    have f314 := congrArg Int32.toInt (eA_c (j := 5) (hF270.2.1 234 rfl))
    have f315 := congrArg Int32.toInt (eA_c (j := 6) (hF270.2.1 234 rfl))
    have f316 := congrArg Int32.toInt (eA_c (j := 1) (hF270.2.1 234 rfl))
    have f317 := congrArg Int32.toInt (eA_c (j := 2) (hF270.2.1 234 rfl))
    have f318 := congrArg Int32.toInt (eA_c (j := 3) (hF270.2.1 234 rfl))
    have f319 := congrArg Int32.toInt (eA_c (j := 5510) (hF270.2.1 234 rfl))
    have f320 := congrArg Int32.toInt (eA_c (j := 5514) (hF270.2.1 234 rfl))
    have f321 := congrArg Int32.toInt (eA_c (j := 5515) (hF270.2.1 234 rfl))
    have f322 := congrArg Int32.toInt (eA_c (j := 5516) (hF270.2.1 234 rfl))
    have f323 := congrArg Int32.toInt (eA_c (j := 5511) (hF270.2.1 234 rfl))
    have f324 := congrArg Int32.toInt (eA_c (j := 5512) (hF270.2.1 234 rfl))
    have f325 := congrArg Int32.toInt (eA_c (j := 5513) (hF270.2.1 234 rfl))
    have f326 := congrArg Int32.toInt (eA_c (j := 0) (hF270.2.1 235 rfl))
    have f327 := congrArg Int32.toInt (eA_c (j := 1) (hF270.2.1 235 rfl))
    have f328 := congrArg Int32.toInt (hF270.1 231 8 rfl)
    have f329 := congrArg Int32.toInt (hF270.1 231 6 rfl)
    have f330 := congrArg Int32.toInt (hF270.1 231 13 rfl)
    refine At.enter rfl ?_
    refine r_pop rfl ?_
    refine r_aload_n e2 ?_
    refine r_sload_n e0 ?_
    refine r_iload_n e3 ?_
    refine r_iconst 1 rfl ?_
    refine q_iadd (i.toInt + 1) rfl hx_1 (fun v331 hv331 => ?_)
    refine q_scald (m := L) hL (i.toInt + 1) hv331 hy_1 (fun v332 hv332 => ?_)
    have sv332 := hv2.symm.trans hv332
    subst sv332
    refine r_sload_n e0 ?_
    refine r_iload_n e3 ?_
    refine r_iconst 2 rfl ?_
    refine q_iadd (i.toInt + 2) rfl hx_2 (fun v333 hv333 => ?_)
    refine q_scald (m := L) hL (i.toInt + 2) hv333 hy_2 (fun v334 hv334 => ?_)
    have sv334 := hv4.symm.trans hv334
    subst sv334
    refine r_callV 487 rfl [.ref 231, .int v2, .int v4] [] (Nat.le_of_ble_eq_true rfl) rfl (T_X11_terms_231 _ hI269 v2 v4) ?_
    rintro _ _ ⟨g335, rfl, hI336, hF337, v338, rfl, hr339⟩
    refine At.sti ?_
    have hF340 := Fr.tr hF273 hF337 rfl rfl
    obtain ⟨q342, q343, q344⟩ := hr339
    obtain ⟨⟨i346, i347, i348⟩, sm349, sm350, sm351, sm352, sm353⟩ := q343
    have w345 := i348 pk5
    clear i346 i347 i348
    have f354 := congrArg Int32.toInt (hF337.1 1 0 rfl)
    have f355 := congrArg Int32.toInt (hF337.1 1 12 rfl)
    have f356 := congrArg Int32.toInt (hF337.1 1 10 rfl)
    have f357 := congrArg Int32.toInt (hF337.1 1 11 rfl)
    have f358 := congrArg Int32.toInt (hF337.1 1 4 rfl)
    have f359 := congrArg Int32.toInt (hF337.1 1 6 rfl)
    have f360 := congrArg Int32.toInt (hF337.1 1 9 rfl)
    have f361 := congrArg Int32.toInt (hF337.1 59 0 rfl)
    have f362 := congrArg Int32.toInt (hF337.1 59 12 rfl)
    have f363 := congrArg Int32.toInt (hF337.1 59 10 rfl)
    have f364 := congrArg Int32.toInt (hF337.1 59 11 rfl)
    have f365 := congrArg Int32.toInt (hF337.1 59 4 rfl)
    have f366 := congrArg Int32.toInt (hF337.1 59 6 rfl)
    have f367 := congrArg Int32.toInt (hF337.1 59 9 rfl)
    have f368 := congrArg Int32.toInt (hF337.1 116 0 rfl)
    have f369 := congrArg Int32.toInt (hF337.1 116 12 rfl)
    have f370 := congrArg Int32.toInt (hF337.1 116 10 rfl)
    have f371 := congrArg Int32.toInt (hF337.1 116 11 rfl)
    have f372 := congrArg Int32.toInt (hF337.1 116 4 rfl)
    have f373 := congrArg Int32.toInt (hF337.1 116 6 rfl)
    have f374 := congrArg Int32.toInt (hF337.1 116 9 rfl)
    have f375 := congrArg Int32.toInt (eA_c (j := 0) (hF337.2.1 173 rfl))
    have f376 := congrArg Int32.toInt (eA_c (j := 1) (hF337.2.1 173 rfl))
    have f377 := congrArg Int32.toInt (hF337.1 174 1 rfl)
    have f378 := congrArg Int32.toInt (hF337.1 0 16 rfl)
    have f379 := congrArg Int32.toInt (hF337.1 176 2 rfl)
    have f380 := congrArg Int32.toInt (eA_c (j := 0) (hF337.2.1 234 rfl))
    have f381 := congrArg Int32.toInt (eA_c (j := 4) (hF337.2.1 234 rfl))
    have f382 := congrArg Int32.toInt (eA_c (j := 5) (hF337.2.1 234 rfl))
    have f383 := congrArg Int32.toInt (eA_c (j := 6) (hF337.2.1 234 rfl))
    have f384 := congrArg Int32.toInt (eA_c (j := 1) (hF337.2.1 234 rfl))
    have f385 := congrArg Int32.toInt (eA_c (j := 2) (hF337.2.1 234 rfl))
    have f386 := congrArg Int32.toInt (eA_c (j := 3) (hF337.2.1 234 rfl))
    have f387 := congrArg Int32.toInt (eA_c (j := 5510) (hF337.2.1 234 rfl))
    have f388 := congrArg Int32.toInt (eA_c (j := 5514) (hF337.2.1 234 rfl))
    have f389 := congrArg Int32.toInt (eA_c (j := 5515) (hF337.2.1 234 rfl))
    have f390 := congrArg Int32.toInt (eA_c (j := 5516) (hF337.2.1 234 rfl))
    have f391 := congrArg Int32.toInt (eA_c (j := 5511) (hF337.2.1 234 rfl))
    have f392 := congrArg Int32.toInt (eA_c (j := 5512) (hF337.2.1 234 rfl))
    have f393 := congrArg Int32.toInt (eA_c (j := 5513) (hF337.2.1 234 rfl))
    have f394 := congrArg Int32.toInt (eA_c (j := 0) (hF337.2.1 235 rfl))
    have f395 := congrArg Int32.toInt (eA_c (j := 1) (hF337.2.1 235 rfl))
    have f396 := congrArg Int32.toInt (hF337.1 231 8 rfl)
    have f397 := congrArg Int32.toInt (hF337.1 231 6 rfl)
    have f398 := congrArg Int32.toInt (hF337.1 231 13 rfl)
    refine At.enter rfl ?_
    refine r_pop rfl ?_
    refine r_goto ?_
    exact K _ hI336 (show LwR _ from ⟨by omega, by omega, by omega, by omega, by omega, by omega, by omega, (eA_ti (j := 0) (((hF337.2.1 173 (by decide)).trans (hF270.2.1 173 (by decide))))).trans (hR_7.trans (eA_ti (j := 0) (((hF337.2.1 235 (by decide)).trans (hF270.2.1 235 (by decide))))).symm), (eA_ti (j := 1) (((hF337.2.1 173 (by decide)).trans (hF270.2.1 173 (by decide))))).trans (hR_8.trans (eA_ti (j := 1) (((hF337.2.1 235 (by decide)).trans (hF270.2.1 235 (by decide))))).symm), (congrArg Int32.toInt (((hF337.1 174 1 (by decide)).trans (hF270.1 174 1 (by decide))))).trans (hR_9.trans (congrArg Int32.toInt (((hF337.1 231 8 (by decide)).trans (hF270.1 231 8 (by decide))))).symm), (congrArg Int32.toInt (((hF337.1 0 16 (by decide)).trans (hF270.1 0 16 (by decide))))).trans (hR_10.trans (congrArg Int32.toInt (((hF337.1 231 6 (by decide)).trans (hF270.1 231 6 (by decide))))).symm), (congrArg Int32.toInt (((hF337.1 176 2 (by decide)).trans (hF270.1 176 2 (by decide))))).trans (hR_11.trans (congrArg Int32.toInt (((hF337.1 231 13 (by decide)).trans (hF270.1 231 13 (by decide))))).symm), IM0.cong hR_12 (eA_ti (j := 0) (((hF337.2.1 173 (by decide)).trans (hF270.2.1 173 (by decide))))) (congrArg Int32.toInt (((hF337.1 59 0 (by decide)).trans (hF270.1 59 0 (by decide))))) (eA_ti (j := 0) (((hF337.2.1 234 (by decide)).trans (hF270.2.1 234 (by decide))))) (congrArg Int32.toInt (((hF337.1 59 12 (by decide)).trans (hF270.1 59 12 (by decide))))) (eA_ti (j := 4) (((hF337.2.1 234 (by decide)).trans (hF270.2.1 234 (by decide))))) (congrArg Int32.toInt (((hF337.1 59 10 (by decide)).trans (hF270.1 59 10 (by decide))))) (eA_ti (j := 5) (((hF337.2.1 234 (by decide)).trans (hF270.2.1 234 (by decide))))) (congrArg Int32.toInt (((hF337.1 59 11 (by decide)).trans (hF270.1 59 11 (by decide))))) (eA_ti (j := 6) (((hF337.2.1 234 (by decide)).trans (hF270.2.1 234 (by decide))))) (congrArg Int32.toInt (((hF337.1 59 4 (by decide)).trans (hF270.1 59 4 (by decide))))) (eA_ti (j := 1) (((hF337.2.1 234 (by decide)).trans (hF270.2.1 234 (by decide))))) (congrArg Int32.toInt (((hF337.1 59 6 (by decide)).trans (hF270.1 59 6 (by decide))))) (eA_ti (j := 2) (((hF337.2.1 234 (by decide)).trans (hF270.2.1 234 (by decide))))) (congrArg Int32.toInt (((hF337.1 59 9 (by decide)).trans (hF270.1 59 9 (by decide))))) (eA_ti (j := 3) (((hF337.2.1 234 (by decide)).trans (hF270.2.1 234 (by decide))))), IM1.cong hR_13 (eA_ti (j := 1) (((hF337.2.1 173 (by decide)).trans (hF270.2.1 173 (by decide))))) (congrArg Int32.toInt (((hF337.1 116 0 (by decide)).trans (hF270.1 116 0 (by decide))))) (eA_ti (j := 5510) (((hF337.2.1 234 (by decide)).trans (hF270.2.1 234 (by decide))))) (congrArg Int32.toInt (((hF337.1 116 12 (by decide)).trans (hF270.1 116 12 (by decide))))) (eA_ti (j := 5514) (((hF337.2.1 234 (by decide)).trans (hF270.2.1 234 (by decide))))) (congrArg Int32.toInt (((hF337.1 116 10 (by decide)).trans (hF270.1 116 10 (by decide))))) (eA_ti (j := 5515) (((hF337.2.1 234 (by decide)).trans (hF270.2.1 234 (by decide))))) (congrArg Int32.toInt (((hF337.1 116 11 (by decide)).trans (hF270.1 116 11 (by decide))))) (eA_ti (j := 5516) (((hF337.2.1 234 (by decide)).trans (hF270.2.1 234 (by decide))))) (congrArg Int32.toInt (((hF337.1 116 4 (by decide)).trans (hF270.1 116 4 (by decide))))) (eA_ti (j := 5511) (((hF337.2.1 234 (by decide)).trans (hF270.2.1 234 (by decide))))) (congrArg Int32.toInt (((hF337.1 116 6 (by decide)).trans (hF270.1 116 6 (by decide))))) (eA_ti (j := 5512) (((hF337.2.1 234 (by decide)).trans (hF270.2.1 234 (by decide))))) (congrArg Int32.toInt (((hF337.1 116 9 (by decide)).trans (hF270.1 116 9 (by decide))))) (eA_ti (j := 5513) (((hF337.2.1 234 (by decide)).trans (hF270.2.1 234 (by decide))))), (show CT _ from ⟨fun i i0 i1 => ⟨(by have t0_ := hI0.t0; have t1_ := hI0.t1; have o := (hR_14.1 i i0 i1).1; have x := eA_ti (j := i) (((hF337.2.1 2 (by decide)).trans (hF270.2.1 2 (by decide)))); have m := q344 (10 + 3 * i) (by omega) (by omega); have y1 := eA_ti (j := ((10 + 3 * i))) (hF270.2.1 233 (by decide)); first | exact x.trans (o.trans (m.trans y1).symm) | omega), (by have t0_ := hI0.t0; have t1_ := hI0.t1; have o := (hR_14.1 i i0 i1).2.1; have x := eA_ti (j := i) (((hF337.2.1 3 (by decide)).trans (hF270.2.1 3 (by decide)))); have m := q344 (10 + 3 * i + 1) (by omega) (by omega); have y1 := eA_ti (j := ((10 + 3 * i + 1))) (hF270.2.1 233 (by decide)); first | exact x.trans (o.trans (m.trans y1).symm) | omega), (by have t0_ := hI0.t0; have t1_ := hI0.t1; have o := (hR_14.1 i i0 i1).2.2; have x := eA_ti (j := i) (((hF337.2.1 4 (by decide)).trans (hF270.2.1 4 (by decide)))); have m := q344 (10 + 3 * i + 2) (by omega) (by omega); have y1 := eA_ti (j := ((10 + 3 * i + 2))) (hF270.2.1 233 (by decide)); first | exact x.trans (o.trans (m.trans y1).symm) | omega)⟩, fun i i0 i1 => ⟨(by have t0_ := hI0.t0; have t1_ := hI0.t1; have o := (hR_14.2.1 i i0 i1).1; have x := eA_ti (j := i) (((hF337.2.1 14 (by decide)).trans (hF270.2.1 14 (by decide)))); have m := q344 (94 + 2 * i) (by omega) (by omega); have y1 := eA_ti (j := ((94 + 2 * i))) (hF270.2.1 233 (by decide)); first | exact x.trans (o.trans (m.trans y1).symm) | omega), (by have t0_ := hI0.t0; have t1_ := hI0.t1; have o := (hR_14.2.1 i i0 i1).2; have x := eA_ti (j := i) (((hF337.2.1 15 (by decide)).trans (hF270.2.1 15 (by decide)))); have m := q344 (94 + 2 * i + 1) (by omega) (by omega); have y1 := eA_ti (j := ((94 + 2 * i + 1))) (hF270.2.1 233 (by decide)); first | exact x.trans (o.trans (m.trans y1).symm) | omega)⟩, fun i i0 i1 => (by have t0_ := hI0.t0; have t1_ := hI0.t1; have o : i < 6 * (gI g0 1 4).toInt → _ := fun hz => hR_14.2.2 i i0 hz; have x := eA_ti (j := i) (((hF337.2.1 5 (by decide)).trans (hF270.2.1 5 (by decide)))); have m := q344 (46 + i) (by omega) (by omega); have y1 := eA_ti (j := ((46 + i))) (hF270.2.1 233 (by decide)); omega)⟩), CI0.cong hR_15 (((hF337.2.1 60 (by decide)).trans (hF270.2.1 60 (by decide)))) (((hF337.2.1 61 (by decide)).trans (hF270.2.1 61 (by decide)))) (((hF337.2.1 62 (by decide)).trans (hF270.2.1 62 (by decide)))) (((hF337.2.1 72 (by decide)).trans (hF270.2.1 72 (by decide)))) (((hF337.2.1 73 (by decide)).trans (hF270.2.1 73 (by decide)))) (((hF337.2.1 63 (by decide)).trans (hF270.2.1 63 (by decide)))) (((hF337.2.1 234 (by decide)).trans (hF270.2.1 234 (by decide)))) (congrArg Int32.toInt (((hF337.1 59 4 (by decide)).trans (hF270.1 59 4 (by decide))))), CI1.cong hR_16 (((hF337.2.1 117 (by decide)).trans (hF270.2.1 117 (by decide)))) (((hF337.2.1 118 (by decide)).trans (hF270.2.1 118 (by decide)))) (((hF337.2.1 119 (by decide)).trans (hF270.2.1 119 (by decide)))) (((hF337.2.1 129 (by decide)).trans (hF270.2.1 129 (by decide)))) (((hF337.2.1 130 (by decide)).trans (hF270.2.1 130 (by decide)))) (((hF337.2.1 120 (by decide)).trans (hF270.2.1 120 (by decide)))) (((hF337.2.1 234 (by decide)).trans (hF270.2.1 234 (by decide)))) (congrArg Int32.toInt (((hF337.1 116 4 (by decide)).trans (hF270.1 116 4 (by decide))))), (show RT _ from fun i i0 i1 => (eA_ti (((hF337.2.1 175 (by decide)).trans (hF270.2.1 175 (by decide))))).trans ((hR_17 i i0 (by omega)).trans (eA_ti (((hF337.2.1 236 (by decide)).trans (hF270.2.1 236 (by decide))))).symm)), (show BYX _ from fun i i0 i1 => by rw [TX.c (((hF337.2.1 175 (by decide)).trans (hF270.2.1 175 (by decide))))]; exact hR_18 i i0 (by have i2 : i < (gI _ 174 1).toInt := i1; show i < (gI g0 174 1).toInt; omega)), (LAWR_c hR_19 (LSA_tr (LSA_tr LSA_rf (LSA_fr hF270 rfl)) (LSA_fr hF337 rfl)) (((hF337.1 1 6 (by decide)).trans (hF270.1 1 6 (by decide)))) (((hF337.1 59 6 (by decide)).trans (hF270.1 59 6 (by decide)))) (((hF337.1 116 6 (by decide)).trans (hF270.1 116 6 (by decide)))) (((hF337.2.1 173 (by decide)).trans (hF270.2.1 173 (by decide)))) (fun i i0 i1 => (R3_terms hI269 q344 i i0 i1).trans (eA_ti (hF270.2.1 233 (by decide)))) (((hF337.2.1 234 (by decide)).trans (hF270.2.1 234 (by decide)))) (TOLDX_fr hF337 rfl rfl rfl rfl (fe274.1 hR_19.2.2.2.2))), (SETX_fr hF337 rfl rfl rfl rfl rfl (fe274.2 hR_20))⟩)
