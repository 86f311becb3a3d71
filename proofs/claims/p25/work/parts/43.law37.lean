set_option maxRecDepth 100000 in
set_option maxHeartbeats 8000000 in
theorem lq_c37 (d : Nat) {N : Nat} {g0 : List en_E} (hI0 : HI g0) (hR0 : LwR g0) {ys : List Int32} {L : Nat} (hL : ys.length = L) (hL2 : L ≤ 3584) {l : en_L} {i : Int32} (e0 : en_get 0 l = some (.float 0)) (e1 : en_get 1 l = some (.ref 0)) (e2 : en_get 2 l = some (.ref 231)) (e3 : en_get 3 l = some (.int i)) (hi : 0 ≤ i.toInt ∧ i.toInt + 7 ≤ L) {Ph : Option Value → en_H → Prop} (K : ∀ g1 : List en_E, HI g1 → LwR g1 → At (d + 423) (some ys) (some .boolean) bs_L_law (1330, l, [], (g1, N)) Ph) : At (d + 423) (some ys) (some .boolean) bs_L_law (1271, l, [], (g0, N)) Ph := by
  have hF0 : Fr F_law A_law g0 g0 := Fr.rf
  have hx_1 : -2147483648 ≤ i.toInt + 1 ∧ i.toInt + 1 ≤ 2147483647 := by omega
  have hx_2 : -2147483648 ≤ i.toInt + 2 ∧ i.toInt + 2 ≤ 2147483647 := by omega
  have hx_3 : -2147483648 ≤ i.toInt + 3 ∧ i.toInt + 3 ≤ 2147483647 := by omega
  have hx_4 : -2147483648 ≤ i.toInt + 4 ∧ i.toInt + 4 ≤ 2147483647 := by omega
  have hx_5 : -2147483648 ≤ i.toInt + 5 ∧ i.toInt + 5 ≤ 2147483647 := by omega
  have hx_6 : -2147483648 ≤ i.toInt + 6 ∧ i.toInt + 6 ≤ 2147483647 := by omega
  have hy_0 : 0 ≤ i.toInt ∧ i.toInt < (L : Int) := by omega
  have hy_1 : 0 ≤ i.toInt + 1 ∧ i.toInt + 1 < (L : Int) := by omega
  have hy_2 : 0 ≤ i.toInt + 2 ∧ i.toInt + 2 < (L : Int) := by omega
  have hy_3 : 0 ≤ i.toInt + 3 ∧ i.toInt + 3 < (L : Int) := by omega
  have hy_4 : 0 ≤ i.toInt + 4 ∧ i.toInt + 4 < (L : Int) := by omega
  have hy_5 : 0 ≤ i.toInt + 5 ∧ i.toInt + 5 < (L : Int) := by omega
  have hy_6 : 0 ≤ i.toInt + 6 ∧ i.toInt + 6 < (L : Int) := by omega
  unfold LwR at hR0
  obtain ⟨hR_0, hR_1, hR_2, hR_3, hR_4, hR_5, hR_6, hR_7, hR_8, hR_9, hR_10, hR_11, hR_12, hR_13, hR_14, hR_15, hR_16, hR_17, hR_18, hR_19, hR_20⟩ := hR0
  refine At.enter rfl ?_
  refine r_aload_n e1 ?_
  refine r_sload_n e0 ?_
  refine r_iload_n e3 ?_
  refine r_iconst 1 rfl ?_
  refine q_iadd (i.toInt + 1) rfl hx_1 (fun v1 hv1 => ?_)
  refine q_scald (m := L) hL (i.toInt + 1) hv1 hy_1 (fun v2 hv2 => ?_)
  rcases (show (v2.toInt = 0 ∧ ¬ (eA g0 173 0).toInt = 0) ∨ (v2.toInt = 0 ∧ (eA g0 173 0).toInt = 0) ∨ (v2.toInt = 1 ∧ ¬ (eA g0 173 1).toInt = 0) ∨ (v2.toInt = 1 ∧ (eA g0 173 1).toInt = 0) ∨ (v2.toInt < 0 ∨ 1 < v2.toInt) by omega) with u3 | u3 | u3 | u3 | u3
  · have n5_e : v2.toInt = 0 := by omega
    have n5_1 : v2.toInt ≠ 1 := by omega
    have n5_k : (eA g0 173 0).toInt ≠ 0 := by omega
    have n5_i := hR_12 (by omega)
    refine r_callV 1280 rfl [.ref 0, .int v2] [] (Nat.le_of_ble_eq_true rfl) rfl (T_X10_back_0 _ hI0 v2) ?_
    rintro _ _ ⟨g6, rfl, hI7, hF8, v9, rfl, hr10⟩
    refine At.sti ?_
    have hF11 := Fr.tr hF0 hF8 rfl rfl
    have fe12 : PH _ := hr10.2.2
    replace hr10 := And.intro hr10.1 hr10.2.1
    have fe13 : PH _ := hr10.2.2
    replace hr10 := And.intro hr10.1 hr10.2.1
    obtain ⟨q14, q15, q16, q17, q18, q19, q20, q21⟩ := hr10
    obtain ⟨p22, p23, p24, p25, p26, p27⟩ := (And.intro q14 q15)
    have w28 := p23 ⟨n5_e, n5_k⟩
    clear p23 p24 p25 p26 p27
    clear q15
    have f31 := congrArg Int32.toInt (hF8.1 59 0 rfl)
    have f32 := congrArg Int32.toInt (hF8.1 59 12 rfl)
    have f33 := congrArg Int32.toInt (hF8.1 59 10 rfl)
    have f34 := congrArg Int32.toInt (hF8.1 59 11 rfl)
    have f35 := congrArg Int32.toInt (hF8.1 59 4 rfl)
    have f36 := congrArg Int32.toInt (hF8.1 59 6 rfl)
    have f37 := congrArg Int32.toInt (hF8.1 59 9 rfl)
    have f38 := congrArg Int32.toInt (hF8.1 116 0 rfl)
    have f39 := congrArg Int32.toInt (hF8.1 116 12 rfl)
    have f40 := congrArg Int32.toInt (hF8.1 116 10 rfl)
    have f41 := congrArg Int32.toInt (hF8.1 116 11 rfl)
    have f42 := congrArg Int32.toInt (hF8.1 116 4 rfl)
    have f43 := congrArg Int32.toInt (hF8.1 116 6 rfl)
    have f44 := congrArg Int32.toInt (hF8.1 116 9 rfl)
    have f45 := congrArg Int32.toInt (eA_c (j := 0) (hF8.2.1 173 rfl))
    have f46 := congrArg Int32.toInt (eA_c (j := 1) (hF8.2.1 173 rfl))
    have f47 := congrArg Int32.toInt (hF8.1 174 1 rfl)
    have f48 := congrArg Int32.toInt (hF8.1 0 16 rfl)
    have f49 := congrArg Int32.toInt (hF8.1 176 2 rfl)
    have f50 := congrArg Int32.toInt (eA_c (j := 0) (hF8.2.1 233 rfl))
    have f51 := congrArg Int32.toInt (eA_c (j := 4) (hF8.2.1 233 rfl))
    have f52 := congrArg Int32.toInt (eA_c (j := 5) (hF8.2.1 233 rfl))
    have f53 := congrArg Int32.toInt (eA_c (j := 6) (hF8.2.1 233 rfl))
    have f54 := congrArg Int32.toInt (eA_c (j := 1) (hF8.2.1 233 rfl))
    have f55 := congrArg Int32.toInt (eA_c (j := 2) (hF8.2.1 233 rfl))
    have f56 := congrArg Int32.toInt (eA_c (j := 3) (hF8.2.1 233 rfl))
    have f57 := congrArg Int32.toInt (eA_c (j := 0) (hF8.2.1 234 rfl))
    have f58 := congrArg Int32.toInt (eA_c (j := 4) (hF8.2.1 234 rfl))
    have f59 := congrArg Int32.toInt (eA_c (j := 5) (hF8.2.1 234 rfl))
    have f60 := congrArg Int32.toInt (eA_c (j := 6) (hF8.2.1 234 rfl))
    have f61 := congrArg Int32.toInt (eA_c (j := 1) (hF8.2.1 234 rfl))
    have f62 := congrArg Int32.toInt (eA_c (j := 2) (hF8.2.1 234 rfl))
    have f63 := congrArg Int32.toInt (eA_c (j := 3) (hF8.2.1 234 rfl))
    have f64 := congrArg Int32.toInt (eA_c (j := 5510) (hF8.2.1 234 rfl))
    have f65 := congrArg Int32.toInt (eA_c (j := 5514) (hF8.2.1 234 rfl))
    have f66 := congrArg Int32.toInt (eA_c (j := 5515) (hF8.2.1 234 rfl))
    have f67 := congrArg Int32.toInt (eA_c (j := 5516) (hF8.2.1 234 rfl))
    have f68 := congrArg Int32.toInt (eA_c (j := 5511) (hF8.2.1 234 rfl))
    have f69 := congrArg Int32.toInt (eA_c (j := 5512) (hF8.2.1 234 rfl))
    have f70 := congrArg Int32.toInt (eA_c (j := 5513) (hF8.2.1 234 rfl))
    have f71 := congrArg Int32.toInt (eA_c (j := 0) (hF8.2.1 235 rfl))
    have f72 := congrArg Int32.toInt (eA_c (j := 1) (hF8.2.1 235 rfl))
    have f73 := congrArg Int32.toInt (hF8.1 231 8 rfl)
    have f74 := congrArg Int32.toInt (hF8.1 231 6 rfl)
    have f75 := congrArg Int32.toInt (hF8.1 231 13 rfl)
    refine At.enter rfl ?_
    refine r_pop rfl ?_
    refine r_aload_n e2 ?_
    refine r_sload_n e0 ?_
    refine r_iload_n e3 ?_
    refine r_iconst 1 rfl ?_
    refine q_iadd (i.toInt + 1) rfl hx_1 (fun v76 hv76 => ?_)
    refine q_scald (m := L) hL (i.toInt + 1) hv76 hy_1 (fun v77 hv77 => ?_)
    have sv77 := hv2.symm.trans hv77
    subst sv77
    have n78_e : v2.toInt = 0 := by omega
    have n78_1 : v2.toInt ≠ 1 := by omega
    have n78_k : (eA g6 235 0).toInt ≠ 0 := by omega
    refine r_callV 1290 rfl [.ref 231, .int v2] [] (Nat.le_of_ble_eq_true rfl) rfl (T_X11_back_231 _ hI7 v2) ?_
    rintro _ _ ⟨g79, rfl, hI80, hF81, v82, rfl, hr83⟩
    refine At.sti ?_
    have hF84 := Fr.tr hF11 hF81 rfl rfl
    obtain ⟨q86, q87, q88⟩ := hr83
    obtain ⟨p89, p90, p91, p92, p93, p94⟩ := (And.intro q86 q87)
    have w95 := p90 ⟨n78_e, n78_k⟩
    clear p90 p91 p92 p93 p94
    clear q87
    have f98 := congrArg Int32.toInt (hF81.1 1 0 rfl)
    have f99 := congrArg Int32.toInt (hF81.1 1 12 rfl)
    have f100 := congrArg Int32.toInt (hF81.1 1 10 rfl)
    have f101 := congrArg Int32.toInt (hF81.1 1 11 rfl)
    have f102 := congrArg Int32.toInt (hF81.1 1 4 rfl)
    have f103 := congrArg Int32.toInt (hF81.1 1 6 rfl)
    have f104 := congrArg Int32.toInt (hF81.1 1 9 rfl)
    have f105 := congrArg Int32.toInt (hF81.1 59 0 rfl)
    have f106 := congrArg Int32.toInt (hF81.1 59 12 rfl)
    have f107 := congrArg Int32.toInt (hF81.1 59 10 rfl)
    have f108 := congrArg Int32.toInt (hF81.1 59 11 rfl)
    have f109 := congrArg Int32.toInt (hF81.1 59 4 rfl)
    have f110 := congrArg Int32.toInt (hF81.1 59 6 rfl)
    have f111 := congrArg Int32.toInt (hF81.1 59 9 rfl)
    have f112 := congrArg Int32.toInt (hF81.1 116 0 rfl)
    have f113 := congrArg Int32.toInt (hF81.1 116 12 rfl)
    have f114 := congrArg Int32.toInt (hF81.1 116 10 rfl)
    have f115 := congrArg Int32.toInt (hF81.1 116 11 rfl)
    have f116 := congrArg Int32.toInt (hF81.1 116 4 rfl)
    have f117 := congrArg Int32.toInt (hF81.1 116 6 rfl)
    have f118 := congrArg Int32.toInt (hF81.1 116 9 rfl)
    have f119 := congrArg Int32.toInt (eA_c (j := 0) (hF81.2.1 173 rfl))
    have f120 := congrArg Int32.toInt (eA_c (j := 1) (hF81.2.1 173 rfl))
    have f121 := congrArg Int32.toInt (hF81.1 174 1 rfl)
    have f122 := congrArg Int32.toInt (hF81.1 0 16 rfl)
    have f123 := congrArg Int32.toInt (hF81.1 176 2 rfl)
    have f124 := congrArg Int32.toInt (eA_c (j := 0) (hF81.2.1 234 rfl))
    have f125 := congrArg Int32.toInt (eA_c (j := 4) (hF81.2.1 234 rfl))
    have f126 := congrArg Int32.toInt (eA_c (j := 5) (hF81.2.1 234 rfl))
    have f127 := congrArg Int32.toInt (eA_c (j := 6) (hF81.2.1 234 rfl))
    have f128 := congrArg Int32.toInt (eA_c (j := 1) (hF81.2.1 234 rfl))
    have f129 := congrArg Int32.toInt (eA_c (j := 2) (hF81.2.1 234 rfl))
    have f130 := congrArg Int32.toInt (eA_c (j := 3) (hF81.2.1 234 rfl))
    have f131 := congrArg Int32.toInt (eA_c (j := 5510) (hF81.2.1 234 rfl))
    have f132 := congrArg Int32.toInt (eA_c (j := 5514) (hF81.2.1 234 rfl))
    have f133 := congrArg Int32.toInt (eA_c (j := 5515) (hF81.2.1 234 rfl))
    have f134 := congrArg Int32.toInt (eA_c (j := 5516) (hF81.2.1 234 rfl))
    have f135 := congrArg Int32.toInt (eA_c (j := 5511) (hF81.2.1 234 rfl))
    have f136 := congrArg Int32.toInt (eA_c (j := 5512) (hF81.2.1 234 rfl))
    have f137 := congrArg Int32.toInt (eA_c (j := 5513) (hF81.2.1 234 rfl))
    have f138 := congrArg Int32.toInt (eA_c (j := 0) (hF81.2.1 235 rfl))
    have f139 := congrArg Int32.toInt (eA_c (j := 1) (hF81.2.1 235 rfl))
    have f140 := congrArg Int32.toInt (hF81.1 231 8 rfl)
    have f141 := congrArg Int32.toInt (hF81.1 231 6 rfl)
    have f142 := congrArg Int32.toInt (hF81.1 231 13 rfl)
    refine At.enter rfl ?_
    refine r_pop rfl ?_
    refine r_goto ?_
    exact K _ hI80 (show LwR _ from ⟨by omega, by omega, by omega, by omega, by omega, by omega, by omega, (eA_ti (j := 0) (((hF81.2.1 173 (by decide)).trans (hF8.2.1 173 (by decide))))).trans (hR_7.trans (eA_ti (j := 0) (((hF81.2.1 235 (by decide)).trans (hF8.2.1 235 (by decide))))).symm), (eA_ti (j := 1) (((hF81.2.1 173 (by decide)).trans (hF8.2.1 173 (by decide))))).trans (hR_8.trans (eA_ti (j := 1) (((hF81.2.1 235 (by decide)).trans (hF8.2.1 235 (by decide))))).symm), (congrArg Int32.toInt (((hF81.1 174 1 (by decide)).trans (hF8.1 174 1 (by decide))))).trans (hR_9.trans (congrArg Int32.toInt (((hF81.1 231 8 (by decide)).trans (hF8.1 231 8 (by decide))))).symm), (congrArg Int32.toInt (((hF81.1 0 16 (by decide)).trans (hF8.1 0 16 (by decide))))).trans (hR_10.trans (congrArg Int32.toInt (((hF81.1 231 6 (by decide)).trans (hF8.1 231 6 (by decide))))).symm), (congrArg Int32.toInt (((hF81.1 176 2 (by decide)).trans (hF8.1 176 2 (by decide))))).trans (hR_11.trans (congrArg Int32.toInt (((hF81.1 231 13 (by decide)).trans (hF8.1 231 13 (by decide))))).symm), IM0.cong hR_12 (eA_ti (j := 0) (((hF81.2.1 173 (by decide)).trans (hF8.2.1 173 (by decide))))) (congrArg Int32.toInt (((hF81.1 59 0 (by decide)).trans (hF8.1 59 0 (by decide))))) (eA_ti (j := 0) (((hF81.2.1 234 (by decide)).trans (hF8.2.1 234 (by decide))))) (congrArg Int32.toInt (((hF81.1 59 12 (by decide)).trans (hF8.1 59 12 (by decide))))) (eA_ti (j := 4) (((hF81.2.1 234 (by decide)).trans (hF8.2.1 234 (by decide))))) (congrArg Int32.toInt (((hF81.1 59 10 (by decide)).trans (hF8.1 59 10 (by decide))))) (eA_ti (j := 5) (((hF81.2.1 234 (by decide)).trans (hF8.2.1 234 (by decide))))) (congrArg Int32.toInt (((hF81.1 59 11 (by decide)).trans (hF8.1 59 11 (by decide))))) (eA_ti (j := 6) (((hF81.2.1 234 (by decide)).trans (hF8.2.1 234 (by decide))))) (congrArg Int32.toInt (((hF81.1 59 4 (by decide)).trans (hF8.1 59 4 (by decide))))) (eA_ti (j := 1) (((hF81.2.1 234 (by decide)).trans (hF8.2.1 234 (by decide))))) (congrArg Int32.toInt (((hF81.1 59 6 (by decide)).trans (hF8.1 59 6 (by decide))))) (eA_ti (j := 2) (((hF81.2.1 234 (by decide)).trans (hF8.2.1 234 (by decide))))) (congrArg Int32.toInt (((hF81.1 59 9 (by decide)).trans (hF8.1 59 9 (by decide))))) (eA_ti (j := 3) (((hF81.2.1 234 (by decide)).trans (hF8.2.1 234 (by decide))))), IM1.cong hR_13 (eA_ti (j := 1) (((hF81.2.1 173 (by decide)).trans (hF8.2.1 173 (by decide))))) (congrArg Int32.toInt (((hF81.1 116 0 (by decide)).trans (hF8.1 116 0 (by decide))))) (eA_ti (j := 5510) (((hF81.2.1 234 (by decide)).trans (hF8.2.1 234 (by decide))))) (congrArg Int32.toInt (((hF81.1 116 12 (by decide)).trans (hF8.1 116 12 (by decide))))) (eA_ti (j := 5514) (((hF81.2.1 234 (by decide)).trans (hF8.2.1 234 (by decide))))) (congrArg Int32.toInt (((hF81.1 116 10 (by decide)).trans (hF8.1 116 10 (by decide))))) (eA_ti (j := 5515) (((hF81.2.1 234 (by decide)).trans (hF8.2.1 234 (by decide))))) (congrArg Int32.toInt (((hF81.1 116 11 (by decide)).trans (hF8.1 116 11 (by decide))))) (eA_ti (j := 5516) (((hF81.2.1 234 (by decide)).trans (hF8.2.1 234 (by decide))))) (congrArg Int32.toInt (((hF81.1 116 4 (by decide)).trans (hF8.1 116 4 (by decide))))) (eA_ti (j := 5511) (((hF81.2.1 234 (by decide)).trans (hF8.2.1 234 (by decide))))) (congrArg Int32.toInt (((hF81.1 116 6 (by decide)).trans (hF8.1 116 6 (by decide))))) (eA_ti (j := 5512) (((hF81.2.1 234 (by decide)).trans (hF8.2.1 234 (by decide))))) (congrArg Int32.toInt (((hF81.1 116 9 (by decide)).trans (hF8.1 116 9 (by decide))))) (eA_ti (j := 5513) (((hF81.2.1 234 (by decide)).trans (hF8.2.1 234 (by decide))))), (show CT _ from ⟨fun i i0 i1 => ⟨(by have t0_ := hI0.t0; have t1_ := hI0.t1; have o := (hR_14.1 i i0 i1).1; have o0 := (hR_15.1 i i0 i1).1; have o1 := (hR_16.1 i i0 i1).1; have x := (eA_ti (j := i) (hF81.2.1 2 (by decide))).trans (q16 i i0 i1); have m := q88 (10 + 3 * i) (by omega) (by omega); have y1 := eA_ti (j := ((10 + 3 * i))) (hF8.2.1 234 (by decide)); have y2 := eA_ti (j := (5510 + ((10 + 3 * i)))) (hF8.2.1 234 (by decide)); have y3 := eA_ti (j := ((10 + 3 * i))) (hF8.2.1 233 (by decide)); (try split at x) <;> (try split at x) <;> (try split at m) <;> (try split at m) <;> omega), (by have t0_ := hI0.t0; have t1_ := hI0.t1; have o := (hR_14.1 i i0 i1).2.1; have o0 := (hR_15.1 i i0 i1).2.1; have o1 := (hR_16.1 i i0 i1).2.1; have x := (eA_ti (j := i) (hF81.2.1 3 (by decide))).trans (q17 i i0 i1); have m := q88 (10 + 3 * i + 1) (by omega) (by omega); have y1 := eA_ti (j := ((10 + 3 * i + 1))) (hF8.2.1 234 (by decide)); have y2 := eA_ti (j := (5510 + ((10 + 3 * i + 1)))) (hF8.2.1 234 (by decide)); have y3 := eA_ti (j := ((10 + 3 * i + 1))) (hF8.2.1 233 (by decide)); (try split at x) <;> (try split at x) <;> (try split at m) <;> (try split at m) <;> omega), (by have t0_ := hI0.t0; have t1_ := hI0.t1; have o := (hR_14.1 i i0 i1).2.2; have o0 := (hR_15.1 i i0 i1).2.2; have o1 := (hR_16.1 i i0 i1).2.2; have x := (eA_ti (j := i) (hF81.2.1 4 (by decide))).trans (q18 i i0 i1); have m := q88 (10 + 3 * i + 2) (by omega) (by omega); have y1 := eA_ti (j := ((10 + 3 * i + 2))) (hF8.2.1 234 (by decide)); have y2 := eA_ti (j := (5510 + ((10 + 3 * i + 2)))) (hF8.2.1 234 (by decide)); have y3 := eA_ti (j := ((10 + 3 * i + 2))) (hF8.2.1 233 (by decide)); (try split at x) <;> (try split at x) <;> (try split at m) <;> (try split at m) <;> omega)⟩, fun i i0 i1 => ⟨(by have t0_ := hI0.t0; have t1_ := hI0.t1; have o := (hR_14.2.1 i i0 i1).1; have o0 := (hR_15.2.1 i i0 i1).1; have o1 := (hR_16.2.1 i i0 i1).1; have x := (eA_ti (j := i) (hF81.2.1 14 (by decide))).trans (q19 i i0 i1); have m := q88 (94 + 2 * i) (by omega) (by omega); have y1 := eA_ti (j := ((94 + 2 * i))) (hF8.2.1 234 (by decide)); have y2 := eA_ti (j := (5510 + ((94 + 2 * i)))) (hF8.2.1 234 (by decide)); have y3 := eA_ti (j := ((94 + 2 * i))) (hF8.2.1 233 (by decide)); (try split at x) <;> (try split at x) <;> (try split at m) <;> (try split at m) <;> omega), (by have t0_ := hI0.t0; have t1_ := hI0.t1; have o := (hR_14.2.1 i i0 i1).2; have o0 := (hR_15.2.1 i i0 i1).2; have o1 := (hR_16.2.1 i i0 i1).2; have x := (eA_ti (j := i) (hF81.2.1 15 (by decide))).trans (q20 i i0 i1); have m := q88 (94 + 2 * i + 1) (by omega) (by omega); have y1 := eA_ti (j := ((94 + 2 * i + 1))) (hF8.2.1 234 (by decide)); have y2 := eA_ti (j := (5510 + ((94 + 2 * i + 1)))) (hF8.2.1 234 (by decide)); have y3 := eA_ti (j := ((94 + 2 * i + 1))) (hF8.2.1 233 (by decide)); (try split at x) <;> (try split at x) <;> (try split at m) <;> (try split at m) <;> omega)⟩, fun i i0 i1 => (by have t0_ := hI0.t0; have t1_ := hI0.t1; have o : i < 6 * (gI g0 1 4).toInt → _ := fun hz => hR_14.2.2 i i0 hz; have o0 : i < 6 * (gI g0 59 4).toInt → _ := fun hz => hR_15.2.2 i i0 hz; have o1 : i < 6 * (gI g0 116 4).toInt → _ := fun hz => hR_16.2.2 i i0 hz; have t9_ := RgF.at hI80.2.1 (p := 1) (b := 4) rfl; dsimp only at t9_; have i9_ : i < 48 := (by omega); have x := (eA_ti (j := i) (hF81.2.1 5 (by decide))).trans (q21 i i0 i9_); have m := q88 (46 + i) (by omega) (by omega); have y1 := eA_ti (j := ((46 + i))) (hF8.2.1 234 (by decide)); have y2 := eA_ti (j := (5510 + ((46 + i)))) (hF8.2.1 234 (by decide)); have y3 := eA_ti (j := ((46 + i))) (hF8.2.1 233 (by decide)); (try split at x) <;> (try split at x) <;> (try split at m) <;> (try split at m) <;> omega)⟩), CI0.cong hR_15 (((hF81.2.1 60 (by decide)).trans (hF8.2.1 60 (by decide)))) (((hF81.2.1 61 (by decide)).trans (hF8.2.1 61 (by decide)))) (((hF81.2.1 62 (by decide)).trans (hF8.2.1 62 (by decide)))) (((hF81.2.1 72 (by decide)).trans (hF8.2.1 72 (by decide)))) (((hF81.2.1 73 (by decide)).trans (hF8.2.1 73 (by decide)))) (((hF81.2.1 63 (by decide)).trans (hF8.2.1 63 (by decide)))) (((hF81.2.1 234 (by decide)).trans (hF8.2.1 234 (by decide)))) (congrArg Int32.toInt (((hF81.1 59 4 (by decide)).trans (hF8.1 59 4 (by decide))))), CI1.cong hR_16 (((hF81.2.1 117 (by decide)).trans (hF8.2.1 117 (by decide)))) (((hF81.2.1 118 (by decide)).trans (hF8.2.1 118 (by decide)))) (((hF81.2.1 119 (by decide)).trans (hF8.2.1 119 (by decide)))) (((hF81.2.1 129 (by decide)).trans (hF8.2.1 129 (by decide)))) (((hF81.2.1 130 (by decide)).trans (hF8.2.1 130 (by decide)))) (((hF81.2.1 120 (by decide)).trans (hF8.2.1 120 (by decide)))) (((hF81.2.1 234 (by decide)).trans (hF8.2.1 234 (by decide)))) (congrArg Int32.toInt (((hF81.1 116 4 (by decide)).trans (hF8.1 116 4 (by decide))))), (show RT _ from fun i i0 i1 => (eA_ti (((hF81.2.1 175 (by decide)).trans (hF8.2.1 175 (by decide))))).trans ((hR_17 i i0 (by omega)).trans (eA_ti (((hF81.2.1 236 (by decide)).trans (hF8.2.1 236 (by decide))))).symm)), (show BYX _ from fun i i0 i1 => by rw [TX.c (((hF81.2.1 175 (by decide)).trans (hF8.2.1 175 (by decide))))]; exact hR_18 i i0 (by have i2 : i < (gI _ 174 1).toInt := i1; show i < (gI g0 174 1).toInt; omega)), (LAWR_back (c := 0) hR_19 (TOLDX_fr hF81 rfl rfl rfl rfl (fe12.1 hR_19.2.2.2.2)) (((hF81.2.1 173 (by decide)).trans (hF8.2.1 173 (by decide)))) (((hF81.1 59 6 (by decide)).trans (hF8.1 59 6 (by decide)))) (((hF81.1 116 6 (by decide)).trans (hF8.1 116 6 (by decide)))) (((hF81.2.1 234 (by decide)).trans (hF8.2.1 234 (by decide)))) (Or.inl ⟨rfl, n5_k, (BCI_c (fe13.1 ⟨n5_e, n5_k⟩) (LSA_fr hF81 rfl) (Or.inl rfl)), i32e (by omega), (fun i i0 i1 => ((RW_p q88 ⟨n78_e, n78_k⟩) i i0 i1).trans (eA_ti (hF8.2.1 234 (by decide))))⟩)), (SETX_fr hF81 rfl rfl rfl rfl rfl (fe12.2 hR_20))⟩)
  · have n143_e : v2.toInt = 0 := by omega
    have n143_1 : v2.toInt ≠ 1 := by omega
    have n143_k : (eA g0 173 0).toInt = 0 := by omega
    refine r_callV 1280 rfl [.ref 0, .int v2] [] (Nat.le_of_ble_eq_true rfl) rfl (T_X10_back_0 _ hI0 v2) ?_
    rintro _ _ ⟨g144, rfl, hI145, hF146, v147, rfl, hr148⟩
    refine At.sti ?_
    have hF149 := Fr.tr hF0 hF146 rfl rfl
    have fe150 : PH _ := hr148.2.2
    replace hr148 := And.intro hr148.1 hr148.2.1
    have fe151 : PH _ := hr148.2.2
    replace hr148 := And.intro hr148.1 hr148.2.1
    obtain ⟨q152, q153, q154, q155, q156, q157, q158, q159⟩ := hr148
    obtain ⟨p160, p161, p162, p163, p164, p165⟩ := (And.intro q152 q153)
    have w166 := p163 ⟨fun h => h.2 n143_k, fun h => n143_1 h.1⟩
    have w167 := p165 ⟨by omega, by omega, fun h => h.2 n143_k, fun h => n143_1 h.1⟩
    clear p161 p162 p163 p164 p165
    clear q153
    have f169 := congrArg Int32.toInt (hF146.1 59 0 rfl)
    have f170 := congrArg Int32.toInt (hF146.1 59 12 rfl)
    have f171 := congrArg Int32.toInt (hF146.1 59 10 rfl)
    have f172 := congrArg Int32.toInt (hF146.1 59 11 rfl)
    have f173 := congrArg Int32.toInt (hF146.1 59 4 rfl)
    have f174 := congrArg Int32.toInt (hF146.1 59 6 rfl)
    have f175 := congrArg Int32.toInt (hF146.1 59 9 rfl)
    have f176 := congrArg Int32.toInt (hF146.1 116 0 rfl)
    have f177 := congrArg Int32.toInt (hF146.1 116 12 rfl)
    have f178 := congrArg Int32.toInt (hF146.1 116 10 rfl)
    have f179 := congrArg Int32.toInt (hF146.1 116 11 rfl)
    have f180 := congrArg Int32.toInt (hF146.1 116 4 rfl)
    have f181 := congrArg Int32.toInt (hF146.1 116 6 rfl)
    have f182 := congrArg Int32.toInt (hF146.1 116 9 rfl)
    have f183 := congrArg Int32.toInt (eA_c (j := 0) (hF146.2.1 173 rfl))
    have f184 := congrArg Int32.toInt (eA_c (j := 1) (hF146.2.1 173 rfl))
    have f185 := congrArg Int32.toInt (hF146.1 174 1 rfl)
    have f186 := congrArg Int32.toInt (hF146.1 0 16 rfl)
    have f187 := congrArg Int32.toInt (hF146.1 176 2 rfl)
    have f188 := congrArg Int32.toInt (eA_c (j := 0) (hF146.2.1 233 rfl))
    have f189 := congrArg Int32.toInt (eA_c (j := 4) (hF146.2.1 233 rfl))
    have f190 := congrArg Int32.toInt (eA_c (j := 5) (hF146.2.1 233 rfl))
    have f191 := congrArg Int32.toInt (eA_c (j := 6) (hF146.2.1 233 rfl))
    have f192 := congrArg Int32.toInt (eA_c (j := 1) (hF146.2.1 233 rfl))
    have f193 := congrArg Int32.toInt (eA_c (j := 2) (hF146.2.1 233 rfl))
    have f194 := congrArg Int32.toInt (eA_c (j := 3) (hF146.2.1 233 rfl))
    have f195 := congrArg Int32.toInt (eA_c (j := 0) (hF146.2.1 234 rfl))
    have f196 := congrArg Int32.toInt (eA_c (j := 4) (hF146.2.1 234 rfl))
    have f197 := congrArg Int32.toInt (eA_c (j := 5) (hF146.2.1 234 rfl))
    have f198 := congrArg Int32.toInt (eA_c (j := 6) (hF146.2.1 234 rfl))
    have f199 := congrArg Int32.toInt (eA_c (j := 1) (hF146.2.1 234 rfl))
    have f200 := congrArg Int32.toInt (eA_c (j := 2) (hF146.2.1 234 rfl))
    have f201 := congrArg Int32.toInt (eA_c (j := 3) (hF146.2.1 234 rfl))
    have f202 := congrArg Int32.toInt (eA_c (j := 5510) (hF146.2.1 234 rfl))
    have f203 := congrArg Int32.toInt (eA_c (j := 5514) (hF146.2.1 234 rfl))
    have f204 := congrArg Int32.toInt (eA_c (j := 5515) (hF146.2.1 234 rfl))
    have f205 := congrArg Int32.toInt (eA_c (j := 5516) (hF146.2.1 234 rfl))
    have f206 := congrArg Int32.toInt (eA_c (j := 5511) (hF146.2.1 234 rfl))
    have f207 := congrArg Int32.toInt (eA_c (j := 5512) (hF146.2.1 234 rfl))
    have f208 := congrArg Int32.toInt (eA_c (j := 5513) (hF146.2.1 234 rfl))
    have f209 := congrArg Int32.toInt (eA_c (j := 0) (hF146.2.1 235 rfl))
    have f210 := congrArg Int32.toInt (eA_c (j := 1) (hF146.2.1 235 rfl))
    have f211 := congrArg Int32.toInt (hF146.1 231 8 rfl)
    have f212 := congrArg Int32.toInt (hF146.1 231 6 rfl)
    have f213 := congrArg Int32.toInt (hF146.1 231 13 rfl)
    refine At.enter rfl ?_
    refine r_pop rfl ?_
    refine r_aload_n e2 ?_
    refine r_sload_n e0 ?_
    refine r_iload_n e3 ?_
    refine r_iconst 1 rfl ?_
    refine q_iadd (i.toInt + 1) rfl hx_1 (fun v214 hv214 => ?_)
    refine q_scald (m := L) hL (i.toInt + 1) hv214 hy_1 (fun v215 hv215 => ?_)
    have sv215 := hv2.symm.trans hv215
    subst sv215
    have n216_e : v2.toInt = 0 := by omega
    have n216_1 : v2.toInt ≠ 1 := by omega
    have n216_k : (eA g144 235 0).toInt = 0 := by omega
    refine r_callV 1290 rfl [.ref 231, .int v2] [] (Nat.le_of_ble_eq_true rfl) rfl (T_X11_back_231 _ hI145 v2) ?_
    rintro _ _ ⟨g217, rfl, hI218, hF219, v220, rfl, hr221⟩
    refine At.sti ?_
    have hF222 := Fr.tr hF149 hF219 rfl rfl
    obtain ⟨q224, q225, q226⟩ := hr221
    obtain ⟨p227, p228, p229, p230, p231, p232⟩ := (And.intro q224 q225)
    have w233 := p230 ⟨fun h => h.2 n216_k, fun h => n216_1 h.1⟩
    have w234 := p232 ⟨by omega, by omega, fun h => h.2 n216_k, fun h => n216_1 h.1⟩
    clear p228 p229 p230 p231 p232
    clear q225
    have f236 := congrArg Int32.toInt (hF219.1 1 0 rfl)
    have f237 := congrArg Int32.toInt (hF219.1 1 12 rfl)
    have f238 := congrArg Int32.toInt (hF219.1 1 10 rfl)
    have f239 := congrArg Int32.toInt (hF219.1 1 11 rfl)
    have f240 := congrArg Int32.toInt (hF219.1 1 4 rfl)
    have f241 := congrArg Int32.toInt (hF219.1 1 6 rfl)
    have f242 := congrArg Int32.toInt (hF219.1 1 9 rfl)
    have f243 := congrArg Int32.toInt (hF219.1 59 0 rfl)
    have f244 := congrArg Int32.toInt (hF219.1 59 12 rfl)
    have f245 := congrArg Int32.toInt (hF219.1 59 10 rfl)
    have f246 := congrArg Int32.toInt (hF219.1 59 11 rfl)
    have f247 := congrArg Int32.toInt (hF219.1 59 4 rfl)
    have f248 := congrArg Int32.toInt (hF219.1 59 6 rfl)
    have f249 := congrArg Int32.toInt (hF219.1 59 9 rfl)
    have f250 := congrArg Int32.toInt (hF219.1 116 0 rfl)
    have f251 := congrArg Int32.toInt (hF219.1 116 12 rfl)
    have f252 := congrArg Int32.toInt (hF219.1 116 10 rfl)
    have f253 := congrArg Int32.toInt (hF219.1 116 11 rfl)
    have f254 := congrArg Int32.toInt (hF219.1 116 4 rfl)
    have f255 := congrArg Int32.toInt (hF219.1 116 6 rfl)
    have f256 := congrArg Int32.toInt (hF219.1 116 9 rfl)
    have f257 := congrArg Int32.toInt (eA_c (j := 0) (hF219.2.1 173 rfl))
    have f258 := congrArg Int32.toInt (eA_c (j := 1) (hF219.2.1 173 rfl))
    have f259 := congrArg Int32.toInt (hF219.1 174 1 rfl)
    have f260 := congrArg Int32.toInt (hF219.1 0 16 rfl)
    have f261 := congrArg Int32.toInt (hF219.1 176 2 rfl)
    have f262 := congrArg Int32.toInt (eA_c (j := 0) (hF219.2.1 234 rfl))
    have f263 := congrArg Int32.toInt (eA_c (j := 4) (hF219.2.1 234 rfl))
    have f264 := congrArg Int32.toInt (eA_c (j := 5) (hF219.2.1 234 rfl))
    have f265 := congrArg Int32.toInt (eA_c (j := 6) (hF219.2.1 234 rfl))
    have f266 := congrArg Int32.toInt (eA_c (j := 1) (hF219.2.1 234 rfl))
    have f267 := congrArg Int32.toInt (eA_c (j := 2) (hF219.2.1 234 rfl))
    have f268 := congrArg Int32.toInt (eA_c (j := 3) (hF219.2.1 234 rfl))
    have f269 := congrArg Int32.toInt (eA_c (j := 5510) (hF219.2.1 234 rfl))
    have f270 := congrArg Int32.toInt (eA_c (j := 5514) (hF219.2.1 234 rfl))
    have f271 := congrArg Int32.toInt (eA_c (j := 5515) (hF219.2.1 234 rfl))
    have f272 := congrArg Int32.toInt (eA_c (j := 5516) (hF219.2.1 234 rfl))
    have f273 := congrArg Int32.toInt (eA_c (j := 5511) (hF219.2.1 234 rfl))
    have f274 := congrArg Int32.toInt (eA_c (j := 5512) (hF219.2.1 234 rfl))
    have f275 := congrArg Int32.toInt (eA_c (j := 5513) (hF219.2.1 234 rfl))
    have f276 := congrArg Int32.toInt (eA_c (j := 0) (hF219.2.1 235 rfl))
    have f277 := congrArg Int32.toInt (eA_c (j := 1) (hF219.2.1 235 rfl))
    have f278 := congrArg Int32.toInt (hF219.1 231 8 rfl)
    have f279 := congrArg Int32.toInt (hF219.1 231 6 rfl)
    have f280 := congrArg Int32.toInt (hF219.1 231 13 rfl)
    refine At.enter rfl ?_
    refine r_pop rfl ?_
    refine r_goto ?_
    exact K _ hI218 (show LwR _ from ⟨by omega, by omega, by omega, by omega, by omega, by omega, by omega, (eA_ti (j := 0) (((hF219.2.1 173 (by decide)).trans (hF146.2.1 173 (by decide))))).trans (hR_7.trans (eA_ti (j := 0) (((hF219.2.1 235 (by decide)).trans (hF146.2.1 235 (by decide))))).symm), (eA_ti (j := 1) (((hF219.2.1 173 (by decide)).trans (hF146.2.1 173 (by decide))))).trans (hR_8.trans (eA_ti (j := 1) (((hF219.2.1 235 (by decide)).trans (hF146.2.1 235 (by decide))))).symm), (congrArg Int32.toInt (((hF219.1 174 1 (by decide)).trans (hF146.1 174 1 (by decide))))).trans (hR_9.trans (congrArg Int32.toInt (((hF219.1 231 8 (by decide)).trans (hF146.1 231 8 (by decide))))).symm), (congrArg Int32.toInt (((hF219.1 0 16 (by decide)).trans (hF146.1 0 16 (by decide))))).trans (hR_10.trans (congrArg Int32.toInt (((hF219.1 231 6 (by decide)).trans (hF146.1 231 6 (by decide))))).symm), (congrArg Int32.toInt (((hF219.1 176 2 (by decide)).trans (hF146.1 176 2 (by decide))))).trans (hR_11.trans (congrArg Int32.toInt (((hF219.1 231 13 (by decide)).trans (hF146.1 231 13 (by decide))))).symm), IM0.cong hR_12 (eA_ti (j := 0) (((hF219.2.1 173 (by decide)).trans (hF146.2.1 173 (by decide))))) (congrArg Int32.toInt (((hF219.1 59 0 (by decide)).trans (hF146.1 59 0 (by decide))))) (eA_ti (j := 0) (((hF219.2.1 234 (by decide)).trans (hF146.2.1 234 (by decide))))) (congrArg Int32.toInt (((hF219.1 59 12 (by decide)).trans (hF146.1 59 12 (by decide))))) (eA_ti (j := 4) (((hF219.2.1 234 (by decide)).trans (hF146.2.1 234 (by decide))))) (congrArg Int32.toInt (((hF219.1 59 10 (by decide)).trans (hF146.1 59 10 (by decide))))) (eA_ti (j := 5) (((hF219.2.1 234 (by decide)).trans (hF146.2.1 234 (by decide))))) (congrArg Int32.toInt (((hF219.1 59 11 (by decide)).trans (hF146.1 59 11 (by decide))))) (eA_ti (j := 6) (((hF219.2.1 234 (by decide)).trans (hF146.2.1 234 (by decide))))) (congrArg Int32.toInt (((hF219.1 59 4 (by decide)).trans (hF146.1 59 4 (by decide))))) (eA_ti (j := 1) (((hF219.2.1 234 (by decide)).trans (hF146.2.1 234 (by decide))))) (congrArg Int32.toInt (((hF219.1 59 6 (by decide)).trans (hF146.1 59 6 (by decide))))) (eA_ti (j := 2) (((hF219.2.1 234 (by decide)).trans (hF146.2.1 234 (by decide))))) (congrArg Int32.toInt (((hF219.1 59 9 (by decide)).trans (hF146.1 59 9 (by decide))))) (eA_ti (j := 3) (((hF219.2.1 234 (by decide)).trans (hF146.2.1 234 (by decide))))), IM1.cong hR_13 (eA_ti (j := 1) (((hF219.2.1 173 (by decide)).trans (hF146.2.1 173 (by decide))))) (congrArg Int32.toInt (((hF219.1 116 0 (by decide)).trans (hF146.1 116 0 (by decide))))) (eA_ti (j := 5510) (((hF219.2.1 234 (by decide)).trans (hF146.2.1 234 (by decide))))) (congrArg Int32.toInt (((hF219.1 116 12 (by decide)).trans (hF146.1 116 12 (by decide))))) (eA_ti (j := 5514) (((hF219.2.1 234 (by decide)).trans (hF146.2.1 234 (by decide))))) (congrArg Int32.toInt (((hF219.1 116 10 (by decide)).trans (hF146.1 116 10 (by decide))))) (eA_ti (j := 5515) (((hF219.2.1 234 (by decide)).trans (hF146.2.1 234 (by decide))))) (congrArg Int32.toInt (((hF219.1 116 11 (by decide)).trans (hF146.1 116 11 (by decide))))) (eA_ti (j := 5516) (((hF219.2.1 234 (by decide)).trans (hF146.2.1 234 (by decide))))) (congrArg Int32.toInt (((hF219.1 116 4 (by decide)).trans (hF146.1 116 4 (by decide))))) (eA_ti (j := 5511) (((hF219.2.1 234 (by decide)).trans (hF146.2.1 234 (by decide))))) (congrArg Int32.toInt (((hF219.1 116 6 (by decide)).trans (hF146.1 116 6 (by decide))))) (eA_ti (j := 5512) (((hF219.2.1 234 (by decide)).trans (hF146.2.1 234 (by decide))))) (congrArg Int32.toInt (((hF219.1 116 9 (by decide)).trans (hF146.1 116 9 (by decide))))) (eA_ti (j := 5513) (((hF219.2.1 234 (by decide)).trans (hF146.2.1 234 (by decide))))), (show CT _ from ⟨fun i i0 i1 => ⟨(by have t0_ := hI0.t0; have t1_ := hI0.t1; have o := (hR_14.1 i i0 i1).1; have o0 := (hR_15.1 i i0 i1).1; have o1 := (hR_16.1 i i0 i1).1; have x := (eA_ti (j := i) (hF219.2.1 2 (by decide))).trans (q154 i i0 i1); have m := q226 (10 + 3 * i) (by omega) (by omega); have y1 := eA_ti (j := ((10 + 3 * i))) (hF146.2.1 234 (by decide)); have y2 := eA_ti (j := (5510 + ((10 + 3 * i)))) (hF146.2.1 234 (by decide)); have y3 := eA_ti (j := ((10 + 3 * i))) (hF146.2.1 233 (by decide)); (try split at x) <;> (try split at x) <;> (try split at m) <;> (try split at m) <;> omega), (by have t0_ := hI0.t0; have t1_ := hI0.t1; have o := (hR_14.1 i i0 i1).2.1; have o0 := (hR_15.1 i i0 i1).2.1; have o1 := (hR_16.1 i i0 i1).2.1; have x := (eA_ti (j := i) (hF219.2.1 3 (by decide))).trans (q155 i i0 i1); have m := q226 (10 + 3 * i + 1) (by omega) (by omega); have y1 := eA_ti (j := ((10 + 3 * i + 1))) (hF146.2.1 234 (by decide)); have y2 := eA_ti (j := (5510 + ((10 + 3 * i + 1)))) (hF146.2.1 234 (by decide)); have y3 := eA_ti (j := ((10 + 3 * i + 1))) (hF146.2.1 233 (by decide)); (try split at x) <;> (try split at x) <;> (try split at m) <;> (try split at m) <;> omega), (by have t0_ := hI0.t0; have t1_ := hI0.t1; have o := (hR_14.1 i i0 i1).2.2; have o0 := (hR_15.1 i i0 i1).2.2; have o1 := (hR_16.1 i i0 i1).2.2; have x := (eA_ti (j := i) (hF219.2.1 4 (by decide))).trans (q156 i i0 i1); have m := q226 (10 + 3 * i + 2) (by omega) (by omega); have y1 := eA_ti (j := ((10 + 3 * i + 2))) (hF146.2.1 234 (by decide)); have y2 := eA_ti (j := (5510 + ((10 + 3 * i + 2)))) (hF146.2.1 234 (by decide)); have y3 := eA_ti (j := ((10 + 3 * i + 2))) (hF146.2.1 233 (by decide)); (try split at x) <;> (try split at x) <;> (try split at m) <;> (try split at m) <;> omega)⟩, fun i i0 i1 => ⟨(by have t0_ := hI0.t0; have t1_ := hI0.t1; have o := (hR_14.2.1 i i0 i1).1; have o0 := (hR_15.2.1 i i0 i1).1; have o1 := (hR_16.2.1 i i0 i1).1; have x := (eA_ti (j := i) (hF219.2.1 14 (by decide))).trans (q157 i i0 i1); have m := q226 (94 + 2 * i) (by omega) (by omega); have y1 := eA_ti (j := ((94 + 2 * i))) (hF146.2.1 234 (by decide)); have y2 := eA_ti (j := (5510 + ((94 + 2 * i)))) (hF146.2.1 234 (by decide)); have y3 := eA_ti (j := ((94 + 2 * i))) (hF146.2.1 233 (by decide)); (try split at x) <;> (try split at x) <;> (try split at m) <;> (try split at m) <;> omega), (by have t0_ := hI0.t0; have t1_ := hI0.t1; have o := (hR_14.2.1 i i0 i1).2; have o0 := (hR_15.2.1 i i0 i1).2; have o1 := (hR_16.2.1 i i0 i1).2; have x := (eA_ti (j := i) (hF219.2.1 15 (by decide))).trans (q158 i i0 i1); have m := q226 (94 + 2 * i + 1) (by omega) (by omega); have y1 := eA_ti (j := ((94 + 2 * i + 1))) (hF146.2.1 234 (by decide)); have y2 := eA_ti (j := (5510 + ((94 + 2 * i + 1)))) (hF146.2.1 234 (by decide)); have y3 := eA_ti (j := ((94 + 2 * i + 1))) (hF146.2.1 233 (by decide)); (try split at x) <;> (try split at x) <;> (try split at m) <;> (try split at m) <;> omega)⟩, fun i i0 i1 => (by have t0_ := hI0.t0; have t1_ := hI0.t1; have o : i < 6 * (gI g0 1 4).toInt → _ := fun hz => hR_14.2.2 i i0 hz; have o0 : i < 6 * (gI g0 59 4).toInt → _ := fun hz => hR_15.2.2 i i0 hz; have o1 : i < 6 * (gI g0 116 4).toInt → _ := fun hz => hR_16.2.2 i i0 hz; have t9_ := RgF.at hI218.2.1 (p := 1) (b := 4) rfl; dsimp only at t9_; have i9_ : i < 48 := (by omega); have x := (eA_ti (j := i) (hF219.2.1 5 (by decide))).trans (q159 i i0 i9_); have m := q226 (46 + i) (by omega) (by omega); have y1 := eA_ti (j := ((46 + i))) (hF146.2.1 234 (by decide)); have y2 := eA_ti (j := (5510 + ((46 + i)))) (hF146.2.1 234 (by decide)); have y3 := eA_ti (j := ((46 + i))) (hF146.2.1 233 (by decide)); (try split at x) <;> (try split at x) <;> (try split at m) <;> (try split at m) <;> omega)⟩), CI0.cong hR_15 (((hF219.2.1 60 (by decide)).trans (hF146.2.1 60 (by decide)))) (((hF219.2.1 61 (by decide)).trans (hF146.2.1 61 (by decide)))) (((hF219.2.1 62 (by decide)).trans (hF146.2.1 62 (by decide)))) (((hF219.2.1 72 (by decide)).trans (hF146.2.1 72 (by decide)))) (((hF219.2.1 73 (by decide)).trans (hF146.2.1 73 (by decide)))) (((hF219.2.1 63 (by decide)).trans (hF146.2.1 63 (by decide)))) (((hF219.2.1 234 (by decide)).trans (hF146.2.1 234 (by decide)))) (congrArg Int32.toInt (((hF219.1 59 4 (by decide)).trans (hF146.1 59 4 (by decide))))), CI1.cong hR_16 (((hF219.2.1 117 (by decide)).trans (hF146.2.1 117 (by decide)))) (((hF219.2.1 118 (by decide)).trans (hF146.2.1 118 (by decide)))) (((hF219.2.1 119 (by decide)).trans (hF146.2.1 119 (by decide)))) (((hF219.2.1 129 (by decide)).trans (hF146.2.1 129 (by decide)))) (((hF219.2.1 130 (by decide)).trans (hF146.2.1 130 (by decide)))) (((hF219.2.1 120 (by decide)).trans (hF146.2.1 120 (by decide)))) (((hF219.2.1 234 (by decide)).trans (hF146.2.1 234 (by decide)))) (congrArg Int32.toInt (((hF219.1 116 4 (by decide)).trans (hF146.1 116 4 (by decide))))), (show RT _ from fun i i0 i1 => (eA_ti (((hF219.2.1 175 (by decide)).trans (hF146.2.1 175 (by decide))))).trans ((hR_17 i i0 (by omega)).trans (eA_ti (((hF219.2.1 236 (by decide)).trans (hF146.2.1 236 (by decide))))).symm)), (show BYX _ from fun i i0 i1 => by rw [TX.c (((hF219.2.1 175 (by decide)).trans (hF146.2.1 175 (by decide))))]; exact hR_18 i i0 (by have i2 : i < (gI _ 174 1).toInt := i1; show i < (gI g0 174 1).toInt; omega)), (LAWR_n hR_19 (LSA_tr (fe151.2.2 ⟨(fun h => h.2 n143_k), (fun h => n143_1 h.1)⟩) (LSA_fr hF219 rfl)) (by omega) (by omega) (by omega) (by omega) (by omega) (fun i i0 i1 => ((RW_n (fun i i0 i1 => (q226 i i0 i1).trans (if_neg (fun h => h.2 n216_k))) (fun h => n216_1 h.1)) i i0 i1).trans (eA_ti (hF146.2.1 233 (by decide)))) (fun i i0 i1 => ⟨eA_ti (((hF219.2.1 234 (by decide)).trans (hF146.2.1 234 (by decide)))), eA_ti (((hF219.2.1 234 (by decide)).trans (hF146.2.1 234 (by decide))))⟩) (TOLDX_fr hF219 rfl rfl rfl rfl (fe150.1 hR_19.2.2.2.2))), (SETX_fr hF219 rfl rfl rfl rfl rfl (fe150.2 hR_20))⟩)
  · have n281_e : v2.toInt = 1 := by omega
    have n281_0 : v2.toInt ≠ 0 := by omega
    have n281_k : (eA g0 173 1).toInt ≠ 0 := by omega
    have n281_i := hR_13 (by omega)
    refine r_callV 1280 rfl [.ref 0, .int v2] [] (Nat.le_of_ble_eq_true rfl) rfl (T_X10_back_0 _ hI0 v2) ?_
    rintro _ _ ⟨g282, rfl, hI283, hF284, v285, rfl, hr286⟩
    refine At.sti ?_
    have hF287 := Fr.tr hF0 hF284 rfl rfl
    have fe288 : PH _ := hr286.2.2
    replace hr286 := And.intro hr286.1 hr286.2.1
    have fe289 : PH _ := hr286.2.2
    replace hr286 := And.intro hr286.1 hr286.2.1
    obtain ⟨q290, q291, q292, q293, q294, q295, q296, q297⟩ := hr286
    obtain ⟨p298, p299, p300, p301, p302, p303⟩ := (And.intro q290 q291)
    have w304 := p300 ⟨n281_e, n281_k⟩
    clear p299 p300 p301 p302 p303
    clear q291
    have f307 := congrArg Int32.toInt (hF284.1 59 0 rfl)
    have f308 := congrArg Int32.toInt (hF284.1 59 12 rfl)
    have f309 := congrArg Int32.toInt (hF284.1 59 10 rfl)
    have f310 := congrArg Int32.toInt (hF284.1 59 11 rfl)
    have f311 := congrArg Int32.toInt (hF284.1 59 4 rfl)
    have f312 := congrArg Int32.toInt (hF284.1 59 6 rfl)
    have f313 := congrArg Int32.toInt (hF284.1 59 9 rfl)
    have f314 := congrArg Int32.toInt (hF284.1 116 0 rfl)
    have f315 := congrArg Int32.toInt (hF284.1 116 12 rfl)
    have f316 := congrArg Int32.toInt (hF284.1 116 10 rfl)
    have f317 := congrArg Int32.toInt (hF284.1 116 11 rfl)
    have f318 := congrArg Int32.toInt (hF284.1 116 4 rfl)
    have f319 := congrArg Int32.toInt (hF284.1 116 6 rfl)
    have f320 := congrArg Int32.toInt (hF284.1 116 9 rfl)
    have f321 := congrArg Int32.toInt (eA_c (j := 0) (hF284.2.1 173 rfl))
    have f322 := congrArg Int32.toInt (eA_c (j := 1) (hF284.2.1 173 rfl))
    have f323 := congrArg Int32.toInt (hF284.1 174 1 rfl)
    have f324 := congrArg Int32.toInt (hF284.1 0 16 rfl)
    have f325 := congrArg Int32.toInt (hF284.1 176 2 rfl)
    have f326 := congrArg Int32.toInt (eA_c (j := 0) (hF284.2.1 233 rfl))
    have f327 := congrArg Int32.toInt (eA_c (j := 4) (hF284.2.1 233 rfl))
    have f328 := congrArg Int32.toInt (eA_c (j := 5) (hF284.2.1 233 rfl))
    have f329 := congrArg Int32.toInt (eA_c (j := 6) (hF284.2.1 233 rfl))
    have f330 := congrArg Int32.toInt (eA_c (j := 1) (hF284.2.1 233 rfl))
    have f331 := congrArg Int32.toInt (eA_c (j := 2) (hF284.2.1 233 rfl))
    have f332 := congrArg Int32.toInt (eA_c (j := 3) (hF284.2.1 233 rfl))
    have f333 := congrArg Int32.toInt (eA_c (j := 0) (hF284.2.1 234 rfl))
    have f334 := congrArg Int32.toInt (eA_c (j := 4) (hF284.2.1 234 rfl))
    have f335 := congrArg Int32.toInt (eA_c (j := 5) (hF284.2.1 234 rfl))
    have f336 := congrArg Int32.toInt (eA_c (j := 6) (hF284.2.1 234 rfl))
    have f337 := congrArg Int32.toInt (eA_c (j := 1) (hF284.2.1 234 rfl))
    have f338 := congrArg Int32.toInt (eA_c (j := 2) (hF284.2.1 234 rfl))
    have f339 := congrArg Int32.toInt (eA_c (j := 3) (hF284.2.1 234 rfl))
    have f340 := congrArg Int32.toInt (eA_c (j := 5510) (hF284.2.1 234 rfl))
    have f341 := congrArg Int32.toInt (eA_c (j := 5514) (hF284.2.1 234 rfl))
    have f342 := congrArg Int32.toInt (eA_c (j := 5515) (hF284.2.1 234 rfl))
    have f343 := congrArg Int32.toInt (eA_c (j := 5516) (hF284.2.1 234 rfl))
    have f344 := congrArg Int32.toInt (eA_c (j := 5511) (hF284.2.1 234 rfl))
    have f345 := congrArg Int32.toInt (eA_c (j := 5512) (hF284.2.1 234 rfl))
    have f346 := congrArg Int32.toInt (eA_c (j := 5513) (hF284.2.1 234 rfl))
    have f347 := congrArg Int32.toInt (eA_c (j := 0) (hF284.2.1 235 rfl))
    have f348 := congrArg Int32.toInt (eA_c (j := 1) (hF284.2.1 235 rfl))
    have f349 := congrArg Int32.toInt (hF284.1 231 8 rfl)
    have f350 := congrArg Int32.toInt (hF284.1 231 6 rfl)
    have f351 := congrArg Int32.toInt (hF284.1 231 13 rfl)
    refine At.enter rfl ?_
    refine r_pop rfl ?_
    refine r_aload_n e2 ?_
    refine r_sload_n e0 ?_
    refine r_iload_n e3 ?_
    refine r_iconst 1 rfl ?_
    refine q_iadd (i.toInt + 1) rfl hx_1 (fun v352 hv352 => ?_)
    refine q_scald (m := L) hL (i.toInt + 1) hv352 hy_1 (fun v353 hv353 => ?_)
    have sv353 := hv2.symm.trans hv353
    subst sv353
    have n354_e : v2.toInt = 1 := by omega
    have n354_0 : v2.toInt ≠ 0 := by omega
    have n354_k : (eA g282 235 1).toInt ≠ 0 := by omega
    refine r_callV 1290 rfl [.ref 231, .int v2] [] (Nat.le_of_ble_eq_true rfl) rfl (T_X11_back_231 _ hI283 v2) ?_
    rintro _ _ ⟨g355, rfl, hI356, hF357, v358, rfl, hr359⟩
    refine At.sti ?_
    have hF360 := Fr.tr hF287 hF357 rfl rfl
    obtain ⟨q362, q363, q364⟩ := hr359
    obtain ⟨p365, p366, p367, p368, p369, p370⟩ := (And.intro q362 q363)
    have w371 := p367 ⟨n354_e, n354_k⟩
    clear p366 p367 p368 p369 p370
    clear q363
    have f374 := congrArg Int32.toInt (hF357.1 1 0 rfl)
    have f375 := congrArg Int32.toInt (hF357.1 1 12 rfl)
    have f376 := congrArg Int32.toInt (hF357.1 1 10 rfl)
    have f377 := congrArg Int32.toInt (hF357.1 1 11 rfl)
    have f378 := congrArg Int32.toInt (hF357.1 1 4 rfl)
    have f379 := congrArg Int32.toInt (hF357.1 1 6 rfl)
    have f380 := congrArg Int32.toInt (hF357.1 1 9 rfl)
    have f381 := congrArg Int32.toInt (hF357.1 59 0 rfl)
    have f382 := congrArg Int32.toInt (hF357.1 59 12 rfl)
    have f383 := congrArg Int32.toInt (hF357.1 59 10 rfl)
    have f384 := congrArg Int32.toInt (hF357.1 59 11 rfl)
    have f385 := congrArg Int32.toInt (hF357.1 59 4 rfl)
    have f386 := congrArg Int32.toInt (hF357.1 59 6 rfl)
    have f387 := congrArg Int32.toInt (hF357.1 59 9 rfl)
    have f388 := congrArg Int32.toInt (hF357.1 116 0 rfl)
    have f389 := congrArg Int32.toInt (hF357.1 116 12 rfl)
    have f390 := congrArg Int32.toInt (hF357.1 116 10 rfl)
    have f391 := congrArg Int32.toInt (hF357.1 116 11 rfl)
    have f392 := congrArg Int32.toInt (hF357.1 116 4 rfl)
    have f393 := congrArg Int32.toInt (hF357.1 116 6 rfl)
    have f394 := congrArg Int32.toInt (hF357.1 116 9 rfl)
    have f395 := congrArg Int32.toInt (eA_c (j := 0) (hF357.2.1 173 rfl))
    have f396 := congrArg Int32.toInt (eA_c (j := 1) (hF357.2.1 173 rfl))
    have f397 := congrArg Int32.toInt (hF357.1 174 1 rfl)
    have f398 := congrArg Int32.toInt (hF357.1 0 16 rfl)
    have f399 := congrArg Int32.toInt (hF357.1 176 2 rfl)
    have f400 := congrArg Int32.toInt (eA_c (j := 0) (hF357.2.1 234 rfl))
    have f401 := congrArg Int32.toInt (eA_c (j := 4) (hF357.2.1 234 rfl))
    have f402 := congrArg Int32.toInt (eA_c (j := 5) (hF357.2.1 234 rfl))
    have f403 := congrArg Int32.toInt (eA_c (j := 6) (hF357.2.1 234 rfl))
    have f404 := congrArg Int32.toInt (eA_c (j := 1) (hF357.2.1 234 rfl))
    have f405 := congrArg Int32.toInt (eA_c (j := 2) (hF357.2.1 234 rfl))
    have f406 := congrArg Int32.toInt (eA_c (j := 3) (hF357.2.1 234 rfl))
    have f407 := congrArg Int32.toInt (eA_c (j := 5510) (hF357.2.1 234 rfl))
    have f408 := congrArg Int32.toInt (eA_c (j := 5514) (hF357.2.1 234 rfl))
    have f409 := congrArg Int32.toInt (eA_c (j := 5515) (hF357.2.1 234 rfl))
    have f410 := congrArg Int32.toInt (eA_c (j := 5516) (hF357.2.1 234 rfl))
    have f411 := congrArg Int32.toInt (eA_c (j := 5511) (hF357.2.1 234 rfl))
    have f412 := congrArg Int32.toInt (eA_c (j := 5512) (hF357.2.1 234 rfl))
    have f413 := congrArg Int32.toInt (eA_c (j := 5513) (hF357.2.1 234 rfl))
    have f414 := congrArg Int32.toInt (eA_c (j := 0) (hF357.2.1 235 rfl))
    have f415 := congrArg Int32.toInt (eA_c (j := 1) (hF357.2.1 235 rfl))
    have f416 := congrArg Int32.toInt (hF357.1 231 8 rfl)
    have f417 := congrArg Int32.toInt (hF357.1 231 6 rfl)
    have f418 := congrArg Int32.toInt (hF357.1 231 13 rfl)
    refine At.enter rfl ?_
    refine r_pop rfl ?_
    refine r_goto ?_
    exact K _ hI356 (show LwR _ from ⟨by omega, by omega, by omega, by omega, by omega, by omega, by omega, (eA_ti (j := 0) (((hF357.2.1 173 (by decide)).trans (hF284.2.1 173 (by decide))))).trans (hR_7.trans (eA_ti (j := 0) (((hF357.2.1 235 (by decide)).trans (hF284.2.1 235 (by decide))))).symm), (eA_ti (j := 1) (((hF357.2.1 173 (by decide)).trans (hF284.2.1 173 (by decide))))).trans (hR_8.trans (eA_ti (j := 1) (((hF357.2.1 235 (by decide)).trans (hF284.2.1 235 (by decide))))).symm), (congrArg Int32.toInt (((hF357.1 174 1 (by decide)).trans (hF284.1 174 1 (by decide))))).trans (hR_9.trans (congrArg Int32.toInt (((hF357.1 231 8 (by decide)).trans (hF284.1 231 8 (by decide))))).symm), (congrArg Int32.toInt (((hF357.1 0 16 (by decide)).trans (hF284.1 0 16 (by decide))))).trans (hR_10.trans (congrArg Int32.toInt (((hF357.1 231 6 (by decide)).trans (hF284.1 231 6 (by decide))))).symm), (congrArg Int32.toInt (((hF357.1 176 2 (by decide)).trans (hF284.1 176 2 (by decide))))).trans (hR_11.trans (congrArg Int32.toInt (((hF357.1 231 13 (by decide)).trans (hF284.1 231 13 (by decide))))).symm), IM0.cong hR_12 (eA_ti (j := 0) (((hF357.2.1 173 (by decide)).trans (hF284.2.1 173 (by decide))))) (congrArg Int32.toInt (((hF357.1 59 0 (by decide)).trans (hF284.1 59 0 (by decide))))) (eA_ti (j := 0) (((hF357.2.1 234 (by decide)).trans (hF284.2.1 234 (by decide))))) (congrArg Int32.toInt (((hF357.1 59 12 (by decide)).trans (hF284.1 59 12 (by decide))))) (eA_ti (j := 4) (((hF357.2.1 234 (by decide)).trans (hF284.2.1 234 (by decide))))) (congrArg Int32.toInt (((hF357.1 59 10 (by decide)).trans (hF284.1 59 10 (by decide))))) (eA_ti (j := 5) (((hF357.2.1 234 (by decide)).trans (hF284.2.1 234 (by decide))))) (congrArg Int32.toInt (((hF357.1 59 11 (by decide)).trans (hF284.1 59 11 (by decide))))) (eA_ti (j := 6) (((hF357.2.1 234 (by decide)).trans (hF284.2.1 234 (by decide))))) (congrArg Int32.toInt (((hF357.1 59 4 (by decide)).trans (hF284.1 59 4 (by decide))))) (eA_ti (j := 1) (((hF357.2.1 234 (by decide)).trans (hF284.2.1 234 (by decide))))) (congrArg Int32.toInt (((hF357.1 59 6 (by decide)).trans (hF284.1 59 6 (by decide))))) (eA_ti (j := 2) (((hF357.2.1 234 (by decide)).trans (hF284.2.1 234 (by decide))))) (congrArg Int32.toInt (((hF357.1 59 9 (by decide)).trans (hF284.1 59 9 (by decide))))) (eA_ti (j := 3) (((hF357.2.1 234 (by decide)).trans (hF284.2.1 234 (by decide))))), IM1.cong hR_13 (eA_ti (j := 1) (((hF357.2.1 173 (by decide)).trans (hF284.2.1 173 (by decide))))) (congrArg Int32.toInt (((hF357.1 116 0 (by decide)).trans (hF284.1 116 0 (by decide))))) (eA_ti (j := 5510) (((hF357.2.1 234 (by decide)).trans (hF284.2.1 234 (by decide))))) (congrArg Int32.toInt (((hF357.1 116 12 (by decide)).trans (hF284.1 116 12 (by decide))))) (eA_ti (j := 5514) (((hF357.2.1 234 (by decide)).trans (hF284.2.1 234 (by decide))))) (congrArg Int32.toInt (((hF357.1 116 10 (by decide)).trans (hF284.1 116 10 (by decide))))) (eA_ti (j := 5515) (((hF357.2.1 234 (by decide)).trans (hF284.2.1 234 (by decide))))) (congrArg Int32.toInt (((hF357.1 116 11 (by decide)).trans (hF284.1 116 11 (by decide))))) (eA_ti (j := 5516) (((hF357.2.1 234 (by decide)).trans (hF284.2.1 234 (by decide))))) (congrArg Int32.toInt (((hF357.1 116 4 (by decide)).trans (hF284.1 116 4 (by decide))))) (eA_ti (j := 5511) (((hF357.2.1 234 (by decide)).trans (hF284.2.1 234 (by decide))))) (congrArg Int32.toInt (((hF357.1 116 6 (by decide)).trans (hF284.1 116 6 (by decide))))) (eA_ti (j := 5512) (((hF357.2.1 234 (by decide)).trans (hF284.2.1 234 (by decide))))) (congrArg Int32.toInt (((hF357.1 116 9 (by decide)).trans (hF284.1 116 9 (by decide))))) (eA_ti (j := 5513) (((hF357.2.1 234 (by decide)).trans (hF284.2.1 234 (by decide))))), (show CT _ from ⟨fun i i0 i1 => ⟨(by have t0_ := hI0.t0; have t1_ := hI0.t1; have o := (hR_14.1 i i0 i1).1; have o0 := (hR_15.1 i i0 i1).1; have o1 := (hR_16.1 i i0 i1).1; have x := (eA_ti (j := i) (hF357.2.1 2 (by decide))).trans (q292 i i0 i1); have m := q364 (10 + 3 * i) (by omega) (by omega); have y1 := eA_ti (j := ((10 + 3 * i))) (hF284.2.1 234 (by decide)); have y2 := eA_ti (j := (5510 + ((10 + 3 * i)))) (hF284.2.1 234 (by decide)); have y3 := eA_ti (j := ((10 + 3 * i))) (hF284.2.1 233 (by decide)); (try split at x) <;> (try split at x) <;> (try split at m) <;> (try split at m) <;> omega), (by have t0_ := hI0.t0; have t1_ := hI0.t1; have o := (hR_14.1 i i0 i1).2.1; have o0 := (hR_15.1 i i0 i1).2.1; have o1 := (hR_16.1 i i0 i1).2.1; have x := (eA_ti (j := i) (hF357.2.1 3 (by decide))).trans (q293 i i0 i1); have m := q364 (10 + 3 * i + 1) (by omega) (by omega); have y1 := eA_ti (j := ((10 + 3 * i + 1))) (hF284.2.1 234 (by decide)); have y2 := eA_ti (j := (5510 + ((10 + 3 * i + 1)))) (hF284.2.1 234 (by decide)); have y3 := eA_ti (j := ((10 + 3 * i + 1))) (hF284.2.1 233 (by decide)); (try split at x) <;> (try split at x) <;> (try split at m) <;> (try split at m) <;> omega), (by have t0_ := hI0.t0; have t1_ := hI0.t1; have o := (hR_14.1 i i0 i1).2.2; have o0 := (hR_15.1 i i0 i1).2.2; have o1 := (hR_16.1 i i0 i1).2.2; have x := (eA_ti (j := i) (hF357.2.1 4 (by decide))).trans (q294 i i0 i1); have m := q364 (10 + 3 * i + 2) (by omega) (by omega); have y1 := eA_ti (j := ((10 + 3 * i + 2))) (hF284.2.1 234 (by decide)); have y2 := eA_ti (j := (5510 + ((10 + 3 * i + 2)))) (hF284.2.1 234 (by decide)); have y3 := eA_ti (j := ((10 + 3 * i + 2))) (hF284.2.1 233 (by decide)); (try split at x) <;> (try split at x) <;> (try split at m) <;> (try split at m) <;> omega)⟩, fun i i0 i1 => ⟨(by have t0_ := hI0.t0; have t1_ := hI0.t1; have o := (hR_14.2.1 i i0 i1).1; have o0 := (hR_15.2.1 i i0 i1).1; have o1 := (hR_16.2.1 i i0 i1).1; have x := (eA_ti (j := i) (hF357.2.1 14 (by decide))).trans (q295 i i0 i1); have m := q364 (94 + 2 * i) (by omega) (by omega); have y1 := eA_ti (j := ((94 + 2 * i))) (hF284.2.1 234 (by decide)); have y2 := eA_ti (j := (5510 + ((94 + 2 * i)))) (hF284.2.1 234 (by decide)); have y3 := eA_ti (j := ((94 + 2 * i))) (hF284.2.1 233 (by decide)); (try split at x) <;> (try split at x) <;> (try split at m) <;> (try split at m) <;> omega), (by have t0_ := hI0.t0; have t1_ := hI0.t1; have o := (hR_14.2.1 i i0 i1).2; have o0 := (hR_15.2.1 i i0 i1).2; have o1 := (hR_16.2.1 i i0 i1).2; have x := (eA_ti (j := i) (hF357.2.1 15 (by decide))).trans (q296 i i0 i1); have m := q364 (94 + 2 * i + 1) (by omega) (by omega); have y1 := eA_ti (j := ((94 + 2 * i + 1))) (hF284.2.1 234 (by decide)); have y2 := eA_ti (j := (5510 + ((94 + 2 * i + 1)))) (hF284.2.1 234 (by decide)); have y3 := eA_ti (j := ((94 + 2 * i + 1))) (hF284.2.1 233 (by decide)); (try split at x) <;> (try split at x) <;> (try split at m) <;> (try split at m) <;> omega)⟩, fun i i0 i1 => (by have t0_ := hI0.t0; have t1_ := hI0.t1; have o : i < 6 * (gI g0 1 4).toInt → _ := fun hz => hR_14.2.2 i i0 hz; have o0 : i < 6 * (gI g0 59 4).toInt → _ := fun hz => hR_15.2.2 i i0 hz; have o1 : i < 6 * (gI g0 116 4).toInt → _ := fun hz => hR_16.2.2 i i0 hz; have t9_ := RgF.at hI356.2.1 (p := 1) (b := 4) rfl; dsimp only at t9_; have i9_ : i < 48 := (by omega); have x := (eA_ti (j := i) (hF357.2.1 5 (by decide))).trans (q297 i i0 i9_); have m := q364 (46 + i) (by omega) (by omega); have y1 := eA_ti (j := ((46 + i))) (hF284.2.1 234 (by decide)); have y2 := eA_ti (j := (5510 + ((46 + i)))) (hF284.2.1 234 (by decide)); have y3 := eA_ti (j := ((46 + i))) (hF284.2.1 233 (by decide)); (try split at x) <;> (try split at x) <;> (try split at m) <;> (try split at m) <;> omega)⟩), CI0.cong hR_15 (((hF357.2.1 60 (by decide)).trans (hF284.2.1 60 (by decide)))) (((hF357.2.1 61 (by decide)).trans (hF284.2.1 61 (by decide)))) (((hF357.2.1 62 (by decide)).trans (hF284.2.1 62 (by decide)))) (((hF357.2.1 72 (by decide)).trans (hF284.2.1 72 (by decide)))) (((hF357.2.1 73 (by decide)).trans (hF284.2.1 73 (by decide)))) (((hF357.2.1 63 (by decide)).trans (hF284.2.1 63 (by decide)))) (((hF357.2.1 234 (by decide)).trans (hF284.2.1 234 (by decide)))) (congrArg Int32.toInt (((hF357.1 59 4 (by decide)).trans (hF284.1 59 4 (by decide))))), CI1.cong hR_16 (((hF357.2.1 117 (by decide)).trans (hF284.2.1 117 (by decide)))) (((hF357.2.1 118 (by decide)).trans (hF284.2.1 118 (by decide)))) (((hF357.2.1 119 (by decide)).trans (hF284.2.1 119 (by decide)))) (((hF357.2.1 129 (by decide)).trans (hF284.2.1 129 (by decide)))) (((hF357.2.1 130 (by decide)).trans (hF284.2.1 130 (by decide)))) (((hF357.2.1 120 (by decide)).trans (hF284.2.1 120 (by decide)))) (((hF357.2.1 234 (by decide)).trans (hF284.2.1 234 (by decide)))) (congrArg Int32.toInt (((hF357.1 116 4 (by decide)).trans (hF284.1 116 4 (by decide))))), (show RT _ from fun i i0 i1 => (eA_ti (((hF357.2.1 175 (by decide)).trans (hF284.2.1 175 (by decide))))).trans ((hR_17 i i0 (by omega)).trans (eA_ti (((hF357.2.1 236 (by decide)).trans (hF284.2.1 236 (by decide))))).symm)), (show BYX _ from fun i i0 i1 => by rw [TX.c (((hF357.2.1 175 (by decide)).trans (hF284.2.1 175 (by decide))))]; exact hR_18 i i0 (by have i2 : i < (gI _ 174 1).toInt := i1; show i < (gI g0 174 1).toInt; omega)), (LAWR_back (c := 1) hR_19 (TOLDX_fr hF357 rfl rfl rfl rfl (fe288.1 hR_19.2.2.2.2)) (((hF357.2.1 173 (by decide)).trans (hF284.2.1 173 (by decide)))) (((hF357.1 59 6 (by decide)).trans (hF284.1 59 6 (by decide)))) (((hF357.1 116 6 (by decide)).trans (hF284.1 116 6 (by decide)))) (((hF357.2.1 234 (by decide)).trans (hF284.2.1 234 (by decide)))) (Or.inr ⟨rfl, n281_k, (BCI_c (fe289.2.1 ⟨n281_e, n281_k⟩) (LSA_fr hF357 rfl) (Or.inl rfl)), i32e (by omega), (fun i i0 i1 => ((RW_p (fun i i0 i1 => (q364 i i0 i1).trans (if_neg (fun h => n354_0 h.1))) ⟨n354_e, n354_k⟩) i i0 i1).trans (eA_ti (hF284.2.1 234 (by decide))))⟩)), (SETX_fr hF357 rfl rfl rfl rfl rfl (fe288.2 hR_20))⟩)
  · have n419_e : v2.toInt = 1 := by omega
    have n419_0 : v2.toInt ≠ 0 := by omega
    have n419_k : (eA g0 173 1).toInt = 0 := by omega
    refine r_callV 1280 rfl [.ref 0, .int v2] [] (Nat.le_of_ble_eq_true rfl) rfl (T_X10_back_0 _ hI0 v2) ?_
    rintro _ _ ⟨g420, rfl, hI421, hF422, v423, rfl, hr424⟩
    refine At.sti ?_
    have hF425 := Fr.tr hF0 hF422 rfl rfl
    have fe426 : PH _ := hr424.2.2
    replace hr424 := And.intro hr424.1 hr424.2.1
    have fe427 : PH _ := hr424.2.2
    replace hr424 := And.intro hr424.1 hr424.2.1
    obtain ⟨q428, q429, q430, q431, q432, q433, q434, q435⟩ := hr424
    obtain ⟨p436, p437, p438, p439, p440, p441⟩ := (And.intro q428 q429)
    have w442 := p439 ⟨fun h => n419_0 h.1, fun h => h.2 n419_k⟩
    have w443 := p441 ⟨by omega, by omega, fun h => n419_0 h.1, fun h => h.2 n419_k⟩
    clear p437 p438 p439 p440 p441
    clear q429
    have f445 := congrArg Int32.toInt (hF422.1 59 0 rfl)
    have f446 := congrArg Int32.toInt (hF422.1 59 12 rfl)
    have f447 := congrArg Int32.toInt (hF422.1 59 10 rfl)
    have f448 := congrArg Int32.toInt (hF422.1 59 11 rfl)
    have f449 := congrArg Int32.toInt (hF422.1 59 4 rfl)
    have f450 := congrArg Int32.toInt (hF422.1 59 6 rfl)
    have f451 := congrArg Int32.toInt (hF422.1 59 9 rfl)
    have f452 := congrArg Int32.toInt (hF422.1 116 0 rfl)
    have f453 := congrArg Int32.toInt (hF422.1 116 12 rfl)
    have f454 := congrArg Int32.toInt (hF422.1 116 10 rfl)
    have f455 := congrArg Int32.toInt (hF422.1 116 11 rfl)
    have f456 := congrArg Int32.toInt (hF422.1 116 4 rfl)
    have f457 := congrArg Int32.toInt (hF422.1 116 6 rfl)
    have f458 := congrArg Int32.toInt (hF422.1 116 9 rfl)
    have f459 := congrArg Int32.toInt (eA_c (j := 0) (hF422.2.1 173 rfl))
    have f460 := congrArg Int32.toInt (eA_c (j := 1) (hF422.2.1 173 rfl))
    have f461 := congrArg Int32.toInt (hF422.1 174 1 rfl)
    have f462 := congrArg Int32.toInt (hF422.1 0 16 rfl)
    have f463 := congrArg Int32.toInt (hF422.1 176 2 rfl)
    have f464 := congrArg Int32.toInt (eA_c (j := 0) (hF422.2.1 233 rfl))
    have f465 := congrArg Int32.toInt (eA_c (j := 4) (hF422.2.1 233 rfl))
    have f466 := congrArg Int32.toInt (eA_c (j := 5) (hF422.2.1 233 rfl))
    have f467 := congrArg Int32.toInt (eA_c (j := 6) (hF422.2.1 233 rfl))
    have f468 := congrArg Int32.toInt (eA_c (j := 1) (hF422.2.1 233 rfl))
    have f469 := congrArg Int32.toInt (eA_c (j := 2) (hF422.2.1 233 rfl))
    have f470 := congrArg Int32.toInt (eA_c (j := 3) (hF422.2.1 233 rfl))
    have f471 := congrArg Int32.toInt (eA_c (j := 0) (hF422.2.1 234 rfl))
    have f472 := congrArg Int32.toInt (eA_c (j := 4) (hF422.2.1 234 rfl))
    have f473 := congrArg Int32.toInt (eA_c (j := 5) (hF422.2.1 234 rfl))
    have f474 := congrArg Int32.toInt (eA_c (j := 6) (hF422.2.1 234 rfl))
    have f475 := congrArg Int32.toInt (eA_c (j := 1) (hF422.2.1 234 rfl))
    have f476 := congrArg Int32.toInt (eA_c (j := 2) (hF422.2.1 234 rfl))
    have f477 := congrArg Int32.toInt (eA_c (j := 3) (hF422.2.1 234 rfl))
    have f478 := congrArg Int32.toInt (eA_c (j := 5510) (hF422.2.1 234 rfl))
    have f479 := congrArg Int32.toInt (eA_c (j := 5514) (hF422.2.1 234 rfl))
    have f480 := congrArg Int32.toInt (eA_c (j := 5515) (hF422.2.1 234 rfl))
    have f481 := congrArg Int32.toInt (eA_c (j := 5516) (hF422.2.1 234 rfl))
    have f482 := congrArg Int32.toInt (eA_c (j := 5511) (hF422.2.1 234 rfl))
    have f483 := congrArg Int32.toInt (eA_c (j := 5512) (hF422.2.1 234 rfl))
    have f484 := congrArg Int32.toInt (eA_c (j := 5513) (hF422.2.1 234 rfl))
    have f485 := congrArg Int32.toInt (eA_c (j := 0) (hF422.2.1 235 rfl))
    have f486 := congrArg Int32.toInt (eA_c (j := 1) (hF422.2.1 235 rfl))
    have f487 := congrArg Int32.toInt (hF422.1 231 8 rfl)
    have f488 := congrArg Int32.toInt (hF422.1 231 6 rfl)
    have f489 := congrArg Int32.toInt (hF422.1 231 13 rfl)
    refine At.enter rfl ?_
    refine r_pop rfl ?_
    refine r_aload_n e2 ?_
    refine r_sload_n e0 ?_
    refine r_iload_n e3 ?_
    refine r_iconst 1 rfl ?_
    refine q_iadd (i.toInt + 1) rfl hx_1 (fun v490 hv490 => ?_)
    refine q_scald (m := L) hL (i.toInt + 1) hv490 hy_1 (fun v491 hv491 => ?_)
    have sv491 := hv2.symm.trans hv491
    subst sv491
    have n492_e : v2.toInt = 1 := by omega
    have n492_0 : v2.toInt ≠ 0 := by omega
    have n492_k : (eA g420 235 1).toInt = 0 := by omega
    refine r_callV 1290 rfl [.ref 231, .int v2] [] (Nat.le_of_ble_eq_true rfl) rfl (T_X11_back_231 _ hI421 v2) ?_
    rintro _ _ ⟨g493, rfl, hI494, hF495, v496, rfl, hr497⟩
    refine At.sti ?_
    have hF498 := Fr.tr hF425 hF495 rfl rfl
    obtain ⟨q500, q501, q502⟩ := hr497
    obtain ⟨p503, p504, p505, p506, p507, p508⟩ := (And.intro q500 q501)
    have w509 := p506 ⟨fun h => n492_0 h.1, fun h => h.2 n492_k⟩
    have w510 := p508 ⟨by omega, by omega, fun h => n492_0 h.1, fun h => h.2 n492_k⟩
    clear p504 p505 p506 p507 p508
    clear q501
    have f512 := congrArg Int32.toInt (hF495.1 1 0 rfl)
    have f513 := congrArg Int32.toInt (hF495.1 1 12 rfl)
    have f514 := congrArg Int32.toInt (hF495.1 1 10 rfl)
    have f515 := congrArg Int32.toInt (hF495.1 1 11 rfl)
    have f516 := congrArg Int32.toInt (hF495.1 1 4 rfl)
    have f517 := congrArg Int32.toInt (hF495.1 1 6 rfl)
    have f518 := congrArg Int32.toInt (hF495.1 1 9 rfl)
    have f519 := congrArg Int32.toInt (hF495.1 59 0 rfl)
    have f520 := congrArg Int32.toInt (hF495.1 59 12 rfl)
    have f521 := congrArg Int32.toInt (hF495.1 59 10 rfl)
    have f522 := congrArg Int32.toInt (hF495.1 59 11 rfl)
    have f523 := congrArg Int32.toInt (hF495.1 59 4 rfl)
    have f524 := congrArg Int32.toInt (hF495.1 59 6 rfl)
    have f525 := congrArg Int32.toInt (hF495.1 59 9 rfl)
    have f526 := congrArg Int32.toInt (hF495.1 116 0 rfl)
    have f527 := congrArg Int32.toInt (hF495.1 116 12 rfl)
    have f528 := congrArg Int32.toInt (hF495.1 116 10 rfl)
    have f529 := congrArg Int32.toInt (hF495.1 116 11 rfl)
    have f530 := congrArg Int32.toInt (hF495.1 116 4 rfl)
    have f531 := congrArg Int32.toInt (hF495.1 116 6 rfl)
    have f532 := congrArg Int32.toInt (hF495.1 116 9 rfl)
    have f533 := congrArg Int32.toInt (eA_c (j := 0) (hF495.2.1 173 rfl))
    have f534 := congrArg Int32.toInt (eA_c (j := 1) (hF495.2.1 173 rfl))
    have f535 := congrArg Int32.toInt (hF495.1 174 1 rfl)
    have f536 := congrArg Int32.toInt (hF495.1 0 16 rfl)
    have f537 := congrArg Int32.toInt (hF495.1 176 2 rfl)
    have f538 := congrArg Int32.toInt (eA_c (j := 0) (hF495.2.1 234 rfl))
    have f539 := congrArg Int32.toInt (eA_c (j := 4) (hF495.2.1 234 rfl))
    have f540 := congrArg Int32.toInt (eA_c (j := 5) (hF495.2.1 234 rfl))
    have f541 := congrArg Int32.toInt (eA_c (j := 6) (hF495.2.1 234 rfl))
    have f542 := congrArg Int32.toInt (eA_c (j := 1) (hF495.2.1 234 rfl))
    have f543 := congrArg Int32.toInt (eA_c (j := 2) (hF495.2.1 234 rfl))
    have f544 := congrArg Int32.toInt (eA_c (j := 3) (hF495.2.1 234 rfl))
    have f545 := congrArg Int32.toInt (eA_c (j := 5510) (hF495.2.1 234 rfl))
    have f546 := congrArg Int32.toInt (eA_c (j := 5514) (hF495.2.1 234 rfl))
    have f547 := congrArg Int32.toInt (eA_c (j := 5515) (hF495.2.1 234 rfl))
    have f548 := congrArg Int32.toInt (eA_c (j := 5516) (hF495.2.1 234 rfl))
    have f549 := congrArg Int32.toInt (eA_c (j := 5511) (hF495.2.1 234 rfl))
    have f550 := congrArg Int32.toInt (eA_c (j := 5512) (hF495.2.1 234 rfl))
    have f551 := congrArg Int32.toInt (eA_c (j := 5513) (hF495.2.1 234 rfl))
    have f552 := congrArg Int32.toInt (eA_c (j := 0) (hF495.2.1 235 rfl))
    have f553 := congrArg Int32.toInt (eA_c (j := 1) (hF495.2.1 235 rfl))
    have f554 := congrArg Int32.toInt (hF495.1 231 8 rfl)
    have f555 := congrArg Int32.toInt (hF495.1 231 6 rfl)
    have f556 := congrArg Int32.toInt (hF495.1 231 13 rfl)
    refine At.enter rfl ?_
    refine r_pop rfl ?_
    refine r_goto ?_
    exact K _ hI494 (show LwR _ from ⟨by omega, by omega, by omega, by omega, by omega, by omega, by omega, (eA_ti (j := 0) (((hF495.2.1 173 (by decide)).trans (hF422.2.1 173 (by decide))))).trans (hR_7.trans (eA_ti (j := 0) (((hF495.2.1 235 (by decide)).trans (hF422.2.1 235 (by decide))))).symm), (eA_ti (j := 1) (((hF495.2.1 173 (by decide)).trans (hF422.2.1 173 (by decide))))).trans (hR_8.trans (eA_ti (j := 1) (((hF495.2.1 235 (by decide)).trans (hF422.2.1 235 (by decide))))).symm), (congrArg Int32.toInt (((hF495.1 174 1 (by decide)).trans (hF422.1 174 1 (by decide))))).trans (hR_9.trans (congrArg Int32.toInt (((hF495.1 231 8 (by decide)).trans (hF422.1 231 8 (by decide))))).symm), (congrArg Int32.toInt (((hF495.1 0 16 (by decide)).trans (hF422.1 0 16 (by decide))))).trans (hR_10.trans (congrArg Int32.toInt (((hF495.1 231 6 (by decide)).trans (hF422.1 231 6 (by decide))))).symm), (congrArg Int32.toInt (((hF495.1 176 2 (by decide)).trans (hF422.1 176 2 (by decide))))).trans (hR_11.trans (congrArg Int32.toInt (((hF495.1 231 13 (by decide)).trans (hF422.1 231 13 (by decide))))).symm), IM0.cong hR_12 (eA_ti (j := 0) (((hF495.2.1 173 (by decide)).trans (hF422.2.1 173 (by decide))))) (congrArg Int32.toInt (((hF495.1 59 0 (by decide)).trans (hF422.1 59 0 (by decide))))) (eA_ti (j := 0) (((hF495.2.1 234 (by decide)).trans (hF422.2.1 234 (by decide))))) (congrArg Int32.toInt (((hF495.1 59 12 (by decide)).trans (hF422.1 59 12 (by decide))))) (eA_ti (j := 4) (((hF495.2.1 234 (by decide)).trans (hF422.2.1 234 (by decide))))) (congrArg Int32.toInt (((hF495.1 59 10 (by decide)).trans (hF422.1 59 10 (by decide))))) (eA_ti (j := 5) (((hF495.2.1 234 (by decide)).trans (hF422.2.1 234 (by decide))))) (congrArg Int32.toInt (((hF495.1 59 11 (by decide)).trans (hF422.1 59 11 (by decide))))) (eA_ti (j := 6) (((hF495.2.1 234 (by decide)).trans (hF422.2.1 234 (by decide))))) (congrArg Int32.toInt (((hF495.1 59 4 (by decide)).trans (hF422.1 59 4 (by decide))))) (eA_ti (j := 1) (((hF495.2.1 234 (by decide)).trans (hF422.2.1 234 (by decide))))) (congrArg Int32.toInt (((hF495.1 59 6 (by decide)).trans (hF422.1 59 6 (by decide))))) (eA_ti (j := 2) (((hF495.2.1 234 (by decide)).trans (hF422.2.1 234 (by decide))))) (congrArg Int32.toInt (((hF495.1 59 9 (by decide)).trans (hF422.1 59 9 (by decide))))) (eA_ti (j := 3) (((hF495.2.1 234 (by decide)).trans (hF422.2.1 234 (by decide))))), IM1.cong hR_13 (eA_ti (j := 1) (((hF495.2.1 173 (by decide)).trans (hF422.2.1 173 (by decide))))) (congrArg Int32.toInt (((hF495.1 116 0 (by decide)).trans (hF422.1 116 0 (by decide))))) (eA_ti (j := 5510) (((hF495.2.1 234 (by decide)).trans (hF422.2.1 234 (by decide))))) (congrArg Int32.toInt (((hF495.1 116 12 (by decide)).trans (hF422.1 116 12 (by decide))))) (eA_ti (j := 5514) (((hF495.2.1 234 (by decide)).trans (hF422.2.1 234 (by decide))))) (congrArg Int32.toInt (((hF495.1 116 10 (by decide)).trans (hF422.1 116 10 (by decide))))) (eA_ti (j := 5515) (((hF495.2.1 234 (by decide)).trans (hF422.2.1 234 (by decide))))) (congrArg Int32.toInt (((hF495.1 116 11 (by decide)).trans (hF422.1 116 11 (by decide))))) (eA_ti (j := 5516) (((hF495.2.1 234 (by decide)).trans (hF422.2.1 234 (by decide))))) (congrArg Int32.toInt (((hF495.1 116 4 (by decide)).trans (hF422.1 116 4 (by decide))))) (eA_ti (j := 5511) (((hF495.2.1 234 (by decide)).trans (hF422.2.1 234 (by decide))))) (congrArg Int32.toInt (((hF495.1 116 6 (by decide)).trans (hF422.1 116 6 (by decide))))) (eA_ti (j := 5512) (((hF495.2.1 234 (by decide)).trans (hF422.2.1 234 (by decide))))) (congrArg Int32.toInt (((hF495.1 116 9 (by decide)).trans (hF422.1 116 9 (by decide))))) (eA_ti (j := 5513) (((hF495.2.1 234 (by decide)).trans (hF422.2.1 234 (by decide))))), (show CT _ from ⟨fun i i0 i1 => ⟨(by have t0_ := hI0.t0; have t1_ := hI0.t1; have o := (hR_14.1 i i0 i1).1; have o0 := (hR_15.1 i i0 i1).1; have o1 := (hR_16.1 i i0 i1).1; have x := (eA_ti (j := i) (hF495.2.1 2 (by decide))).trans (q430 i i0 i1); have m := q502 (10 + 3 * i) (by omega) (by omega); have y1 := eA_ti (j := ((10 + 3 * i))) (hF422.2.1 234 (by decide)); have y2 := eA_ti (j := (5510 + ((10 + 3 * i)))) (hF422.2.1 234 (by decide)); have y3 := eA_ti (j := ((10 + 3 * i))) (hF422.2.1 233 (by decide)); (try split at x) <;> (try split at x) <;> (try split at m) <;> (try split at m) <;> omega), (by have t0_ := hI0.t0; have t1_ := hI0.t1; have o := (hR_14.1 i i0 i1).2.1; have o0 := (hR_15.1 i i0 i1).2.1; have o1 := (hR_16.1 i i0 i1).2.1; have x := (eA_ti (j := i) (hF495.2.1 3 (by decide))).trans (q431 i i0 i1); have m := q502 (10 + 3 * i + 1) (by omega) (by omega); have y1 := eA_ti (j := ((10 + 3 * i + 1))) (hF422.2.1 234 (by decide)); have y2 := eA_ti (j := (5510 + ((10 + 3 * i + 1)))) (hF422.2.1 234 (by decide)); have y3 := eA_ti (j := ((10 + 3 * i + 1))) (hF422.2.1 233 (by decide)); (try split at x) <;> (try split at x) <;> (try split at m) <;> (try split at m) <;> omega), (by have t0_ := hI0.t0; have t1_ := hI0.t1; have o := (hR_14.1 i i0 i1).2.2; have o0 := (hR_15.1 i i0 i1).2.2; have o1 := (hR_16.1 i i0 i1).2.2; have x := (eA_ti (j := i) (hF495.2.1 4 (by decide))).trans (q432 i i0 i1); have m := q502 (10 + 3 * i + 2) (by omega) (by omega); have y1 := eA_ti (j := ((10 + 3 * i + 2))) (hF422.2.1 234 (by decide)); have y2 := eA_ti (j := (5510 + ((10 + 3 * i + 2)))) (hF422.2.1 234 (by decide)); have y3 := eA_ti (j := ((10 + 3 * i + 2))) (hF422.2.1 233 (by decide)); (try split at x) <;> (try split at x) <;> (try split at m) <;> (try split at m) <;> omega)⟩, fun i i0 i1 => ⟨(by have t0_ := hI0.t0; have t1_ := hI0.t1; have o := (hR_14.2.1 i i0 i1).1; have o0 := (hR_15.2.1 i i0 i1).1; have o1 := (hR_16.2.1 i i0 i1).1; have x := (eA_ti (j := i) (hF495.2.1 14 (by decide))).trans (q433 i i0 i1); have m := q502 (94 + 2 * i) (by omega) (by omega); have y1 := eA_ti (j := ((94 + 2 * i))) (hF422.2.1 234 (by decide)); have y2 := eA_ti (j := (5510 + ((94 + 2 * i)))) (hF422.2.1 234 (by decide)); have y3 := eA_ti (j := ((94 + 2 * i))) (hF422.2.1 233 (by decide)); (try split at x) <;> (try split at x) <;> (try split at m) <;> (try split at m) <;> omega), (by have t0_ := hI0.t0; have t1_ := hI0.t1; have o := (hR_14.2.1 i i0 i1).2; have o0 := (hR_15.2.1 i i0 i1).2; have o1 := (hR_16.2.1 i i0 i1).2; have x := (eA_ti (j := i) (hF495.2.1 15 (by decide))).trans (q434 i i0 i1); have m := q502 (94 + 2 * i + 1) (by omega) (by omega); have y1 := eA_ti (j := ((94 + 2 * i + 1))) (hF422.2.1 234 (by decide)); have y2 := eA_ti (j := (5510 + ((94 + 2 * i + 1)))) (hF422.2.1 234 (by decide)); have y3 := eA_ti (j := ((94 + 2 * i + 1))) (hF422.2.1 233 (by decide)); (try split at x) <;> (try split at x) <;> (try split at m) <;> (try split at m) <;> omega)⟩, fun i i0 i1 => (by have t0_ := hI0.t0; have t1_ := hI0.t1; have o : i < 6 * (gI g0 1 4).toInt → _ := fun hz => hR_14.2.2 i i0 hz; have o0 : i < 6 * (gI g0 59 4).toInt → _ := fun hz => hR_15.2.2 i i0 hz; have o1 : i < 6 * (gI g0 116 4).toInt → _ := fun hz => hR_16.2.2 i i0 hz; have t9_ := RgF.at hI494.2.1 (p := 1) (b := 4) rfl; dsimp only at t9_; have i9_ : i < 48 := (by omega); have x := (eA_ti (j := i) (hF495.2.1 5 (by decide))).trans (q435 i i0 i9_); have m := q502 (46 + i) (by omega) (by omega); have y1 := eA_ti (j := ((46 + i))) (hF422.2.1 234 (by decide)); have y2 := eA_ti (j := (5510 + ((46 + i)))) (hF422.2.1 234 (by decide)); have y3 := eA_ti (j := ((46 + i))) (hF422.2.1 233 (by decide)); (try split at x) <;> (try split at x) <;> (try split at m) <;> (try split at m) <;> omega)⟩), CI0.cong hR_15 (((hF495.2.1 60 (by decide)).trans (hF422.2.1 60 (by decide)))) (((hF495.2.1 61 (by decide)).trans (hF422.2.1 61 (by decide)))) (((hF495.2.1 62 (by decide)).trans (hF422.2.1 62 (by decide)))) (((hF495.2.1 72 (by decide)).trans (hF422.2.1 72 (by decide)))) (((hF495.2.1 73 (by decide)).trans (hF422.2.1 73 (by decide)))) (((hF495.2.1 63 (by decide)).trans (hF422.2.1 63 (by decide)))) (((hF495.2.1 234 (by decide)).trans (hF422.2.1 234 (by decide)))) (congrArg Int32.toInt (((hF495.1 59 4 (by decide)).trans (hF422.1 59 4 (by decide))))), CI1.cong hR_16 (((hF495.2.1 117 (by decide)).trans (hF422.2.1 117 (by decide)))) (((hF495.2.1 118 (by decide)).trans (hF422.2.1 118 (by decide)))) (((hF495.2.1 119 (by decide)).trans (hF422.2.1 119 (by decide)))) (((hF495.2.1 129 (by decide)).trans (hF422.2.1 129 (by decide)))) (((hF495.2.1 130 (by decide)).trans (hF422.2.1 130 (by decide)))) (((hF495.2.1 120 (by decide)).trans (hF422.2.1 120 (by decide)))) (((hF495.2.1 234 (by decide)).trans (hF422.2.1 234 (by decide)))) (congrArg Int32.toInt (((hF495.1 116 4 (by decide)).trans (hF422.1 116 4 (by decide))))), (show RT _ from fun i i0 i1 => (eA_ti (((hF495.2.1 175 (by decide)).trans (hF422.2.1 175 (by decide))))).trans ((hR_17 i i0 (by omega)).trans (eA_ti (((hF495.2.1 236 (by decide)).trans (hF422.2.1 236 (by decide))))).symm)), (show BYX _ from fun i i0 i1 => by rw [TX.c (((hF495.2.1 175 (by decide)).trans (hF422.2.1 175 (by decide))))]; exact hR_18 i i0 (by have i2 : i < (gI _ 174 1).toInt := i1; show i < (gI g0 174 1).toInt; omega)), (LAWR_n hR_19 (LSA_tr (fe427.2.2 ⟨(fun h => n419_0 h.1), (fun h => h.2 n419_k)⟩) (LSA_fr hF495 rfl)) (by omega) (by omega) (by omega) (by omega) (by omega) (fun i i0 i1 => ((RW_n (fun i i0 i1 => (q502 i i0 i1).trans (if_neg (fun h => n492_0 h.1))) (fun h => h.2 n492_k)) i i0 i1).trans (eA_ti (hF422.2.1 233 (by decide)))) (fun i i0 i1 => ⟨eA_ti (((hF495.2.1 234 (by decide)).trans (hF422.2.1 234 (by decide)))), eA_ti (((hF495.2.1 234 (by decide)).trans (hF422.2.1 234 (by decide))))⟩) (TOLDX_fr hF495 rfl rfl rfl rfl (fe426.1 hR_19.2.2.2.2))), (SETX_fr hF495 rfl rfl rfl rfl rfl (fe426.2 hR_20))⟩)
  · have n557_e : (v2.toInt < 0 ∨ 1 < v2.toInt) := by omega
    have n557_0 : v2.toInt ≠ 0 := by omega
    have n557_1 : v2.toInt ≠ 1 := by omega
    refine r_callV 1280 rfl [.ref 0, .int v2] [] (Nat.le_of_ble_eq_true rfl) rfl (T_X10_back_0 _ hI0 v2) ?_
    rintro _ _ ⟨g558, rfl, hI559, hF560, v561, rfl, hr562⟩
    refine At.sti ?_
    have hF563 := Fr.tr hF0 hF560 rfl rfl
    have fe564 : PH _ := hr562.2.2
    replace hr562 := And.intro hr562.1 hr562.2.1
    have fe565 : PH _ := hr562.2.2
    replace hr562 := And.intro hr562.1 hr562.2.1
    obtain ⟨q566, q567, q568, q569, q570, q571, q572, q573⟩ := hr562
    obtain ⟨p574, p575, p576, p577, p578, p579⟩ := (And.intro q566 q567)
    have w580 := p578 n557_e
    have w581 := p577 ⟨fun h => n557_0 h.1, fun h => n557_1 h.1⟩
    clear p575 p576 p577 p578 p579
    clear q567
    have f583 := congrArg Int32.toInt (hF560.1 59 0 rfl)
    have f584 := congrArg Int32.toInt (hF560.1 59 12 rfl)
    have f585 := congrArg Int32.toInt (hF560.1 59 10 rfl)
    have f586 := congrArg Int32.toInt (hF560.1 59 11 rfl)
    have f587 := congrArg Int32.toInt (hF560.1 59 4 rfl)
    have f588 := congrArg Int32.toInt (hF560.1 59 6 rfl)
    have f589 := congrArg Int32.toInt (hF560.1 59 9 rfl)
    have f590 := congrArg Int32.toInt (hF560.1 116 0 rfl)
    have f591 := congrArg Int32.toInt (hF560.1 116 12 rfl)
    have f592 := congrArg Int32.toInt (hF560.1 116 10 rfl)
    have f593 := congrArg Int32.toInt (hF560.1 116 11 rfl)
    have f594 := congrArg Int32.toInt (hF560.1 116 4 rfl)
    have f595 := congrArg Int32.toInt (hF560.1 116 6 rfl)
    have f596 := congrArg Int32.toInt (hF560.1 116 9 rfl)
    have f597 := congrArg Int32.toInt (eA_c (j := 0) (hF560.2.1 173 rfl))
    have f598 := congrArg Int32.toInt (eA_c (j := 1) (hF560.2.1 173 rfl))
    have f599 := congrArg Int32.toInt (hF560.1 174 1 rfl)
    have f600 := congrArg Int32.toInt (hF560.1 0 16 rfl)
    have f601 := congrArg Int32.toInt (hF560.1 176 2 rfl)
    have f602 := congrArg Int32.toInt (eA_c (j := 0) (hF560.2.1 233 rfl))
    have f603 := congrArg Int32.toInt (eA_c (j := 4) (hF560.2.1 233 rfl))
    have f604 := congrArg Int32.toInt (eA_c (j := 5) (hF560.2.1 233 rfl))
    have f605 := congrArg Int32.toInt (eA_c (j := 6) (hF560.2.1 233 rfl))
    have f606 := congrArg Int32.toInt (eA_c (j := 1) (hF560.2.1 233 rfl))
    have f607 := congrArg Int32.toInt (eA_c (j := 2) (hF560.2.1 233 rfl))
    have f608 := congrArg Int32.toInt (eA_c (j := 3) (hF560.2.1 233 rfl))
    have f609 := congrArg Int32.toInt (eA_c (j := 0) (hF560.2.1 234 rfl))
    have f610 := congrArg Int32.toInt (eA_c (j := 4) (hF560.2.1 234 rfl))
    have f611 := congrArg Int32.toInt (eA_c (j := 5) (hF560.2.1 234 rfl))
    have f612 := congrArg Int32.toInt (eA_c (j := 6) (hF560.2.1 234 rfl))
    have f613 := congrArg Int32.toInt (eA_c (j := 1) (hF560.2.1 234 rfl))
    have f614 := congrArg Int32.toInt (eA_c (j := 2) (hF560.2.1 234 rfl))
    have f615 := congrArg Int32.toInt (eA_c (j := 3) (hF560.2.1 234 rfl))
    have f616 := congrArg Int32.toInt (eA_c (j := 5510) (hF560.2.1 234 rfl))
    have f617 := congrArg Int32.toInt (eA_c (j := 5514) (hF560.2.1 234 rfl))
    have f618 := congrArg Int32.toInt (eA_c (j := 5515) (hF560.2.1 234 rfl))
    have f619 := congrArg Int32.toInt (eA_c (j := 5516) (hF560.2.1 234 rfl))
    have f620 := congrArg Int32.toInt (eA_c (j := 5511) (hF560.2.1 234 rfl))
    have f621 := congrArg Int32.toInt (eA_c (j := 5512) (hF560.2.1 234 rfl))
    have f622 := congrArg Int32.toInt (eA_c (j := 5513) (hF560.2.1 234 rfl))
    have f623 := congrArg Int32.toInt (eA_c (j := 0) (hF560.2.1 235 rfl))
    have f624 := congrArg Int32.toInt (eA_c (j := 1) (hF560.2.1 235 rfl))
    have f625 := congrArg Int32.toInt (hF560.1 231 8 rfl)
    have f626 := congrArg Int32.toInt (hF560.1 231 6 rfl)
    have f627 := congrArg Int32.toInt (hF560.1 231 13 rfl)
    refine At.enter rfl ?_
    refine r_pop rfl ?_
    refine r_aload_n e2 ?_
    refine r_sload_n e0 ?_
    refine r_iload_n e3 ?_
    refine r_iconst 1 rfl ?_
    refine q_iadd (i.toInt + 1) rfl hx_1 (fun v628 hv628 => ?_)
    refine q_scald (m := L) hL (i.toInt + 1) hv628 hy_1 (fun v629 hv629 => ?_)
    have sv629 := hv2.symm.trans hv629
    subst sv629
    have n630_e : (v2.toInt < 0 ∨ 1 < v2.toInt) := by omega
    have n630_0 : v2.toInt ≠ 0 := by omega
    have n630_1 : v2.toInt ≠ 1 := by omega
    refine r_callV 1290 rfl [.ref 231, .int v2] [] (Nat.le_of_ble_eq_true rfl) rfl (T_X11_back_231 _ hI559 v2) ?_
    rintro _ _ ⟨g631, rfl, hI632, hF633, v634, rfl, hr635⟩
    refine At.sti ?_
    have hF636 := Fr.tr hF563 hF633 rfl rfl
    obtain ⟨q638, q639, q640⟩ := hr635
    obtain ⟨p641, p642, p643, p644, p645, p646⟩ := (And.intro q638 q639)
    have w647 := p645 n630_e
    have w648 := p644 ⟨fun h => n630_0 h.1, fun h => n630_1 h.1⟩
    clear p642 p643 p644 p645 p646
    clear q639
    have f650 := congrArg Int32.toInt (hF633.1 1 0 rfl)
    have f651 := congrArg Int32.toInt (hF633.1 1 12 rfl)
    have f652 := congrArg Int32.toInt (hF633.1 1 10 rfl)
    have f653 := congrArg Int32.toInt (hF633.1 1 11 rfl)
    have f654 := congrArg Int32.toInt (hF633.1 1 4 rfl)
    have f655 := congrArg Int32.toInt (hF633.1 1 6 rfl)
    have f656 := congrArg Int32.toInt (hF633.1 1 9 rfl)
    have f657 := congrArg Int32.toInt (hF633.1 59 0 rfl)
    have f658 := congrArg Int32.toInt (hF633.1 59 12 rfl)
    have f659 := congrArg Int32.toInt (hF633.1 59 10 rfl)
    have f660 := congrArg Int32.toInt (hF633.1 59 11 rfl)
    have f661 := congrArg Int32.toInt (hF633.1 59 4 rfl)
    have f662 := congrArg Int32.toInt (hF633.1 59 6 rfl)
    have f663 := congrArg Int32.toInt (hF633.1 59 9 rfl)
    have f664 := congrArg Int32.toInt (hF633.1 116 0 rfl)
    have f665 := congrArg Int32.toInt (hF633.1 116 12 rfl)
    have f666 := congrArg Int32.toInt (hF633.1 116 10 rfl)
    have f667 := congrArg Int32.toInt (hF633.1 116 11 rfl)
    have f668 := congrArg Int32.toInt (hF633.1 116 4 rfl)
    have f669 := congrArg Int32.toInt (hF633.1 116 6 rfl)
    have f670 := congrArg Int32.toInt (hF633.1 116 9 rfl)
    have f671 := congrArg Int32.toInt (eA_c (j := 0) (hF633.2.1 173 rfl))
    have f672 := congrArg Int32.toInt (eA_c (j := 1) (hF633.2.1 173 rfl))
    have f673 := congrArg Int32.toInt (hF633.1 174 1 rfl)
    have f674 := congrArg Int32.toInt (hF633.1 0 16 rfl)
    have f675 := congrArg Int32.toInt (hF633.1 176 2 rfl)
    have f676 := congrArg Int32.toInt (eA_c (j := 0) (hF633.2.1 234 rfl))
    have f677 := congrArg Int32.toInt (eA_c (j := 4) (hF633.2.1 234 rfl))
    have f678 := congrArg Int32.toInt (eA_c (j := 5) (hF633.2.1 234 rfl))
    have f679 := congrArg Int32.toInt (eA_c (j := 6) (hF633.2.1 234 rfl))
    have f680 := congrArg Int32.toInt (eA_c (j := 1) (hF633.2.1 234 rfl))
    have f681 := congrArg Int32.toInt (eA_c (j := 2) (hF633.2.1 234 rfl))
    have f682 := congrArg Int32.toInt (eA_c (j := 3) (hF633.2.1 234 rfl))
    have f683 := congrArg Int32.toInt (eA_c (j := 5510) (hF633.2.1 234 rfl))
    have f684 := congrArg Int32.toInt (eA_c (j := 5514) (hF633.2.1 234 rfl))
    have f685 := congrArg Int32.toInt (eA_c (j := 5515) (hF633.2.1 234 rfl))
    have f686 := congrArg Int32.toInt (eA_c (j := 5516) (hF633.2.1 234 rfl))
    have f687 := congrArg Int32.toInt (eA_c (j := 5511) (hF633.2.1 234 rfl))
    have f688 := congrArg Int32.toInt (eA_c (j := 5512) (hF633.2.1 234 rfl))
    have f689 := congrArg Int32.toInt (eA_c (j := 5513) (hF633.2.1 234 rfl))
    have f690 := congrArg Int32.toInt (eA_c (j := 0) (hF633.2.1 235 rfl))
    have f691 := congrArg Int32.toInt (eA_c (j := 1) (hF633.2.1 235 rfl))
    have f692 := congrArg Int32.toInt (hF633.1 231 8 rfl)
    have f693 := congrArg Int32.toInt (hF633.1 231 6 rfl)
    have f694 := congrArg Int32.toInt (hF633.1 231 13 rfl)
    refine At.enter rfl ?_
    refine r_pop rfl ?_
    refine r_goto ?_
    exact K _ hI632 (show LwR _ from ⟨by omega, by omega, by omega, by omega, by omega, by omega, by omega, (eA_ti (j := 0) (((hF633.2.1 173 (by decide)).trans (hF560.2.1 173 (by decide))))).trans (hR_7.trans (eA_ti (j := 0) (((hF633.2.1 235 (by decide)).trans (hF560.2.1 235 (by decide))))).symm), (eA_ti (j := 1) (((hF633.2.1 173 (by decide)).trans (hF560.2.1 173 (by decide))))).trans (hR_8.trans (eA_ti (j := 1) (((hF633.2.1 235 (by decide)).trans (hF560.2.1 235 (by decide))))).symm), (congrArg Int32.toInt (((hF633.1 174 1 (by decide)).trans (hF560.1 174 1 (by decide))))).trans (hR_9.trans (congrArg Int32.toInt (((hF633.1 231 8 (by decide)).trans (hF560.1 231 8 (by decide))))).symm), (congrArg Int32.toInt (((hF633.1 0 16 (by decide)).trans (hF560.1 0 16 (by decide))))).trans (hR_10.trans (congrArg Int32.toInt (((hF633.1 231 6 (by decide)).trans (hF560.1 231 6 (by decide))))).symm), (congrArg Int32.toInt (((hF633.1 176 2 (by decide)).trans (hF560.1 176 2 (by decide))))).trans (hR_11.trans (congrArg Int32.toInt (((hF633.1 231 13 (by decide)).trans (hF560.1 231 13 (by decide))))).symm), IM0.cong hR_12 (eA_ti (j := 0) (((hF633.2.1 173 (by decide)).trans (hF560.2.1 173 (by decide))))) (congrArg Int32.toInt (((hF633.1 59 0 (by decide)).trans (hF560.1 59 0 (by decide))))) (eA_ti (j := 0) (((hF633.2.1 234 (by decide)).trans (hF560.2.1 234 (by decide))))) (congrArg Int32.toInt (((hF633.1 59 12 (by decide)).trans (hF560.1 59 12 (by decide))))) (eA_ti (j := 4) (((hF633.2.1 234 (by decide)).trans (hF560.2.1 234 (by decide))))) (congrArg Int32.toInt (((hF633.1 59 10 (by decide)).trans (hF560.1 59 10 (by decide))))) (eA_ti (j := 5) (((hF633.2.1 234 (by decide)).trans (hF560.2.1 234 (by decide))))) (congrArg Int32.toInt (((hF633.1 59 11 (by decide)).trans (hF560.1 59 11 (by decide))))) (eA_ti (j := 6) (((hF633.2.1 234 (by decide)).trans (hF560.2.1 234 (by decide))))) (congrArg Int32.toInt (((hF633.1 59 4 (by decide)).trans (hF560.1 59 4 (by decide))))) (eA_ti (j := 1) (((hF633.2.1 234 (by decide)).trans (hF560.2.1 234 (by decide))))) (congrArg Int32.toInt (((hF633.1 59 6 (by decide)).trans (hF560.1 59 6 (by decide))))) (eA_ti (j := 2) (((hF633.2.1 234 (by decide)).trans (hF560.2.1 234 (by decide))))) (congrArg Int32.toInt (((hF633.1 59 9 (by decide)).trans (hF560.1 59 9 (by decide))))) (eA_ti (j := 3) (((hF633.2.1 234 (by decide)).trans (hF560.2.1 234 (by decide))))), IM1.cong hR_13 (eA_ti (j := 1) (((hF633.2.1 173 (by decide)).trans (hF560.2.1 173 (by decide))))) (congrArg Int32.toInt (((hF633.1 116 0 (by decide)).trans (hF560.1 116 0 (by decide))))) (eA_ti (j := 5510) (((hF633.2.1 234 (by decide)).trans (hF560.2.1 234 (by decide))))) (congrArg Int32.toInt (((hF633.1 116 12 (by decide)).trans (hF560.1 116 12 (by decide))))) (eA_ti (j := 5514) (((hF633.2.1 234 (by decide)).trans (hF560.2.1 234 (by decide))))) (congrArg Int32.toInt (((hF633.1 116 10 (by decide)).trans (hF560.1 116 10 (by decide))))) (eA_ti (j := 5515) (((hF633.2.1 234 (by decide)).trans (hF560.2.1 234 (by decide))))) (congrArg Int32.toInt (((hF633.1 116 11 (by decide)).trans (hF560.1 116 11 (by decide))))) (eA_ti (j := 5516) (((hF633.2.1 234 (by decide)).trans (hF560.2.1 234 (by decide))))) (congrArg Int32.toInt (((hF633.1 116 4 (by decide)).trans (hF560.1 116 4 (by decide))))) (eA_ti (j := 5511) (((hF633.2.1 234 (by decide)).trans (hF560.2.1 234 (by decide))))) (congrArg Int32.toInt (((hF633.1 116 6 (by decide)).trans (hF560.1 116 6 (by decide))))) (eA_ti (j := 5512) (((hF633.2.1 234 (by decide)).trans (hF560.2.1 234 (by decide))))) (congrArg Int32.toInt (((hF633.1 116 9 (by decide)).trans (hF560.1 116 9 (by decide))))) (eA_ti (j := 5513) (((hF633.2.1 234 (by decide)).trans (hF560.2.1 234 (by decide))))), (show CT _ from ⟨fun i i0 i1 => ⟨(by have t0_ := hI0.t0; have t1_ := hI0.t1; have o := (hR_14.1 i i0 i1).1; have o0 := (hR_15.1 i i0 i1).1; have o1 := (hR_16.1 i i0 i1).1; have x := (eA_ti (j := i) (hF633.2.1 2 (by decide))).trans (q568 i i0 i1); have m := q640 (10 + 3 * i) (by omega) (by omega); have y1 := eA_ti (j := ((10 + 3 * i))) (hF560.2.1 234 (by decide)); have y2 := eA_ti (j := (5510 + ((10 + 3 * i)))) (hF560.2.1 234 (by decide)); have y3 := eA_ti (j := ((10 + 3 * i))) (hF560.2.1 233 (by decide)); (try split at x) <;> (try split at x) <;> (try split at m) <;> (try split at m) <;> omega), (by have t0_ := hI0.t0; have t1_ := hI0.t1; have o := (hR_14.1 i i0 i1).2.1; have o0 := (hR_15.1 i i0 i1).2.1; have o1 := (hR_16.1 i i0 i1).2.1; have x := (eA_ti (j := i) (hF633.2.1 3 (by decide))).trans (q569 i i0 i1); have m := q640 (10 + 3 * i + 1) (by omega) (by omega); have y1 := eA_ti (j := ((10 + 3 * i + 1))) (hF560.2.1 234 (by decide)); have y2 := eA_ti (j := (5510 + ((10 + 3 * i + 1)))) (hF560.2.1 234 (by decide)); have y3 := eA_ti (j := ((10 + 3 * i + 1))) (hF560.2.1 233 (by decide)); (try split at x) <;> (try split at x) <;> (try split at m) <;> (try split at m) <;> omega), (by have t0_ := hI0.t0; have t1_ := hI0.t1; have o := (hR_14.1 i i0 i1).2.2; have o0 := (hR_15.1 i i0 i1).2.2; have o1 := (hR_16.1 i i0 i1).2.2; have x := (eA_ti (j := i) (hF633.2.1 4 (by decide))).trans (q570 i i0 i1); have m := q640 (10 + 3 * i + 2) (by omega) (by omega); have y1 := eA_ti (j := ((10 + 3 * i + 2))) (hF560.2.1 234 (by decide)); have y2 := eA_ti (j := (5510 + ((10 + 3 * i + 2)))) (hF560.2.1 234 (by decide)); have y3 := eA_ti (j := ((10 + 3 * i + 2))) (hF560.2.1 233 (by decide)); (try split at x) <;> (try split at x) <;> (try split at m) <;> (try split at m) <;> omega)⟩, fun i i0 i1 => ⟨(by have t0_ := hI0.t0; have t1_ := hI0.t1; have o := (hR_14.2.1 i i0 i1).1; have o0 := (hR_15.2.1 i i0 i1).1; have o1 := (hR_16.2.1 i i0 i1).1; have x := (eA_ti (j := i) (hF633.2.1 14 (by decide))).trans (q571 i i0 i1); have m := q640 (94 + 2 * i) (by omega) (by omega); have y1 := eA_ti (j := ((94 + 2 * i))) (hF560.2.1 234 (by decide)); have y2 := eA_ti (j := (5510 + ((94 + 2 * i)))) (hF560.2.1 234 (by decide)); have y3 := eA_ti (j := ((94 + 2 * i))) (hF560.2.1 233 (by decide)); (try split at x) <;> (try split at x) <;> (try split at m) <;> (try split at m) <;> omega), (by have t0_ := hI0.t0; have t1_ := hI0.t1; have o := (hR_14.2.1 i i0 i1).2; have o0 := (hR_15.2.1 i i0 i1).2; have o1 := (hR_16.2.1 i i0 i1).2; have x := (eA_ti (j := i) (hF633.2.1 15 (by decide))).trans (q572 i i0 i1); have m := q640 (94 + 2 * i + 1) (by omega) (by omega); have y1 := eA_ti (j := ((94 + 2 * i + 1))) (hF560.2.1 234 (by decide)); have y2 := eA_ti (j := (5510 + ((94 + 2 * i + 1)))) (hF560.2.1 234 (by decide)); have y3 := eA_ti (j := ((94 + 2 * i + 1))) (hF560.2.1 233 (by decide)); (try split at x) <;> (try split at x) <;> (try split at m) <;> (try split at m) <;> omega)⟩, fun i i0 i1 => (by have t0_ := hI0.t0; have t1_ := hI0.t1; have o : i < 6 * (gI g0 1 4).toInt → _ := fun hz => hR_14.2.2 i i0 hz; have o0 : i < 6 * (gI g0 59 4).toInt → _ := fun hz => hR_15.2.2 i i0 hz; have o1 : i < 6 * (gI g0 116 4).toInt → _ := fun hz => hR_16.2.2 i i0 hz; have t9_ := RgF.at hI632.2.1 (p := 1) (b := 4) rfl; dsimp only at t9_; have i9_ : i < 48 := (by omega); have x := (eA_ti (j := i) (hF633.2.1 5 (by decide))).trans (q573 i i0 i9_); have m := q640 (46 + i) (by omega) (by omega); have y1 := eA_ti (j := ((46 + i))) (hF560.2.1 234 (by decide)); have y2 := eA_ti (j := (5510 + ((46 + i)))) (hF560.2.1 234 (by decide)); have y3 := eA_ti (j := ((46 + i))) (hF560.2.1 233 (by decide)); (try split at x) <;> (try split at x) <;> (try split at m) <;> (try split at m) <;> omega)⟩), CI0.cong hR_15 (((hF633.2.1 60 (by decide)).trans (hF560.2.1 60 (by decide)))) (((hF633.2.1 61 (by decide)).trans (hF560.2.1 61 (by decide)))) (((hF633.2.1 62 (by decide)).trans (hF560.2.1 62 (by decide)))) (((hF633.2.1 72 (by decide)).trans (hF560.2.1 72 (by decide)))) (((hF633.2.1 73 (by decide)).trans (hF560.2.1 73 (by decide)))) (((hF633.2.1 63 (by decide)).trans (hF560.2.1 63 (by decide)))) (((hF633.2.1 234 (by decide)).trans (hF560.2.1 234 (by decide)))) (congrArg Int32.toInt (((hF633.1 59 4 (by decide)).trans (hF560.1 59 4 (by decide))))), CI1.cong hR_16 (((hF633.2.1 117 (by decide)).trans (hF560.2.1 117 (by decide)))) (((hF633.2.1 118 (by decide)).trans (hF560.2.1 118 (by decide)))) (((hF633.2.1 119 (by decide)).trans (hF560.2.1 119 (by decide)))) (((hF633.2.1 129 (by decide)).trans (hF560.2.1 129 (by decide)))) (((hF633.2.1 130 (by decide)).trans (hF560.2.1 130 (by decide)))) (((hF633.2.1 120 (by decide)).trans (hF560.2.1 120 (by decide)))) (((hF633.2.1 234 (by decide)).trans (hF560.2.1 234 (by decide)))) (congrArg Int32.toInt (((hF633.1 116 4 (by decide)).trans (hF560.1 116 4 (by decide))))), (show RT _ from fun i i0 i1 => (eA_ti (((hF633.2.1 175 (by decide)).trans (hF560.2.1 175 (by decide))))).trans ((hR_17 i i0 (by omega)).trans (eA_ti (((hF633.2.1 236 (by decide)).trans (hF560.2.1 236 (by decide))))).symm)), (show BYX _ from fun i i0 i1 => by rw [TX.c (((hF633.2.1 175 (by decide)).trans (hF560.2.1 175 (by decide))))]; exact hR_18 i i0 (by have i2 : i < (gI _ 174 1).toInt := i1; show i < (gI g0 174 1).toInt; omega)), (LAWR_n hR_19 (LSA_tr (fe565.2.2 ⟨(fun h => n557_0 h.1), (fun h => n557_1 h.1)⟩) (LSA_fr hF633 rfl)) (by omega) (by omega) (by omega) (by omega) (by omega) (fun i i0 i1 => ((RW_n (fun i i0 i1 => (q640 i i0 i1).trans (if_neg (fun h => n630_0 h.1))) (fun h => n630_1 h.1)) i i0 i1).trans (eA_ti (hF560.2.1 233 (by decide)))) (fun i i0 i1 => ⟨eA_ti (((hF633.2.1 234 (by decide)).trans (hF560.2.1 234 (by decide)))), eA_ti (((hF633.2.1 234 (by decide)).trans (hF560.2.1 234 (by decide))))⟩) (TOLDX_fr hF633 rfl rfl rfl rfl (fe564.1 hR_19.2.2.2.2))), (SETX_fr hF633 rfl rfl rfl rfl rfl (fe564.2 hR_20))⟩)
