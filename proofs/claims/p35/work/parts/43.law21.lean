set_option maxRecDepth 100000 in
set_option maxHeartbeats 8000000 in
theorem lq_c37 (d : Nat) {N : Nat} {g0 : List en_E} (hI0 : HI g0) (hR0 : LwR g0) {ys : List Int32} {L : Nat} (hL : ys.length = L) (hL2 : L ≤ 3584) {l : en_L} {i : Int32} (e0 : en_get 0 l = some (.float 0)) (e1 : en_get 1 l = some (.ref 0)) (e2 : en_get 2 l = some (.ref 231)) (e3 : en_get 3 l = some (.int i)) (hi : 0 ≤ i.toInt ∧ i.toInt + 7 ≤ L) {Ph : Option Value → en_H → Prop} (K : ∀ g1 : List en_E, HI g1 → LwR g1 → At (d + 423) (some ys) (some .boolean) bs_L_law (1330, l, [], (g1, N)) Ph) : At (d + 423) (some ys) (some .boolean) bs_L_law (1271, l, [], (g0, N)) Ph := by
  have hF0 : Fr F_law A_law g0 g0 := Fr.rf
  have hx_1 : -2147483648 ≤ i.toInt + 1 ∧ i.toInt + 1 ≤ 2147483647 := by omega
  have hx_2 : -2147483648 ≤ i.toInt + 2 ∧ i.toInt + 2 ≤ 2147483647 := by omega
  have hx_3 : -2147483648 ≤ i.toInt + 3 ∧ i.toInt + 3 ≤ 2147483647 := by omega
  have hx_4 : -2147483648 ≤ i.toInt + 4 ∧ i.toInt + 4 ≤ 2147483647 := by omega
  have hx_5 : -2147483648 ≤ i.toInt + 5 ∧ i.toInt + 5 ≤ 2147483647 := by omega
  have hx_6 : -2147483648 ≤ i.toInt + 6 ∧ i.toInt + 6 ≤ 2147483647 := by omega
  have hy_0 : 0 ≤ i.toInt ∧ i.toInt < (L : Int) := by omega
  have hy_1 : 0 ≤ i.toInt + 1 ∧ i.toInt + 1 < (L : Int) := by omega
  have hy_2 : 0 ≤ i.toInt + 2 ∧ i.toInt + 2 < (L : Int) := by omega
  have hy_3 : 0 ≤ i.toInt + 3 ∧ i.toInt + 3 < (L : Int) := by omega
  have hy_4 : 0 ≤ i.toInt + 4 ∧ i.toInt + 4 < (L : Int) := by omega
  have hy_5 : 0 ≤ i.toInt + 5 ∧ i.toInt + 5 < (L : Int) := by omega
  have hy_6 : 0 ≤ i.toInt + 6 ∧ i.toInt + 6 < (L : Int) := by omega
  unfold LwR at hR0
  obtain ⟨hR_0, hR_1, hR_2, hR_3, hR_4, hR_5, hR_6, hR_7, hR_8, hR_9, hR_10, hR_11⟩ := hR0
  refine At.enter rfl ?_
  refine r_aload_n e1 ?_
  refine r_sload_n e0 ?_
  refine r_iload_n e3 ?_
  refine r_iconst 1 rfl ?_
  refine q_iadd (i.toInt + 1) rfl hx_1 (fun v1 hv1 => ?_)
  refine q_scald (m := L) hL (i.toInt + 1) hv1 hy_1 (fun v2 hv2 => ?_)
  rcases (show (v2.toInt = 0 ∧ ¬ (eA g0 173 0).toInt = 0) ∨ (v2.toInt = 0 ∧ (eA g0 173 0).toInt = 0) ∨ (v2.toInt = 1 ∧ ¬ (eA g0 173 1).toInt = 0) ∨ (v2.toInt = 1 ∧ (eA g0 173 1).toInt = 0) ∨ (v2.toInt < 0 ∨ 1 < v2.toInt) by omega) with u3 | u3 | u3 | u3 | u3
  · have n5_e : v2.toInt = 0 := by omega
    have n5_1 : v2.toInt ≠ 1 := by omega
    have n5_k : (eA g0 173 0).toInt ≠ 0 := by omega
    have n5_i := hR_7 (by omega)
    refine r_callV 1280 rfl [.ref 0, .int v2] [] (Nat.le_of_ble_eq_true rfl) rfl (T_X10_back_0 _ hI0 v2) ?_
    rintro _ _ ⟨g6, rfl, hI7, hF8, v9, rfl, hr10⟩
    refine At.sti ?_
    have hF11 := Fr.tr hF0 hF8 rfl rfl
    obtain ⟨q12, q13, q14, q15, q16, q17, q18⟩ := hr10
    obtain ⟨p19, p20, p21, p22, p23, p24⟩ := (And.intro q12 q13)
    have w25 := p20 ⟨n5_e, n5_k⟩
    clear p20 p21 p22 p23 p24
    have f28 := congrArg Int32.toInt (hF8.1 59 0 rfl)
    have f29 := congrArg Int32.toInt (hF8.1 59 12 rfl)
    have f30 := congrArg Int32.toInt (hF8.1 59 10 rfl)
    have f31 := congrArg Int32.toInt (hF8.1 59 11 rfl)
    have f32 := congrArg Int32.toInt (hF8.1 116 0 rfl)
    have f33 := congrArg Int32.toInt (hF8.1 116 12 rfl)
    have f34 := congrArg Int32.toInt (hF8.1 116 10 rfl)
    have f35 := congrArg Int32.toInt (hF8.1 116 11 rfl)
    have f36 := congrArg Int32.toInt (eA_c (j := 0) (hF8.2.1 173 rfl))
    have f37 := congrArg Int32.toInt (eA_c (j := 1) (hF8.2.1 173 rfl))
    have f38 := congrArg Int32.toInt (hF8.1 174 1 rfl)
    have f39 := congrArg Int32.toInt (eA_c (j := 0) (hF8.2.1 233 rfl))
    have f40 := congrArg Int32.toInt (eA_c (j := 4) (hF8.2.1 233 rfl))
    have f41 := congrArg Int32.toInt (eA_c (j := 5) (hF8.2.1 233 rfl))
    have f42 := congrArg Int32.toInt (eA_c (j := 6) (hF8.2.1 233 rfl))
    have f43 := congrArg Int32.toInt (eA_c (j := 0) (hF8.2.1 234 rfl))
    have f44 := congrArg Int32.toInt (eA_c (j := 4) (hF8.2.1 234 rfl))
    have f45 := congrArg Int32.toInt (eA_c (j := 5) (hF8.2.1 234 rfl))
    have f46 := congrArg Int32.toInt (eA_c (j := 6) (hF8.2.1 234 rfl))
    have f47 := congrArg Int32.toInt (eA_c (j := 5510) (hF8.2.1 234 rfl))
    have f48 := congrArg Int32.toInt (eA_c (j := 5514) (hF8.2.1 234 rfl))
    have f49 := congrArg Int32.toInt (eA_c (j := 5515) (hF8.2.1 234 rfl))
    have f50 := congrArg Int32.toInt (eA_c (j := 5516) (hF8.2.1 234 rfl))
    have f51 := congrArg Int32.toInt (eA_c (j := 0) (hF8.2.1 235 rfl))
    have f52 := congrArg Int32.toInt (eA_c (j := 1) (hF8.2.1 235 rfl))
    have f53 := congrArg Int32.toInt (hF8.1 231 8 rfl)
    refine At.enter rfl ?_
    refine r_pop rfl ?_
    refine r_aload_n e2 ?_
    refine r_sload_n e0 ?_
    refine r_iload_n e3 ?_
    refine r_iconst 1 rfl ?_
    refine q_iadd (i.toInt + 1) rfl hx_1 (fun v54 hv54 => ?_)
    refine q_scald (m := L) hL (i.toInt + 1) hv54 hy_1 (fun v55 hv55 => ?_)
    have sv55 := hv2.symm.trans hv55
    subst sv55
    have n56_e : v2.toInt = 0 := by omega
    have n56_1 : v2.toInt ≠ 1 := by omega
    have n56_k : (eA g6 235 0).toInt ≠ 0 := by omega
    refine r_callV 1290 rfl [.ref 231, .int v2] [] (Nat.le_of_ble_eq_true rfl) rfl (T_X11_back_231 _ hI7 v2) ?_
    rintro _ _ ⟨g57, rfl, hI58, hF59, v60, rfl, hr61⟩
    refine At.sti ?_
    have hF62 := Fr.tr hF11 hF59 rfl rfl
    obtain ⟨q63, q64, q65⟩ := hr61
    obtain ⟨p66, p67, p68, p69, p70, p71⟩ := (And.intro q63 q64)
    have w72 := p67 ⟨n56_e, n56_k⟩
    clear p67 p68 p69 p70 p71
    have f75 := congrArg Int32.toInt (hF59.1 1 0 rfl)
    have f76 := congrArg Int32.toInt (hF59.1 1 12 rfl)
    have f77 := congrArg Int32.toInt (hF59.1 1 10 rfl)
    have f78 := congrArg Int32.toInt (hF59.1 1 11 rfl)
    have f79 := congrArg Int32.toInt (hF59.1 59 0 rfl)
    have f80 := congrArg Int32.toInt (hF59.1 59 12 rfl)
    have f81 := congrArg Int32.toInt (hF59.1 59 10 rfl)
    have f82 := congrArg Int32.toInt (hF59.1 59 11 rfl)
    have f83 := congrArg Int32.toInt (hF59.1 116 0 rfl)
    have f84 := congrArg Int32.toInt (hF59.1 116 12 rfl)
    have f85 := congrArg Int32.toInt (hF59.1 116 10 rfl)
    have f86 := congrArg Int32.toInt (hF59.1 116 11 rfl)
    have f87 := congrArg Int32.toInt (eA_c (j := 0) (hF59.2.1 173 rfl))
    have f88 := congrArg Int32.toInt (eA_c (j := 1) (hF59.2.1 173 rfl))
    have f89 := congrArg Int32.toInt (hF59.1 174 1 rfl)
    have f90 := congrArg Int32.toInt (eA_c (j := 0) (hF59.2.1 234 rfl))
    have f91 := congrArg Int32.toInt (eA_c (j := 4) (hF59.2.1 234 rfl))
    have f92 := congrArg Int32.toInt (eA_c (j := 5) (hF59.2.1 234 rfl))
    have f93 := congrArg Int32.toInt (eA_c (j := 6) (hF59.2.1 234 rfl))
    have f94 := congrArg Int32.toInt (eA_c (j := 5510) (hF59.2.1 234 rfl))
    have f95 := congrArg Int32.toInt (eA_c (j := 5514) (hF59.2.1 234 rfl))
    have f96 := congrArg Int32.toInt (eA_c (j := 5515) (hF59.2.1 234 rfl))
    have f97 := congrArg Int32.toInt (eA_c (j := 5516) (hF59.2.1 234 rfl))
    have f98 := congrArg Int32.toInt (eA_c (j := 0) (hF59.2.1 235 rfl))
    have f99 := congrArg Int32.toInt (eA_c (j := 1) (hF59.2.1 235 rfl))
    have f100 := congrArg Int32.toInt (hF59.1 231 8 rfl)
    refine At.enter rfl ?_
    refine r_pop rfl ?_
    refine r_goto ?_
    exact K _ hI58 (show LwR _ from ⟨by omega, by omega, by omega, by omega, (eA_ti (j := 0) (((hF59.2.1 173 (by decide)).trans (hF8.2.1 173 (by decide))))).trans (hR_4.trans (eA_ti (j := 0) (((hF59.2.1 235 (by decide)).trans (hF8.2.1 235 (by decide))))).symm), (eA_ti (j := 1) (((hF59.2.1 173 (by decide)).trans (hF8.2.1 173 (by decide))))).trans (hR_5.trans (eA_ti (j := 1) (((hF59.2.1 235 (by decide)).trans (hF8.2.1 235 (by decide))))).symm), (congrArg Int32.toInt (((hF59.1 174 1 (by decide)).trans (hF8.1 174 1 (by decide))))).trans (hR_6.trans (congrArg Int32.toInt (((hF59.1 231 8 (by decide)).trans (hF8.1 231 8 (by decide))))).symm), IM0.cong hR_7 (eA_ti (j := 0) (((hF59.2.1 173 (by decide)).trans (hF8.2.1 173 (by decide))))) (congrArg Int32.toInt (((hF59.1 59 0 (by decide)).trans (hF8.1 59 0 (by decide))))) (eA_ti (j := 0) (((hF59.2.1 234 (by decide)).trans (hF8.2.1 234 (by decide))))) (congrArg Int32.toInt (((hF59.1 59 12 (by decide)).trans (hF8.1 59 12 (by decide))))) (eA_ti (j := 4) (((hF59.2.1 234 (by decide)).trans (hF8.2.1 234 (by decide))))) (congrArg Int32.toInt (((hF59.1 59 10 (by decide)).trans (hF8.1 59 10 (by decide))))) (eA_ti (j := 5) (((hF59.2.1 234 (by decide)).trans (hF8.2.1 234 (by decide))))) (congrArg Int32.toInt (((hF59.1 59 11 (by decide)).trans (hF8.1 59 11 (by decide))))) (eA_ti (j := 6) (((hF59.2.1 234 (by decide)).trans (hF8.2.1 234 (by decide))))), IM1.cong hR_8 (eA_ti (j := 1) (((hF59.2.1 173 (by decide)).trans (hF8.2.1 173 (by decide))))) (congrArg Int32.toInt (((hF59.1 116 0 (by decide)).trans (hF8.1 116 0 (by decide))))) (eA_ti (j := 5510) (((hF59.2.1 234 (by decide)).trans (hF8.2.1 234 (by decide))))) (congrArg Int32.toInt (((hF59.1 116 12 (by decide)).trans (hF8.1 116 12 (by decide))))) (eA_ti (j := 5514) (((hF59.2.1 234 (by decide)).trans (hF8.2.1 234 (by decide))))) (congrArg Int32.toInt (((hF59.1 116 10 (by decide)).trans (hF8.1 116 10 (by decide))))) (eA_ti (j := 5515) (((hF59.2.1 234 (by decide)).trans (hF8.2.1 234 (by decide))))) (congrArg Int32.toInt (((hF59.1 116 11 (by decide)).trans (hF8.1 116 11 (by decide))))) (eA_ti (j := 5516) (((hF59.2.1 234 (by decide)).trans (hF8.2.1 234 (by decide))))), (show CT _ from ⟨fun i i0 i1 => ⟨(by have t0_ := hI0.t0; have t1_ := hI0.t1; clear q13 q64; have o := (hR_9.1 i i0 i1).1; have o0 := (hR_10.1 i i0 i1).1; have o1 := (hR_11.1 i i0 i1).1; have x := (eA_ti (j := i) (hF59.2.1 2 (by decide))).trans (q14 i i0 i1); have m := q65 (10 + 3 * i) (by omega) (by omega); have y1 := eA_ti (j := ((10 + 3 * i))) (hF8.2.1 234 (by decide)); have y2 := eA_ti (j := (5510 + ((10 + 3 * i)))) (hF8.2.1 234 (by decide)); have y3 := eA_ti (j := ((10 + 3 * i))) (hF8.2.1 233 (by decide)); (try split at x) <;> (try split at x) <;> (try split at m) <;> (try split at m) <;> omega), (by have t0_ := hI0.t0; have t1_ := hI0.t1; clear q13 q64; have o := (hR_9.1 i i0 i1).2.1; have o0 := (hR_10.1 i i0 i1).2.1; have o1 := (hR_11.1 i i0 i1).2.1; have x := (eA_ti (j := i) (hF59.2.1 3 (by decide))).trans (q15 i i0 i1); have m := q65 (10 + 3 * i + 1) (by omega) (by omega); have y1 := eA_ti (j := ((10 + 3 * i + 1))) (hF8.2.1 234 (by decide)); have y2 := eA_ti (j := (5510 + ((10 + 3 * i + 1)))) (hF8.2.1 234 (by decide)); have y3 := eA_ti (j := ((10 + 3 * i + 1))) (hF8.2.1 233 (by decide)); (try split at x) <;> (try split at x) <;> (try split at m) <;> (try split at m) <;> omega), (by have t0_ := hI0.t0; have t1_ := hI0.t1; clear q13 q64; have o := (hR_9.1 i i0 i1).2.2; have o0 := (hR_10.1 i i0 i1).2.2; have o1 := (hR_11.1 i i0 i1).2.2; have x := (eA_ti (j := i) (hF59.2.1 4 (by decide))).trans (q16 i i0 i1); have m := q65 (10 + 3 * i + 2) (by omega) (by omega); have y1 := eA_ti (j := ((10 + 3 * i + 2))) (hF8.2.1 234 (by decide)); have y2 := eA_ti (j := (5510 + ((10 + 3 * i + 2)))) (hF8.2.1 234 (by decide)); have y3 := eA_ti (j := ((10 + 3 * i + 2))) (hF8.2.1 233 (by decide)); (try split at x) <;> (try split at x) <;> (try split at m) <;> (try split at m) <;> omega)⟩, fun i i0 i1 => ⟨(by have t0_ := hI0.t0; have t1_ := hI0.t1; clear q13 q64; have o := (hR_9.2 i i0 i1).1; have o0 := (hR_10.2 i i0 i1).1; have o1 := (hR_11.2 i i0 i1).1; have x := (eA_ti (j := i) (hF59.2.1 14 (by decide))).trans (q17 i i0 i1); have m := q65 (94 + 2 * i) (by omega) (by omega); have y1 := eA_ti (j := ((94 + 2 * i))) (hF8.2.1 234 (by decide)); have y2 := eA_ti (j := (5510 + ((94 + 2 * i)))) (hF8.2.1 234 (by decide)); have y3 := eA_ti (j := ((94 + 2 * i))) (hF8.2.1 233 (by decide)); (try split at x) <;> (try split at x) <;> (try split at m) <;> (try split at m) <;> omega), (by have t0_ := hI0.t0; have t1_ := hI0.t1; clear q13 q64; have o := (hR_9.2 i i0 i1).2; have o0 := (hR_10.2 i i0 i1).2; have o1 := (hR_11.2 i i0 i1).2; have x := (eA_ti (j := i) (hF59.2.1 15 (by decide))).trans (q18 i i0 i1); have m := q65 (94 + 2 * i + 1) (by omega) (by omega); have y1 := eA_ti (j := ((94 + 2 * i + 1))) (hF8.2.1 234 (by decide)); have y2 := eA_ti (j := (5510 + ((94 + 2 * i + 1)))) (hF8.2.1 234 (by decide)); have y3 := eA_ti (j := ((94 + 2 * i + 1))) (hF8.2.1 233 (by decide)); (try split at x) <;> (try split at x) <;> (try split at m) <;> (try split at m) <;> omega)⟩⟩), CI0.cong hR_10 (((hF59.2.1 60 (by decide)).trans (hF8.2.1 60 (by decide)))) (((hF59.2.1 61 (by decide)).trans (hF8.2.1 61 (by decide)))) (((hF59.2.1 62 (by decide)).trans (hF8.2.1 62 (by decide)))) (((hF59.2.1 72 (by decide)).trans (hF8.2.1 72 (by decide)))) (((hF59.2.1 73 (by decide)).trans (hF8.2.1 73 (by decide)))) (((hF59.2.1 234 (by decide)).trans (hF8.2.1 234 (by decide)))), CI1.cong hR_11 (((hF59.2.1 117 (by decide)).trans (hF8.2.1 117 (by decide)))) (((hF59.2.1 118 (by decide)).trans (hF8.2.1 118 (by decide)))) (((hF59.2.1 119 (by decide)).trans (hF8.2.1 119 (by decide)))) (((hF59.2.1 129 (by decide)).trans (hF8.2.1 129 (by decide)))) (((hF59.2.1 130 (by decide)).trans (hF8.2.1 130 (by decide)))) (((hF59.2.1 234 (by decide)).trans (hF8.2.1 234 (by decide))))⟩)
  · have n101_e : v2.toInt = 0 := by omega
    have n101_1 : v2.toInt ≠ 1 := by omega
    have n101_k : (eA g0 173 0).toInt = 0 := by omega
    refine r_callV 1280 rfl [.ref 0, .int v2] [] (Nat.le_of_ble_eq_true rfl) rfl (T_X10_back_0 _ hI0 v2) ?_
    rintro _ _ ⟨g102, rfl, hI103, hF104, v105, rfl, hr106⟩
    refine At.sti ?_
    have hF107 := Fr.tr hF0 hF104 rfl rfl
    obtain ⟨q108, q109, q110, q111, q112, q113, q114⟩ := hr106
    obtain ⟨p115, p116, p117, p118, p119, p120⟩ := (And.intro q108 q109)
    have w121 := p118 ⟨fun h => h.2 n101_k, fun h => n101_1 h.1⟩
    have w122 := p120 ⟨by omega, by omega, fun h => h.2 n101_k, fun h => n101_1 h.1⟩
    clear p116 p117 p118 p119 p120
    have f124 := congrArg Int32.toInt (hF104.1 59 0 rfl)
    have f125 := congrArg Int32.toInt (hF104.1 59 12 rfl)
    have f126 := congrArg Int32.toInt (hF104.1 59 10 rfl)
    have f127 := congrArg Int32.toInt (hF104.1 59 11 rfl)
    have f128 := congrArg Int32.toInt (hF104.1 116 0 rfl)
    have f129 := congrArg Int32.toInt (hF104.1 116 12 rfl)
    have f130 := congrArg Int32.toInt (hF104.1 116 10 rfl)
    have f131 := congrArg Int32.toInt (hF104.1 116 11 rfl)
    have f132 := congrArg Int32.toInt (eA_c (j := 0) (hF104.2.1 173 rfl))
    have f133 := congrArg Int32.toInt (eA_c (j := 1) (hF104.2.1 173 rfl))
    have f134 := congrArg Int32.toInt (hF104.1 174 1 rfl)
    have f135 := congrArg Int32.toInt (eA_c (j := 0) (hF104.2.1 233 rfl))
    have f136 := congrArg Int32.toInt (eA_c (j := 4) (hF104.2.1 233 rfl))
    have f137 := congrArg Int32.toInt (eA_c (j := 5) (hF104.2.1 233 rfl))
    have f138 := congrArg Int32.toInt (eA_c (j := 6) (hF104.2.1 233 rfl))
    have f139 := congrArg Int32.toInt (eA_c (j := 0) (hF104.2.1 234 rfl))
    have f140 := congrArg Int32.toInt (eA_c (j := 4) (hF104.2.1 234 rfl))
    have f141 := congrArg Int32.toInt (eA_c (j := 5) (hF104.2.1 234 rfl))
    have f142 := congrArg Int32.toInt (eA_c (j := 6) (hF104.2.1 234 rfl))
    have f143 := congrArg Int32.toInt (eA_c (j := 5510) (hF104.2.1 234 rfl))
    have f144 := congrArg Int32.toInt (eA_c (j := 5514) (hF104.2.1 234 rfl))
    have f145 := congrArg Int32.toInt (eA_c (j := 5515) (hF104.2.1 234 rfl))
    have f146 := congrArg Int32.toInt (eA_c (j := 5516) (hF104.2.1 234 rfl))
    have f147 := congrArg Int32.toInt (eA_c (j := 0) (hF104.2.1 235 rfl))
    have f148 := congrArg Int32.toInt (eA_c (j := 1) (hF104.2.1 235 rfl))
    have f149 := congrArg Int32.toInt (hF104.1 231 8 rfl)
    refine At.enter rfl ?_
    refine r_pop rfl ?_
    refine r_aload_n e2 ?_
    refine r_sload_n e0 ?_
    refine r_iload_n e3 ?_
    refine r_iconst 1 rfl ?_
    refine q_iadd (i.toInt + 1) rfl hx_1 (fun v150 hv150 => ?_)
    refine q_scald (m := L) hL (i.toInt + 1) hv150 hy_1 (fun v151 hv151 => ?_)
    have sv151 := hv2.symm.trans hv151
    subst sv151
    have n152_e : v2.toInt = 0 := by omega
    have n152_1 : v2.toInt ≠ 1 := by omega
    have n152_k : (eA g102 235 0).toInt = 0 := by omega
    refine r_callV 1290 rfl [.ref 231, .int v2] [] (Nat.le_of_ble_eq_true rfl) rfl (T_X11_back_231 _ hI103 v2) ?_
    rintro _ _ ⟨g153, rfl, hI154, hF155, v156, rfl, hr157⟩
    refine At.sti ?_
    have hF158 := Fr.tr hF107 hF155 rfl rfl
    obtain ⟨q159, q160, q161⟩ := hr157
    obtain ⟨p162, p163, p164, p165, p166, p167⟩ := (And.intro q159 q160)
    have w168 := p165 ⟨fun h => h.2 n152_k, fun h => n152_1 h.1⟩
    have w169 := p167 ⟨by omega, by omega, fun h => h.2 n152_k, fun h => n152_1 h.1⟩
    clear p163 p164 p165 p166 p167
    have f171 := congrArg Int32.toInt (hF155.1 1 0 rfl)
    have f172 := congrArg Int32.toInt (hF155.1 1 12 rfl)
    have f173 := congrArg Int32.toInt (hF155.1 1 10 rfl)
    have f174 := congrArg Int32.toInt (hF155.1 1 11 rfl)
    have f175 := congrArg Int32.toInt (hF155.1 59 0 rfl)
    have f176 := congrArg Int32.toInt (hF155.1 59 12 rfl)
    have f177 := congrArg Int32.toInt (hF155.1 59 10 rfl)
    have f178 := congrArg Int32.toInt (hF155.1 59 11 rfl)
    have f179 := congrArg Int32.toInt (hF155.1 116 0 rfl)
    have f180 := congrArg Int32.toInt (hF155.1 116 12 rfl)
    have f181 := congrArg Int32.toInt (hF155.1 116 10 rfl)
    have f182 := congrArg Int32.toInt (hF155.1 116 11 rfl)
    have f183 := congrArg Int32.toInt (eA_c (j := 0) (hF155.2.1 173 rfl))
    have f184 := congrArg Int32.toInt (eA_c (j := 1) (hF155.2.1 173 rfl))
    have f185 := congrArg Int32.toInt (hF155.1 174 1 rfl)
    have f186 := congrArg Int32.toInt (eA_c (j := 0) (hF155.2.1 234 rfl))
    have f187 := congrArg Int32.toInt (eA_c (j := 4) (hF155.2.1 234 rfl))
    have f188 := congrArg Int32.toInt (eA_c (j := 5) (hF155.2.1 234 rfl))
    have f189 := congrArg Int32.toInt (eA_c (j := 6) (hF155.2.1 234 rfl))
    have f190 := congrArg Int32.toInt (eA_c (j := 5510) (hF155.2.1 234 rfl))
    have f191 := congrArg Int32.toInt (eA_c (j := 5514) (hF155.2.1 234 rfl))
    have f192 := congrArg Int32.toInt (eA_c (j := 5515) (hF155.2.1 234 rfl))
    have f193 := congrArg Int32.toInt (eA_c (j := 5516) (hF155.2.1 234 rfl))
    have f194 := congrArg Int32.toInt (eA_c (j := 0) (hF155.2.1 235 rfl))
    have f195 := congrArg Int32.toInt (eA_c (j := 1) (hF155.2.1 235 rfl))
    have f196 := congrArg Int32.toInt (hF155.1 231 8 rfl)
    refine At.enter rfl ?_
    refine r_pop rfl ?_
    refine r_goto ?_
    exact K _ hI154 (show LwR _ from ⟨by omega, by omega, by omega, by omega, (eA_ti (j := 0) (((hF155.2.1 173 (by decide)).trans (hF104.2.1 173 (by decide))))).trans (hR_4.trans (eA_ti (j := 0) (((hF155.2.1 235 (by decide)).trans (hF104.2.1 235 (by decide))))).symm), (eA_ti (j := 1) (((hF155.2.1 173 (by decide)).trans (hF104.2.1 173 (by decide))))).trans (hR_5.trans (eA_ti (j := 1) (((hF155.2.1 235 (by decide)).trans (hF104.2.1 235 (by decide))))).symm), (congrArg Int32.toInt (((hF155.1 174 1 (by decide)).trans (hF104.1 174 1 (by decide))))).trans (hR_6.trans (congrArg Int32.toInt (((hF155.1 231 8 (by decide)).trans (hF104.1 231 8 (by decide))))).symm), IM0.cong hR_7 (eA_ti (j := 0) (((hF155.2.1 173 (by decide)).trans (hF104.2.1 173 (by decide))))) (congrArg Int32.toInt (((hF155.1 59 0 (by decide)).trans (hF104.1 59 0 (by decide))))) (eA_ti (j := 0) (((hF155.2.1 234 (by decide)).trans (hF104.2.1 234 (by decide))))) (congrArg Int32.toInt (((hF155.1 59 12 (by decide)).trans (hF104.1 59 12 (by decide))))) (eA_ti (j := 4) (((hF155.2.1 234 (by decide)).trans (hF104.2.1 234 (by decide))))) (congrArg Int32.toInt (((hF155.1 59 10 (by decide)).trans (hF104.1 59 10 (by decide))))) (eA_ti (j := 5) (((hF155.2.1 234 (by decide)).trans (hF104.2.1 234 (by decide))))) (congrArg Int32.toInt (((hF155.1 59 11 (by decide)).trans (hF104.1 59 11 (by decide))))) (eA_ti (j := 6) (((hF155.2.1 234 (by decide)).trans (hF104.2.1 234 (by decide))))), IM1.cong hR_8 (eA_ti (j := 1) (((hF155.2.1 173 (by decide)).trans (hF104.2.1 173 (by decide))))) (congrArg Int32.toInt (((hF155.1 116 0 (by decide)).trans (hF104.1 116 0 (by decide))))) (eA_ti (j := 5510) (((hF155.2.1 234 (by decide)).trans (hF104.2.1 234 (by decide))))) (congrArg Int32.toInt (((hF155.1 116 12 (by decide)).trans (hF104.1 116 12 (by decide))))) (eA_ti (j := 5514) (((hF155.2.1 234 (by decide)).trans (hF104.2.1 234 (by decide))))) (congrArg Int32.toInt (((hF155.1 116 10 (by decide)).trans (hF104.1 116 10 (by decide))))) (eA_ti (j := 5515) (((hF155.2.1 234 (by decide)).trans (hF104.2.1 234 (by decide))))) (congrArg Int32.toInt (((hF155.1 116 11 (by decide)).trans (hF104.1 116 11 (by decide))))) (eA_ti (j := 5516) (((hF155.2.1 234 (by decide)).trans (hF104.2.1 234 (by decide))))), (show CT _ from ⟨fun i i0 i1 => ⟨(by have t0_ := hI0.t0; have t1_ := hI0.t1; clear q109 q160; have o := (hR_9.1 i i0 i1).1; have o0 := (hR_10.1 i i0 i1).1; have o1 := (hR_11.1 i i0 i1).1; have x := (eA_ti (j := i) (hF155.2.1 2 (by decide))).trans (q110 i i0 i1); have m := q161 (10 + 3 * i) (by omega) (by omega); have y1 := eA_ti (j := ((10 + 3 * i))) (hF104.2.1 234 (by decide)); have y2 := eA_ti (j := (5510 + ((10 + 3 * i)))) (hF104.2.1 234 (by decide)); have y3 := eA_ti (j := ((10 + 3 * i))) (hF104.2.1 233 (by decide)); (try split at x) <;> (try split at x) <;> (try split at m) <;> (try split at m) <;> omega), (by have t0_ := hI0.t0; have t1_ := hI0.t1; clear q109 q160; have o := (hR_9.1 i i0 i1).2.1; have o0 := (hR_10.1 i i0 i1).2.1; have o1 := (hR_11.1 i i0 i1).2.1; have x := (eA_ti (j := i) (hF155.2.1 3 (by decide))).trans (q111 i i0 i1); have m := q161 (10 + 3 * i + 1) (by omega) (by omega); have y1 := eA_ti (j := ((10 + 3 * i + 1))) (hF104.2.1 234 (by decide)); have y2 := eA_ti (j := (5510 + ((10 + 3 * i + 1)))) (hF104.2.1 234 (by decide)); have y3 := eA_ti (j := ((10 + 3 * i + 1))) (hF104.2.1 233 (by decide)); (try split at x) <;> (try split at x) <;> (try split at m) <;> (try split at m) <;> omega), (by have t0_ := hI0.t0; have t1_ := hI0.t1; clear q109 q160; have o := (hR_9.1 i i0 i1).2.2; have o0 := (hR_10.1 i i0 i1).2.2; have o1 := (hR_11.1 i i0 i1).2.2; have x := (eA_ti (j := i) (hF155.2.1 4 (by decide))).trans (q112 i i0 i1); have m := q161 (10 + 3 * i + 2) (by omega) (by omega); have y1 := eA_ti (j := ((10 + 3 * i + 2))) (hF104.2.1 234 (by decide)); have y2 := eA_ti (j := (5510 + ((10 + 3 * i + 2)))) (hF104.2.1 234 (by decide)); have y3 := eA_ti (j := ((10 + 3 * i + 2))) (hF104.2.1 233 (by decide)); (try split at x) <;> (try split at x) <;> (try split at m) <;> (try split at m) <;> omega)⟩, fun i i0 i1 => ⟨(by have t0_ := hI0.t0; have t1_ := hI0.t1; clear q109 q160; have o := (hR_9.2 i i0 i1).1; have o0 := (hR_10.2 i i0 i1).1; have o1 := (hR_11.2 i i0 i1).1; have x := (eA_ti (j := i) (hF155.2.1 14 (by decide))).trans (q113 i i0 i1); have m := q161 (94 + 2 * i) (by omega) (by omega); have y1 := eA_ti (j := ((94 + 2 * i))) (hF104.2.1 234 (by decide)); have y2 := eA_ti (j := (5510 + ((94 + 2 * i)))) (hF104.2.1 234 (by decide)); have y3 := eA_ti (j := ((94 + 2 * i))) (hF104.2.1 233 (by decide)); (try split at x) <;> (try split at x) <;> (try split at m) <;> (try split at m) <;> omega), (by have t0_ := hI0.t0; have t1_ := hI0.t1; clear q109 q160; have o := (hR_9.2 i i0 i1).2; have o0 := (hR_10.2 i i0 i1).2; have o1 := (hR_11.2 i i0 i1).2; have x := (eA_ti (j := i) (hF155.2.1 15 (by decide))).trans (q114 i i0 i1); have m := q161 (94 + 2 * i + 1) (by omega) (by omega); have y1 := eA_ti (j := ((94 + 2 * i + 1))) (hF104.2.1 234 (by decide)); have y2 := eA_ti (j := (5510 + ((94 + 2 * i + 1)))) (hF104.2.1 234 (by decide)); have y3 := eA_ti (j := ((94 + 2 * i + 1))) (hF104.2.1 233 (by decide)); (try split at x) <;> (try split at x) <;> (try split at m) <;> (try split at m) <;> omega)⟩⟩), CI0.cong hR_10 (((hF155.2.1 60 (by decide)).trans (hF104.2.1 60 (by decide)))) (((hF155.2.1 61 (by decide)).trans (hF104.2.1 61 (by decide)))) (((hF155.2.1 62 (by decide)).trans (hF104.2.1 62 (by decide)))) (((hF155.2.1 72 (by decide)).trans (hF104.2.1 72 (by decide)))) (((hF155.2.1 73 (by decide)).trans (hF104.2.1 73 (by decide)))) (((hF155.2.1 234 (by decide)).trans (hF104.2.1 234 (by decide)))), CI1.cong hR_11 (((hF155.2.1 117 (by decide)).trans (hF104.2.1 117 (by decide)))) (((hF155.2.1 118 (by decide)).trans (hF104.2.1 118 (by decide)))) (((hF155.2.1 119 (by decide)).trans (hF104.2.1 119 (by decide)))) (((hF155.2.1 129 (by decide)).trans (hF104.2.1 129 (by decide)))) (((hF155.2.1 130 (by decide)).trans (hF104.2.1 130 (by decide)))) (((hF155.2.1 234 (by decide)).trans (hF104.2.1 234 (by decide))))⟩)
  · have n197_e : v2.toInt = 1 := by omega
    have n197_0 : v2.toInt ≠ 0 := by omega
    have n197_k : (eA g0 173 1).toInt ≠ 0 := by omega
    have n197_i := hR_8 (by omega)
    refine r_callV 1280 rfl [.ref 0, .int v2] [] (Nat.le_of_ble_eq_true rfl) rfl (T_X10_back_0 _ hI0 v2) ?_
    rintro _ _ ⟨g198, rfl, hI199, hF200, v201, rfl, hr202⟩
    refine At.sti ?_
    have hF203 := Fr.tr hF0 hF200 rfl rfl
    obtain ⟨q204, q205, q206, q207, q208, q209, q210⟩ := hr202
    obtain ⟨p211, p212, p213, p214, p215, p216⟩ := (And.intro q204 q205)
    have w217 := p213 ⟨n197_e, n197_k⟩
    clear p212 p213 p214 p215 p216
    have f220 := congrArg Int32.toInt (hF200.1 59 0 rfl)
    have f221 := congrArg Int32.toInt (hF200.1 59 12 rfl)
    have f222 := congrArg Int32.toInt (hF200.1 59 10 rfl)
    have f223 := congrArg Int32.toInt (hF200.1 59 11 rfl)
    have f224 := congrArg Int32.toInt (hF200.1 116 0 rfl)
    have f225 := congrArg Int32.toInt (hF200.1 116 12 rfl)
    have f226 := congrArg Int32.toInt (hF200.1 116 10 rfl)
    have f227 := congrArg Int32.toInt (hF200.1 116 11 rfl)
    have f228 := congrArg Int32.toInt (eA_c (j := 0) (hF200.2.1 173 rfl))
    have f229 := congrArg Int32.toInt (eA_c (j := 1) (hF200.2.1 173 rfl))
    have f230 := congrArg Int32.toInt (hF200.1 174 1 rfl)
    have f231 := congrArg Int32.toInt (eA_c (j := 0) (hF200.2.1 233 rfl))
    have f232 := congrArg Int32.toInt (eA_c (j := 4) (hF200.2.1 233 rfl))
    have f233 := congrArg Int32.toInt (eA_c (j := 5) (hF200.2.1 233 rfl))
    have f234 := congrArg Int32.toInt (eA_c (j := 6) (hF200.2.1 233 rfl))
    have f235 := congrArg Int32.toInt (eA_c (j := 0) (hF200.2.1 234 rfl))
    have f236 := congrArg Int32.toInt (eA_c (j := 4) (hF200.2.1 234 rfl))
    have f237 := congrArg Int32.toInt (eA_c (j := 5) (hF200.2.1 234 rfl))
    have f238 := congrArg Int32.toInt (eA_c (j := 6) (hF200.2.1 234 rfl))
    have f239 := congrArg Int32.toInt (eA_c (j := 5510) (hF200.2.1 234 rfl))
    have f240 := congrArg Int32.toInt (eA_c (j := 5514) (hF200.2.1 234 rfl))
    have f241 := congrArg Int32.toInt (eA_c (j := 5515) (hF200.2.1 234 rfl))
    have f242 := congrArg Int32.toInt (eA_c (j := 5516) (hF200.2.1 234 rfl))
    have f243 := congrArg Int32.toInt (eA_c (j := 0) (hF200.2.1 235 rfl))
    have f244 := congrArg Int32.toInt (eA_c (j := 1) (hF200.2.1 235 rfl))
    have f245 := congrArg Int32.toInt (hF200.1 231 8 rfl)
    refine At.enter rfl ?_
    refine r_pop rfl ?_
    refine r_aload_n e2 ?_
    refine r_sload_n e0 ?_
    refine r_iload_n e3 ?_
    refine r_iconst 1 rfl ?_
    refine q_iadd (i.toInt + 1) rfl hx_1 (fun v246 hv246 => ?_)
    refine q_scald (m := L) hL (i.toInt + 1) hv246 hy_1 (fun v247 hv247 => ?_)
    have sv247 := hv2.symm.trans hv247
    subst sv247
    have n248_e : v2.toInt = 1 := by omega
    have n248_0 : v2.toInt ≠ 0 := by omega
    have n248_k : (eA g198 235 1).toInt ≠ 0 := by omega
    refine r_callV 1290 rfl [.ref 231, .int v2] [] (Nat.le_of_ble_eq_true rfl) rfl (T_X11_back_231 _ hI199 v2) ?_
    rintro _ _ ⟨g249, rfl, hI250, hF251, v252, rfl, hr253⟩
    refine At.sti ?_
    have hF254 := Fr.tr hF203 hF251 rfl rfl
    obtain ⟨q255, q256, q257⟩ := hr253
    obtain ⟨p258, p259, p260, p261, p262, p263⟩ := (And.intro q255 q256)
    have w264 := p260 ⟨n248_e, n248_k⟩
    clear p259 p260 p261 p262 p263
    have f267 := congrArg Int32.toInt (hF251.1 1 0 rfl)
    have f268 := congrArg Int32.toInt (hF251.1 1 12 rfl)
    have f269 := congrArg Int32.toInt (hF251.1 1 10 rfl)
    have f270 := congrArg Int32.toInt (hF251.1 1 11 rfl)
    have f271 := congrArg Int32.toInt (hF251.1 59 0 rfl)
    have f272 := congrArg Int32.toInt (hF251.1 59 12 rfl)
    have f273 := congrArg Int32.toInt (hF251.1 59 10 rfl)
    have f274 := congrArg Int32.toInt (hF251.1 59 11 rfl)
    have f275 := congrArg Int32.toInt (hF251.1 116 0 rfl)
    have f276 := congrArg Int32.toInt (hF251.1 116 12 rfl)
    have f277 := congrArg Int32.toInt (hF251.1 116 10 rfl)
    have f278 := congrArg Int32.toInt (hF251.1 116 11 rfl)
    have f279 := congrArg Int32.toInt (eA_c (j := 0) (hF251.2.1 173 rfl))
    have f280 := congrArg Int32.toInt (eA_c (j := 1) (hF251.2.1 173 rfl))
    have f281 := congrArg Int32.toInt (hF251.1 174 1 rfl)
    have f282 := congrArg Int32.toInt (eA_c (j := 0) (hF251.2.1 234 rfl))
    have f283 := congrArg Int32.toInt (eA_c (j := 4) (hF251.2.1 234 rfl))
    have f284 := congrArg Int32.toInt (eA_c (j := 5) (hF251.2.1 234 rfl))
    have f285 := congrArg Int32.toInt (eA_c (j := 6) (hF251.2.1 234 rfl))
    have f286 := congrArg Int32.toInt (eA_c (j := 5510) (hF251.2.1 234 rfl))
    have f287 := congrArg Int32.toInt (eA_c (j := 5514) (hF251.2.1 234 rfl))
    have f288 := congrArg Int32.toInt (eA_c (j := 5515) (hF251.2.1 234 rfl))
    have f289 := congrArg Int32.toInt (eA_c (j := 5516) (hF251.2.1 234 rfl))
    have f290 := congrArg Int32.toInt (eA_c (j := 0) (hF251.2.1 235 rfl))
    have f291 := congrArg Int32.toInt (eA_c (j := 1) (hF251.2.1 235 rfl))
    have f292 := congrArg Int32.toInt (hF251.1 231 8 rfl)
    refine At.enter rfl ?_
    refine r_pop rfl ?_
    refine r_goto ?_
    exact K _ hI250 (show LwR _ from ⟨by omega, by omega, by omega, by omega, (eA_ti (j := 0) (((hF251.2.1 173 (by decide)).trans (hF200.2.1 173 (by decide))))).trans (hR_4.trans (eA_ti (j := 0) (((hF251.2.1 235 (by decide)).trans (hF200.2.1 235 (by decide))))).symm), (eA_ti (j := 1) (((hF251.2.1 173 (by decide)).trans (hF200.2.1 173 (by decide))))).trans (hR_5.trans (eA_ti (j := 1) (((hF251.2.1 235 (by decide)).trans (hF200.2.1 235 (by decide))))).symm), (congrArg Int32.toInt (((hF251.1 174 1 (by decide)).trans (hF200.1 174 1 (by decide))))).trans (hR_6.trans (congrArg Int32.toInt (((hF251.1 231 8 (by decide)).trans (hF200.1 231 8 (by decide))))).symm), IM0.cong hR_7 (eA_ti (j := 0) (((hF251.2.1 173 (by decide)).trans (hF200.2.1 173 (by decide))))) (congrArg Int32.toInt (((hF251.1 59 0 (by decide)).trans (hF200.1 59 0 (by decide))))) (eA_ti (j := 0) (((hF251.2.1 234 (by decide)).trans (hF200.2.1 234 (by decide))))) (congrArg Int32.toInt (((hF251.1 59 12 (by decide)).trans (hF200.1 59 12 (by decide))))) (eA_ti (j := 4) (((hF251.2.1 234 (by decide)).trans (hF200.2.1 234 (by decide))))) (congrArg Int32.toInt (((hF251.1 59 10 (by decide)).trans (hF200.1 59 10 (by decide))))) (eA_ti (j := 5) (((hF251.2.1 234 (by decide)).trans (hF200.2.1 234 (by decide))))) (congrArg Int32.toInt (((hF251.1 59 11 (by decide)).trans (hF200.1 59 11 (by decide))))) (eA_ti (j := 6) (((hF251.2.1 234 (by decide)).trans (hF200.2.1 234 (by decide))))), IM1.cong hR_8 (eA_ti (j := 1) (((hF251.2.1 173 (by decide)).trans (hF200.2.1 173 (by decide))))) (congrArg Int32.toInt (((hF251.1 116 0 (by decide)).trans (hF200.1 116 0 (by decide))))) (eA_ti (j := 5510) (((hF251.2.1 234 (by decide)).trans (hF200.2.1 234 (by decide))))) (congrArg Int32.toInt (((hF251.1 116 12 (by decide)).trans (hF200.1 116 12 (by decide))))) (eA_ti (j := 5514) (((hF251.2.1 234 (by decide)).trans (hF200.2.1 234 (by decide))))) (congrArg Int32.toInt (((hF251.1 116 10 (by decide)).trans (hF200.1 116 10 (by decide))))) (eA_ti (j := 5515) (((hF251.2.1 234 (by decide)).trans (hF200.2.1 234 (by decide))))) (congrArg Int32.toInt (((hF251.1 116 11 (by decide)).trans (hF200.1 116 11 (by decide))))) (eA_ti (j := 5516) (((hF251.2.1 234 (by decide)).trans (hF200.2.1 234 (by decide))))), (show CT _ from ⟨fun i i0 i1 => ⟨(by have t0_ := hI0.t0; have t1_ := hI0.t1; clear q205 q256; have o := (hR_9.1 i i0 i1).1; have o0 := (hR_10.1 i i0 i1).1; have o1 := (hR_11.1 i i0 i1).1; have x := (eA_ti (j := i) (hF251.2.1 2 (by decide))).trans (q206 i i0 i1); have m := q257 (10 + 3 * i) (by omega) (by omega); have y1 := eA_ti (j := ((10 + 3 * i))) (hF200.2.1 234 (by decide)); have y2 := eA_ti (j := (5510 + ((10 + 3 * i)))) (hF200.2.1 234 (by decide)); have y3 := eA_ti (j := ((10 + 3 * i))) (hF200.2.1 233 (by decide)); (try split at x) <;> (try split at x) <;> (try split at m) <;> (try split at m) <;> omega), (by have t0_ := hI0.t0; have t1_ := hI0.t1; clear q205 q256; have o := (hR_9.1 i i0 i1).2.1; have o0 := (hR_10.1 i i0 i1).2.1; have o1 := (hR_11.1 i i0 i1).2.1; have x := (eA_ti (j := i) (hF251.2.1 3 (by decide))).trans (q207 i i0 i1); have m := q257 (10 + 3 * i + 1) (by omega) (by omega); have y1 := eA_ti (j := ((10 + 3 * i + 1))) (hF200.2.1 234 (by decide)); have y2 := eA_ti (j := (5510 + ((10 + 3 * i + 1)))) (hF200.2.1 234 (by decide)); have y3 := eA_ti (j := ((10 + 3 * i + 1))) (hF200.2.1 233 (by decide)); (try split at x) <;> (try split at x) <;> (try split at m) <;> (try split at m) <;> omega), (by have t0_ := hI0.t0; have t1_ := hI0.t1; clear q205 q256; have o := (hR_9.1 i i0 i1).2.2; have o0 := (hR_10.1 i i0 i1).2.2; have o1 := (hR_11.1 i i0 i1).2.2; have x := (eA_ti (j := i) (hF251.2.1 4 (by decide))).trans (q208 i i0 i1); have m := q257 (10 + 3 * i + 2) (by omega) (by omega); have y1 := eA_ti (j := ((10 + 3 * i + 2))) (hF200.2.1 234 (by decide)); have y2 := eA_ti (j := (5510 + ((10 + 3 * i + 2)))) (hF200.2.1 234 (by decide)); have y3 := eA_ti (j := ((10 + 3 * i + 2))) (hF200.2.1 233 (by decide)); (try split at x) <;> (try split at x) <;> (try split at m) <;> (try split at m) <;> omega)⟩, fun i i0 i1 => ⟨(by have t0_ := hI0.t0; have t1_ := hI0.t1; clear q205 q256; have o := (hR_9.2 i i0 i1).1; have o0 := (hR_10.2 i i0 i1).1; have o1 := (hR_11.2 i i0 i1).1; have x := (eA_ti (j := i) (hF251.2.1 14 (by decide))).trans (q209 i i0 i1); have m := q257 (94 + 2 * i) (by omega) (by omega); have y1 := eA_ti (j := ((94 + 2 * i))) (hF200.2.1 234 (by decide)); have y2 := eA_ti (j := (5510 + ((94 + 2 * i)))) (hF200.2.1 234 (by decide)); have y3 := eA_ti (j := ((94 + 2 * i))) (hF200.2.1 233 (by decide)); (try split at x) <;> (try split at x) <;> (try split at m) <;> (try split at m) <;> omega), (by have t0_ := hI0.t0; have t1_ := hI0.t1; clear q205 q256; have o := (hR_9.2 i i0 i1).2; have o0 := (hR_10.2 i i0 i1).2; have o1 := (hR_11.2 i i0 i1).2; have x := (eA_ti (j := i) (hF251.2.1 15 (by decide))).trans (q210 i i0 i1); have m := q257 (94 + 2 * i + 1) (by omega) (by omega); have y1 := eA_ti (j := ((94 + 2 * i + 1))) (hF200.2.1 234 (by decide)); have y2 := eA_ti (j := (5510 + ((94 + 2 * i + 1)))) (hF200.2.1 234 (by decide)); have y3 := eA_ti (j := ((94 + 2 * i + 1))) (hF200.2.1 233 (by decide)); (try split at x) <;> (try split at x) <;> (try split at m) <;> (try split at m) <;> omega)⟩⟩), CI0.cong hR_10 (((hF251.2.1 60 (by decide)).trans (hF200.2.1 60 (by decide)))) (((hF251.2.1 61 (by decide)).trans (hF200.2.1 61 (by decide)))) (((hF251.2.1 62 (by decide)).trans (hF200.2.1 62 (by decide)))) (((hF251.2.1 72 (by decide)).trans (hF200.2.1 72 (by decide)))) (((hF251.2.1 73 (by decide)).trans (hF200.2.1 73 (by decide)))) (((hF251.2.1 234 (by decide)).trans (hF200.2.1 234 (by decide)))), CI1.cong hR_11 (((hF251.2.1 117 (by decide)).trans (hF200.2.1 117 (by decide)))) (((hF251.2.1 118 (by decide)).trans (hF200.2.1 118 (by decide)))) (((hF251.2.1 119 (by decide)).trans (hF200.2.1 119 (by decide)))) (((hF251.2.1 129 (by decide)).trans (hF200.2.1 129 (by decide)))) (((hF251.2.1 130 (by decide)).trans (hF200.2.1 130 (by decide)))) (((hF251.2.1 234 (by decide)).trans (hF200.2.1 234 (by decide))))⟩)
  · have n293_e : v2.toInt = 1 := by omega
    have n293_0 : v2.toInt ≠ 0 := by omega
    have n293_k : (eA g0 173 1).toInt = 0 := by omega
    refine r_callV 1280 rfl [.ref 0, .int v2] [] (Nat.le_of_ble_eq_true rfl) rfl (T_X10_back_0 _ hI0 v2) ?_
    rintro _ _ ⟨g294, rfl, hI295, hF296, v297, rfl, hr298⟩
    refine At.sti ?_
    have hF299 := Fr.tr hF0 hF296 rfl rfl
    obtain ⟨q300, q301, q302, q303, q304, q305, q306⟩ := hr298
    obtain ⟨p307, p308, p309, p310, p311, p312⟩ := (And.intro q300 q301)
    have w313 := p310 ⟨fun h => n293_0 h.1, fun h => h.2 n293_k⟩
    have w314 := p312 ⟨by omega, by omega, fun h => n293_0 h.1, fun h => h.2 n293_k⟩
    clear p308 p309 p310 p311 p312
    have f316 := congrArg Int32.toInt (hF296.1 59 0 rfl)
    have f317 := congrArg Int32.toInt (hF296.1 59 12 rfl)
    have f318 := congrArg Int32.toInt (hF296.1 59 10 rfl)
    have f319 := congrArg Int32.toInt (hF296.1 59 11 rfl)
    have f320 := congrArg Int32.toInt (hF296.1 116 0 rfl)
    have f321 := congrArg Int32.toInt (hF296.1 116 12 rfl)
    have f322 := congrArg Int32.toInt (hF296.1 116 10 rfl)
    have f323 := congrArg Int32.toInt (hF296.1 116 11 rfl)
    have f324 := congrArg Int32.toInt (eA_c (j := 0) (hF296.2.1 173 rfl))
    have f325 := congrArg Int32.toInt (eA_c (j := 1) (hF296.2.1 173 rfl))
    have f326 := congrArg Int32.toInt (hF296.1 174 1 rfl)
    have f327 := congrArg Int32.toInt (eA_c (j := 0) (hF296.2.1 233 rfl))
    have f328 := congrArg Int32.toInt (eA_c (j := 4) (hF296.2.1 233 rfl))
    have f329 := congrArg Int32.toInt (eA_c (j := 5) (hF296.2.1 233 rfl))
    have f330 := congrArg Int32.toInt (eA_c (j := 6) (hF296.2.1 233 rfl))
    have f331 := congrArg Int32.toInt (eA_c (j := 0) (hF296.2.1 234 rfl))
    have f332 := congrArg Int32.toInt (eA_c (j := 4) (hF296.2.1 234 rfl))
    have f333 := congrArg Int32.toInt (eA_c (j := 5) (hF296.2.1 234 rfl))
    have f334 := congrArg Int32.toInt (eA_c (j := 6) (hF296.2.1 234 rfl))
    have f335 := congrArg Int32.toInt (eA_c (j := 5510) (hF296.2.1 234 rfl))
    have f336 := congrArg Int32.toInt (eA_c (j := 5514) (hF296.2.1 234 rfl))
    have f337 := congrArg Int32.toInt (eA_c (j := 5515) (hF296.2.1 234 rfl))
    have f338 := congrArg Int32.toInt (eA_c (j := 5516) (hF296.2.1 234 rfl))
    have f339 := congrArg Int32.toInt (eA_c (j := 0) (hF296.2.1 235 rfl))
    have f340 := congrArg Int32.toInt (eA_c (j := 1) (hF296.2.1 235 rfl))
    have f341 := congrArg Int32.toInt (hF296.1 231 8 rfl)
    refine At.enter rfl ?_
    refine r_pop rfl ?_
    refine r_aload_n e2 ?_
    refine r_sload_n e0 ?_
    refine r_iload_n e3 ?_
    refine r_iconst 1 rfl ?_
    refine q_iadd (i.toInt + 1) rfl hx_1 (fun v342 hv342 => ?_)
    refine q_scald (m := L) hL (i.toInt + 1) hv342 hy_1 (fun v343 hv343 => ?_)
    have sv343 := hv2.symm.trans hv343
    subst sv343
    have n344_e : v2.toInt = 1 := by omega
    have n344_0 : v2.toInt ≠ 0 := by omega
    have n344_k : (eA g294 235 1).toInt = 0 := by omega
    refine r_callV 1290 rfl [.ref 231, .int v2] [] (Nat.le_of_ble_eq_true rfl) rfl (T_X11_back_231 _ hI295 v2) ?_
    rintro _ _ ⟨g345, rfl, hI346, hF347, v348, rfl, hr349⟩
    refine At.sti ?_
    have hF350 := Fr.tr hF299 hF347 rfl rfl
    obtain ⟨q351, q352, q353⟩ := hr349
    obtain ⟨p354, p355, p356, p357, p358, p359⟩ := (And.intro q351 q352)
    have w360 := p357 ⟨fun h => n344_0 h.1, fun h => h.2 n344_k⟩
    have w361 := p359 ⟨by omega, by omega, fun h => n344_0 h.1, fun h => h.2 n344_k⟩
    clear p355 p356 p357 p358 p359
    have f363 := congrArg Int32.toInt (hF347.1 1 0 rfl)
    have f364 := congrArg Int32.toInt (hF347.1 1 12 rfl)
    have f365 := congrArg Int32.toInt (hF347.1 1 10 rfl)
    have f366 := congrArg Int32.toInt (hF347.1 1 11 rfl)
    have f367 := congrArg Int32.toInt (hF347.1 59 0 rfl)
    have f368 := congrArg Int32.toInt (hF347.1 59 12 rfl)
    have f369 := congrArg Int32.toInt (hF347.1 59 10 rfl)
    have f370 := congrArg Int32.toInt (hF347.1 59 11 rfl)
    have f371 := congrArg Int32.toInt (hF347.1 116 0 rfl)
    have f372 := congrArg Int32.toInt (hF347.1 116 12 rfl)
    have f373 := congrArg Int32.toInt (hF347.1 116 10 rfl)
    have f374 := congrArg Int32.toInt (hF347.1 116 11 rfl)
    have f375 := congrArg Int32.toInt (eA_c (j := 0) (hF347.2.1 173 rfl))
    have f376 := congrArg Int32.toInt (eA_c (j := 1) (hF347.2.1 173 rfl))
    have f377 := congrArg Int32.toInt (hF347.1 174 1 rfl)
    have f378 := congrArg Int32.toInt (eA_c (j := 0) (hF347.2.1 234 rfl))
    have f379 := congrArg Int32.toInt (eA_c (j := 4) (hF347.2.1 234 rfl))
    have f380 := congrArg Int32.toInt (eA_c (j := 5) (hF347.2.1 234 rfl))
    have f381 := congrArg Int32.toInt (eA_c (j := 6) (hF347.2.1 234 rfl))
    have f382 := congrArg Int32.toInt (eA_c (j := 5510) (hF347.2.1 234 rfl))
    have f383 := congrArg Int32.toInt (eA_c (j := 5514) (hF347.2.1 234 rfl))
    have f384 := congrArg Int32.toInt (eA_c (j := 5515) (hF347.2.1 234 rfl))
    have f385 := congrArg Int32.toInt (eA_c (j := 5516) (hF347.2.1 234 rfl))
    have f386 := congrArg Int32.toInt (eA_c (j := 0) (hF347.2.1 235 rfl))
    have f387 := congrArg Int32.toInt (eA_c (j := 1) (hF347.2.1 235 rfl))
    have f388 := congrArg Int32.toInt (hF347.1 231 8 rfl)
    refine At.enter rfl ?_
    refine r_pop rfl ?_
    refine r_goto ?_
    exact K _ hI346 (show LwR _ from ⟨by omega, by omega, by omega, by omega, (eA_ti (j := 0) (((hF347.2.1 173 (by decide)).trans (hF296.2.1 173 (by decide))))).trans (hR_4.trans (eA_ti (j := 0) (((hF347.2.1 235 (by decide)).trans (hF296.2.1 235 (by decide))))).symm), (eA_ti (j := 1) (((hF347.2.1 173 (by decide)).trans (hF296.2.1 173 (by decide))))).trans (hR_5.trans (eA_ti (j := 1) (((hF347.2.1 235 (by decide)).trans (hF296.2.1 235 (by decide))))).symm), (congrArg Int32.toInt (((hF347.1 174 1 (by decide)).trans (hF296.1 174 1 (by decide))))).trans (hR_6.trans (congrArg Int32.toInt (((hF347.1 231 8 (by decide)).trans (hF296.1 231 8 (by decide))))).symm), IM0.cong hR_7 (eA_ti (j := 0) (((hF347.2.1 173 (by decide)).trans (hF296.2.1 173 (by decide))))) (congrArg Int32.toInt (((hF347.1 59 0 (by decide)).trans (hF296.1 59 0 (by decide))))) (eA_ti (j := 0) (((hF347.2.1 234 (by decide)).trans (hF296.2.1 234 (by decide))))) (congrArg Int32.toInt (((hF347.1 59 12 (by decide)).trans (hF296.1 59 12 (by decide))))) (eA_ti (j := 4) (((hF347.2.1 234 (by decide)).trans (hF296.2.1 234 (by decide))))) (congrArg Int32.toInt (((hF347.1 59 10 (by decide)).trans (hF296.1 59 10 (by decide))))) (eA_ti (j := 5) (((hF347.2.1 234 (by decide)).trans (hF296.2.1 234 (by decide))))) (congrArg Int32.toInt (((hF347.1 59 11 (by decide)).trans (hF296.1 59 11 (by decide))))) (eA_ti (j := 6) (((hF347.2.1 234 (by decide)).trans (hF296.2.1 234 (by decide))))), IM1.cong hR_8 (eA_ti (j := 1) (((hF347.2.1 173 (by decide)).trans (hF296.2.1 173 (by decide))))) (congrArg Int32.toInt (((hF347.1 116 0 (by decide)).trans (hF296.1 116 0 (by decide))))) (eA_ti (j := 5510) (((hF347.2.1 234 (by decide)).trans (hF296.2.1 234 (by decide))))) (congrArg Int32.toInt (((hF347.1 116 12 (by decide)).trans (hF296.1 116 12 (by decide))))) (eA_ti (j := 5514) (((hF347.2.1 234 (by decide)).trans (hF296.2.1 234 (by decide))))) (congrArg Int32.toInt (((hF347.1 116 10 (by decide)).trans (hF296.1 116 10 (by decide))))) (eA_ti (j := 5515) (((hF347.2.1 234 (by decide)).trans (hF296.2.1 234 (by decide))))) (congrArg Int32.toInt (((hF347.1 116 11 (by decide)).trans (hF296.1 116 11 (by decide))))) (eA_ti (j := 5516) (((hF347.2.1 234 (by decide)).trans (hF296.2.1 234 (by decide))))), (show CT _ from ⟨fun i i0 i1 => ⟨(by have t0_ := hI0.t0; have t1_ := hI0.t1; clear q301 q352; have o := (hR_9.1 i i0 i1).1; have o0 := (hR_10.1 i i0 i1).1; have o1 := (hR_11.1 i i0 i1).1; have x := (eA_ti (j := i) (hF347.2.1 2 (by decide))).trans (q302 i i0 i1); have m := q353 (10 + 3 * i) (by omega) (by omega); have y1 := eA_ti (j := ((10 + 3 * i))) (hF296.2.1 234 (by decide)); have y2 := eA_ti (j := (5510 + ((10 + 3 * i)))) (hF296.2.1 234 (by decide)); have y3 := eA_ti (j := ((10 + 3 * i))) (hF296.2.1 233 (by decide)); (try split at x) <;> (try split at x) <;> (try split at m) <;> (try split at m) <;> omega), (by have t0_ := hI0.t0; have t1_ := hI0.t1; clear q301 q352; have o := (hR_9.1 i i0 i1).2.1; have o0 := (hR_10.1 i i0 i1).2.1; have o1 := (hR_11.1 i i0 i1).2.1; have x := (eA_ti (j := i) (hF347.2.1 3 (by decide))).trans (q303 i i0 i1); have m := q353 (10 + 3 * i + 1) (by omega) (by omega); have y1 := eA_ti (j := ((10 + 3 * i + 1))) (hF296.2.1 234 (by decide)); have y2 := eA_ti (j := (5510 + ((10 + 3 * i + 1)))) (hF296.2.1 234 (by decide)); have y3 := eA_ti (j := ((10 + 3 * i + 1))) (hF296.2.1 233 (by decide)); (try split at x) <;> (try split at x) <;> (try split at m) <;> (try split at m) <;> omega), (by have t0_ := hI0.t0; have t1_ := hI0.t1; clear q301 q352; have o := (hR_9.1 i i0 i1).2.2; have o0 := (hR_10.1 i i0 i1).2.2; have o1 := (hR_11.1 i i0 i1).2.2; have x := (eA_ti (j := i) (hF347.2.1 4 (by decide))).trans (q304 i i0 i1); have m := q353 (10 + 3 * i + 2) (by omega) (by omega); have y1 := eA_ti (j := ((10 + 3 * i + 2))) (hF296.2.1 234 (by decide)); have y2 := eA_ti (j := (5510 + ((10 + 3 * i + 2)))) (hF296.2.1 234 (by decide)); have y3 := eA_ti (j := ((10 + 3 * i + 2))) (hF296.2.1 233 (by decide)); (try split at x) <;> (try split at x) <;> (try split at m) <;> (try split at m) <;> omega)⟩, fun i i0 i1 => ⟨(by have t0_ := hI0.t0; have t1_ := hI0.t1; clear q301 q352; have o := (hR_9.2 i i0 i1).1; have o0 := (hR_10.2 i i0 i1).1; have o1 := (hR_11.2 i i0 i1).1; have x := (eA_ti (j := i) (hF347.2.1 14 (by decide))).trans (q305 i i0 i1); have m := q353 (94 + 2 * i) (by omega) (by omega); have y1 := eA_ti (j := ((94 + 2 * i))) (hF296.2.1 234 (by decide)); have y2 := eA_ti (j := (5510 + ((94 + 2 * i)))) (hF296.2.1 234 (by decide)); have y3 := eA_ti (j := ((94 + 2 * i))) (hF296.2.1 233 (by decide)); (try split at x) <;> (try split at x) <;> (try split at m) <;> (try split at m) <;> omega), (by have t0_ := hI0.t0; have t1_ := hI0.t1; clear q301 q352; have o := (hR_9.2 i i0 i1).2; have o0 := (hR_10.2 i i0 i1).2; have o1 := (hR_11.2 i i0 i1).2; have x := (eA_ti (j := i) (hF347.2.1 15 (by decide))).trans (q306 i i0 i1); have m := q353 (94 + 2 * i + 1) (by omega) (by omega); have y1 := eA_ti (j := ((94 + 2 * i + 1))) (hF296.2.1 234 (by decide)); have y2 := eA_ti (j := (5510 + ((94 + 2 * i + 1)))) (hF296.2.1 234 (by decide)); have y3 := eA_ti (j := ((94 + 2 * i + 1))) (hF296.2.1 233 (by decide)); (try split at x) <;> (try split at x) <;> (try split at m) <;> (try split at m) <;> omega)⟩⟩), CI0.cong hR_10 (((hF347.2.1 60 (by decide)).trans (hF296.2.1 60 (by decide)))) (((hF347.2.1 61 (by decide)).trans (hF296.2.1 61 (by decide)))) (((hF347.2.1 62 (by decide)).trans (hF296.2.1 62 (by decide)))) (((hF347.2.1 72 (by decide)).trans (hF296.2.1 72 (by decide)))) (((hF347.2.1 73 (by decide)).trans (hF296.2.1 73 (by decide)))) (((hF347.2.1 234 (by decide)).trans (hF296.2.1 234 (by decide)))), CI1.cong hR_11 (((hF347.2.1 117 (by decide)).trans (hF296.2.1 117 (by decide)))) (((hF347.2.1 118 (by decide)).trans (hF296.2.1 118 (by decide)))) (((hF347.2.1 119 (by decide)).trans (hF296.2.1 119 (by decide)))) (((hF347.2.1 129 (by decide)).trans (hF296.2.1 129 (by decide)))) (((hF347.2.1 130 (by decide)).trans (hF296.2.1 130 (by decide)))) (((hF347.2.1 234 (by decide)).trans (hF296.2.1 234 (by decide))))⟩)
  · have n389_e : (v2.toInt < 0 ∨ 1 < v2.toInt) := by omega
    have n389_0 : v2.toInt ≠ 0 := by omega
    have n389_1 : v2.toInt ≠ 1 := by omega
    refine r_callV 1280 rfl [.ref 0, .int v2] [] (Nat.le_of_ble_eq_true rfl) rfl (T_X10_back_0 _ hI0 v2) ?_
    rintro _ _ ⟨g390, rfl, hI391, hF392, v393, rfl, hr394⟩
    refine At.sti ?_
    have hF395 := Fr.tr hF0 hF392 rfl rfl
    obtain ⟨q396, q397, q398, q399, q400, q401, q402⟩ := hr394
    obtain ⟨p403, p404, p405, p406, p407, p408⟩ := (And.intro q396 q397)
    have w409 := p407 n389_e
    have w410 := p406 ⟨fun h => n389_0 h.1, fun h => n389_1 h.1⟩
    clear p404 p405 p406 p407 p408
    have f412 := congrArg Int32.toInt (hF392.1 59 0 rfl)
    have f413 := congrArg Int32.toInt (hF392.1 59 12 rfl)
    have f414 := congrArg Int32.toInt (hF392.1 59 10 rfl)
    have f415 := congrArg Int32.toInt (hF392.1 59 11 rfl)
    have f416 := congrArg Int32.toInt (hF392.1 116 0 rfl)
    have f417 := congrArg Int32.toInt (hF392.1 116 12 rfl)
    have f418 := congrArg Int32.toInt (hF392.1 116 10 rfl)
    have f419 := congrArg Int32.toInt (hF392.1 116 11 rfl)
    have f420 := congrArg Int32.toInt (eA_c (j := 0) (hF392.2.1 173 rfl))
    have f421 := congrArg Int32.toInt (eA_c (j := 1) (hF392.2.1 173 rfl))
    have f422 := congrArg Int32.toInt (hF392.1 174 1 rfl)
    have f423 := congrArg Int32.toInt (eA_c (j := 0) (hF392.2.1 233 rfl))
    have f424 := congrArg Int32.toInt (eA_c (j := 4) (hF392.2.1 233 rfl))
    have f425 := congrArg Int32.toInt (eA_c (j := 5) (hF392.2.1 233 rfl))
    have f426 := congrArg Int32.toInt (eA_c (j := 6) (hF392.2.1 233 rfl))
    have f427 := congrArg Int32.toInt (eA_c (j := 0) (hF392.2.1 234 rfl))
    have f428 := congrArg Int32.toInt (eA_c (j := 4) (hF392.2.1 234 rfl))
    have f429 := congrArg Int32.toInt (eA_c (j := 5) (hF392.2.1 234 rfl))
    have f430 := congrArg Int32.toInt (eA_c (j := 6) (hF392.2.1 234 rfl))
    have f431 := congrArg Int32.toInt (eA_c (j := 5510) (hF392.2.1 234 rfl))
    have f432 := congrArg Int32.toInt (eA_c (j := 5514) (hF392.2.1 234 rfl))
    have f433 := congrArg Int32.toInt (eA_c (j := 5515) (hF392.2.1 234 rfl))
    have f434 := congrArg Int32.toInt (eA_c (j := 5516) (hF392.2.1 234 rfl))
    have f435 := congrArg Int32.toInt (eA_c (j := 0) (hF392.2.1 235 rfl))
    have f436 := congrArg Int32.toInt (eA_c (j := 1) (hF392.2.1 235 rfl))
    have f437 := congrArg Int32.toInt (hF392.1 231 8 rfl)
    refine At.enter rfl ?_
    refine r_pop rfl ?_
    refine r_aload_n e2 ?_
    refine r_sload_n e0 ?_
    refine r_iload_n e3 ?_
    refine r_iconst 1 rfl ?_
    refine q_iadd (i.toInt + 1) rfl hx_1 (fun v438 hv438 => ?_)
    refine q_scald (m := L) hL (i.toInt + 1) hv438 hy_1 (fun v439 hv439 => ?_)
    have sv439 := hv2.symm.trans hv439
    subst sv439
    have n440_e : (v2.toInt < 0 ∨ 1 < v2.toInt) := by omega
    have n440_0 : v2.toInt ≠ 0 := by omega
    have n440_1 : v2.toInt ≠ 1 := by omega
    refine r_callV 1290 rfl [.ref 231, .int v2] [] (Nat.le_of_ble_eq_true rfl) rfl (T_X11_back_231 _ hI391 v2) ?_
    rintro _ _ ⟨g441, rfl, hI442, hF443, v444, rfl, hr445⟩
    refine At.sti ?_
    have hF446 := Fr.tr hF395 hF443 rfl rfl
    obtain ⟨q447, q448, q449⟩ := hr445
    obtain ⟨p450, p451, p452, p453, p454, p455⟩ := (And.intro q447 q448)
    have w456 := p454 n440_e
    have w457 := p453 ⟨fun h => n440_0 h.1, fun h => n440_1 h.1⟩
    clear p451 p452 p453 p454 p455
    have f459 := congrArg Int32.toInt (hF443.1 1 0 rfl)
    have f460 := congrArg Int32.toInt (hF443.1 1 12 rfl)
    have f461 := congrArg Int32.toInt (hF443.1 1 10 rfl)
    have f462 := congrArg Int32.toInt (hF443.1 1 11 rfl)
    have f463 := congrArg Int32.toInt (hF443.1 59 0 rfl)
    have f464 := congrArg Int32.toInt (hF443.1 59 12 rfl)
    have f465 := congrArg Int32.toInt (hF443.1 59 10 rfl)
    have f466 := congrArg Int32.toInt (hF443.1 59 11 rfl)
    have f467 := congrArg Int32.toInt (hF443.1 116 0 rfl)
    have f468 := congrArg Int32.toInt (hF443.1 116 12 rfl)
    have f469 := congrArg Int32.toInt (hF443.1 116 10 rfl)
    have f470 := congrArg Int32.toInt (hF443.1 116 11 rfl)
    have f471 := congrArg Int32.toInt (eA_c (j := 0) (hF443.2.1 173 rfl))
    have f472 := congrArg Int32.toInt (eA_c (j := 1) (hF443.2.1 173 rfl))
    have f473 := congrArg Int32.toInt (hF443.1 174 1 rfl)
    have f474 := congrArg Int32.toInt (eA_c (j := 0) (hF443.2.1 234 rfl))
    have f475 := congrArg Int32.toInt (eA_c (j := 4) (hF443.2.1 234 rfl))
    have f476 := congrArg Int32.toInt (eA_c (j := 5) (hF443.2.1 234 rfl))
    have f477 := congrArg Int32.toInt (eA_c (j := 6) (hF443.2.1 234 rfl))
    have f478 := congrArg Int32.toInt (eA_c (j := 5510) (hF443.2.1 234 rfl))
    have f479 := congrArg Int32.toInt (eA_c (j := 5514) (hF443.2.1 234 rfl))
    have f480 := congrArg Int32.toInt (eA_c (j := 5515) (hF443.2.1 234 rfl))
    have f481 := congrArg Int32.toInt (eA_c (j := 5516) (hF443.2.1 234 rfl))
    have f482 := congrArg Int32.toInt (eA_c (j := 0) (hF443.2.1 235 rfl))
    have f483 := congrArg Int32.toInt (eA_c (j := 1) (hF443.2.1 235 rfl))
    have f484 := congrArg Int32.toInt (hF443.1 231 8 rfl)
    refine At.enter rfl ?_
    refine r_pop rfl ?_
    refine r_goto ?_
    exact K _ hI442 (show LwR _ from ⟨by omega, by omega, by omega, by omega, (eA_ti (j := 0) (((hF443.2.1 173 (by decide)).trans (hF392.2.1 173 (by decide))))).trans (hR_4.trans (eA_ti (j := 0) (((hF443.2.1 235 (by decide)).trans (hF392.2.1 235 (by decide))))).symm), (eA_ti (j := 1) (((hF443.2.1 173 (by decide)).trans (hF392.2.1 173 (by decide))))).trans (hR_5.trans (eA_ti (j := 1) (((hF443.2.1 235 (by decide)).trans (hF392.2.1 235 (by decide))))).symm), (congrArg Int32.toInt (((hF443.1 174 1 (by decide)).trans (hF392.1 174 1 (by decide))))).trans (hR_6.trans (congrArg Int32.toInt (((hF443.1 231 8 (by decide)).trans (hF392.1 231 8 (by decide))))).symm), IM0.cong hR_7 (eA_ti (j := 0) (((hF443.2.1 173 (by decide)).trans (hF392.2.1 173 (by decide))))) (congrArg Int32.toInt (((hF443.1 59 0 (by decide)).trans (hF392.1 59 0 (by decide))))) (eA_ti (j := 0) (((hF443.2.1 234 (by decide)).trans (hF392.2.1 234 (by decide))))) (congrArg Int32.toInt (((hF443.1 59 12 (by decide)).trans (hF392.1 59 12 (by decide))))) (eA_ti (j := 4) (((hF443.2.1 234 (by decide)).trans (hF392.2.1 234 (by decide))))) (congrArg Int32.toInt (((hF443.1 59 10 (by decide)).trans (hF392.1 59 10 (by decide))))) (eA_ti (j := 5) (((hF443.2.1 234 (by decide)).trans (hF392.2.1 234 (by decide))))) (congrArg Int32.toInt (((hF443.1 59 11 (by decide)).trans (hF392.1 59 11 (by decide))))) (eA_ti (j := 6) (((hF443.2.1 234 (by decide)).trans (hF392.2.1 234 (by decide))))), IM1.cong hR_8 (eA_ti (j := 1) (((hF443.2.1 173 (by decide)).trans (hF392.2.1 173 (by decide))))) (congrArg Int32.toInt (((hF443.1 116 0 (by decide)).trans (hF392.1 116 0 (by decide))))) (eA_ti (j := 5510) (((hF443.2.1 234 (by decide)).trans (hF392.2.1 234 (by decide))))) (congrArg Int32.toInt (((hF443.1 116 12 (by decide)).trans (hF392.1 116 12 (by decide))))) (eA_ti (j := 5514) (((hF443.2.1 234 (by decide)).trans (hF392.2.1 234 (by decide))))) (congrArg Int32.toInt (((hF443.1 116 10 (by decide)).trans (hF392.1 116 10 (by decide))))) (eA_ti (j := 5515) (((hF443.2.1 234 (by decide)).trans (hF392.2.1 234 (by decide))))) (congrArg Int32.toInt (((hF443.1 116 11 (by decide)).trans (hF392.1 116 11 (by decide))))) (eA_ti (j := 5516) (((hF443.2.1 234 (by decide)).trans (hF392.2.1 234 (by decide))))), (show CT _ from ⟨fun i i0 i1 => ⟨(by have t0_ := hI0.t0; have t1_ := hI0.t1; clear q397 q448; have o := (hR_9.1 i i0 i1).1; have o0 := (hR_10.1 i i0 i1).1; have o1 := (hR_11.1 i i0 i1).1; have x := (eA_ti (j := i) (hF443.2.1 2 (by decide))).trans (q398 i i0 i1); have m := q449 (10 + 3 * i) (by omega) (by omega); have y1 := eA_ti (j := ((10 + 3 * i))) (hF392.2.1 234 (by decide)); have y2 := eA_ti (j := (5510 + ((10 + 3 * i)))) (hF392.2.1 234 (by decide)); have y3 := eA_ti (j := ((10 + 3 * i))) (hF392.2.1 233 (by decide)); (try split at x) <;> (try split at x) <;> (try split at m) <;> (try split at m) <;> omega), (by have t0_ := hI0.t0; have t1_ := hI0.t1; clear q397 q448; have o := (hR_9.1 i i0 i1).2.1; have o0 := (hR_10.1 i i0 i1).2.1; have o1 := (hR_11.1 i i0 i1).2.1; have x := (eA_ti (j := i) (hF443.2.1 3 (by decide))).trans (q399 i i0 i1); have m := q449 (10 + 3 * i + 1) (by omega) (by omega); have y1 := eA_ti (j := ((10 + 3 * i + 1))) (hF392.2.1 234 (by decide)); have y2 := eA_ti (j := (5510 + ((10 + 3 * i + 1)))) (hF392.2.1 234 (by decide)); have y3 := eA_ti (j := ((10 + 3 * i + 1))) (hF392.2.1 233 (by decide)); (try split at x) <;> (try split at x) <;> (try split at m) <;> (try split at m) <;> omega), (by have t0_ := hI0.t0; have t1_ := hI0.t1; clear q397 q448; have o := (hR_9.1 i i0 i1).2.2; have o0 := (hR_10.1 i i0 i1).2.2; have o1 := (hR_11.1 i i0 i1).2.2; have x := (eA_ti (j := i) (hF443.2.1 4 (by decide))).trans (q400 i i0 i1); have m := q449 (10 + 3 * i + 2) (by omega) (by omega); have y1 := eA_ti (j := ((10 + 3 * i + 2))) (hF392.2.1 234 (by decide)); have y2 := eA_ti (j := (5510 + ((10 + 3 * i + 2)))) (hF392.2.1 234 (by decide)); have y3 := eA_ti (j := ((10 + 3 * i + 2))) (hF392.2.1 233 (by decide)); (try split at x) <;> (try split at x) <;> (try split at m) <;> (try split at m) <;> omega)⟩, fun i i0 i1 => ⟨(by have t0_ := hI0.t0; have t1_ := hI0.t1; clear q397 q448; have o := (hR_9.2 i i0 i1).1; have o0 := (hR_10.2 i i0 i1).1; have o1 := (hR_11.2 i i0 i1).1; have x := (eA_ti (j := i) (hF443.2.1 14 (by decide))).trans (q401 i i0 i1); have m := q449 (94 + 2 * i) (by omega) (by omega); have y1 := eA_ti (j := ((94 + 2 * i))) (hF392.2.1 234 (by decide)); have y2 := eA_ti (j := (5510 + ((94 + 2 * i)))) (hF392.2.1 234 (by decide)); have y3 := eA_ti (j := ((94 + 2 * i))) (hF392.2.1 233 (by decide)); (try split at x) <;> (try split at x) <;> (try split at m) <;> (try split at m) <;> omega), (by have t0_ := hI0.t0; have t1_ := hI0.t1; clear q397 q448; have o := (hR_9.2 i i0 i1).2; have o0 := (hR_10.2 i i0 i1).2; have o1 := (hR_11.2 i i0 i1).2; have x := (eA_ti (j := i) (hF443.2.1 15 (by decide))).trans (q402 i i0 i1); have m := q449 (94 + 2 * i + 1) (by omega) (by omega); have y1 := eA_ti (j := ((94 + 2 * i + 1))) (hF392.2.1 234 (by decide)); have y2 := eA_ti (j := (5510 + ((94 + 2 * i + 1)))) (hF392.2.1 234 (by decide)); have y3 := eA_ti (j := ((94 + 2 * i + 1))) (hF392.2.1 233 (by decide)); (try split at x) <;> (try split at x) <;> (try split at m) <;> (try split at m) <;> omega)⟩⟩), CI0.cong hR_10 (((hF443.2.1 60 (by decide)).trans (hF392.2.1 60 (by decide)))) (((hF443.2.1 61 (by decide)).trans (hF392.2.1 61 (by decide)))) (((hF443.2.1 62 (by decide)).trans (hF392.2.1 62 (by decide)))) (((hF443.2.1 72 (by decide)).trans (hF392.2.1 72 (by decide)))) (((hF443.2.1 73 (by decide)).trans (hF392.2.1 73 (by decide)))) (((hF443.2.1 234 (by decide)).trans (hF392.2.1 234 (by decide)))), CI1.cong hR_11 (((hF443.2.1 117 (by decide)).trans (hF392.2.1 117 (by decide)))) (((hF443.2.1 118 (by decide)).trans (hF392.2.1 118 (by decide)))) (((hF443.2.1 119 (by decide)).trans (hF392.2.1 119 (by decide)))) (((hF443.2.1 129 (by decide)).trans (hF392.2.1 129 (by decide)))) (((hF443.2.1 130 (by decide)).trans (hF392.2.1 130 (by decide)))) (((hF443.2.1 234 (by decide)).trans (hF392.2.1 234 (by decide))))⟩)
