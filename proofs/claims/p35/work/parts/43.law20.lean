set_option maxRecDepth 100000 in
set_option maxHeartbeats 8000000 in
theorem lq_c36 (d : Nat) {N : Nat} {g0 : List en_E} (hI0 : HI g0) (hR0 : LwR g0) {ys : List Int32} {L : Nat} (hL : ys.length = L) (hL2 : L ≤ 3584) {l : en_L} {i : Int32} (e0 : en_get 0 l = some (.float 0)) (e1 : en_get 1 l = some (.ref 0)) (e2 : en_get 2 l = some (.ref 231)) (e3 : en_get 3 l = some (.int i)) (hi : 0 ≤ i.toInt ∧ i.toInt + 7 ≤ L) {Ph : Option Value → en_H → Prop} (K : ∀ g1 : List en_E, HI g1 → LwR g1 → At (d + 423) (some ys) (some .boolean) bs_L_law (1330, l, [], (g1, N)) Ph) : At (d + 423) (some ys) (some .boolean) bs_L_law (1248, l, [], (g0, N)) Ph := by
  have hF0 : Fr F_law A_law g0 g0 := Fr.rf
  have hx_1 : -2147483648 ≤ i.toInt + 1 ∧ i.toInt + 1 ≤ 2147483647 := by omega
  have hx_2 : -2147483648 ≤ i.toInt + 2 ∧ i.toInt + 2 ≤ 2147483647 := by omega
  have hx_3 : -2147483648 ≤ i.toInt + 3 ∧ i.toInt + 3 ≤ 2147483647 := by omega
  have hx_4 : -2147483648 ≤ i.toInt + 4 ∧ i.toInt + 4 ≤ 2147483647 := by omega
  have hx_5 : -2147483648 ≤ i.toInt + 5 ∧ i.toInt + 5 ≤ 2147483647 := by omega
  have hx_6 : -2147483648 ≤ i.toInt + 6 ∧ i.toInt + 6 ≤ 2147483647 := by omega
  have hy_0 : 0 ≤ i.toInt ∧ i.toInt < (L : Int) := by omega
  have hy_1 : 0 ≤ i.toInt + 1 ∧ i.toInt + 1 < (L : Int) := by omega
  have hy_2 : 0 ≤ i.toInt + 2 ∧ i.toInt + 2 < (L : Int) := by omega
  have hy_3 : 0 ≤ i.toInt + 3 ∧ i.toInt + 3 < (L : Int) := by omega
  have hy_4 : 0 ≤ i.toInt + 4 ∧ i.toInt + 4 < (L : Int) := by omega
  have hy_5 : 0 ≤ i.toInt + 5 ∧ i.toInt + 5 < (L : Int) := by omega
  have hy_6 : 0 ≤ i.toInt + 6 ∧ i.toInt + 6 < (L : Int) := by omega
  unfold LwR at hR0
  obtain ⟨hR_0, hR_1, hR_2, hR_3, hR_4, hR_5, hR_6, hR_7, hR_8, hR_9, hR_10, hR_11⟩ := hR0
  refine At.enter rfl ?_
  refine r_aload_n e1 ?_
  refine r_sload_n e0 ?_
  refine r_iload_n e3 ?_
  refine r_iconst 1 rfl ?_
  refine q_iadd (i.toInt + 1) rfl hx_1 (fun v1 hv1 => ?_)
  refine q_scald (m := L) hL (i.toInt + 1) hv1 hy_1 (fun v2 hv2 => ?_)
  rcases (show v2.toInt = 0 ∨ v2.toInt = 1 ∨ (v2.toInt < 0 ∨ 1 < v2.toInt) by omega) with u3 | u3 | u3
  · have n4_e : v2.toInt = 0 := by omega
    have n4_1 : v2.toInt ≠ 1 := by omega
    refine r_callV 1257 rfl [.ref 0, .int v2] [] (Nat.le_of_ble_eq_true rfl) rfl (T_X10_image_0 _ hI0 v2) ?_
    rintro _ _ ⟨g5, rfl, hI6, hF7, v8, rfl, hr9⟩
    refine At.sti ?_
    have hF10 := Fr.tr hF0 hF7 rfl rfl
    obtain ⟨q11, q12, q13, q14, q15, q16, q17, q18, q19, q20, q21, q22⟩ := hr9
    obtain ⟨p23, p24, p25, p26, p27, p28⟩ := (And.intro q11 q12)
    have w29 := p24 n4_e
    have w30 := p27 n4_1
    clear p24 p25 p26 p27 p28
    have f32 := congrArg Int32.toInt (hF7.1 1 0 rfl)
    have f33 := congrArg Int32.toInt (hF7.1 1 12 rfl)
    have f34 := congrArg Int32.toInt (hF7.1 1 10 rfl)
    have f35 := congrArg Int32.toInt (hF7.1 1 11 rfl)
    have f36 := congrArg Int32.toInt (hF7.1 174 1 rfl)
    have f37 := congrArg Int32.toInt (eA_c (j := 0) (hF7.2.1 233 rfl))
    have f38 := congrArg Int32.toInt (eA_c (j := 4) (hF7.2.1 233 rfl))
    have f39 := congrArg Int32.toInt (eA_c (j := 5) (hF7.2.1 233 rfl))
    have f40 := congrArg Int32.toInt (eA_c (j := 6) (hF7.2.1 233 rfl))
    have f41 := congrArg Int32.toInt (eA_c (j := 0) (hF7.2.1 234 rfl))
    have f42 := congrArg Int32.toInt (eA_c (j := 4) (hF7.2.1 234 rfl))
    have f43 := congrArg Int32.toInt (eA_c (j := 5) (hF7.2.1 234 rfl))
    have f44 := congrArg Int32.toInt (eA_c (j := 6) (hF7.2.1 234 rfl))
    have f45 := congrArg Int32.toInt (eA_c (j := 5510) (hF7.2.1 234 rfl))
    have f46 := congrArg Int32.toInt (eA_c (j := 5514) (hF7.2.1 234 rfl))
    have f47 := congrArg Int32.toInt (eA_c (j := 5515) (hF7.2.1 234 rfl))
    have f48 := congrArg Int32.toInt (eA_c (j := 5516) (hF7.2.1 234 rfl))
    have f49 := congrArg Int32.toInt (eA_c (j := 0) (hF7.2.1 235 rfl))
    have f50 := congrArg Int32.toInt (eA_c (j := 1) (hF7.2.1 235 rfl))
    have f51 := congrArg Int32.toInt (hF7.1 231 8 rfl)
    refine At.enter rfl ?_
    refine r_pop rfl ?_
    refine r_aload_n e2 ?_
    refine r_sload_n e0 ?_
    refine r_iload_n e3 ?_
    refine r_iconst 1 rfl ?_
    refine q_iadd (i.toInt + 1) rfl hx_1 (fun v52 hv52 => ?_)
    refine q_scald (m := L) hL (i.toInt + 1) hv52 hy_1 (fun v53 hv53 => ?_)
    have sv53 := hv2.symm.trans hv53
    subst sv53
    have n54_e : v2.toInt = 0 := by omega
    have n54_1 : v2.toInt ≠ 1 := by omega
    refine r_callV 1267 rfl [.ref 231, .int v2] [] (Nat.le_of_ble_eq_true rfl) rfl (T_X11_image_231 _ hI6 v2) ?_
    rintro _ _ ⟨g55, rfl, hI56, hF57, v58, rfl, hr59⟩
    refine At.sti ?_
    have hF60 := Fr.tr hF10 hF57 rfl rfl
    obtain ⟨q61, q62, q63, q64⟩ := hr59
    obtain ⟨p65, p66, p67, p68, p69, p70⟩ := (And.intro q61 q62)
    have w71 := p66 n54_e
    have w72 := p69 n54_1
    clear p66 p67 p68 p69 p70
    have f74 := congrArg Int32.toInt (hF57.1 1 0 rfl)
    have f75 := congrArg Int32.toInt (hF57.1 1 12 rfl)
    have f76 := congrArg Int32.toInt (hF57.1 1 10 rfl)
    have f77 := congrArg Int32.toInt (hF57.1 1 11 rfl)
    have f78 := congrArg Int32.toInt (hF57.1 59 0 rfl)
    have f79 := congrArg Int32.toInt (hF57.1 59 12 rfl)
    have f80 := congrArg Int32.toInt (hF57.1 59 10 rfl)
    have f81 := congrArg Int32.toInt (hF57.1 59 11 rfl)
    have f82 := congrArg Int32.toInt (hF57.1 116 0 rfl)
    have f83 := congrArg Int32.toInt (hF57.1 116 12 rfl)
    have f84 := congrArg Int32.toInt (hF57.1 116 10 rfl)
    have f85 := congrArg Int32.toInt (hF57.1 116 11 rfl)
    have f86 := congrArg Int32.toInt (eA_c (j := 0) (hF57.2.1 173 rfl))
    have f87 := congrArg Int32.toInt (eA_c (j := 1) (hF57.2.1 173 rfl))
    have f88 := congrArg Int32.toInt (hF57.1 174 1 rfl)
    have f89 := congrArg Int32.toInt (eA_c (j := 0) (hF57.2.1 233 rfl))
    have f90 := congrArg Int32.toInt (eA_c (j := 4) (hF57.2.1 233 rfl))
    have f91 := congrArg Int32.toInt (eA_c (j := 5) (hF57.2.1 233 rfl))
    have f92 := congrArg Int32.toInt (eA_c (j := 6) (hF57.2.1 233 rfl))
    have f93 := congrArg Int32.toInt (hF57.1 231 8 rfl)
    refine At.enter rfl ?_
    refine r_pop rfl ?_
    refine r_goto ?_
    exact K _ hI56 (show LwR _ from ⟨(congrArg Int32.toInt (((hF57.1 1 0 (by decide)).trans (hF7.1 1 0 (by decide))))).trans (hR_0.trans (eA_ti (j := 0) (((hF57.2.1 233 (by decide)).trans (hF7.2.1 233 (by decide))))).symm), (congrArg Int32.toInt (((hF57.1 1 12 (by decide)).trans (hF7.1 1 12 (by decide))))).trans (hR_1.trans (eA_ti (j := 4) (((hF57.2.1 233 (by decide)).trans (hF7.2.1 233 (by decide))))).symm), (congrArg Int32.toInt (((hF57.1 1 10 (by decide)).trans (hF7.1 1 10 (by decide))))).trans (hR_2.trans (eA_ti (j := 5) (((hF57.2.1 233 (by decide)).trans (hF7.2.1 233 (by decide))))).symm), (congrArg Int32.toInt (((hF57.1 1 11 (by decide)).trans (hF7.1 1 11 (by decide))))).trans (hR_3.trans (eA_ti (j := 6) (((hF57.2.1 233 (by decide)).trans (hF7.2.1 233 (by decide))))).symm), by omega, by omega, (congrArg Int32.toInt (((hF57.1 174 1 (by decide)).trans (hF7.1 174 1 (by decide))))).trans (hR_6.trans (congrArg Int32.toInt (((hF57.1 231 8 (by decide)).trans (hF7.1 231 8 (by decide))))).symm), (fun _ => ⟨by omega, by omega, by omega, by omega⟩), IM1.cong hR_8 (by omega) (by omega) (by omega) (by omega) (by omega) (by omega) (by omega) (by omega) (by omega), CT.cong hR_9 (((hF57.2.1 2 (by decide)).trans (hF7.2.1 2 (by decide)))) (((hF57.2.1 3 (by decide)).trans (hF7.2.1 3 (by decide)))) (((hF57.2.1 4 (by decide)).trans (hF7.2.1 4 (by decide)))) (((hF57.2.1 14 (by decide)).trans (hF7.2.1 14 (by decide)))) (((hF57.2.1 15 (by decide)).trans (hF7.2.1 15 (by decide)))) (((hF57.2.1 233 (by decide)).trans (hF7.2.1 233 (by decide)))), (show CI0 _ from ⟨fun i i0 i1 => ⟨(by have t0_ := hI0.t0; have t1_ := hI0.t1; clear q12 q62; have o := (hR_10.1 i i0 i1).1; have o2 := (hR_9.1 i i0 i1).1; have x := (eA_ti (j := i) (hF57.2.1 60 (by decide))).trans (q13 i i0 i1); have m := q63 (10 + 3 * i) (by omega) (by omega); have y1 := eA_ti (j := ((10 + 3 * i))) (hF7.2.1 233 (by decide)); have y2 := eA_ti (j := ((10 + 3 * i))) (hF7.2.1 234 (by decide)); (try split at x) <;> (try split at m) <;> omega), (by have t0_ := hI0.t0; have t1_ := hI0.t1; clear q12 q62; have o := (hR_10.1 i i0 i1).2.1; have o2 := (hR_9.1 i i0 i1).2.1; have x := (eA_ti (j := i) (hF57.2.1 61 (by decide))).trans (q14 i i0 i1); have m := q63 (10 + 3 * i + 1) (by omega) (by omega); have y1 := eA_ti (j := ((10 + 3 * i + 1))) (hF7.2.1 233 (by decide)); have y2 := eA_ti (j := ((10 + 3 * i + 1))) (hF7.2.1 234 (by decide)); (try split at x) <;> (try split at m) <;> omega), (by have t0_ := hI0.t0; have t1_ := hI0.t1; clear q12 q62; have o := (hR_10.1 i i0 i1).2.2; have o2 := (hR_9.1 i i0 i1).2.2; have x := (eA_ti (j := i) (hF57.2.1 62 (by decide))).trans (q15 i i0 i1); have m := q63 (10 + 3 * i + 2) (by omega) (by omega); have y1 := eA_ti (j := ((10 + 3 * i + 2))) (hF7.2.1 233 (by decide)); have y2 := eA_ti (j := ((10 + 3 * i + 2))) (hF7.2.1 234 (by decide)); (try split at x) <;> (try split at m) <;> omega)⟩, fun i i0 i1 => ⟨(by have t0_ := hI0.t0; have t1_ := hI0.t1; clear q12 q62; have o := (hR_10.2 i i0 i1).1; have o2 := (hR_9.2 i i0 i1).1; have x := (eA_ti (j := i) (hF57.2.1 72 (by decide))).trans (q16 i i0 i1); have m := q63 (94 + 2 * i) (by omega) (by omega); have y1 := eA_ti (j := ((94 + 2 * i))) (hF7.2.1 233 (by decide)); have y2 := eA_ti (j := ((94 + 2 * i))) (hF7.2.1 234 (by decide)); (try split at x) <;> (try split at m) <;> omega), (by have t0_ := hI0.t0; have t1_ := hI0.t1; clear q12 q62; have o := (hR_10.2 i i0 i1).2; have o2 := (hR_9.2 i i0 i1).2; have x := (eA_ti (j := i) (hF57.2.1 73 (by decide))).trans (q17 i i0 i1); have m := q63 (94 + 2 * i + 1) (by omega) (by omega); have y1 := eA_ti (j := ((94 + 2 * i + 1))) (hF7.2.1 233 (by decide)); have y2 := eA_ti (j := ((94 + 2 * i + 1))) (hF7.2.1 234 (by decide)); (try split at x) <;> (try split at m) <;> omega)⟩⟩), (show CI1 _ from ⟨fun i i0 i1 => ⟨(by have t0_ := hI0.t0; have t1_ := hI0.t1; clear q12 q62; have o := (hR_11.1 i i0 i1).1; have o2 := (hR_9.1 i i0 i1).1; have x := (eA_ti (j := i) (hF57.2.1 117 (by decide))).trans (q18 i i0 i1); have m := q64 (10 + 3 * i) (by omega) (by omega); have y1 := eA_ti (j := ((10 + 3 * i))) (hF7.2.1 233 (by decide)); have y2 := eA_ti (j := (5510 + ((10 + 3 * i)))) (hF7.2.1 234 (by decide)); (try split at x) <;> (try split at m) <;> omega), (by have t0_ := hI0.t0; have t1_ := hI0.t1; clear q12 q62; have o := (hR_11.1 i i0 i1).2.1; have o2 := (hR_9.1 i i0 i1).2.1; have x := (eA_ti (j := i) (hF57.2.1 118 (by decide))).trans (q19 i i0 i1); have m := q64 (10 + 3 * i + 1) (by omega) (by omega); have y1 := eA_ti (j := ((10 + 3 * i + 1))) (hF7.2.1 233 (by decide)); have y2 := eA_ti (j := (5510 + ((10 + 3 * i + 1)))) (hF7.2.1 234 (by decide)); (try split at x) <;> (try split at m) <;> omega), (by have t0_ := hI0.t0; have t1_ := hI0.t1; clear q12 q62; have o := (hR_11.1 i i0 i1).2.2; have o2 := (hR_9.1 i i0 i1).2.2; have x := (eA_ti (j := i) (hF57.2.1 119 (by decide))).trans (q20 i i0 i1); have m := q64 (10 + 3 * i + 2) (by omega) (by omega); have y1 := eA_ti (j := ((10 + 3 * i + 2))) (hF7.2.1 233 (by decide)); have y2 := eA_ti (j := (5510 + ((10 + 3 * i + 2)))) (hF7.2.1 234 (by decide)); (try split at x) <;> (try split at m) <;> omega)⟩, fun i i0 i1 => ⟨(by have t0_ := hI0.t0; have t1_ := hI0.t1; clear q12 q62; have o := (hR_11.2 i i0 i1).1; have o2 := (hR_9.2 i i0 i1).1; have x := (eA_ti (j := i) (hF57.2.1 129 (by decide))).trans (q21 i i0 i1); have m := q64 (94 + 2 * i) (by omega) (by omega); have y1 := eA_ti (j := ((94 + 2 * i))) (hF7.2.1 233 (by decide)); have y2 := eA_ti (j := (5510 + ((94 + 2 * i)))) (hF7.2.1 234 (by decide)); (try split at x) <;> (try split at m) <;> omega), (by have t0_ := hI0.t0; have t1_ := hI0.t1; clear q12 q62; have o := (hR_11.2 i i0 i1).2; have o2 := (hR_9.2 i i0 i1).2; have x := (eA_ti (j := i) (hF57.2.1 130 (by decide))).trans (q22 i i0 i1); have m := q64 (94 + 2 * i + 1) (by omega) (by omega); have y1 := eA_ti (j := ((94 + 2 * i + 1))) (hF7.2.1 233 (by decide)); have y2 := eA_ti (j := (5510 + ((94 + 2 * i + 1)))) (hF7.2.1 234 (by decide)); (try split at x) <;> (try split at m) <;> omega)⟩⟩)⟩)
  · have n94_e : v2.toInt = 1 := by omega
    have n94_0 : v2.toInt ≠ 0 := by omega
    refine r_callV 1257 rfl [.ref 0, .int v2] [] (Nat.le_of_ble_eq_true rfl) rfl (T_X10_image_0 _ hI0 v2) ?_
    rintro _ _ ⟨g95, rfl, hI96, hF97, v98, rfl, hr99⟩
    refine At.sti ?_
    have hF100 := Fr.tr hF0 hF97 rfl rfl
    obtain ⟨q101, q102, q103, q104, q105, q106, q107, q108, q109, q110, q111, q112⟩ := hr99
    obtain ⟨p113, p114, p115, p116, p117, p118⟩ := (And.intro q101 q102)
    have w119 := p115 n94_0
    have w120 := p116 n94_e
    clear p114 p115 p116 p117 p118
    have f122 := congrArg Int32.toInt (hF97.1 1 0 rfl)
    have f123 := congrArg Int32.toInt (hF97.1 1 12 rfl)
    have f124 := congrArg Int32.toInt (hF97.1 1 10 rfl)
    have f125 := congrArg Int32.toInt (hF97.1 1 11 rfl)
    have f126 := congrArg Int32.toInt (hF97.1 174 1 rfl)
    have f127 := congrArg Int32.toInt (eA_c (j := 0) (hF97.2.1 233 rfl))
    have f128 := congrArg Int32.toInt (eA_c (j := 4) (hF97.2.1 233 rfl))
    have f129 := congrArg Int32.toInt (eA_c (j := 5) (hF97.2.1 233 rfl))
    have f130 := congrArg Int32.toInt (eA_c (j := 6) (hF97.2.1 233 rfl))
    have f131 := congrArg Int32.toInt (eA_c (j := 0) (hF97.2.1 234 rfl))
    have f132 := congrArg Int32.toInt (eA_c (j := 4) (hF97.2.1 234 rfl))
    have f133 := congrArg Int32.toInt (eA_c (j := 5) (hF97.2.1 234 rfl))
    have f134 := congrArg Int32.toInt (eA_c (j := 6) (hF97.2.1 234 rfl))
    have f135 := congrArg Int32.toInt (eA_c (j := 5510) (hF97.2.1 234 rfl))
    have f136 := congrArg Int32.toInt (eA_c (j := 5514) (hF97.2.1 234 rfl))
    have f137 := congrArg Int32.toInt (eA_c (j := 5515) (hF97.2.1 234 rfl))
    have f138 := congrArg Int32.toInt (eA_c (j := 5516) (hF97.2.1 234 rfl))
    have f139 := congrArg Int32.toInt (eA_c (j := 0) (hF97.2.1 235 rfl))
    have f140 := congrArg Int32.toInt (eA_c (j := 1) (hF97.2.1 235 rfl))
    have f141 := congrArg Int32.toInt (hF97.1 231 8 rfl)
    refine At.enter rfl ?_
    refine r_pop rfl ?_
    refine r_aload_n e2 ?_
    refine r_sload_n e0 ?_
    refine r_iload_n e3 ?_
    refine r_iconst 1 rfl ?_
    refine q_iadd (i.toInt + 1) rfl hx_1 (fun v142 hv142 => ?_)
    refine q_scald (m := L) hL (i.toInt + 1) hv142 hy_1 (fun v143 hv143 => ?_)
    have sv143 := hv2.symm.trans hv143
    subst sv143
    have n144_e : v2.toInt = 1 := by omega
    have n144_0 : v2.toInt ≠ 0 := by omega
    refine r_callV 1267 rfl [.ref 231, .int v2] [] (Nat.le_of_ble_eq_true rfl) rfl (T_X11_image_231 _ hI96 v2) ?_
    rintro _ _ ⟨g145, rfl, hI146, hF147, v148, rfl, hr149⟩
    refine At.sti ?_
    have hF150 := Fr.tr hF100 hF147 rfl rfl
    obtain ⟨q151, q152, q153, q154⟩ := hr149
    obtain ⟨p155, p156, p157, p158, p159, p160⟩ := (And.intro q151 q152)
    have w161 := p157 n144_0
    have w162 := p158 n144_e
    clear p156 p157 p158 p159 p160
    have f164 := congrArg Int32.toInt (hF147.1 1 0 rfl)
    have f165 := congrArg Int32.toInt (hF147.1 1 12 rfl)
    have f166 := congrArg Int32.toInt (hF147.1 1 10 rfl)
    have f167 := congrArg Int32.toInt (hF147.1 1 11 rfl)
    have f168 := congrArg Int32.toInt (hF147.1 59 0 rfl)
    have f169 := congrArg Int32.toInt (hF147.1 59 12 rfl)
    have f170 := congrArg Int32.toInt (hF147.1 59 10 rfl)
    have f171 := congrArg Int32.toInt (hF147.1 59 11 rfl)
    have f172 := congrArg Int32.toInt (hF147.1 116 0 rfl)
    have f173 := congrArg Int32.toInt (hF147.1 116 12 rfl)
    have f174 := congrArg Int32.toInt (hF147.1 116 10 rfl)
    have f175 := congrArg Int32.toInt (hF147.1 116 11 rfl)
    have f176 := congrArg Int32.toInt (eA_c (j := 0) (hF147.2.1 173 rfl))
    have f177 := congrArg Int32.toInt (eA_c (j := 1) (hF147.2.1 173 rfl))
    have f178 := congrArg Int32.toInt (hF147.1 174 1 rfl)
    have f179 := congrArg Int32.toInt (eA_c (j := 0) (hF147.2.1 233 rfl))
    have f180 := congrArg Int32.toInt (eA_c (j := 4) (hF147.2.1 233 rfl))
    have f181 := congrArg Int32.toInt (eA_c (j := 5) (hF147.2.1 233 rfl))
    have f182 := congrArg Int32.toInt (eA_c (j := 6) (hF147.2.1 233 rfl))
    have f183 := congrArg Int32.toInt (hF147.1 231 8 rfl)
    refine At.enter rfl ?_
    refine r_pop rfl ?_
    refine r_goto ?_
    exact K _ hI146 (show LwR _ from ⟨(congrArg Int32.toInt (((hF147.1 1 0 (by decide)).trans (hF97.1 1 0 (by decide))))).trans (hR_0.trans (eA_ti (j := 0) (((hF147.2.1 233 (by decide)).trans (hF97.2.1 233 (by decide))))).symm), (congrArg Int32.toInt (((hF147.1 1 12 (by decide)).trans (hF97.1 1 12 (by decide))))).trans (hR_1.trans (eA_ti (j := 4) (((hF147.2.1 233 (by decide)).trans (hF97.2.1 233 (by decide))))).symm), (congrArg Int32.toInt (((hF147.1 1 10 (by decide)).trans (hF97.1 1 10 (by decide))))).trans (hR_2.trans (eA_ti (j := 5) (((hF147.2.1 233 (by decide)).trans (hF97.2.1 233 (by decide))))).symm), (congrArg Int32.toInt (((hF147.1 1 11 (by decide)).trans (hF97.1 1 11 (by decide))))).trans (hR_3.trans (eA_ti (j := 6) (((hF147.2.1 233 (by decide)).trans (hF97.2.1 233 (by decide))))).symm), by omega, by omega, (congrArg Int32.toInt (((hF147.1 174 1 (by decide)).trans (hF97.1 174 1 (by decide))))).trans (hR_6.trans (congrArg Int32.toInt (((hF147.1 231 8 (by decide)).trans (hF97.1 231 8 (by decide))))).symm), IM0.cong hR_7 (by omega) (by omega) (by omega) (by omega) (by omega) (by omega) (by omega) (by omega) (by omega), (fun _ => ⟨by omega, by omega, by omega, by omega⟩), CT.cong hR_9 (((hF147.2.1 2 (by decide)).trans (hF97.2.1 2 (by decide)))) (((hF147.2.1 3 (by decide)).trans (hF97.2.1 3 (by decide)))) (((hF147.2.1 4 (by decide)).trans (hF97.2.1 4 (by decide)))) (((hF147.2.1 14 (by decide)).trans (hF97.2.1 14 (by decide)))) (((hF147.2.1 15 (by decide)).trans (hF97.2.1 15 (by decide)))) (((hF147.2.1 233 (by decide)).trans (hF97.2.1 233 (by decide)))), (show CI0 _ from ⟨fun i i0 i1 => ⟨(by have t0_ := hI0.t0; have t1_ := hI0.t1; clear q102 q152; have o := (hR_10.1 i i0 i1).1; have o2 := (hR_9.1 i i0 i1).1; have x := (eA_ti (j := i) (hF147.2.1 60 (by decide))).trans (q103 i i0 i1); have m := q153 (10 + 3 * i) (by omega) (by omega); have y1 := eA_ti (j := ((10 + 3 * i))) (hF97.2.1 233 (by decide)); have y2 := eA_ti (j := ((10 + 3 * i))) (hF97.2.1 234 (by decide)); (try split at x) <;> (try split at m) <;> omega), (by have t0_ := hI0.t0; have t1_ := hI0.t1; clear q102 q152; have o := (hR_10.1 i i0 i1).2.1; have o2 := (hR_9.1 i i0 i1).2.1; have x := (eA_ti (j := i) (hF147.2.1 61 (by decide))).trans (q104 i i0 i1); have m := q153 (10 + 3 * i + 1) (by omega) (by omega); have y1 := eA_ti (j := ((10 + 3 * i + 1))) (hF97.2.1 233 (by decide)); have y2 := eA_ti (j := ((10 + 3 * i + 1))) (hF97.2.1 234 (by decide)); (try split at x) <;> (try split at m) <;> omega), (by have t0_ := hI0.t0; have t1_ := hI0.t1; clear q102 q152; have o := (hR_10.1 i i0 i1).2.2; have o2 := (hR_9.1 i i0 i1).2.2; have x := (eA_ti (j := i) (hF147.2.1 62 (by decide))).trans (q105 i i0 i1); have m := q153 (10 + 3 * i + 2) (by omega) (by omega); have y1 := eA_ti (j := ((10 + 3 * i + 2))) (hF97.2.1 233 (by decide)); have y2 := eA_ti (j := ((10 + 3 * i + 2))) (hF97.2.1 234 (by decide)); (try split at x) <;> (try split at m) <;> omega)⟩, fun i i0 i1 => ⟨(by have t0_ := hI0.t0; have t1_ := hI0.t1; clear q102 q152; have o := (hR_10.2 i i0 i1).1; have o2 := (hR_9.2 i i0 i1).1; have x := (eA_ti (j := i) (hF147.2.1 72 (by decide))).trans (q106 i i0 i1); have m := q153 (94 + 2 * i) (by omega) (by omega); have y1 := eA_ti (j := ((94 + 2 * i))) (hF97.2.1 233 (by decide)); have y2 := eA_ti (j := ((94 + 2 * i))) (hF97.2.1 234 (by decide)); (try split at x) <;> (try split at m) <;> omega), (by have t0_ := hI0.t0; have t1_ := hI0.t1; clear q102 q152; have o := (hR_10.2 i i0 i1).2; have o2 := (hR_9.2 i i0 i1).2; have x := (eA_ti (j := i) (hF147.2.1 73 (by decide))).trans (q107 i i0 i1); have m := q153 (94 + 2 * i + 1) (by omega) (by omega); have y1 := eA_ti (j := ((94 + 2 * i + 1))) (hF97.2.1 233 (by decide)); have y2 := eA_ti (j := ((94 + 2 * i + 1))) (hF97.2.1 234 (by decide)); (try split at x) <;> (try split at m) <;> omega)⟩⟩), (show CI1 _ from ⟨fun i i0 i1 => ⟨(by have t0_ := hI0.t0; have t1_ := hI0.t1; clear q102 q152; have o := (hR_11.1 i i0 i1).1; have o2 := (hR_9.1 i i0 i1).1; have x := (eA_ti (j := i) (hF147.2.1 117 (by decide))).trans (q108 i i0 i1); have m := q154 (10 + 3 * i) (by omega) (by omega); have y1 := eA_ti (j := ((10 + 3 * i))) (hF97.2.1 233 (by decide)); have y2 := eA_ti (j := (5510 + ((10 + 3 * i)))) (hF97.2.1 234 (by decide)); (try split at x) <;> (try split at m) <;> omega), (by have t0_ := hI0.t0; have t1_ := hI0.t1; clear q102 q152; have o := (hR_11.1 i i0 i1).2.1; have o2 := (hR_9.1 i i0 i1).2.1; have x := (eA_ti (j := i) (hF147.2.1 118 (by decide))).trans (q109 i i0 i1); have m := q154 (10 + 3 * i + 1) (by omega) (by omega); have y1 := eA_ti (j := ((10 + 3 * i + 1))) (hF97.2.1 233 (by decide)); have y2 := eA_ti (j := (5510 + ((10 + 3 * i + 1)))) (hF97.2.1 234 (by decide)); (try split at x) <;> (try split at m) <;> omega), (by have t0_ := hI0.t0; have t1_ := hI0.t1; clear q102 q152; have o := (hR_11.1 i i0 i1).2.2; have o2 := (hR_9.1 i i0 i1).2.2; have x := (eA_ti (j := i) (hF147.2.1 119 (by decide))).trans (q110 i i0 i1); have m := q154 (10 + 3 * i + 2) (by omega) (by omega); have y1 := eA_ti (j := ((10 + 3 * i + 2))) (hF97.2.1 233 (by decide)); have y2 := eA_ti (j := (5510 + ((10 + 3 * i + 2)))) (hF97.2.1 234 (by decide)); (try split at x) <;> (try split at m) <;> omega)⟩, fun i i0 i1 => ⟨(by have t0_ := hI0.t0; have t1_ := hI0.t1; clear q102 q152; have o := (hR_11.2 i i0 i1).1; have o2 := (hR_9.2 i i0 i1).1; have x := (eA_ti (j := i) (hF147.2.1 129 (by decide))).trans (q111 i i0 i1); have m := q154 (94 + 2 * i) (by omega) (by omega); have y1 := eA_ti (j := ((94 + 2 * i))) (hF97.2.1 233 (by decide)); have y2 := eA_ti (j := (5510 + ((94 + 2 * i)))) (hF97.2.1 234 (by decide)); (try split at x) <;> (try split at m) <;> omega), (by have t0_ := hI0.t0; have t1_ := hI0.t1; clear q102 q152; have o := (hR_11.2 i i0 i1).2; have o2 := (hR_9.2 i i0 i1).2; have x := (eA_ti (j := i) (hF147.2.1 130 (by decide))).trans (q112 i i0 i1); have m := q154 (94 + 2 * i + 1) (by omega) (by omega); have y1 := eA_ti (j := ((94 + 2 * i + 1))) (hF97.2.1 233 (by decide)); have y2 := eA_ti (j := (5510 + ((94 + 2 * i + 1)))) (hF97.2.1 234 (by decide)); (try split at x) <;> (try split at m) <;> omega)⟩⟩)⟩)
  · have n184_e : (v2.toInt < 0 ∨ 1 < v2.toInt) := by omega
    have n184_0 : v2.toInt ≠ 0 := by omega
    have n184_1 : v2.toInt ≠ 1 := by omega
    refine r_callV 1257 rfl [.ref 0, .int v2] [] (Nat.le_of_ble_eq_true rfl) rfl (T_X10_image_0 _ hI0 v2) ?_
    rintro _ _ ⟨g185, rfl, hI186, hF187, v188, rfl, hr189⟩
    refine At.sti ?_
    have hF190 := Fr.tr hF0 hF187 rfl rfl
    obtain ⟨q191, q192, q193, q194, q195, q196, q197, q198, q199, q200, q201, q202⟩ := hr189
    obtain ⟨p203, p204, p205, p206, p207, p208⟩ := (And.intro q191 q192)
    have w209 := p208 n184_e
    have w210 := p205 n184_0
    have w211 := p207 n184_1
    clear p204 p205 p206 p207 p208
    have f212 := congrArg Int32.toInt (hF187.1 1 0 rfl)
    have f213 := congrArg Int32.toInt (hF187.1 1 12 rfl)
    have f214 := congrArg Int32.toInt (hF187.1 1 10 rfl)
    have f215 := congrArg Int32.toInt (hF187.1 1 11 rfl)
    have f216 := congrArg Int32.toInt (hF187.1 174 1 rfl)
    have f217 := congrArg Int32.toInt (eA_c (j := 0) (hF187.2.1 233 rfl))
    have f218 := congrArg Int32.toInt (eA_c (j := 4) (hF187.2.1 233 rfl))
    have f219 := congrArg Int32.toInt (eA_c (j := 5) (hF187.2.1 233 rfl))
    have f220 := congrArg Int32.toInt (eA_c (j := 6) (hF187.2.1 233 rfl))
    have f221 := congrArg Int32.toInt (eA_c (j := 0) (hF187.2.1 234 rfl))
    have f222 := congrArg Int32.toInt (eA_c (j := 4) (hF187.2.1 234 rfl))
    have f223 := congrArg Int32.toInt (eA_c (j := 5) (hF187.2.1 234 rfl))
    have f224 := congrArg Int32.toInt (eA_c (j := 6) (hF187.2.1 234 rfl))
    have f225 := congrArg Int32.toInt (eA_c (j := 5510) (hF187.2.1 234 rfl))
    have f226 := congrArg Int32.toInt (eA_c (j := 5514) (hF187.2.1 234 rfl))
    have f227 := congrArg Int32.toInt (eA_c (j := 5515) (hF187.2.1 234 rfl))
    have f228 := congrArg Int32.toInt (eA_c (j := 5516) (hF187.2.1 234 rfl))
    have f229 := congrArg Int32.toInt (eA_c (j := 0) (hF187.2.1 235 rfl))
    have f230 := congrArg Int32.toInt (eA_c (j := 1) (hF187.2.1 235 rfl))
    have f231 := congrArg Int32.toInt (hF187.1 231 8 rfl)
    refine At.enter rfl ?_
    refine r_pop rfl ?_
    refine r_aload_n e2 ?_
    refine r_sload_n e0 ?_
    refine r_iload_n e3 ?_
    refine r_iconst 1 rfl ?_
    refine q_iadd (i.toInt + 1) rfl hx_1 (fun v232 hv232 => ?_)
    refine q_scald (m := L) hL (i.toInt + 1) hv232 hy_1 (fun v233 hv233 => ?_)
    have sv233 := hv2.symm.trans hv233
    subst sv233
    have n234_e : (v2.toInt < 0 ∨ 1 < v2.toInt) := by omega
    have n234_0 : v2.toInt ≠ 0 := by omega
    have n234_1 : v2.toInt ≠ 1 := by omega
    refine r_callV 1267 rfl [.ref 231, .int v2] [] (Nat.le_of_ble_eq_true rfl) rfl (T_X11_image_231 _ hI186 v2) ?_
    rintro _ _ ⟨g235, rfl, hI236, hF237, v238, rfl, hr239⟩
    refine At.sti ?_
    have hF240 := Fr.tr hF190 hF237 rfl rfl
    obtain ⟨q241, q242, q243, q244⟩ := hr239
    obtain ⟨p245, p246, p247, p248, p249, p250⟩ := (And.intro q241 q242)
    have w251 := p250 n234_e
    have w252 := p247 n234_0
    have w253 := p249 n234_1
    clear p246 p247 p248 p249 p250
    have f254 := congrArg Int32.toInt (hF237.1 1 0 rfl)
    have f255 := congrArg Int32.toInt (hF237.1 1 12 rfl)
    have f256 := congrArg Int32.toInt (hF237.1 1 10 rfl)
    have f257 := congrArg Int32.toInt (hF237.1 1 11 rfl)
    have f258 := congrArg Int32.toInt (hF237.1 59 0 rfl)
    have f259 := congrArg Int32.toInt (hF237.1 59 12 rfl)
    have f260 := congrArg Int32.toInt (hF237.1 59 10 rfl)
    have f261 := congrArg Int32.toInt (hF237.1 59 11 rfl)
    have f262 := congrArg Int32.toInt (hF237.1 116 0 rfl)
    have f263 := congrArg Int32.toInt (hF237.1 116 12 rfl)
    have f264 := congrArg Int32.toInt (hF237.1 116 10 rfl)
    have f265 := congrArg Int32.toInt (hF237.1 116 11 rfl)
    have f266 := congrArg Int32.toInt (eA_c (j := 0) (hF237.2.1 173 rfl))
    have f267 := congrArg Int32.toInt (eA_c (j := 1) (hF237.2.1 173 rfl))
    have f268 := congrArg Int32.toInt (hF237.1 174 1 rfl)
    have f269 := congrArg Int32.toInt (eA_c (j := 0) (hF237.2.1 233 rfl))
    have f270 := congrArg Int32.toInt (eA_c (j := 4) (hF237.2.1 233 rfl))
    have f271 := congrArg Int32.toInt (eA_c (j := 5) (hF237.2.1 233 rfl))
    have f272 := congrArg Int32.toInt (eA_c (j := 6) (hF237.2.1 233 rfl))
    have f273 := congrArg Int32.toInt (hF237.1 231 8 rfl)
    refine At.enter rfl ?_
    refine r_pop rfl ?_
    refine r_goto ?_
    exact K _ hI236 (show LwR _ from ⟨(congrArg Int32.toInt (((hF237.1 1 0 (by decide)).trans (hF187.1 1 0 (by decide))))).trans (hR_0.trans (eA_ti (j := 0) (((hF237.2.1 233 (by decide)).trans (hF187.2.1 233 (by decide))))).symm), (congrArg Int32.toInt (((hF237.1 1 12 (by decide)).trans (hF187.1 1 12 (by decide))))).trans (hR_1.trans (eA_ti (j := 4) (((hF237.2.1 233 (by decide)).trans (hF187.2.1 233 (by decide))))).symm), (congrArg Int32.toInt (((hF237.1 1 10 (by decide)).trans (hF187.1 1 10 (by decide))))).trans (hR_2.trans (eA_ti (j := 5) (((hF237.2.1 233 (by decide)).trans (hF187.2.1 233 (by decide))))).symm), (congrArg Int32.toInt (((hF237.1 1 11 (by decide)).trans (hF187.1 1 11 (by decide))))).trans (hR_3.trans (eA_ti (j := 6) (((hF237.2.1 233 (by decide)).trans (hF187.2.1 233 (by decide))))).symm), by omega, by omega, (congrArg Int32.toInt (((hF237.1 174 1 (by decide)).trans (hF187.1 174 1 (by decide))))).trans (hR_6.trans (congrArg Int32.toInt (((hF237.1 231 8 (by decide)).trans (hF187.1 231 8 (by decide))))).symm), IM0.cong hR_7 (by omega) (by omega) (by omega) (by omega) (by omega) (by omega) (by omega) (by omega) (by omega), IM1.cong hR_8 (by omega) (by omega) (by omega) (by omega) (by omega) (by omega) (by omega) (by omega) (by omega), CT.cong hR_9 (((hF237.2.1 2 (by decide)).trans (hF187.2.1 2 (by decide)))) (((hF237.2.1 3 (by decide)).trans (hF187.2.1 3 (by decide)))) (((hF237.2.1 4 (by decide)).trans (hF187.2.1 4 (by decide)))) (((hF237.2.1 14 (by decide)).trans (hF187.2.1 14 (by decide)))) (((hF237.2.1 15 (by decide)).trans (hF187.2.1 15 (by decide)))) (((hF237.2.1 233 (by decide)).trans (hF187.2.1 233 (by decide)))), (show CI0 _ from ⟨fun i i0 i1 => ⟨(by have t0_ := hI0.t0; have t1_ := hI0.t1; clear q192 q242; have o := (hR_10.1 i i0 i1).1; have o2 := (hR_9.1 i i0 i1).1; have x := (eA_ti (j := i) (hF237.2.1 60 (by decide))).trans (q193 i i0 i1); have m := q243 (10 + 3 * i) (by omega) (by omega); have y1 := eA_ti (j := ((10 + 3 * i))) (hF187.2.1 233 (by decide)); have y2 := eA_ti (j := ((10 + 3 * i))) (hF187.2.1 234 (by decide)); (try split at x) <;> (try split at m) <;> omega), (by have t0_ := hI0.t0; have t1_ := hI0.t1; clear q192 q242; have o := (hR_10.1 i i0 i1).2.1; have o2 := (hR_9.1 i i0 i1).2.1; have x := (eA_ti (j := i) (hF237.2.1 61 (by decide))).trans (q194 i i0 i1); have m := q243 (10 + 3 * i + 1) (by omega) (by omega); have y1 := eA_ti (j := ((10 + 3 * i + 1))) (hF187.2.1 233 (by decide)); have y2 := eA_ti (j := ((10 + 3 * i + 1))) (hF187.2.1 234 (by decide)); (try split at x) <;> (try split at m) <;> omega), (by have t0_ := hI0.t0; have t1_ := hI0.t1; clear q192 q242; have o := (hR_10.1 i i0 i1).2.2; have o2 := (hR_9.1 i i0 i1).2.2; have x := (eA_ti (j := i) (hF237.2.1 62 (by decide))).trans (q195 i i0 i1); have m := q243 (10 + 3 * i + 2) (by omega) (by omega); have y1 := eA_ti (j := ((10 + 3 * i + 2))) (hF187.2.1 233 (by decide)); have y2 := eA_ti (j := ((10 + 3 * i + 2))) (hF187.2.1 234 (by decide)); (try split at x) <;> (try split at m) <;> omega)⟩, fun i i0 i1 => ⟨(by have t0_ := hI0.t0; have t1_ := hI0.t1; clear q192 q242; have o := (hR_10.2 i i0 i1).1; have o2 := (hR_9.2 i i0 i1).1; have x := (eA_ti (j := i) (hF237.2.1 72 (by decide))).trans (q196 i i0 i1); have m := q243 (94 + 2 * i) (by omega) (by omega); have y1 := eA_ti (j := ((94 + 2 * i))) (hF187.2.1 233 (by decide)); have y2 := eA_ti (j := ((94 + 2 * i))) (hF187.2.1 234 (by decide)); (try split at x) <;> (try split at m) <;> omega), (by have t0_ := hI0.t0; have t1_ := hI0.t1; clear q192 q242; have o := (hR_10.2 i i0 i1).2; have o2 := (hR_9.2 i i0 i1).2; have x := (eA_ti (j := i) (hF237.2.1 73 (by decide))).trans (q197 i i0 i1); have m := q243 (94 + 2 * i + 1) (by omega) (by omega); have y1 := eA_ti (j := ((94 + 2 * i + 1))) (hF187.2.1 233 (by decide)); have y2 := eA_ti (j := ((94 + 2 * i + 1))) (hF187.2.1 234 (by decide)); (try split at x) <;> (try split at m) <;> omega)⟩⟩), (show CI1 _ from ⟨fun i i0 i1 => ⟨(by have t0_ := hI0.t0; have t1_ := hI0.t1; clear q192 q242; have o := (hR_11.1 i i0 i1).1; have o2 := (hR_9.1 i i0 i1).1; have x := (eA_ti (j := i) (hF237.2.1 117 (by decide))).trans (q198 i i0 i1); have m := q244 (10 + 3 * i) (by omega) (by omega); have y1 := eA_ti (j := ((10 + 3 * i))) (hF187.2.1 233 (by decide)); have y2 := eA_ti (j := (5510 + ((10 + 3 * i)))) (hF187.2.1 234 (by decide)); (try split at x) <;> (try split at m) <;> omega), (by have t0_ := hI0.t0; have t1_ := hI0.t1; clear q192 q242; have o := (hR_11.1 i i0 i1).2.1; have o2 := (hR_9.1 i i0 i1).2.1; have x := (eA_ti (j := i) (hF237.2.1 118 (by decide))).trans (q199 i i0 i1); have m := q244 (10 + 3 * i + 1) (by omega) (by omega); have y1 := eA_ti (j := ((10 + 3 * i + 1))) (hF187.2.1 233 (by decide)); have y2 := eA_ti (j := (5510 + ((10 + 3 * i + 1)))) (hF187.2.1 234 (by decide)); (try split at x) <;> (try split at m) <;> omega), (by have t0_ := hI0.t0; have t1_ := hI0.t1; clear q192 q242; have o := (hR_11.1 i i0 i1).2.2; have o2 := (hR_9.1 i i0 i1).2.2; have x := (eA_ti (j := i) (hF237.2.1 119 (by decide))).trans (q200 i i0 i1); have m := q244 (10 + 3 * i + 2) (by omega) (by omega); have y1 := eA_ti (j := ((10 + 3 * i + 2))) (hF187.2.1 233 (by decide)); have y2 := eA_ti (j := (5510 + ((10 + 3 * i + 2)))) (hF187.2.1 234 (by decide)); (try split at x) <;> (try split at m) <;> omega)⟩, fun i i0 i1 => ⟨(by have t0_ := hI0.t0; have t1_ := hI0.t1; clear q192 q242; have o := (hR_11.2 i i0 i1).1; have o2 := (hR_9.2 i i0 i1).1; have x := (eA_ti (j := i) (hF237.2.1 129 (by decide))).trans (q201 i i0 i1); have m := q244 (94 + 2 * i) (by omega) (by omega); have y1 := eA_ti (j := ((94 + 2 * i))) (hF187.2.1 233 (by decide)); have y2 := eA_ti (j := (5510 + ((94 + 2 * i)))) (hF187.2.1 234 (by decide)); (try split at x) <;> (try split at m) <;> omega), (by have t0_ := hI0.t0; have t1_ := hI0.t1; clear q192 q242; have o := (hR_11.2 i i0 i1).2; have o2 := (hR_9.2 i i0 i1).2; have x := (eA_ti (j := i) (hF237.2.1 130 (by decide))).trans (q202 i i0 i1); have m := q244 (94 + 2 * i + 1) (by omega) (by omega); have y1 := eA_ti (j := ((94 + 2 * i + 1))) (hF187.2.1 233 (by decide)); have y2 := eA_ti (j := (5510 + ((94 + 2 * i + 1)))) (hF187.2.1 234 (by decide)); (try split at x) <;> (try split at m) <;> omega)⟩⟩)⟩)
