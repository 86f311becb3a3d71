set_option maxRecDepth 100000 in
set_option maxHeartbeats 8000000 in
theorem lq_c37 (d : Nat) {N : Nat} {g0 : List en_E} (hI0 : HI g0) (hR0 : LwR g0) {ys : List Int32} {L : Nat} (hL : ys.length = L) (hL2 : L ≤ 3584) {l : en_L} {i : Int32} (e0 : en_get 0 l = some (.float 0)) (e1 : en_get 1 l = some (.ref 0)) (e2 : en_get 2 l = some (.ref 231)) (e3 : en_get 3 l = some (.int i)) (hi : 0 ≤ i.toInt ∧ i.toInt + 7 ≤ L) {Ph : Option Value → en_H → Prop} (K : ∀ g1 : List en_E, HI g1 → LwR g1 → At (d + 423) (some ys) (some .boolean) bs_L_law (1330, l, [], (g1, N)) Ph) : At (d + 423) (some ys) (some .boolean) bs_L_law (1271, l, [], (g0, N)) Ph := by
  have hF0 : Fr F_law A_law g0 g0 := Fr.rf
  have hx_1 : -2147483648 ≤ i.toInt + 1 ∧ i.toInt + 1 ≤ 2147483647 := by omega
  have hx_2 : -2147483648 ≤ i.toInt + 2 ∧ i.toInt + 2 ≤ 2147483647 := by omega
  have hx_3 : -2147483648 ≤ i.toInt + 3 ∧ i.toInt + 3 ≤ 2147483647 := by omega
  have hx_4 : -2147483648 ≤ i.toInt + 4 ∧ i.toInt + 4 ≤ 2147483647 := by omega
  have hx_5 : -2147483648 ≤ i.toInt + 5 ∧ i.toInt + 5 ≤ 2147483647 := by omega
  have hx_6 : -2147483648 ≤ i.toInt + 6 ∧ i.toInt + 6 ≤ 2147483647 := by omega
  have hy_0 : 0 ≤ i.toInt ∧ i.toInt < (L : Int) := by omega
  have hy_1 : 0 ≤ i.toInt + 1 ∧ i.toInt + 1 < (L : Int) := by omega
  have hy_2 : 0 ≤ i.toInt + 2 ∧ i.toInt + 2 < (L : Int) := by omega
  have hy_3 : 0 ≤ i.toInt + 3 ∧ i.toInt + 3 < (L : Int) := by omega
  have hy_4 : 0 ≤ i.toInt + 4 ∧ i.toInt + 4 < (L : Int) := by omega
  have hy_5 : 0 ≤ i.toInt + 5 ∧ i.toInt + 5 < (L : Int) := by omega
  have hy_6 : 0 ≤ i.toInt + 6 ∧ i.toInt + 6 < (L : Int) := by omega
  unfold LwR at hR0
  obtain ⟨hR_0, hR_1, hR_2, hR_3, hR_4, hR_5, hR_6, hR_7, hR_8, hR_9, hR_10, hR_11, hR_12, hR_13, hR_14⟩ := hR0
  refine At.enter rfl ?_
  refine r_aload_n e1 ?_
  refine r_sload_n e0 ?_
  refine r_iload_n e3 ?_
  refine r_iconst 1 rfl ?_
  refine q_iadd (i.toInt + 1) rfl hx_1 (fun v1 hv1 => ?_)
  refine q_scald (m := L) hL (i.toInt + 1) hv1 hy_1 (fun v2 hv2 => ?_)
  rcases (show (v2.toInt = 0 ∧ ¬ (eA g0 173 0).toInt = 0) ∨ (v2.toInt = 0 ∧ (eA g0 173 0).toInt = 0) ∨ (v2.toInt = 1 ∧ ¬ (eA g0 173 1).toInt = 0) ∨ (v2.toInt = 1 ∧ (eA g0 173 1).toInt = 0) ∨ (v2.toInt < 0 ∨ 1 < v2.toInt) by omega) with u3 | u3 | u3 | u3 | u3
  · have n5_e : v2.toInt = 0 := by omega
    have n5_1 : v2.toInt ≠ 1 := by omega
    have n5_k : (eA g0 173 0).toInt ≠ 0 := by omega
    have n5_i := hR_9 (by omega)
    refine r_callV 1280 rfl [.ref 0, .int v2] [] (Nat.le_of_ble_eq_true rfl) rfl (T_X10_back_0 _ hI0 v2) ?_
    rintro _ _ ⟨g6, rfl, hI7, hF8, v9, rfl, hr10⟩
    refine At.sti ?_
    have hF11 := Fr.tr hF0 hF8 rfl rfl
    obtain ⟨q12, q13, q14, q15, q16, q17, q18, q19⟩ := hr10
    obtain ⟨p20, p21, p22, p23, p24, p25⟩ := (And.intro q12 q13)
    have w26 := p21 ⟨n5_e, n5_k⟩
    clear p21 p22 p23 p24 p25
    clear q13
    have f29 := congrArg Int32.toInt (hF8.1 59 0 rfl)
    have f30 := congrArg Int32.toInt (hF8.1 59 12 rfl)
    have f31 := congrArg Int32.toInt (hF8.1 59 10 rfl)
    have f32 := congrArg Int32.toInt (hF8.1 59 11 rfl)
    have f33 := congrArg Int32.toInt (hF8.1 59 4 rfl)
    have f34 := congrArg Int32.toInt (hF8.1 116 0 rfl)
    have f35 := congrArg Int32.toInt (hF8.1 116 12 rfl)
    have f36 := congrArg Int32.toInt (hF8.1 116 10 rfl)
    have f37 := congrArg Int32.toInt (hF8.1 116 11 rfl)
    have f38 := congrArg Int32.toInt (hF8.1 116 4 rfl)
    have f39 := congrArg Int32.toInt (eA_c (j := 0) (hF8.2.1 173 rfl))
    have f40 := congrArg Int32.toInt (eA_c (j := 1) (hF8.2.1 173 rfl))
    have f41 := congrArg Int32.toInt (hF8.1 174 1 rfl)
    have f42 := congrArg Int32.toInt (hF8.1 0 16 rfl)
    have f43 := congrArg Int32.toInt (eA_c (j := 0) (hF8.2.1 233 rfl))
    have f44 := congrArg Int32.toInt (eA_c (j := 4) (hF8.2.1 233 rfl))
    have f45 := congrArg Int32.toInt (eA_c (j := 5) (hF8.2.1 233 rfl))
    have f46 := congrArg Int32.toInt (eA_c (j := 6) (hF8.2.1 233 rfl))
    have f47 := congrArg Int32.toInt (eA_c (j := 1) (hF8.2.1 233 rfl))
    have f48 := congrArg Int32.toInt (eA_c (j := 0) (hF8.2.1 234 rfl))
    have f49 := congrArg Int32.toInt (eA_c (j := 4) (hF8.2.1 234 rfl))
    have f50 := congrArg Int32.toInt (eA_c (j := 5) (hF8.2.1 234 rfl))
    have f51 := congrArg Int32.toInt (eA_c (j := 6) (hF8.2.1 234 rfl))
    have f52 := congrArg Int32.toInt (eA_c (j := 1) (hF8.2.1 234 rfl))
    have f53 := congrArg Int32.toInt (eA_c (j := 5510) (hF8.2.1 234 rfl))
    have f54 := congrArg Int32.toInt (eA_c (j := 5514) (hF8.2.1 234 rfl))
    have f55 := congrArg Int32.toInt (eA_c (j := 5515) (hF8.2.1 234 rfl))
    have f56 := congrArg Int32.toInt (eA_c (j := 5516) (hF8.2.1 234 rfl))
    have f57 := congrArg Int32.toInt (eA_c (j := 5511) (hF8.2.1 234 rfl))
    have f58 := congrArg Int32.toInt (eA_c (j := 0) (hF8.2.1 235 rfl))
    have f59 := congrArg Int32.toInt (eA_c (j := 1) (hF8.2.1 235 rfl))
    have f60 := congrArg Int32.toInt (hF8.1 231 8 rfl)
    have f61 := congrArg Int32.toInt (hF8.1 231 6 rfl)
    refine At.enter rfl ?_
    refine r_pop rfl ?_
    refine r_aload_n e2 ?_
    refine r_sload_n e0 ?_
    refine r_iload_n e3 ?_
    refine r_iconst 1 rfl ?_
    refine q_iadd (i.toInt + 1) rfl hx_1 (fun v62 hv62 => ?_)
    refine q_scald (m := L) hL (i.toInt + 1) hv62 hy_1 (fun v63 hv63 => ?_)
    have sv63 := hv2.symm.trans hv63
    subst sv63
    have n64_e : v2.toInt = 0 := by omega
    have n64_1 : v2.toInt ≠ 1 := by omega
    have n64_k : (eA g6 235 0).toInt ≠ 0 := by omega
    refine r_callV 1290 rfl [.ref 231, .int v2] [] (Nat.le_of_ble_eq_true rfl) rfl (T_X11_back_231 _ hI7 v2) ?_
    rintro _ _ ⟨g65, rfl, hI66, hF67, v68, rfl, hr69⟩
    refine At.sti ?_
    have hF70 := Fr.tr hF11 hF67 rfl rfl
    obtain ⟨q71, q72, q73⟩ := hr69
    obtain ⟨p74, p75, p76, p77, p78, p79⟩ := (And.intro q71 q72)
    have w80 := p75 ⟨n64_e, n64_k⟩
    clear p75 p76 p77 p78 p79
    clear q72
    have f83 := congrArg Int32.toInt (hF67.1 1 0 rfl)
    have f84 := congrArg Int32.toInt (hF67.1 1 12 rfl)
    have f85 := congrArg Int32.toInt (hF67.1 1 10 rfl)
    have f86 := congrArg Int32.toInt (hF67.1 1 11 rfl)
    have f87 := congrArg Int32.toInt (hF67.1 1 4 rfl)
    have f88 := congrArg Int32.toInt (hF67.1 59 0 rfl)
    have f89 := congrArg Int32.toInt (hF67.1 59 12 rfl)
    have f90 := congrArg Int32.toInt (hF67.1 59 10 rfl)
    have f91 := congrArg Int32.toInt (hF67.1 59 11 rfl)
    have f92 := congrArg Int32.toInt (hF67.1 59 4 rfl)
    have f93 := congrArg Int32.toInt (hF67.1 116 0 rfl)
    have f94 := congrArg Int32.toInt (hF67.1 116 12 rfl)
    have f95 := congrArg Int32.toInt (hF67.1 116 10 rfl)
    have f96 := congrArg Int32.toInt (hF67.1 116 11 rfl)
    have f97 := congrArg Int32.toInt (hF67.1 116 4 rfl)
    have f98 := congrArg Int32.toInt (eA_c (j := 0) (hF67.2.1 173 rfl))
    have f99 := congrArg Int32.toInt (eA_c (j := 1) (hF67.2.1 173 rfl))
    have f100 := congrArg Int32.toInt (hF67.1 174 1 rfl)
    have f101 := congrArg Int32.toInt (hF67.1 0 16 rfl)
    have f102 := congrArg Int32.toInt (eA_c (j := 0) (hF67.2.1 234 rfl))
    have f103 := congrArg Int32.toInt (eA_c (j := 4) (hF67.2.1 234 rfl))
    have f104 := congrArg Int32.toInt (eA_c (j := 5) (hF67.2.1 234 rfl))
    have f105 := congrArg Int32.toInt (eA_c (j := 6) (hF67.2.1 234 rfl))
    have f106 := congrArg Int32.toInt (eA_c (j := 1) (hF67.2.1 234 rfl))
    have f107 := congrArg Int32.toInt (eA_c (j := 5510) (hF67.2.1 234 rfl))
    have f108 := congrArg Int32.toInt (eA_c (j := 5514) (hF67.2.1 234 rfl))
    have f109 := congrArg Int32.toInt (eA_c (j := 5515) (hF67.2.1 234 rfl))
    have f110 := congrArg Int32.toInt (eA_c (j := 5516) (hF67.2.1 234 rfl))
    have f111 := congrArg Int32.toInt (eA_c (j := 5511) (hF67.2.1 234 rfl))
    have f112 := congrArg Int32.toInt (eA_c (j := 0) (hF67.2.1 235 rfl))
    have f113 := congrArg Int32.toInt (eA_c (j := 1) (hF67.2.1 235 rfl))
    have f114 := congrArg Int32.toInt (hF67.1 231 8 rfl)
    have f115 := congrArg Int32.toInt (hF67.1 231 6 rfl)
    refine At.enter rfl ?_
    refine r_pop rfl ?_
    refine r_goto ?_
    exact K _ hI66 (show LwR _ from ⟨by omega, by omega, by omega, by omega, by omega, (eA_ti (j := 0) (((hF67.2.1 173 (by decide)).trans (hF8.2.1 173 (by decide))))).trans (hR_5.trans (eA_ti (j := 0) (((hF67.2.1 235 (by decide)).trans (hF8.2.1 235 (by decide))))).symm), (eA_ti (j := 1) (((hF67.2.1 173 (by decide)).trans (hF8.2.1 173 (by decide))))).trans (hR_6.trans (eA_ti (j := 1) (((hF67.2.1 235 (by decide)).trans (hF8.2.1 235 (by decide))))).symm), (congrArg Int32.toInt (((hF67.1 174 1 (by decide)).trans (hF8.1 174 1 (by decide))))).trans (hR_7.trans (congrArg Int32.toInt (((hF67.1 231 8 (by decide)).trans (hF8.1 231 8 (by decide))))).symm), (congrArg Int32.toInt (((hF67.1 0 16 (by decide)).trans (hF8.1 0 16 (by decide))))).trans (hR_8.trans (congrArg Int32.toInt (((hF67.1 231 6 (by decide)).trans (hF8.1 231 6 (by decide))))).symm), IM0.cong hR_9 (eA_ti (j := 0) (((hF67.2.1 173 (by decide)).trans (hF8.2.1 173 (by decide))))) (congrArg Int32.toInt (((hF67.1 59 0 (by decide)).trans (hF8.1 59 0 (by decide))))) (eA_ti (j := 0) (((hF67.2.1 234 (by decide)).trans (hF8.2.1 234 (by decide))))) (congrArg Int32.toInt (((hF67.1 59 12 (by decide)).trans (hF8.1 59 12 (by decide))))) (eA_ti (j := 4) (((hF67.2.1 234 (by decide)).trans (hF8.2.1 234 (by decide))))) (congrArg Int32.toInt (((hF67.1 59 10 (by decide)).trans (hF8.1 59 10 (by decide))))) (eA_ti (j := 5) (((hF67.2.1 234 (by decide)).trans (hF8.2.1 234 (by decide))))) (congrArg Int32.toInt (((hF67.1 59 11 (by decide)).trans (hF8.1 59 11 (by decide))))) (eA_ti (j := 6) (((hF67.2.1 234 (by decide)).trans (hF8.2.1 234 (by decide))))) (congrArg Int32.toInt (((hF67.1 59 4 (by decide)).trans (hF8.1 59 4 (by decide))))) (eA_ti (j := 1) (((hF67.2.1 234 (by decide)).trans (hF8.2.1 234 (by decide))))), IM1.cong hR_10 (eA_ti (j := 1) (((hF67.2.1 173 (by decide)).trans (hF8.2.1 173 (by decide))))) (congrArg Int32.toInt (((hF67.1 116 0 (by decide)).trans (hF8.1 116 0 (by decide))))) (eA_ti (j := 5510) (((hF67.2.1 234 (by decide)).trans (hF8.2.1 234 (by decide))))) (congrArg Int32.toInt (((hF67.1 116 12 (by decide)).trans (hF8.1 116 12 (by decide))))) (eA_ti (j := 5514) (((hF67.2.1 234 (by decide)).trans (hF8.2.1 234 (by decide))))) (congrArg Int32.toInt (((hF67.1 116 10 (by decide)).trans (hF8.1 116 10 (by decide))))) (eA_ti (j := 5515) (((hF67.2.1 234 (by decide)).trans (hF8.2.1 234 (by decide))))) (congrArg Int32.toInt (((hF67.1 116 11 (by decide)).trans (hF8.1 116 11 (by decide))))) (eA_ti (j := 5516) (((hF67.2.1 234 (by decide)).trans (hF8.2.1 234 (by decide))))) (congrArg Int32.toInt (((hF67.1 116 4 (by decide)).trans (hF8.1 116 4 (by decide))))) (eA_ti (j := 5511) (((hF67.2.1 234 (by decide)).trans (hF8.2.1 234 (by decide))))), (show CT _ from ⟨fun i i0 i1 => ⟨(by have t0_ := hI0.t0; have t1_ := hI0.t1; have o := (hR_11.1 i i0 i1).1; have o0 := (hR_12.1 i i0 i1).1; have o1 := (hR_13.1 i i0 i1).1; have x := (eA_ti (j := i) (hF67.2.1 2 (by decide))).trans (q14 i i0 i1); have m := q73 (10 + 3 * i) (by omega) (by omega); have y1 := eA_ti (j := ((10 + 3 * i))) (hF8.2.1 234 (by decide)); have y2 := eA_ti (j := (5510 + ((10 + 3 * i)))) (hF8.2.1 234 (by decide)); have y3 := eA_ti (j := ((10 + 3 * i))) (hF8.2.1 233 (by decide)); (try split at x) <;> (try split at x) <;> (try split at m) <;> (try split at m) <;> omega), (by have t0_ := hI0.t0; have t1_ := hI0.t1; have o := (hR_11.1 i i0 i1).2.1; have o0 := (hR_12.1 i i0 i1).2.1; have o1 := (hR_13.1 i i0 i1).2.1; have x := (eA_ti (j := i) (hF67.2.1 3 (by decide))).trans (q15 i i0 i1); have m := q73 (10 + 3 * i + 1) (by omega) (by omega); have y1 := eA_ti (j := ((10 + 3 * i + 1))) (hF8.2.1 234 (by decide)); have y2 := eA_ti (j := (5510 + ((10 + 3 * i + 1)))) (hF8.2.1 234 (by decide)); have y3 := eA_ti (j := ((10 + 3 * i + 1))) (hF8.2.1 233 (by decide)); (try split at x) <;> (try split at x) <;> (try split at m) <;> (try split at m) <;> omega), (by have t0_ := hI0.t0; have t1_ := hI0.t1; have o := (hR_11.1 i i0 i1).2.2; have o0 := (hR_12.1 i i0 i1).2.2; have o1 := (hR_13.1 i i0 i1).2.2; have x := (eA_ti (j := i) (hF67.2.1 4 (by decide))).trans (q16 i i0 i1); have m := q73 (10 + 3 * i + 2) (by omega) (by omega); have y1 := eA_ti (j := ((10 + 3 * i + 2))) (hF8.2.1 234 (by decide)); have y2 := eA_ti (j := (5510 + ((10 + 3 * i + 2)))) (hF8.2.1 234 (by decide)); have y3 := eA_ti (j := ((10 + 3 * i + 2))) (hF8.2.1 233 (by decide)); (try split at x) <;> (try split at x) <;> (try split at m) <;> (try split at m) <;> omega)⟩, fun i i0 i1 => ⟨(by have t0_ := hI0.t0; have t1_ := hI0.t1; have o := (hR_11.2.1 i i0 i1).1; have o0 := (hR_12.2.1 i i0 i1).1; have o1 := (hR_13.2.1 i i0 i1).1; have x := (eA_ti (j := i) (hF67.2.1 14 (by decide))).trans (q17 i i0 i1); have m := q73 (94 + 2 * i) (by omega) (by omega); have y1 := eA_ti (j := ((94 + 2 * i))) (hF8.2.1 234 (by decide)); have y2 := eA_ti (j := (5510 + ((94 + 2 * i)))) (hF8.2.1 234 (by decide)); have y3 := eA_ti (j := ((94 + 2 * i))) (hF8.2.1 233 (by decide)); (try split at x) <;> (try split at x) <;> (try split at m) <;> (try split at m) <;> omega), (by have t0_ := hI0.t0; have t1_ := hI0.t1; have o := (hR_11.2.1 i i0 i1).2; have o0 := (hR_12.2.1 i i0 i1).2; have o1 := (hR_13.2.1 i i0 i1).2; have x := (eA_ti (j := i) (hF67.2.1 15 (by decide))).trans (q18 i i0 i1); have m := q73 (94 + 2 * i + 1) (by omega) (by omega); have y1 := eA_ti (j := ((94 + 2 * i + 1))) (hF8.2.1 234 (by decide)); have y2 := eA_ti (j := (5510 + ((94 + 2 * i + 1)))) (hF8.2.1 234 (by decide)); have y3 := eA_ti (j := ((94 + 2 * i + 1))) (hF8.2.1 233 (by decide)); (try split at x) <;> (try split at x) <;> (try split at m) <;> (try split at m) <;> omega)⟩, fun i i0 i1 => (by have t0_ := hI0.t0; have t1_ := hI0.t1; have o : i < 6 * (gI g0 1 4).toInt → _ := fun hz => hR_11.2.2 i i0 hz; have o0 : i < 6 * (gI g0 59 4).toInt → _ := fun hz => hR_12.2.2 i i0 hz; have o1 : i < 6 * (gI g0 116 4).toInt → _ := fun hz => hR_13.2.2 i i0 hz; have t9_ := RgF.at hI66.2.1 (p := 1) (b := 4) rfl; dsimp only at t9_; have i9_ : i < 48 := (by omega); have x := (eA_ti (j := i) (hF67.2.1 5 (by decide))).trans (q19 i i0 i9_); have m := q73 (46 + i) (by omega) (by omega); have y1 := eA_ti (j := ((46 + i))) (hF8.2.1 234 (by decide)); have y2 := eA_ti (j := (5510 + ((46 + i)))) (hF8.2.1 234 (by decide)); have y3 := eA_ti (j := ((46 + i))) (hF8.2.1 233 (by decide)); (try split at x) <;> (try split at x) <;> (try split at m) <;> (try split at m) <;> omega)⟩), CI0.cong hR_12 (((hF67.2.1 60 (by decide)).trans (hF8.2.1 60 (by decide)))) (((hF67.2.1 61 (by decide)).trans (hF8.2.1 61 (by decide)))) (((hF67.2.1 62 (by decide)).trans (hF8.2.1 62 (by decide)))) (((hF67.2.1 72 (by decide)).trans (hF8.2.1 72 (by decide)))) (((hF67.2.1 73 (by decide)).trans (hF8.2.1 73 (by decide)))) (((hF67.2.1 63 (by decide)).trans (hF8.2.1 63 (by decide)))) (((hF67.2.1 234 (by decide)).trans (hF8.2.1 234 (by decide)))) (congrArg Int32.toInt (((hF67.1 59 4 (by decide)).trans (hF8.1 59 4 (by decide))))), CI1.cong hR_13 (((hF67.2.1 117 (by decide)).trans (hF8.2.1 117 (by decide)))) (((hF67.2.1 118 (by decide)).trans (hF8.2.1 118 (by decide)))) (((hF67.2.1 119 (by decide)).trans (hF8.2.1 119 (by decide)))) (((hF67.2.1 129 (by decide)).trans (hF8.2.1 129 (by decide)))) (((hF67.2.1 130 (by decide)).trans (hF8.2.1 130 (by decide)))) (((hF67.2.1 120 (by decide)).trans (hF8.2.1 120 (by decide)))) (((hF67.2.1 234 (by decide)).trans (hF8.2.1 234 (by decide)))) (congrArg Int32.toInt (((hF67.1 116 4 (by decide)).trans (hF8.1 116 4 (by decide))))), (show RT _ from fun i i0 i1 => (eA_ti (((hF67.2.1 175 (by decide)).trans (hF8.2.1 175 (by decide))))).trans ((hR_14 i i0 (by omega)).trans (eA_ti (((hF67.2.1 236 (by decide)).trans (hF8.2.1 236 (by decide))))).symm))⟩)
  · have n116_e : v2.toInt = 0 := by omega
    have n116_1 : v2.toInt ≠ 1 := by omega
    have n116_k : (eA g0 173 0).toInt = 0 := by omega
    refine r_callV 1280 rfl [.ref 0, .int v2] [] (Nat.le_of_ble_eq_true rfl) rfl (T_X10_back_0 _ hI0 v2) ?_
    rintro _ _ ⟨g117, rfl, hI118, hF119, v120, rfl, hr121⟩
    refine At.sti ?_
    have hF122 := Fr.tr hF0 hF119 rfl rfl
    obtain ⟨q123, q124, q125, q126, q127, q128, q129, q130⟩ := hr121
    obtain ⟨p131, p132, p133, p134, p135, p136⟩ := (And.intro q123 q124)
    have w137 := p134 ⟨fun h => h.2 n116_k, fun h => n116_1 h.1⟩
    have w138 := p136 ⟨by omega, by omega, fun h => h.2 n116_k, fun h => n116_1 h.1⟩
    clear p132 p133 p134 p135 p136
    clear q124
    have f140 := congrArg Int32.toInt (hF119.1 59 0 rfl)
    have f141 := congrArg Int32.toInt (hF119.1 59 12 rfl)
    have f142 := congrArg Int32.toInt (hF119.1 59 10 rfl)
    have f143 := congrArg Int32.toInt (hF119.1 59 11 rfl)
    have f144 := congrArg Int32.toInt (hF119.1 59 4 rfl)
    have f145 := congrArg Int32.toInt (hF119.1 116 0 rfl)
    have f146 := congrArg Int32.toInt (hF119.1 116 12 rfl)
    have f147 := congrArg Int32.toInt (hF119.1 116 10 rfl)
    have f148 := congrArg Int32.toInt (hF119.1 116 11 rfl)
    have f149 := congrArg Int32.toInt (hF119.1 116 4 rfl)
    have f150 := congrArg Int32.toInt (eA_c (j := 0) (hF119.2.1 173 rfl))
    have f151 := congrArg Int32.toInt (eA_c (j := 1) (hF119.2.1 173 rfl))
    have f152 := congrArg Int32.toInt (hF119.1 174 1 rfl)
    have f153 := congrArg Int32.toInt (hF119.1 0 16 rfl)
    have f154 := congrArg Int32.toInt (eA_c (j := 0) (hF119.2.1 233 rfl))
    have f155 := congrArg Int32.toInt (eA_c (j := 4) (hF119.2.1 233 rfl))
    have f156 := congrArg Int32.toInt (eA_c (j := 5) (hF119.2.1 233 rfl))
    have f157 := congrArg Int32.toInt (eA_c (j := 6) (hF119.2.1 233 rfl))
    have f158 := congrArg Int32.toInt (eA_c (j := 1) (hF119.2.1 233 rfl))
    have f159 := congrArg Int32.toInt (eA_c (j := 0) (hF119.2.1 234 rfl))
    have f160 := congrArg Int32.toInt (eA_c (j := 4) (hF119.2.1 234 rfl))
    have f161 := congrArg Int32.toInt (eA_c (j := 5) (hF119.2.1 234 rfl))
    have f162 := congrArg Int32.toInt (eA_c (j := 6) (hF119.2.1 234 rfl))
    have f163 := congrArg Int32.toInt (eA_c (j := 1) (hF119.2.1 234 rfl))
    have f164 := congrArg Int32.toInt (eA_c (j := 5510) (hF119.2.1 234 rfl))
    have f165 := congrArg Int32.toInt (eA_c (j := 5514) (hF119.2.1 234 rfl))
    have f166 := congrArg Int32.toInt (eA_c (j := 5515) (hF119.2.1 234 rfl))
    have f167 := congrArg Int32.toInt (eA_c (j := 5516) (hF119.2.1 234 rfl))
    have f168 := congrArg Int32.toInt (eA_c (j := 5511) (hF119.2.1 234 rfl))
    have f169 := congrArg Int32.toInt (eA_c (j := 0) (hF119.2.1 235 rfl))
    have f170 := congrArg Int32.toInt (eA_c (j := 1) (hF119.2.1 235 rfl))
    have f171 := congrArg Int32.toInt (hF119.1 231 8 rfl)
    have f172 := congrArg Int32.toInt (hF119.1 231 6 rfl)
    refine At.enter rfl ?_
    refine r_pop rfl ?_
    refine r_aload_n e2 ?_
    refine r_sload_n e0 ?_
    refine r_iload_n e3 ?_
    refine r_iconst 1 rfl ?_
    refine q_iadd (i.toInt + 1) rfl hx_1 (fun v173 hv173 => ?_)
    refine q_scald (m := L) hL (i.toInt + 1) hv173 hy_1 (fun v174 hv174 => ?_)
    have sv174 := hv2.symm.trans hv174
    subst sv174
    have n175_e : v2.toInt = 0 := by omega
    have n175_1 : v2.toInt ≠ 1 := by omega
    have n175_k : (eA g117 235 0).toInt = 0 := by omega
    refine r_callV 1290 rfl [.ref 231, .int v2] [] (Nat.le_of_ble_eq_true rfl) rfl (T_X11_back_231 _ hI118 v2) ?_
    rintro _ _ ⟨g176, rfl, hI177, hF178, v179, rfl, hr180⟩
    refine At.sti ?_
    have hF181 := Fr.tr hF122 hF178 rfl rfl
    obtain ⟨q182, q183, q184⟩ := hr180
    obtain ⟨p185, p186, p187, p188, p189, p190⟩ := (And.intro q182 q183)
    have w191 := p188 ⟨fun h => h.2 n175_k, fun h => n175_1 h.1⟩
    have w192 := p190 ⟨by omega, by omega, fun h => h.2 n175_k, fun h => n175_1 h.1⟩
    clear p186 p187 p188 p189 p190
    clear q183
    have f194 := congrArg Int32.toInt (hF178.1 1 0 rfl)
    have f195 := congrArg Int32.toInt (hF178.1 1 12 rfl)
    have f196 := congrArg Int32.toInt (hF178.1 1 10 rfl)
    have f197 := congrArg Int32.toInt (hF178.1 1 11 rfl)
    have f198 := congrArg Int32.toInt (hF178.1 1 4 rfl)
    have f199 := congrArg Int32.toInt (hF178.1 59 0 rfl)
    have f200 := congrArg Int32.toInt (hF178.1 59 12 rfl)
    have f201 := congrArg Int32.toInt (hF178.1 59 10 rfl)
    have f202 := congrArg Int32.toInt (hF178.1 59 11 rfl)
    have f203 := congrArg Int32.toInt (hF178.1 59 4 rfl)
    have f204 := congrArg Int32.toInt (hF178.1 116 0 rfl)
    have f205 := congrArg Int32.toInt (hF178.1 116 12 rfl)
    have f206 := congrArg Int32.toInt (hF178.1 116 10 rfl)
    have f207 := congrArg Int32.toInt (hF178.1 116 11 rfl)
    have f208 := congrArg Int32.toInt (hF178.1 116 4 rfl)
    have f209 := congrArg Int32.toInt (eA_c (j := 0) (hF178.2.1 173 rfl))
    have f210 := congrArg Int32.toInt (eA_c (j := 1) (hF178.2.1 173 rfl))
    have f211 := congrArg Int32.toInt (hF178.1 174 1 rfl)
    have f212 := congrArg Int32.toInt (hF178.1 0 16 rfl)
    have f213 := congrArg Int32.toInt (eA_c (j := 0) (hF178.2.1 234 rfl))
    have f214 := congrArg Int32.toInt (eA_c (j := 4) (hF178.2.1 234 rfl))
    have f215 := congrArg Int32.toInt (eA_c (j := 5) (hF178.2.1 234 rfl))
    have f216 := congrArg Int32.toInt (eA_c (j := 6) (hF178.2.1 234 rfl))
    have f217 := congrArg Int32.toInt (eA_c (j := 1) (hF178.2.1 234 rfl))
    have f218 := congrArg Int32.toInt (eA_c (j := 5510) (hF178.2.1 234 rfl))
    have f219 := congrArg Int32.toInt (eA_c (j := 5514) (hF178.2.1 234 rfl))
    have f220 := congrArg Int32.toInt (eA_c (j := 5515) (hF178.2.1 234 rfl))
    have f221 := congrArg Int32.toInt (eA_c (j := 5516) (hF178.2.1 234 rfl))
    have f222 := congrArg Int32.toInt (eA_c (j := 5511) (hF178.2.1 234 rfl))
    have f223 := congrArg Int32.toInt (eA_c (j := 0) (hF178.2.1 235 rfl))
    have f224 := congrArg Int32.toInt (eA_c (j := 1) (hF178.2.1 235 rfl))
    have f225 := congrArg Int32.toInt (hF178.1 231 8 rfl)
    have f226 := congrArg Int32.toInt (hF178.1 231 6 rfl)
    refine At.enter rfl ?_
    refine r_pop rfl ?_
    refine r_goto ?_
    exact K _ hI177 (show LwR _ from ⟨by omega, by omega, by omega, by omega, by omega, (eA_ti (j := 0) (((hF178.2.1 173 (by decide)).trans (hF119.2.1 173 (by decide))))).trans (hR_5.trans (eA_ti (j := 0) (((hF178.2.1 235 (by decide)).trans (hF119.2.1 235 (by decide))))).symm), (eA_ti (j := 1) (((hF178.2.1 173 (by decide)).trans (hF119.2.1 173 (by decide))))).trans (hR_6.trans (eA_ti (j := 1) (((hF178.2.1 235 (by decide)).trans (hF119.2.1 235 (by decide))))).symm), (congrArg Int32.toInt (((hF178.1 174 1 (by decide)).trans (hF119.1 174 1 (by decide))))).trans (hR_7.trans (congrArg Int32.toInt (((hF178.1 231 8 (by decide)).trans (hF119.1 231 8 (by decide))))).symm), (congrArg Int32.toInt (((hF178.1 0 16 (by decide)).trans (hF119.1 0 16 (by decide))))).trans (hR_8.trans (congrArg Int32.toInt (((hF178.1 231 6 (by decide)).trans (hF119.1 231 6 (by decide))))).symm), IM0.cong hR_9 (eA_ti (j := 0) (((hF178.2.1 173 (by decide)).trans (hF119.2.1 173 (by decide))))) (congrArg Int32.toInt (((hF178.1 59 0 (by decide)).trans (hF119.1 59 0 (by decide))))) (eA_ti (j := 0) (((hF178.2.1 234 (by decide)).trans (hF119.2.1 234 (by decide))))) (congrArg Int32.toInt (((hF178.1 59 12 (by decide)).trans (hF119.1 59 12 (by decide))))) (eA_ti (j := 4) (((hF178.2.1 234 (by decide)).trans (hF119.2.1 234 (by decide))))) (congrArg Int32.toInt (((hF178.1 59 10 (by decide)).trans (hF119.1 59 10 (by decide))))) (eA_ti (j := 5) (((hF178.2.1 234 (by decide)).trans (hF119.2.1 234 (by decide))))) (congrArg Int32.toInt (((hF178.1 59 11 (by decide)).trans (hF119.1 59 11 (by decide))))) (eA_ti (j := 6) (((hF178.2.1 234 (by decide)).trans (hF119.2.1 234 (by decide))))) (congrArg Int32.toInt (((hF178.1 59 4 (by decide)).trans (hF119.1 59 4 (by decide))))) (eA_ti (j := 1) (((hF178.2.1 234 (by decide)).trans (hF119.2.1 234 (by decide))))), IM1.cong hR_10 (eA_ti (j := 1) (((hF178.2.1 173 (by decide)).trans (hF119.2.1 173 (by decide))))) (congrArg Int32.toInt (((hF178.1 116 0 (by decide)).trans (hF119.1 116 0 (by decide))))) (eA_ti (j := 5510) (((hF178.2.1 234 (by decide)).trans (hF119.2.1 234 (by decide))))) (congrArg Int32.toInt (((hF178.1 116 12 (by decide)).trans (hF119.1 116 12 (by decide))))) (eA_ti (j := 5514) (((hF178.2.1 234 (by decide)).trans (hF119.2.1 234 (by decide))))) (congrArg Int32.toInt (((hF178.1 116 10 (by decide)).trans (hF119.1 116 10 (by decide))))) (eA_ti (j := 5515) (((hF178.2.1 234 (by decide)).trans (hF119.2.1 234 (by decide))))) (congrArg Int32.toInt (((hF178.1 116 11 (by decide)).trans (hF119.1 116 11 (by decide))))) (eA_ti (j := 5516) (((hF178.2.1 234 (by decide)).trans (hF119.2.1 234 (by decide))))) (congrArg Int32.toInt (((hF178.1 116 4 (by decide)).trans (hF119.1 116 4 (by decide))))) (eA_ti (j := 5511) (((hF178.2.1 234 (by decide)).trans (hF119.2.1 234 (by decide))))), (show CT _ from ⟨fun i i0 i1 => ⟨(by have t0_ := hI0.t0; have t1_ := hI0.t1; have o := (hR_11.1 i i0 i1).1; have o0 := (hR_12.1 i i0 i1).1; have o1 := (hR_13.1 i i0 i1).1; have x := (eA_ti (j := i) (hF178.2.1 2 (by decide))).trans (q125 i i0 i1); have m := q184 (10 + 3 * i) (by omega) (by omega); have y1 := eA_ti (j := ((10 + 3 * i))) (hF119.2.1 234 (by decide)); have y2 := eA_ti (j := (5510 + ((10 + 3 * i)))) (hF119.2.1 234 (by decide)); have y3 := eA_ti (j := ((10 + 3 * i))) (hF119.2.1 233 (by decide)); (try split at x) <;> (try split at x) <;> (try split at m) <;> (try split at m) <;> omega), (by have t0_ := hI0.t0; have t1_ := hI0.t1; have o := (hR_11.1 i i0 i1).2.1; have o0 := (hR_12.1 i i0 i1).2.1; have o1 := (hR_13.1 i i0 i1).2.1; have x := (eA_ti (j := i) (hF178.2.1 3 (by decide))).trans (q126 i i0 i1); have m := q184 (10 + 3 * i + 1) (by omega) (by omega); have y1 := eA_ti (j := ((10 + 3 * i + 1))) (hF119.2.1 234 (by decide)); have y2 := eA_ti (j := (5510 + ((10 + 3 * i + 1)))) (hF119.2.1 234 (by decide)); have y3 := eA_ti (j := ((10 + 3 * i + 1))) (hF119.2.1 233 (by decide)); (try split at x) <;> (try split at x) <;> (try split at m) <;> (try split at m) <;> omega), (by have t0_ := hI0.t0; have t1_ := hI0.t1; have o := (hR_11.1 i i0 i1).2.2; have o0 := (hR_12.1 i i0 i1).2.2; have o1 := (hR_13.1 i i0 i1).2.2; have x := (eA_ti (j := i) (hF178.2.1 4 (by decide))).trans (q127 i i0 i1); have m := q184 (10 + 3 * i + 2) (by omega) (by omega); have y1 := eA_ti (j := ((10 + 3 * i + 2))) (hF119.2.1 234 (by decide)); have y2 := eA_ti (j := (5510 + ((10 + 3 * i + 2)))) (hF119.2.1 234 (by decide)); have y3 := eA_ti (j := ((10 + 3 * i + 2))) (hF119.2.1 233 (by decide)); (try split at x) <;> (try split at x) <;> (try split at m) <;> (try split at m) <;> omega)⟩, fun i i0 i1 => ⟨(by have t0_ := hI0.t0; have t1_ := hI0.t1; have o := (hR_11.2.1 i i0 i1).1; have o0 := (hR_12.2.1 i i0 i1).1; have o1 := (hR_13.2.1 i i0 i1).1; have x := (eA_ti (j := i) (hF178.2.1 14 (by decide))).trans (q128 i i0 i1); have m := q184 (94 + 2 * i) (by omega) (by omega); have y1 := eA_ti (j := ((94 + 2 * i))) (hF119.2.1 234 (by decide)); have y2 := eA_ti (j := (5510 + ((94 + 2 * i)))) (hF119.2.1 234 (by decide)); have y3 := eA_ti (j := ((94 + 2 * i))) (hF119.2.1 233 (by decide)); (try split at x) <;> (try split at x) <;> (try split at m) <;> (try split at m) <;> omega), (by have t0_ := hI0.t0; have t1_ := hI0.t1; have o := (hR_11.2.1 i i0 i1).2; have o0 := (hR_12.2.1 i i0 i1).2; have o1 := (hR_13.2.1 i i0 i1).2; have x := (eA_ti (j := i) (hF178.2.1 15 (by decide))).trans (q129 i i0 i1); have m := q184 (94 + 2 * i + 1) (by omega) (by omega); have y1 := eA_ti (j := ((94 + 2 * i + 1))) (hF119.2.1 234 (by decide)); have y2 := eA_ti (j := (5510 + ((94 + 2 * i + 1)))) (hF119.2.1 234 (by decide)); have y3 := eA_ti (j := ((94 + 2 * i + 1))) (hF119.2.1 233 (by decide)); (try split at x) <;> (try split at x) <;> (try split at m) <;> (try split at m) <;> omega)⟩, fun i i0 i1 => (by have t0_ := hI0.t0; have t1_ := hI0.t1; have o : i < 6 * (gI g0 1 4).toInt → _ := fun hz => hR_11.2.2 i i0 hz; have o0 : i < 6 * (gI g0 59 4).toInt → _ := fun hz => hR_12.2.2 i i0 hz; have o1 : i < 6 * (gI g0 116 4).toInt → _ := fun hz => hR_13.2.2 i i0 hz; have t9_ := RgF.at hI177.2.1 (p := 1) (b := 4) rfl; dsimp only at t9_; have i9_ : i < 48 := (by omega); have x := (eA_ti (j := i) (hF178.2.1 5 (by decide))).trans (q130 i i0 i9_); have m := q184 (46 + i) (by omega) (by omega); have y1 := eA_ti (j := ((46 + i))) (hF119.2.1 234 (by decide)); have y2 := eA_ti (j := (5510 + ((46 + i)))) (hF119.2.1 234 (by decide)); have y3 := eA_ti (j := ((46 + i))) (hF119.2.1 233 (by decide)); (try split at x) <;> (try split at x) <;> (try split at m) <;> (try split at m) <;> omega)⟩), CI0.cong hR_12 (((hF178.2.1 60 (by decide)).trans (hF119.2.1 60 (by decide)))) (((hF178.2.1 61 (by decide)).trans (hF119.2.1 61 (by decide)))) (((hF178.2.1 62 (by decide)).trans (hF119.2.1 62 (by decide)))) (((hF178.2.1 72 (by decide)).trans (hF119.2.1 72 (by decide)))) (((hF178.2.1 73 (by decide)).trans (hF119.2.1 73 (by decide)))) (((hF178.2.1 63 (by decide)).trans (hF119.2.1 63 (by decide)))) (((hF178.2.1 234 (by decide)).trans (hF119.2.1 234 (by decide)))) (congrArg Int32.toInt (((hF178.1 59 4 (by decide)).trans (hF119.1 59 4 (by decide))))), CI1.cong hR_13 (((hF178.2.1 117 (by decide)).trans (hF119.2.1 117 (by decide)))) (((hF178.2.1 118 (by decide)).trans (hF119.2.1 118 (by decide)))) (((hF178.2.1 119 (by decide)).trans (hF119.2.1 119 (by decide)))) (((hF178.2.1 129 (by decide)).trans (hF119.2.1 129 (by decide)))) (((hF178.2.1 130 (by decide)).trans (hF119.2.1 130 (by decide)))) (((hF178.2.1 120 (by decide)).trans (hF119.2.1 120 (by decide)))) (((hF178.2.1 234 (by decide)).trans (hF119.2.1 234 (by decide)))) (congrArg Int32.toInt (((hF178.1 116 4 (by decide)).trans (hF119.1 116 4 (by decide))))), (show RT _ from fun i i0 i1 => (eA_ti (((hF178.2.1 175 (by decide)).trans (hF119.2.1 175 (by decide))))).trans ((hR_14 i i0 (by omega)).trans (eA_ti (((hF178.2.1 236 (by decide)).trans (hF119.2.1 236 (by decide))))).symm))⟩)
  · have n227_e : v2.toInt = 1 := by omega
    have n227_0 : v2.toInt ≠ 0 := by omega
    have n227_k : (eA g0 173 1).toInt ≠ 0 := by omega
    have n227_i := hR_10 (by omega)
    refine r_callV 1280 rfl [.ref 0, .int v2] [] (Nat.le_of_ble_eq_true rfl) rfl (T_X10_back_0 _ hI0 v2) ?_
    rintro _ _ ⟨g228, rfl, hI229, hF230, v231, rfl, hr232⟩
    refine At.sti ?_
    have hF233 := Fr.tr hF0 hF230 rfl rfl
    obtain ⟨q234, q235, q236, q237, q238, q239, q240, q241⟩ := hr232
    obtain ⟨p242, p243, p244, p245, p246, p247⟩ := (And.intro q234 q235)
    have w248 := p244 ⟨n227_e, n227_k⟩
    clear p243 p244 p245 p246 p247
    clear q235
    have f251 := congrArg Int32.toInt (hF230.1 59 0 rfl)
    have f252 := congrArg Int32.toInt (hF230.1 59 12 rfl)
    have f253 := congrArg Int32.toInt (hF230.1 59 10 rfl)
    have f254 := congrArg Int32.toInt (hF230.1 59 11 rfl)
    have f255 := congrArg Int32.toInt (hF230.1 59 4 rfl)
    have f256 := congrArg Int32.toInt (hF230.1 116 0 rfl)
    have f257 := congrArg Int32.toInt (hF230.1 116 12 rfl)
    have f258 := congrArg Int32.toInt (hF230.1 116 10 rfl)
    have f259 := congrArg Int32.toInt (hF230.1 116 11 rfl)
    have f260 := congrArg Int32.toInt (hF230.1 116 4 rfl)
    have f261 := congrArg Int32.toInt (eA_c (j := 0) (hF230.2.1 173 rfl))
    have f262 := congrArg Int32.toInt (eA_c (j := 1) (hF230.2.1 173 rfl))
    have f263 := congrArg Int32.toInt (hF230.1 174 1 rfl)
    have f264 := congrArg Int32.toInt (hF230.1 0 16 rfl)
    have f265 := congrArg Int32.toInt (eA_c (j := 0) (hF230.2.1 233 rfl))
    have f266 := congrArg Int32.toInt (eA_c (j := 4) (hF230.2.1 233 rfl))
    have f267 := congrArg Int32.toInt (eA_c (j := 5) (hF230.2.1 233 rfl))
    have f268 := congrArg Int32.toInt (eA_c (j := 6) (hF230.2.1 233 rfl))
    have f269 := congrArg Int32.toInt (eA_c (j := 1) (hF230.2.1 233 rfl))
    have f270 := congrArg Int32.toInt (eA_c (j := 0) (hF230.2.1 234 rfl))
    have f271 := congrArg Int32.toInt (eA_c (j := 4) (hF230.2.1 234 rfl))
    have f272 := congrArg Int32.toInt (eA_c (j := 5) (hF230.2.1 234 rfl))
    have f273 := congrArg Int32.toInt (eA_c (j := 6) (hF230.2.1 234 rfl))
    have f274 := congrArg Int32.toInt (eA_c (j := 1) (hF230.2.1 234 rfl))
    have f275 := congrArg Int32.toInt (eA_c (j := 5510) (hF230.2.1 234 rfl))
    have f276 := congrArg Int32.toInt (eA_c (j := 5514) (hF230.2.1 234 rfl))
    have f277 := congrArg Int32.toInt (eA_c (j := 5515) (hF230.2.1 234 rfl))
    have f278 := congrArg Int32.toInt (eA_c (j := 5516) (hF230.2.1 234 rfl))
    have f279 := congrArg Int32.toInt (eA_c (j := 5511) (hF230.2.1 234 rfl))
    have f280 := congrArg Int32.toInt (eA_c (j := 0) (hF230.2.1 235 rfl))
    have f281 := congrArg Int32.toInt (eA_c (j := 1) (hF230.2.1 235 rfl))
    have f282 := congrArg Int32.toInt (hF230.1 231 8 rfl)
    have f283 := congrArg Int32.toInt (hF230.1 231 6 rfl)
    refine At.enter rfl ?_
    refine r_pop rfl ?_
    refine r_aload_n e2 ?_
    refine r_sload_n e0 ?_
    refine r_iload_n e3 ?_
    refine r_iconst 1 rfl ?_
    refine q_iadd (i.toInt + 1) rfl hx_1 (fun v284 hv284 => ?_)
    refine q_scald (m := L) hL (i.toInt + 1) hv284 hy_1 (fun v285 hv285 => ?_)
    have sv285 := hv2.symm.trans hv285
    subst sv285
    have n286_e : v2.toInt = 1 := by omega
    have n286_0 : v2.toInt ≠ 0 := by omega
    have n286_k : (eA g228 235 1).toInt ≠ 0 := by omega
    refine r_callV 1290 rfl [.ref 231, .int v2] [] (Nat.le_of_ble_eq_true rfl) rfl (T_X11_back_231 _ hI229 v2) ?_
    rintro _ _ ⟨g287, rfl, hI288, hF289, v290, rfl, hr291⟩
    refine At.sti ?_
    have hF292 := Fr.tr hF233 hF289 rfl rfl
    obtain ⟨q293, q294, q295⟩ := hr291
    obtain ⟨p296, p297, p298, p299, p300, p301⟩ := (And.intro q293 q294)
    have w302 := p298 ⟨n286_e, n286_k⟩
    clear p297 p298 p299 p300 p301
    clear q294
    have f305 := congrArg Int32.toInt (hF289.1 1 0 rfl)
    have f306 := congrArg Int32.toInt (hF289.1 1 12 rfl)
    have f307 := congrArg Int32.toInt (hF289.1 1 10 rfl)
    have f308 := congrArg Int32.toInt (hF289.1 1 11 rfl)
    have f309 := congrArg Int32.toInt (hF289.1 1 4 rfl)
    have f310 := congrArg Int32.toInt (hF289.1 59 0 rfl)
    have f311 := congrArg Int32.toInt (hF289.1 59 12 rfl)
    have f312 := congrArg Int32.toInt (hF289.1 59 10 rfl)
    have f313 := congrArg Int32.toInt (hF289.1 59 11 rfl)
    have f314 := congrArg Int32.toInt (hF289.1 59 4 rfl)
    have f315 := congrArg Int32.toInt (hF289.1 116 0 rfl)
    have f316 := congrArg Int32.toInt (hF289.1 116 12 rfl)
    have f317 := congrArg Int32.toInt (hF289.1 116 10 rfl)
    have f318 := congrArg Int32.toInt (hF289.1 116 11 rfl)
    have f319 := congrArg Int32.toInt (hF289.1 116 4 rfl)
    have f320 := congrArg Int32.toInt (eA_c (j := 0) (hF289.2.1 173 rfl))
    have f321 := congrArg Int32.toInt (eA_c (j := 1) (hF289.2.1 173 rfl))
    have f322 := congrArg Int32.toInt (hF289.1 174 1 rfl)
    have f323 := congrArg Int32.toInt (hF289.1 0 16 rfl)
    have f324 := congrArg Int32.toInt (eA_c (j := 0) (hF289.2.1 234 rfl))
    have f325 := congrArg Int32.toInt (eA_c (j := 4) (hF289.2.1 234 rfl))
    have f326 := congrArg Int32.toInt (eA_c (j := 5) (hF289.2.1 234 rfl))
    have f327 := congrArg Int32.toInt (eA_c (j := 6) (hF289.2.1 234 rfl))
    have f328 := congrArg Int32.toInt (eA_c (j := 1) (hF289.2.1 234 rfl))
    have f329 := congrArg Int32.toInt (eA_c (j := 5510) (hF289.2.1 234 rfl))
    have f330 := congrArg Int32.toInt (eA_c (j := 5514) (hF289.2.1 234 rfl))
    have f331 := congrArg Int32.toInt (eA_c (j := 5515) (hF289.2.1 234 rfl))
    have f332 := congrArg Int32.toInt (eA_c (j := 5516) (hF289.2.1 234 rfl))
    have f333 := congrArg Int32.toInt (eA_c (j := 5511) (hF289.2.1 234 rfl))
    have f334 := congrArg Int32.toInt (eA_c (j := 0) (hF289.2.1 235 rfl))
    have f335 := congrArg Int32.toInt (eA_c (j := 1) (hF289.2.1 235 rfl))
    have f336 := congrArg Int32.toInt (hF289.1 231 8 rfl)
    have f337 := congrArg Int32.toInt (hF289.1 231 6 rfl)
    refine At.enter rfl ?_
    refine r_pop rfl ?_
    refine r_goto ?_
    exact K _ hI288 (show LwR _ from ⟨by omega, by omega, by omega, by omega, by omega, (eA_ti (j := 0) (((hF289.2.1 173 (by decide)).trans (hF230.2.1 173 (by decide))))).trans (hR_5.trans (eA_ti (j := 0) (((hF289.2.1 235 (by decide)).trans (hF230.2.1 235 (by decide))))).symm), (eA_ti (j := 1) (((hF289.2.1 173 (by decide)).trans (hF230.2.1 173 (by decide))))).trans (hR_6.trans (eA_ti (j := 1) (((hF289.2.1 235 (by decide)).trans (hF230.2.1 235 (by decide))))).symm), (congrArg Int32.toInt (((hF289.1 174 1 (by decide)).trans (hF230.1 174 1 (by decide))))).trans (hR_7.trans (congrArg Int32.toInt (((hF289.1 231 8 (by decide)).trans (hF230.1 231 8 (by decide))))).symm), (congrArg Int32.toInt (((hF289.1 0 16 (by decide)).trans (hF230.1 0 16 (by decide))))).trans (hR_8.trans (congrArg Int32.toInt (((hF289.1 231 6 (by decide)).trans (hF230.1 231 6 (by decide))))).symm), IM0.cong hR_9 (eA_ti (j := 0) (((hF289.2.1 173 (by decide)).trans (hF230.2.1 173 (by decide))))) (congrArg Int32.toInt (((hF289.1 59 0 (by decide)).trans (hF230.1 59 0 (by decide))))) (eA_ti (j := 0) (((hF289.2.1 234 (by decide)).trans (hF230.2.1 234 (by decide))))) (congrArg Int32.toInt (((hF289.1 59 12 (by decide)).trans (hF230.1 59 12 (by decide))))) (eA_ti (j := 4) (((hF289.2.1 234 (by decide)).trans (hF230.2.1 234 (by decide))))) (congrArg Int32.toInt (((hF289.1 59 10 (by decide)).trans (hF230.1 59 10 (by decide))))) (eA_ti (j := 5) (((hF289.2.1 234 (by decide)).trans (hF230.2.1 234 (by decide))))) (congrArg Int32.toInt (((hF289.1 59 11 (by decide)).trans (hF230.1 59 11 (by decide))))) (eA_ti (j := 6) (((hF289.2.1 234 (by decide)).trans (hF230.2.1 234 (by decide))))) (congrArg Int32.toInt (((hF289.1 59 4 (by decide)).trans (hF230.1 59 4 (by decide))))) (eA_ti (j := 1) (((hF289.2.1 234 (by decide)).trans (hF230.2.1 234 (by decide))))), IM1.cong hR_10 (eA_ti (j := 1) (((hF289.2.1 173 (by decide)).trans (hF230.2.1 173 (by decide))))) (congrArg Int32.toInt (((hF289.1 116 0 (by decide)).trans (hF230.1 116 0 (by decide))))) (eA_ti (j := 5510) (((hF289.2.1 234 (by decide)).trans (hF230.2.1 234 (by decide))))) (congrArg Int32.toInt (((hF289.1 116 12 (by decide)).trans (hF230.1 116 12 (by decide))))) (eA_ti (j := 5514) (((hF289.2.1 234 (by decide)).trans (hF230.2.1 234 (by decide))))) (congrArg Int32.toInt (((hF289.1 116 10 (by decide)).trans (hF230.1 116 10 (by decide))))) (eA_ti (j := 5515) (((hF289.2.1 234 (by decide)).trans (hF230.2.1 234 (by decide))))) (congrArg Int32.toInt (((hF289.1 116 11 (by decide)).trans (hF230.1 116 11 (by decide))))) (eA_ti (j := 5516) (((hF289.2.1 234 (by decide)).trans (hF230.2.1 234 (by decide))))) (congrArg Int32.toInt (((hF289.1 116 4 (by decide)).trans (hF230.1 116 4 (by decide))))) (eA_ti (j := 5511) (((hF289.2.1 234 (by decide)).trans (hF230.2.1 234 (by decide))))), (show CT _ from ⟨fun i i0 i1 => ⟨(by have t0_ := hI0.t0; have t1_ := hI0.t1; have o := (hR_11.1 i i0 i1).1; have o0 := (hR_12.1 i i0 i1).1; have o1 := (hR_13.1 i i0 i1).1; have x := (eA_ti (j := i) (hF289.2.1 2 (by decide))).trans (q236 i i0 i1); have m := q295 (10 + 3 * i) (by omega) (by omega); have y1 := eA_ti (j := ((10 + 3 * i))) (hF230.2.1 234 (by decide)); have y2 := eA_ti (j := (5510 + ((10 + 3 * i)))) (hF230.2.1 234 (by decide)); have y3 := eA_ti (j := ((10 + 3 * i))) (hF230.2.1 233 (by decide)); (try split at x) <;> (try split at x) <;> (try split at m) <;> (try split at m) <;> omega), (by have t0_ := hI0.t0; have t1_ := hI0.t1; have o := (hR_11.1 i i0 i1).2.1; have o0 := (hR_12.1 i i0 i1).2.1; have o1 := (hR_13.1 i i0 i1).2.1; have x := (eA_ti (j := i) (hF289.2.1 3 (by decide))).trans (q237 i i0 i1); have m := q295 (10 + 3 * i + 1) (by omega) (by omega); have y1 := eA_ti (j := ((10 + 3 * i + 1))) (hF230.2.1 234 (by decide)); have y2 := eA_ti (j := (5510 + ((10 + 3 * i + 1)))) (hF230.2.1 234 (by decide)); have y3 := eA_ti (j := ((10 + 3 * i + 1))) (hF230.2.1 233 (by decide)); (try split at x) <;> (try split at x) <;> (try split at m) <;> (try split at m) <;> omega), (by have t0_ := hI0.t0; have t1_ := hI0.t1; have o := (hR_11.1 i i0 i1).2.2; have o0 := (hR_12.1 i i0 i1).2.2; have o1 := (hR_13.1 i i0 i1).2.2; have x := (eA_ti (j := i) (hF289.2.1 4 (by decide))).trans (q238 i i0 i1); have m := q295 (10 + 3 * i + 2) (by omega) (by omega); have y1 := eA_ti (j := ((10 + 3 * i + 2))) (hF230.2.1 234 (by decide)); have y2 := eA_ti (j := (5510 + ((10 + 3 * i + 2)))) (hF230.2.1 234 (by decide)); have y3 := eA_ti (j := ((10 + 3 * i + 2))) (hF230.2.1 233 (by decide)); (try split at x) <;> (try split at x) <;> (try split at m) <;> (try split at m) <;> omega)⟩, fun i i0 i1 => ⟨(by have t0_ := hI0.t0; have t1_ := hI0.t1; have o := (hR_11.2.1 i i0 i1).1; have o0 := (hR_12.2.1 i i0 i1).1; have o1 := (hR_13.2.1 i i0 i1).1; have x := (eA_ti (j := i) (hF289.2.1 14 (by decide))).trans (q239 i i0 i1); have m := q295 (94 + 2 * i) (by omega) (by omega); have y1 := eA_ti (j := ((94 + 2 * i))) (hF230.2.1 234 (by decide)); have y2 := eA_ti (j := (5510 + ((94 + 2 * i)))) (hF230.2.1 234 (by decide)); have y3 := eA_ti (j := ((94 + 2 * i))) (hF230.2.1 233 (by decide)); (try split at x) <;> (try split at x) <;> (try split at m) <;> (try split at m) <;> omega), (by have t0_ := hI0.t0; have t1_ := hI0.t1; have o := (hR_11.2.1 i i0 i1).2; have o0 := (hR_12.2.1 i i0 i1).2; have o1 := (hR_13.2.1 i i0 i1).2; have x := (eA_ti (j := i) (hF289.2.1 15 (by decide))).trans (q240 i i0 i1); have m := q295 (94 + 2 * i + 1) (by omega) (by omega); have y1 := eA_ti (j := ((94 + 2 * i + 1))) (hF230.2.1 234 (by decide)); have y2 := eA_ti (j := (5510 + ((94 + 2 * i + 1)))) (hF230.2.1 234 (by decide)); have y3 := eA_ti (j := ((94 + 2 * i + 1))) (hF230.2.1 233 (by decide)); (try split at x) <;> (try split at x) <;> (try split at m) <;> (try split at m) <;> omega)⟩, fun i i0 i1 => (by have t0_ := hI0.t0; have t1_ := hI0.t1; have o : i < 6 * (gI g0 1 4).toInt → _ := fun hz => hR_11.2.2 i i0 hz; have o0 : i < 6 * (gI g0 59 4).toInt → _ := fun hz => hR_12.2.2 i i0 hz; have o1 : i < 6 * (gI g0 116 4).toInt → _ := fun hz => hR_13.2.2 i i0 hz; have t9_ := RgF.at hI288.2.1 (p := 1) (b := 4) rfl; dsimp only at t9_; have i9_ : i < 48 := (by omega); have x := (eA_ti (j := i) (hF289.2.1 5 (by decide))).trans (q241 i i0 i9_); have m := q295 (46 + i) (by omega) (by omega); have y1 := eA_ti (j := ((46 + i))) (hF230.2.1 234 (by decide)); have y2 := eA_ti (j := (5510 + ((46 + i)))) (hF230.2.1 234 (by decide)); have y3 := eA_ti (j := ((46 + i))) (hF230.2.1 233 (by decide)); (try split at x) <;> (try split at x) <;> (try split at m) <;> (try split at m) <;> omega)⟩), CI0.cong hR_12 (((hF289.2.1 60 (by decide)).trans (hF230.2.1 60 (by decide)))) (((hF289.2.1 61 (by decide)).trans (hF230.2.1 61 (by decide)))) (((hF289.2.1 62 (by decide)).trans (hF230.2.1 62 (by decide)))) (((hF289.2.1 72 (by decide)).trans (hF230.2.1 72 (by decide)))) (((hF289.2.1 73 (by decide)).trans (hF230.2.1 73 (by decide)))) (((hF289.2.1 63 (by decide)).trans (hF230.2.1 63 (by decide)))) (((hF289.2.1 234 (by decide)).trans (hF230.2.1 234 (by decide)))) (congrArg Int32.toInt (((hF289.1 59 4 (by decide)).trans (hF230.1 59 4 (by decide))))), CI1.cong hR_13 (((hF289.2.1 117 (by decide)).trans (hF230.2.1 117 (by decide)))) (((hF289.2.1 118 (by decide)).trans (hF230.2.1 118 (by decide)))) (((hF289.2.1 119 (by decide)).trans (hF230.2.1 119 (by decide)))) (((hF289.2.1 129 (by decide)).trans (hF230.2.1 129 (by decide)))) (((hF289.2.1 130 (by decide)).trans (hF230.2.1 130 (by decide)))) (((hF289.2.1 120 (by decide)).trans (hF230.2.1 120 (by decide)))) (((hF289.2.1 234 (by decide)).trans (hF230.2.1 234 (by decide)))) (congrArg Int32.toInt (((hF289.1 116 4 (by decide)).trans (hF230.1 116 4 (by decide))))), (show RT _ from fun i i0 i1 => (eA_ti (((hF289.2.1 175 (by decide)).trans (hF230.2.1 175 (by decide))))).trans ((hR_14 i i0 (by omega)).trans (eA_ti (((hF289.2.1 236 (by decide)).trans (hF230.2.1 236 (by decide))))).symm))⟩)
  · have n338_e : v2.toInt = 1 := by omega
    have n338_0 : v2.toInt ≠ 0 := by omega
    have n338_k : (eA g0 173 1).toInt = 0 := by omega
    refine r_callV 1280 rfl [.ref 0, .int v2] [] (Nat.le_of_ble_eq_true rfl) rfl (T_X10_back_0 _ hI0 v2) ?_
    rintro _ _ ⟨g339, rfl, hI340, hF341, v342, rfl, hr343⟩
    refine At.sti ?_
    have hF344 := Fr.tr hF0 hF341 rfl rfl
    obtain ⟨q345, q346, q347, q348, q349, q350, q351, q352⟩ := hr343
    obtain ⟨p353, p354, p355, p356, p357, p358⟩ := (And.intro q345 q346)
    have w359 := p356 ⟨fun h => n338_0 h.1, fun h => h.2 n338_k⟩
    have w360 := p358 ⟨by omega, by omega, fun h => n338_0 h.1, fun h => h.2 n338_k⟩
    clear p354 p355 p356 p357 p358
    clear q346
    have f362 := congrArg Int32.toInt (hF341.1 59 0 rfl)
    have f363 := congrArg Int32.toInt (hF341.1 59 12 rfl)
    have f364 := congrArg Int32.toInt (hF341.1 59 10 rfl)
    have f365 := congrArg Int32.toInt (hF341.1 59 11 rfl)
    have f366 := congrArg Int32.toInt (hF341.1 59 4 rfl)
    have f367 := congrArg Int32.toInt (hF341.1 116 0 rfl)
    have f368 := congrArg Int32.toInt (hF341.1 116 12 rfl)
    have f369 := congrArg Int32.toInt (hF341.1 116 10 rfl)
    have f370 := congrArg Int32.toInt (hF341.1 116 11 rfl)
    have f371 := congrArg Int32.toInt (hF341.1 116 4 rfl)
    have f372 := congrArg Int32.toInt (eA_c (j := 0) (hF341.2.1 173 rfl))
    have f373 := congrArg Int32.toInt (eA_c (j := 1) (hF341.2.1 173 rfl))
    have f374 := congrArg Int32.toInt (hF341.1 174 1 rfl)
    have f375 := congrArg Int32.toInt (hF341.1 0 16 rfl)
    have f376 := congrArg Int32.toInt (eA_c (j := 0) (hF341.2.1 233 rfl))
    have f377 := congrArg Int32.toInt (eA_c (j := 4) (hF341.2.1 233 rfl))
    have f378 := congrArg Int32.toInt (eA_c (j := 5) (hF341.2.1 233 rfl))
    have f379 := congrArg Int32.toInt (eA_c (j := 6) (hF341.2.1 233 rfl))
    have f380 := congrArg Int32.toInt (eA_c (j := 1) (hF341.2.1 233 rfl))
    have f381 := congrArg Int32.toInt (eA_c (j := 0) (hF341.2.1 234 rfl))
    have f382 := congrArg Int32.toInt (eA_c (j := 4) (hF341.2.1 234 rfl))
    have f383 := congrArg Int32.toInt (eA_c (j := 5) (hF341.2.1 234 rfl))
    have f384 := congrArg Int32.toInt (eA_c (j := 6) (hF341.2.1 234 rfl))
    have f385 := congrArg Int32.toInt (eA_c (j := 1) (hF341.2.1 234 rfl))
    have f386 := congrArg Int32.toInt (eA_c (j := 5510) (hF341.2.1 234 rfl))
    have f387 := congrArg Int32.toInt (eA_c (j := 5514) (hF341.2.1 234 rfl))
    have f388 := congrArg Int32.toInt (eA_c (j := 5515) (hF341.2.1 234 rfl))
    have f389 := congrArg Int32.toInt (eA_c (j := 5516) (hF341.2.1 234 rfl))
    have f390 := congrArg Int32.toInt (eA_c (j := 5511) (hF341.2.1 234 rfl))
    have f391 := congrArg Int32.toInt (eA_c (j := 0) (hF341.2.1 235 rfl))
    have f392 := congrArg Int32.toInt (eA_c (j := 1) (hF341.2.1 235 rfl))
    have f393 := congrArg Int32.toInt (hF341.1 231 8 rfl)
    have f394 := congrArg Int32.toInt (hF341.1 231 6 rfl)
    refine At.enter rfl ?_
    refine r_pop rfl ?_
    refine r_aload_n e2 ?_
    refine r_sload_n e0 ?_
    refine r_iload_n e3 ?_
    refine r_iconst 1 rfl ?_
    refine q_iadd (i.toInt + 1) rfl hx_1 (fun v395 hv395 => ?_)
    refine q_scald (m := L) hL (i.toInt + 1) hv395 hy_1 (fun v396 hv396 => ?_)
    have sv396 := hv2.symm.trans hv396
    subst sv396
    have n397_e : v2.toInt = 1 := by omega
    have n397_0 : v2.toInt ≠ 0 := by omega
    have n397_k : (eA g339 235 1).toInt = 0 := by omega
    refine r_callV 1290 rfl [.ref 231, .int v2] [] (Nat.le_of_ble_eq_true rfl) rfl (T_X11_back_231 _ hI340 v2) ?_
    rintro _ _ ⟨g398, rfl, hI399, hF400, v401, rfl, hr402⟩
    refine At.sti ?_
    have hF403 := Fr.tr hF344 hF400 rfl rfl
    obtain ⟨q404, q405, q406⟩ := hr402
    obtain ⟨p407, p408, p409, p410, p411, p412⟩ := (And.intro q404 q405)
    have w413 := p410 ⟨fun h => n397_0 h.1, fun h => h.2 n397_k⟩
    have w414 := p412 ⟨by omega, by omega, fun h => n397_0 h.1, fun h => h.2 n397_k⟩
    clear p408 p409 p410 p411 p412
    clear q405
    have f416 := congrArg Int32.toInt (hF400.1 1 0 rfl)
    have f417 := congrArg Int32.toInt (hF400.1 1 12 rfl)
    have f418 := congrArg Int32.toInt (hF400.1 1 10 rfl)
    have f419 := congrArg Int32.toInt (hF400.1 1 11 rfl)
    have f420 := congrArg Int32.toInt (hF400.1 1 4 rfl)
    have f421 := congrArg Int32.toInt (hF400.1 59 0 rfl)
    have f422 := congrArg Int32.toInt (hF400.1 59 12 rfl)
    have f423 := congrArg Int32.toInt (hF400.1 59 10 rfl)
    have f424 := congrArg Int32.toInt (hF400.1 59 11 rfl)
    have f425 := congrArg Int32.toInt (hF400.1 59 4 rfl)
    have f426 := congrArg Int32.toInt (hF400.1 116 0 rfl)
    have f427 := congrArg Int32.toInt (hF400.1 116 12 rfl)
    have f428 := congrArg Int32.toInt (hF400.1 116 10 rfl)
    have f429 := congrArg Int32.toInt (hF400.1 116 11 rfl)
    have f430 := congrArg Int32.toInt (hF400.1 116 4 rfl)
    have f431 := congrArg Int32.toInt (eA_c (j := 0) (hF400.2.1 173 rfl))
    have f432 := congrArg Int32.toInt (eA_c (j := 1) (hF400.2.1 173 rfl))
    have f433 := congrArg Int32.toInt (hF400.1 174 1 rfl)
    have f434 := congrArg Int32.toInt (hF400.1 0 16 rfl)
    have f435 := congrArg Int32.toInt (eA_c (j := 0) (hF400.2.1 234 rfl))
    have f436 := congrArg Int32.toInt (eA_c (j := 4) (hF400.2.1 234 rfl))
    have f437 := congrArg Int32.toInt (eA_c (j := 5) (hF400.2.1 234 rfl))
    have f438 := congrArg Int32.toInt (eA_c (j := 6) (hF400.2.1 234 rfl))
    have f439 := congrArg Int32.toInt (eA_c (j := 1) (hF400.2.1 234 rfl))
    have f440 := congrArg Int32.toInt (eA_c (j := 5510) (hF400.2.1 234 rfl))
    have f441 := congrArg Int32.toInt (eA_c (j := 5514) (hF400.2.1 234 rfl))
    have f442 := congrArg Int32.toInt (eA_c (j := 5515) (hF400.2.1 234 rfl))
    have f443 := congrArg Int32.toInt (eA_c (j := 5516) (hF400.2.1 234 rfl))
    have f444 := congrArg Int32.toInt (eA_c (j := 5511) (hF400.2.1 234 rfl))
    have f445 := congrArg Int32.toInt (eA_c (j := 0) (hF400.2.1 235 rfl))
    have f446 := congrArg Int32.toInt (eA_c (j := 1) (hF400.2.1 235 rfl))
    have f447 := congrArg Int32.toInt (hF400.1 231 8 rfl)
    have f448 := congrArg Int32.toInt (hF400.1 231 6 rfl)
    refine At.enter rfl ?_
    refine r_pop rfl ?_
    refine r_goto ?_
    exact K _ hI399 (show LwR _ from ⟨by omega, by omega, by omega, by omega, by omega, (eA_ti (j := 0) (((hF400.2.1 173 (by decide)).trans (hF341.2.1 173 (by decide))))).trans (hR_5.trans (eA_ti (j := 0) (((hF400.2.1 235 (by decide)).trans (hF341.2.1 235 (by decide))))).symm), (eA_ti (j := 1) (((hF400.2.1 173 (by decide)).trans (hF341.2.1 173 (by decide))))).trans (hR_6.trans (eA_ti (j := 1) (((hF400.2.1 235 (by decide)).trans (hF341.2.1 235 (by decide))))).symm), (congrArg Int32.toInt (((hF400.1 174 1 (by decide)).trans (hF341.1 174 1 (by decide))))).trans (hR_7.trans (congrArg Int32.toInt (((hF400.1 231 8 (by decide)).trans (hF341.1 231 8 (by decide))))).symm), (congrArg Int32.toInt (((hF400.1 0 16 (by decide)).trans (hF341.1 0 16 (by decide))))).trans (hR_8.trans (congrArg Int32.toInt (((hF400.1 231 6 (by decide)).trans (hF341.1 231 6 (by decide))))).symm), IM0.cong hR_9 (eA_ti (j := 0) (((hF400.2.1 173 (by decide)).trans (hF341.2.1 173 (by decide))))) (congrArg Int32.toInt (((hF400.1 59 0 (by decide)).trans (hF341.1 59 0 (by decide))))) (eA_ti (j := 0) (((hF400.2.1 234 (by decide)).trans (hF341.2.1 234 (by decide))))) (congrArg Int32.toInt (((hF400.1 59 12 (by decide)).trans (hF341.1 59 12 (by decide))))) (eA_ti (j := 4) (((hF400.2.1 234 (by decide)).trans (hF341.2.1 234 (by decide))))) (congrArg Int32.toInt (((hF400.1 59 10 (by decide)).trans (hF341.1 59 10 (by decide))))) (eA_ti (j := 5) (((hF400.2.1 234 (by decide)).trans (hF341.2.1 234 (by decide))))) (congrArg Int32.toInt (((hF400.1 59 11 (by decide)).trans (hF341.1 59 11 (by decide))))) (eA_ti (j := 6) (((hF400.2.1 234 (by decide)).trans (hF341.2.1 234 (by decide))))) (congrArg Int32.toInt (((hF400.1 59 4 (by decide)).trans (hF341.1 59 4 (by decide))))) (eA_ti (j := 1) (((hF400.2.1 234 (by decide)).trans (hF341.2.1 234 (by decide))))), IM1.cong hR_10 (eA_ti (j := 1) (((hF400.2.1 173 (by decide)).trans (hF341.2.1 173 (by decide))))) (congrArg Int32.toInt (((hF400.1 116 0 (by decide)).trans (hF341.1 116 0 (by decide))))) (eA_ti (j := 5510) (((hF400.2.1 234 (by decide)).trans (hF341.2.1 234 (by decide))))) (congrArg Int32.toInt (((hF400.1 116 12 (by decide)).trans (hF341.1 116 12 (by decide))))) (eA_ti (j := 5514) (((hF400.2.1 234 (by decide)).trans (hF341.2.1 234 (by decide))))) (congrArg Int32.toInt (((hF400.1 116 10 (by decide)).trans (hF341.1 116 10 (by decide))))) (eA_ti (j := 5515) (((hF400.2.1 234 (by decide)).trans (hF341.2.1 234 (by decide))))) (congrArg Int32.toInt (((hF400.1 116 11 (by decide)).trans (hF341.1 116 11 (by decide))))) (eA_ti (j := 5516) (((hF400.2.1 234 (by decide)).trans (hF341.2.1 234 (by decide))))) (congrArg Int32.toInt (((hF400.1 116 4 (by decide)).trans (hF341.1 116 4 (by decide))))) (eA_ti (j := 5511) (((hF400.2.1 234 (by decide)).trans (hF341.2.1 234 (by decide))))), (show CT _ from ⟨fun i i0 i1 => ⟨(by have t0_ := hI0.t0; have t1_ := hI0.t1; have o := (hR_11.1 i i0 i1).1; have o0 := (hR_12.1 i i0 i1).1; have o1 := (hR_13.1 i i0 i1).1; have x := (eA_ti (j := i) (hF400.2.1 2 (by decide))).trans (q347 i i0 i1); have m := q406 (10 + 3 * i) (by omega) (by omega); have y1 := eA_ti (j := ((10 + 3 * i))) (hF341.2.1 234 (by decide)); have y2 := eA_ti (j := (5510 + ((10 + 3 * i)))) (hF341.2.1 234 (by decide)); have y3 := eA_ti (j := ((10 + 3 * i))) (hF341.2.1 233 (by decide)); (try split at x) <;> (try split at x) <;> (try split at m) <;> (try split at m) <;> omega), (by have t0_ := hI0.t0; have t1_ := hI0.t1; have o := (hR_11.1 i i0 i1).2.1; have o0 := (hR_12.1 i i0 i1).2.1; have o1 := (hR_13.1 i i0 i1).2.1; have x := (eA_ti (j := i) (hF400.2.1 3 (by decide))).trans (q348 i i0 i1); have m := q406 (10 + 3 * i + 1) (by omega) (by omega); have y1 := eA_ti (j := ((10 + 3 * i + 1))) (hF341.2.1 234 (by decide)); have y2 := eA_ti (j := (5510 + ((10 + 3 * i + 1)))) (hF341.2.1 234 (by decide)); have y3 := eA_ti (j := ((10 + 3 * i + 1))) (hF341.2.1 233 (by decide)); (try split at x) <;> (try split at x) <;> (try split at m) <;> (try split at m) <;> omega), (by have t0_ := hI0.t0; have t1_ := hI0.t1; have o := (hR_11.1 i i0 i1).2.2; have o0 := (hR_12.1 i i0 i1).2.2; have o1 := (hR_13.1 i i0 i1).2.2; have x := (eA_ti (j := i) (hF400.2.1 4 (by decide))).trans (q349 i i0 i1); have m := q406 (10 + 3 * i + 2) (by omega) (by omega); have y1 := eA_ti (j := ((10 + 3 * i + 2))) (hF341.2.1 234 (by decide)); have y2 := eA_ti (j := (5510 + ((10 + 3 * i + 2)))) (hF341.2.1 234 (by decide)); have y3 := eA_ti (j := ((10 + 3 * i + 2))) (hF341.2.1 233 (by decide)); (try split at x) <;> (try split at x) <;> (try split at m) <;> (try split at m) <;> omega)⟩, fun i i0 i1 => ⟨(by have t0_ := hI0.t0; have t1_ := hI0.t1; have o := (hR_11.2.1 i i0 i1).1; have o0 := (hR_12.2.1 i i0 i1).1; have o1 := (hR_13.2.1 i i0 i1).1; have x := (eA_ti (j := i) (hF400.2.1 14 (by decide))).trans (q350 i i0 i1); have m := q406 (94 + 2 * i) (by omega) (by omega); have y1 := eA_ti (j := ((94 + 2 * i))) (hF341.2.1 234 (by decide)); have y2 := eA_ti (j := (5510 + ((94 + 2 * i)))) (hF341.2.1 234 (by decide)); have y3 := eA_ti (j := ((94 + 2 * i))) (hF341.2.1 233 (by decide)); (try split at x) <;> (try split at x) <;> (try split at m) <;> (try split at m) <;> omega), (by have t0_ := hI0.t0; have t1_ := hI0.t1; have o := (hR_11.2.1 i i0 i1).2; have o0 := (hR_12.2.1 i i0 i1).2; have o1 := (hR_13.2.1 i i0 i1).2; have x := (eA_ti (j := i) (hF400.2.1 15 (by decide))).trans (q351 i i0 i1); have m := q406 (94 + 2 * i + 1) (by omega) (by omega); have y1 := eA_ti (j := ((94 + 2 * i + 1))) (hF341.2.1 234 (by decide)); have y2 := eA_ti (j := (5510 + ((94 + 2 * i + 1)))) (hF341.2.1 234 (by decide)); have y3 := eA_ti (j := ((94 + 2 * i + 1))) (hF341.2.1 233 (by decide)); (try split at x) <;> (try split at x) <;> (try split at m) <;> (try split at m) <;> omega)⟩, fun i i0 i1 => (by have t0_ := hI0.t0; have t1_ := hI0.t1; have o : i < 6 * (gI g0 1 4).toInt → _ := fun hz => hR_11.2.2 i i0 hz; have o0 : i < 6 * (gI g0 59 4).toInt → _ := fun hz => hR_12.2.2 i i0 hz; have o1 : i < 6 * (gI g0 116 4).toInt → _ := fun hz => hR_13.2.2 i i0 hz; have t9_ := RgF.at hI399.2.1 (p := 1) (b := 4) rfl; dsimp only at t9_; have i9_ : i < 48 := (by omega); have x := (eA_ti (j := i) (hF400.2.1 5 (by decide))).trans (q352 i i0 i9_); have m := q406 (46 + i) (by omega) (by omega); have y1 := eA_ti (j := ((46 + i))) (hF341.2.1 234 (by decide)); have y2 := eA_ti (j := (5510 + ((46 + i)))) (hF341.2.1 234 (by decide)); have y3 := eA_ti (j := ((46 + i))) (hF341.2.1 233 (by decide)); (try split at x) <;> (try split at x) <;> (try split at m) <;> (try split at m) <;> omega)⟩), CI0.cong hR_12 (((hF400.2.1 60 (by decide)).trans (hF341.2.1 60 (by decide)))) (((hF400.2.1 61 (by decide)).trans (hF341.2.1 61 (by decide)))) (((hF400.2.1 62 (by decide)).trans (hF341.2.1 62 (by decide)))) (((hF400.2.1 72 (by decide)).trans (hF341.2.1 72 (by decide)))) (((hF400.2.1 73 (by decide)).trans (hF341.2.1 73 (by decide)))) (((hF400.2.1 63 (by decide)).trans (hF341.2.1 63 (by decide)))) (((hF400.2.1 234 (by decide)).trans (hF341.2.1 234 (by decide)))) (congrArg Int32.toInt (((hF400.1 59 4 (by decide)).trans (hF341.1 59 4 (by decide))))), CI1.cong hR_13 (((hF400.2.1 117 (by decide)).trans (hF341.2.1 117 (by decide)))) (((hF400.2.1 118 (by decide)).trans (hF341.2.1 118 (by decide)))) (((hF400.2.1 119 (by decide)).trans (hF341.2.1 119 (by decide)))) (((hF400.2.1 129 (by decide)).trans (hF341.2.1 129 (by decide)))) (((hF400.2.1 130 (by decide)).trans (hF341.2.1 130 (by decide)))) (((hF400.2.1 120 (by decide)).trans (hF341.2.1 120 (by decide)))) (((hF400.2.1 234 (by decide)).trans (hF341.2.1 234 (by decide)))) (congrArg Int32.toInt (((hF400.1 116 4 (by decide)).trans (hF341.1 116 4 (by decide))))), (show RT _ from fun i i0 i1 => (eA_ti (((hF400.2.1 175 (by decide)).trans (hF341.2.1 175 (by decide))))).trans ((hR_14 i i0 (by omega)).trans (eA_ti (((hF400.2.1 236 (by decide)).trans (hF341.2.1 236 (by decide))))).symm))⟩)
  · have n449_e : (v2.toInt < 0 ∨ 1 < v2.toInt) := by omega
    have n449_0 : v2.toInt ≠ 0 := by omega
    have n449_1 : v2.toInt ≠ 1 := by omega
    refine r_callV 1280 rfl [.ref 0, .int v2] [] (Nat.le_of_ble_eq_true rfl) rfl (T_X10_back_0 _ hI0 v2) ?_
    rintro _ _ ⟨g450, rfl, hI451, hF452, v453, rfl, hr454⟩
    refine At.sti ?_
    have hF455 := Fr.tr hF0 hF452 rfl rfl
    obtain ⟨q456, q457, q458, q459, q460, q461, q462, q463⟩ := hr454
    obtain ⟨p464, p465, p466, p467, p468, p469⟩ := (And.intro q456 q457)
    have w470 := p468 n449_e
    have w471 := p467 ⟨fun h => n449_0 h.1, fun h => n449_1 h.1⟩
    clear p465 p466 p467 p468 p469
    clear q457
    have f473 := congrArg Int32.toInt (hF452.1 59 0 rfl)
    have f474 := congrArg Int32.toInt (hF452.1 59 12 rfl)
    have f475 := congrArg Int32.toInt (hF452.1 59 10 rfl)
    have f476 := congrArg Int32.toInt (hF452.1 59 11 rfl)
    have f477 := congrArg Int32.toInt (hF452.1 59 4 rfl)
    have f478 := congrArg Int32.toInt (hF452.1 116 0 rfl)
    have f479 := congrArg Int32.toInt (hF452.1 116 12 rfl)
    have f480 := congrArg Int32.toInt (hF452.1 116 10 rfl)
    have f481 := congrArg Int32.toInt (hF452.1 116 11 rfl)
    have f482 := congrArg Int32.toInt (hF452.1 116 4 rfl)
    have f483 := congrArg Int32.toInt (eA_c (j := 0) (hF452.2.1 173 rfl))
    have f484 := congrArg Int32.toInt (eA_c (j := 1) (hF452.2.1 173 rfl))
    have f485 := congrArg Int32.toInt (hF452.1 174 1 rfl)
    have f486 := congrArg Int32.toInt (hF452.1 0 16 rfl)
    have f487 := congrArg Int32.toInt (eA_c (j := 0) (hF452.2.1 233 rfl))
    have f488 := congrArg Int32.toInt (eA_c (j := 4) (hF452.2.1 233 rfl))
    have f489 := congrArg Int32.toInt (eA_c (j := 5) (hF452.2.1 233 rfl))
    have f490 := congrArg Int32.toInt (eA_c (j := 6) (hF452.2.1 233 rfl))
    have f491 := congrArg Int32.toInt (eA_c (j := 1) (hF452.2.1 233 rfl))
    have f492 := congrArg Int32.toInt (eA_c (j := 0) (hF452.2.1 234 rfl))
    have f493 := congrArg Int32.toInt (eA_c (j := 4) (hF452.2.1 234 rfl))
    have f494 := congrArg Int32.toInt (eA_c (j := 5) (hF452.2.1 234 rfl))
    have f495 := congrArg Int32.toInt (eA_c (j := 6) (hF452.2.1 234 rfl))
    have f496 := congrArg Int32.toInt (eA_c (j := 1) (hF452.2.1 234 rfl))
    have f497 := congrArg Int32.toInt (eA_c (j := 5510) (hF452.2.1 234 rfl))
    have f498 := congrArg Int32.toInt (eA_c (j := 5514) (hF452.2.1 234 rfl))
    have f499 := congrArg Int32.toInt (eA_c (j := 5515) (hF452.2.1 234 rfl))
    have f500 := congrArg Int32.toInt (eA_c (j := 5516) (hF452.2.1 234 rfl))
    have f501 := congrArg Int32.toInt (eA_c (j := 5511) (hF452.2.1 234 rfl))
    have f502 := congrArg Int32.toInt (eA_c (j := 0) (hF452.2.1 235 rfl))
    have f503 := congrArg Int32.toInt (eA_c (j := 1) (hF452.2.1 235 rfl))
    have f504 := congrArg Int32.toInt (hF452.1 231 8 rfl)
    have f505 := congrArg Int32.toInt (hF452.1 231 6 rfl)
    refine At.enter rfl ?_
    refine r_pop rfl ?_
    refine r_aload_n e2 ?_
    refine r_sload_n e0 ?_
    refine r_iload_n e3 ?_
    refine r_iconst 1 rfl ?_
    refine q_iadd (i.toInt + 1) rfl hx_1 (fun v506 hv506 => ?_)
    refine q_scald (m := L) hL (i.toInt + 1) hv506 hy_1 (fun v507 hv507 => ?_)
    have sv507 := hv2.symm.trans hv507
    subst sv507
    have n508_e : (v2.toInt < 0 ∨ 1 < v2.toInt) := by omega
    have n508_0 : v2.toInt ≠ 0 := by omega
    have n508_1 : v2.toInt ≠ 1 := by omega
    refine r_callV 1290 rfl [.ref 231, .int v2] [] (Nat.le_of_ble_eq_true rfl) rfl (T_X11_back_231 _ hI451 v2) ?_
    rintro _ _ ⟨g509, rfl, hI510, hF511, v512, rfl, hr513⟩
    refine At.sti ?_
    have hF514 := Fr.tr hF455 hF511 rfl rfl
    obtain ⟨q515, q516, q517⟩ := hr513
    obtain ⟨p518, p519, p520, p521, p522, p523⟩ := (And.intro q515 q516)
    have w524 := p522 n508_e
    have w525 := p521 ⟨fun h => n508_0 h.1, fun h => n508_1 h.1⟩
    clear p519 p520 p521 p522 p523
    clear q516
    have f527 := congrArg Int32.toInt (hF511.1 1 0 rfl)
    have f528 := congrArg Int32.toInt (hF511.1 1 12 rfl)
    have f529 := congrArg Int32.toInt (hF511.1 1 10 rfl)
    have f530 := congrArg Int32.toInt (hF511.1 1 11 rfl)
    have f531 := congrArg Int32.toInt (hF511.1 1 4 rfl)
    have f532 := congrArg Int32.toInt (hF511.1 59 0 rfl)
    have f533 := congrArg Int32.toInt (hF511.1 59 12 rfl)
    have f534 := congrArg Int32.toInt (hF511.1 59 10 rfl)
    have f535 := congrArg Int32.toInt (hF511.1 59 11 rfl)
    have f536 := congrArg Int32.toInt (hF511.1 59 4 rfl)
    have f537 := congrArg Int32.toInt (hF511.1 116 0 rfl)
    have f538 := congrArg Int32.toInt (hF511.1 116 12 rfl)
    have f539 := congrArg Int32.toInt (hF511.1 116 10 rfl)
    have f540 := congrArg Int32.toInt (hF511.1 116 11 rfl)
    have f541 := congrArg Int32.toInt (hF511.1 116 4 rfl)
    have f542 := congrArg Int32.toInt (eA_c (j := 0) (hF511.2.1 173 rfl))
    have f543 := congrArg Int32.toInt (eA_c (j := 1) (hF511.2.1 173 rfl))
    have f544 := congrArg Int32.toInt (hF511.1 174 1 rfl)
    have f545 := congrArg Int32.toInt (hF511.1 0 16 rfl)
    have f546 := congrArg Int32.toInt (eA_c (j := 0) (hF511.2.1 234 rfl))
    have f547 := congrArg Int32.toInt (eA_c (j := 4) (hF511.2.1 234 rfl))
    have f548 := congrArg Int32.toInt (eA_c (j := 5) (hF511.2.1 234 rfl))
    have f549 := congrArg Int32.toInt (eA_c (j := 6) (hF511.2.1 234 rfl))
    have f550 := congrArg Int32.toInt (eA_c (j := 1) (hF511.2.1 234 rfl))
    have f551 := congrArg Int32.toInt (eA_c (j := 5510) (hF511.2.1 234 rfl))
    have f552 := congrArg Int32.toInt (eA_c (j := 5514) (hF511.2.1 234 rfl))
    have f553 := congrArg Int32.toInt (eA_c (j := 5515) (hF511.2.1 234 rfl))
    have f554 := congrArg Int32.toInt (eA_c (j := 5516) (hF511.2.1 234 rfl))
    have f555 := congrArg Int32.toInt (eA_c (j := 5511) (hF511.2.1 234 rfl))
    have f556 := congrArg Int32.toInt (eA_c (j := 0) (hF511.2.1 235 rfl))
    have f557 := congrArg Int32.toInt (eA_c (j := 1) (hF511.2.1 235 rfl))
    have f558 := congrArg Int32.toInt (hF511.1 231 8 rfl)
    have f559 := congrArg Int32.toInt (hF511.1 231 6 rfl)
    refine At.enter rfl ?_
    refine r_pop rfl ?_
    refine r_goto ?_
    exact K _ hI510 (show LwR _ from ⟨by omega, by omega, by omega, by omega, by omega, (eA_ti (j := 0) (((hF511.2.1 173 (by decide)).trans (hF452.2.1 173 (by decide))))).trans (hR_5.trans (eA_ti (j := 0) (((hF511.2.1 235 (by decide)).trans (hF452.2.1 235 (by decide))))).symm), (eA_ti (j := 1) (((hF511.2.1 173 (by decide)).trans (hF452.2.1 173 (by decide))))).trans (hR_6.trans (eA_ti (j := 1) (((hF511.2.1 235 (by decide)).trans (hF452.2.1 235 (by decide))))).symm), (congrArg Int32.toInt (((hF511.1 174 1 (by decide)).trans (hF452.1 174 1 (by decide))))).trans (hR_7.trans (congrArg Int32.toInt (((hF511.1 231 8 (by decide)).trans (hF452.1 231 8 (by decide))))).symm), (congrArg Int32.toInt (((hF511.1 0 16 (by decide)).trans (hF452.1 0 16 (by decide))))).trans (hR_8.trans (congrArg Int32.toInt (((hF511.1 231 6 (by decide)).trans (hF452.1 231 6 (by decide))))).symm), IM0.cong hR_9 (eA_ti (j := 0) (((hF511.2.1 173 (by decide)).trans (hF452.2.1 173 (by decide))))) (congrArg Int32.toInt (((hF511.1 59 0 (by decide)).trans (hF452.1 59 0 (by decide))))) (eA_ti (j := 0) (((hF511.2.1 234 (by decide)).trans (hF452.2.1 234 (by decide))))) (congrArg Int32.toInt (((hF511.1 59 12 (by decide)).trans (hF452.1 59 12 (by decide))))) (eA_ti (j := 4) (((hF511.2.1 234 (by decide)).trans (hF452.2.1 234 (by decide))))) (congrArg Int32.toInt (((hF511.1 59 10 (by decide)).trans (hF452.1 59 10 (by decide))))) (eA_ti (j := 5) (((hF511.2.1 234 (by decide)).trans (hF452.2.1 234 (by decide))))) (congrArg Int32.toInt (((hF511.1 59 11 (by decide)).trans (hF452.1 59 11 (by decide))))) (eA_ti (j := 6) (((hF511.2.1 234 (by decide)).trans (hF452.2.1 234 (by decide))))) (congrArg Int32.toInt (((hF511.1 59 4 (by decide)).trans (hF452.1 59 4 (by decide))))) (eA_ti (j := 1) (((hF511.2.1 234 (by decide)).trans (hF452.2.1 234 (by decide))))), IM1.cong hR_10 (eA_ti (j := 1) (((hF511.2.1 173 (by decide)).trans (hF452.2.1 173 (by decide))))) (congrArg Int32.toInt (((hF511.1 116 0 (by decide)).trans (hF452.1 116 0 (by decide))))) (eA_ti (j := 5510) (((hF511.2.1 234 (by decide)).trans (hF452.2.1 234 (by decide))))) (congrArg Int32.toInt (((hF511.1 116 12 (by decide)).trans (hF452.1 116 12 (by decide))))) (eA_ti (j := 5514) (((hF511.2.1 234 (by decide)).trans (hF452.2.1 234 (by decide))))) (congrArg Int32.toInt (((hF511.1 116 10 (by decide)).trans (hF452.1 116 10 (by decide))))) (eA_ti (j := 5515) (((hF511.2.1 234 (by decide)).trans (hF452.2.1 234 (by decide))))) (congrArg Int32.toInt (((hF511.1 116 11 (by decide)).trans (hF452.1 116 11 (by decide))))) (eA_ti (j := 5516) (((hF511.2.1 234 (by decide)).trans (hF452.2.1 234 (by decide))))) (congrArg Int32.toInt (((hF511.1 116 4 (by decide)).trans (hF452.1 116 4 (by decide))))) (eA_ti (j := 5511) (((hF511.2.1 234 (by decide)).trans (hF452.2.1 234 (by decide))))), (show CT _ from ⟨fun i i0 i1 => ⟨(by have t0_ := hI0.t0; have t1_ := hI0.t1; have o := (hR_11.1 i i0 i1).1; have o0 := (hR_12.1 i i0 i1).1; have o1 := (hR_13.1 i i0 i1).1; have x := (eA_ti (j := i) (hF511.2.1 2 (by decide))).trans (q458 i i0 i1); have m := q517 (10 + 3 * i) (by omega) (by omega); have y1 := eA_ti (j := ((10 + 3 * i))) (hF452.2.1 234 (by decide)); have y2 := eA_ti (j := (5510 + ((10 + 3 * i)))) (hF452.2.1 234 (by decide)); have y3 := eA_ti (j := ((10 + 3 * i))) (hF452.2.1 233 (by decide)); (try split at x) <;> (try split at x) <;> (try split at m) <;> (try split at m) <;> omega), (by have t0_ := hI0.t0; have t1_ := hI0.t1; have o := (hR_11.1 i i0 i1).2.1; have o0 := (hR_12.1 i i0 i1).2.1; have o1 := (hR_13.1 i i0 i1).2.1; have x := (eA_ti (j := i) (hF511.2.1 3 (by decide))).trans (q459 i i0 i1); have m := q517 (10 + 3 * i + 1) (by omega) (by omega); have y1 := eA_ti (j := ((10 + 3 * i + 1))) (hF452.2.1 234 (by decide)); have y2 := eA_ti (j := (5510 + ((10 + 3 * i + 1)))) (hF452.2.1 234 (by decide)); have y3 := eA_ti (j := ((10 + 3 * i + 1))) (hF452.2.1 233 (by decide)); (try split at x) <;> (try split at x) <;> (try split at m) <;> (try split at m) <;> omega), (by have t0_ := hI0.t0; have t1_ := hI0.t1; have o := (hR_11.1 i i0 i1).2.2; have o0 := (hR_12.1 i i0 i1).2.2; have o1 := (hR_13.1 i i0 i1).2.2; have x := (eA_ti (j := i) (hF511.2.1 4 (by decide))).trans (q460 i i0 i1); have m := q517 (10 + 3 * i + 2) (by omega) (by omega); have y1 := eA_ti (j := ((10 + 3 * i + 2))) (hF452.2.1 234 (by decide)); have y2 := eA_ti (j := (5510 + ((10 + 3 * i + 2)))) (hF452.2.1 234 (by decide)); have y3 := eA_ti (j := ((10 + 3 * i + 2))) (hF452.2.1 233 (by decide)); (try split at x) <;> (try split at x) <;> (try split at m) <;> (try split at m) <;> omega)⟩, fun i i0 i1 => ⟨(by have t0_ := hI0.t0; have t1_ := hI0.t1; have o := (hR_11.2.1 i i0 i1).1; have o0 := (hR_12.2.1 i i0 i1).1; have o1 := (hR_13.2.1 i i0 i1).1; have x := (eA_ti (j := i) (hF511.2.1 14 (by decide))).trans (q461 i i0 i1); have m := q517 (94 + 2 * i) (by omega) (by omega); have y1 := eA_ti (j := ((94 + 2 * i))) (hF452.2.1 234 (by decide)); have y2 := eA_ti (j := (5510 + ((94 + 2 * i)))) (hF452.2.1 234 (by decide)); have y3 := eA_ti (j := ((94 + 2 * i))) (hF452.2.1 233 (by decide)); (try split at x) <;> (try split at x) <;> (try split at m) <;> (try split at m) <;> omega), (by have t0_ := hI0.t0; have t1_ := hI0.t1; have o := (hR_11.2.1 i i0 i1).2; have o0 := (hR_12.2.1 i i0 i1).2; have o1 := (hR_13.2.1 i i0 i1).2; have x := (eA_ti (j := i) (hF511.2.1 15 (by decide))).trans (q462 i i0 i1); have m := q517 (94 + 2 * i + 1) (by omega) (by omega); have y1 := eA_ti (j := ((94 + 2 * i + 1))) (hF452.2.1 234 (by decide)); have y2 := eA_ti (j := (5510 + ((94 + 2 * i + 1)))) (hF452.2.1 234 (by decide)); have y3 := eA_ti (j := ((94 + 2 * i + 1))) (hF452.2.1 233 (by decide)); (try split at x) <;> (try split at x) <;> (try split at m) <;> (try split at m) <;> omega)⟩, fun i i0 i1 => (by have t0_ := hI0.t0; have t1_ := hI0.t1; have o : i < 6 * (gI g0 1 4).toInt → _ := fun hz => hR_11.2.2 i i0 hz; have o0 : i < 6 * (gI g0 59 4).toInt → _ := fun hz => hR_12.2.2 i i0 hz; have o1 : i < 6 * (gI g0 116 4).toInt → _ := fun hz => hR_13.2.2 i i0 hz; have t9_ := RgF.at hI510.2.1 (p := 1) (b := 4) rfl; dsimp only at t9_; have i9_ : i < 48 := (by omega); have x := (eA_ti (j := i) (hF511.2.1 5 (by decide))).trans (q463 i i0 i9_); have m := q517 (46 + i) (by omega) (by omega); have y1 := eA_ti (j := ((46 + i))) (hF452.2.1 234 (by decide)); have y2 := eA_ti (j := (5510 + ((46 + i)))) (hF452.2.1 234 (by decide)); have y3 := eA_ti (j := ((46 + i))) (hF452.2.1 233 (by decide)); (try split at x) <;> (try split at x) <;> (try split at m) <;> (try split at m) <;> omega)⟩), CI0.cong hR_12 (((hF511.2.1 60 (by decide)).trans (hF452.2.1 60 (by decide)))) (((hF511.2.1 61 (by decide)).trans (hF452.2.1 61 (by decide)))) (((hF511.2.1 62 (by decide)).trans (hF452.2.1 62 (by decide)))) (((hF511.2.1 72 (by decide)).trans (hF452.2.1 72 (by decide)))) (((hF511.2.1 73 (by decide)).trans (hF452.2.1 73 (by decide)))) (((hF511.2.1 63 (by decide)).trans (hF452.2.1 63 (by decide)))) (((hF511.2.1 234 (by decide)).trans (hF452.2.1 234 (by decide)))) (congrArg Int32.toInt (((hF511.1 59 4 (by decide)).trans (hF452.1 59 4 (by decide))))), CI1.cong hR_13 (((hF511.2.1 117 (by decide)).trans (hF452.2.1 117 (by decide)))) (((hF511.2.1 118 (by decide)).trans (hF452.2.1 118 (by decide)))) (((hF511.2.1 119 (by decide)).trans (hF452.2.1 119 (by decide)))) (((hF511.2.1 129 (by decide)).trans (hF452.2.1 129 (by decide)))) (((hF511.2.1 130 (by decide)).trans (hF452.2.1 130 (by decide)))) (((hF511.2.1 120 (by decide)).trans (hF452.2.1 120 (by decide)))) (((hF511.2.1 234 (by decide)).trans (hF452.2.1 234 (by decide)))) (congrArg Int32.toInt (((hF511.1 116 4 (by decide)).trans (hF452.1 116 4 (by decide))))), (show RT _ from fun i i0 i1 => (eA_ti (((hF511.2.1 175 (by decide)).trans (hF452.2.1 175 (by decide))))).trans ((hR_14 i i0 (by omega)).trans (eA_ti (((hF511.2.1 236 (by decide)).trans (hF452.2.1 236 (by decide))))).symm))⟩)
