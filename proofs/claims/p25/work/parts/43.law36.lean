set_option maxRecDepth 100000 in
set_option maxHeartbeats 8000000 in
theorem lq_c36 (d : Nat) {N : Nat} {g0 : List en_E} (hI0 : HI g0) (hR0 : LwR g0) {ys : List Int32} {L : Nat} (hL : ys.length = L) (hL2 : L ≤ 3584) {l : en_L} {i : Int32} (e0 : en_get 0 l = some (.float 0)) (e1 : en_get 1 l = some (.ref 0)) (e2 : en_get 2 l = some (.ref 231)) (e3 : en_get 3 l = some (.int i)) (hi : 0 ≤ i.toInt ∧ i.toInt + 7 ≤ L) {Ph : Option Value → en_H → Prop} (K : ∀ g1 : List en_E, HI g1 → LwR g1 → At (d + 423) (some ys) (some .boolean) bs_L_law (1330, l, [], (g1, N)) Ph) : At (d + 423) (some ys) (some .boolean) bs_L_law (1248, l, [], (g0, N)) Ph := by
  have hF0 : Fr F_law A_law g0 g0 := Fr.rf
  have hx_1 : -2147483648 ≤ i.toInt + 1 ∧ i.toInt + 1 ≤ 2147483647 := by omega
  have hx_2 : -2147483648 ≤ i.toInt + 2 ∧ i.toInt + 2 ≤ 2147483647 := by omega
  have hx_3 : -2147483648 ≤ i.toInt + 3 ∧ i.toInt + 3 ≤ 2147483647 := by omega
  have hx_4 : -2147483648 ≤ i.toInt + 4 ∧ i.toInt + 4 ≤ 2147483647 := by omega
  have hx_5 : -2147483648 ≤ i.toInt + 5 ∧ i.toInt + 5 ≤ 2147483647 := by omega
  have hx_6 : -2147483648 ≤ i.toInt + 6 ∧ i.toInt + 6 ≤ 2147483647 := by omega
  have hy_0 : 0 ≤ i.toInt ∧ i.toInt < (L : Int) := by omega
  have hy_1 : 0 ≤ i.toInt + 1 ∧ i.toInt + 1 < (L : Int) := by omega
  have hy_2 : 0 ≤ i.toInt + 2 ∧ i.toInt + 2 < (L : Int) := by omega
  have hy_3 : 0 ≤ i.toInt + 3 ∧ i.toInt + 3 < (L : Int) := by omega
  have hy_4 : 0 ≤ i.toInt + 4 ∧ i.toInt + 4 < (L : Int) := by omega
  have hy_5 : 0 ≤ i.toInt + 5 ∧ i.toInt + 5 < (L : Int) := by omega
  have hy_6 : 0 ≤ i.toInt + 6 ∧ i.toInt + 6 < (L : Int) := by omega
  unfold LwR at hR0
  obtain ⟨hR_0, hR_1, hR_2, hR_3, hR_4, hR_5, hR_6, hR_7, hR_8, hR_9, hR_10, hR_11, hR_12, hR_13, hR_14, hR_15, hR_16, hR_17, hR_18, hR_19, hR_20⟩ := hR0
  refine At.enter rfl ?_
  refine r_aload_n e1 ?_
  refine r_sload_n e0 ?_
  refine r_iload_n e3 ?_
  refine r_iconst 1 rfl ?_
  refine q_iadd (i.toInt + 1) rfl hx_1 (fun v1 hv1 => ?_)
  refine q_scald (m := L) hL (i.toInt + 1) hv1 hy_1 (fun v2 hv2 => ?_)
  rcases (show v2.toInt = 0 ∨ v2.toInt = 1 ∨ (v2.toInt < 0 ∨ 1 < v2.toInt) by omega) with u3 | u3 | u3
  · have n4_e : v2.toInt = 0 := by omega
    have n4_1 : v2.toInt ≠ 1 := by omega
    refine r_callV 1257 rfl [.ref 0, .int v2] [] (Nat.le_of_ble_eq_true rfl) rfl (T_X10_image_0 _ hI0 v2) ?_
    rintro _ _ ⟨g5, rfl, hI6, hF7, v8, rfl, hr9⟩
    refine At.sti ?_
    have hF10 := Fr.tr hF0 hF7 rfl rfl
    have fe11 : PH _ := hr9.2.2
    replace hr9 := And.intro hr9.1 hr9.2.1
    obtain ⟨q12, q13, q14, q15, q16, q17, q18, q19, q20, q21, q22, q23, q24, q25⟩ := hr9
    obtain ⟨p26, p27, p28, p29, p30, p31⟩ := (And.intro q12 q13)
    have w32 := p27 n4_e
    have w33 := p30 n4_1
    clear p27 p28 p29 p30 p31
    clear q13
    have f35 := congrArg Int32.toInt (hF7.1 1 0 rfl)
    have f36 := congrArg Int32.toInt (hF7.1 1 12 rfl)
    have f37 := congrArg Int32.toInt (hF7.1 1 10 rfl)
    have f38 := congrArg Int32.toInt (hF7.1 1 11 rfl)
    have f39 := congrArg Int32.toInt (hF7.1 1 4 rfl)
    have f40 := congrArg Int32.toInt (hF7.1 1 6 rfl)
    have f41 := congrArg Int32.toInt (hF7.1 1 9 rfl)
    have f42 := congrArg Int32.toInt (hF7.1 174 1 rfl)
    have f43 := congrArg Int32.toInt (hF7.1 0 16 rfl)
    have f44 := congrArg Int32.toInt (hF7.1 176 2 rfl)
    have f45 := congrArg Int32.toInt (eA_c (j := 0) (hF7.2.1 233 rfl))
    have f46 := congrArg Int32.toInt (eA_c (j := 4) (hF7.2.1 233 rfl))
    have f47 := congrArg Int32.toInt (eA_c (j := 5) (hF7.2.1 233 rfl))
    have f48 := congrArg Int32.toInt (eA_c (j := 6) (hF7.2.1 233 rfl))
    have f49 := congrArg Int32.toInt (eA_c (j := 1) (hF7.2.1 233 rfl))
    have f50 := congrArg Int32.toInt (eA_c (j := 2) (hF7.2.1 233 rfl))
    have f51 := congrArg Int32.toInt (eA_c (j := 3) (hF7.2.1 233 rfl))
    have f52 := congrArg Int32.toInt (eA_c (j := 0) (hF7.2.1 234 rfl))
    have f53 := congrArg Int32.toInt (eA_c (j := 4) (hF7.2.1 234 rfl))
    have f54 := congrArg Int32.toInt (eA_c (j := 5) (hF7.2.1 234 rfl))
    have f55 := congrArg Int32.toInt (eA_c (j := 6) (hF7.2.1 234 rfl))
    have f56 := congrArg Int32.toInt (eA_c (j := 1) (hF7.2.1 234 rfl))
    have f57 := congrArg Int32.toInt (eA_c (j := 2) (hF7.2.1 234 rfl))
    have f58 := congrArg Int32.toInt (eA_c (j := 3) (hF7.2.1 234 rfl))
    have f59 := congrArg Int32.toInt (eA_c (j := 5510) (hF7.2.1 234 rfl))
    have f60 := congrArg Int32.toInt (eA_c (j := 5514) (hF7.2.1 234 rfl))
    have f61 := congrArg Int32.toInt (eA_c (j := 5515) (hF7.2.1 234 rfl))
    have f62 := congrArg Int32.toInt (eA_c (j := 5516) (hF7.2.1 234 rfl))
    have f63 := congrArg Int32.toInt (eA_c (j := 5511) (hF7.2.1 234 rfl))
    have f64 := congrArg Int32.toInt (eA_c (j := 5512) (hF7.2.1 234 rfl))
    have f65 := congrArg Int32.toInt (eA_c (j := 5513) (hF7.2.1 234 rfl))
    have f66 := congrArg Int32.toInt (eA_c (j := 0) (hF7.2.1 235 rfl))
    have f67 := congrArg Int32.toInt (eA_c (j := 1) (hF7.2.1 235 rfl))
    have f68 := congrArg Int32.toInt (hF7.1 231 8 rfl)
    have f69 := congrArg Int32.toInt (hF7.1 231 6 rfl)
    have f70 := congrArg Int32.toInt (hF7.1 231 13 rfl)
    refine At.enter rfl ?_
    refine r_pop rfl ?_
    refine r_aload_n e2 ?_
    refine r_sload_n e0 ?_
    refine r_iload_n e3 ?_
    refine r_iconst 1 rfl ?_
    refine q_iadd (i.toInt + 1) rfl hx_1 (fun v71 hv71 => ?_)
    refine q_scald (m := L) hL (i.toInt + 1) hv71 hy_1 (fun v72 hv72 => ?_)
    have sv72 := hv2.symm.trans hv72
    subst sv72
    have n73_e : v2.toInt = 0 := by omega
    have n73_1 : v2.toInt ≠ 1 := by omega
    refine r_callV 1267 rfl [.ref 231, .int v2] [] (Nat.le_of_ble_eq_true rfl) rfl (T_X11_image_231 _ hI6 v2) ?_
    rintro _ _ ⟨g74, rfl, hI75, hF76, v77, rfl, hr78⟩
    refine At.sti ?_
    have hF79 := Fr.tr hF10 hF76 rfl rfl
    obtain ⟨q81, q82, q83, q84⟩ := hr78
    obtain ⟨p85, p86, p87, p88, p89, p90⟩ := (And.intro q81 q82)
    have w91 := p86 n73_e
    have w92 := p89 n73_1
    clear p86 p87 p88 p89 p90
    clear q82
    have f94 := congrArg Int32.toInt (hF76.1 1 0 rfl)
    have f95 := congrArg Int32.toInt (hF76.1 1 12 rfl)
    have f96 := congrArg Int32.toInt (hF76.1 1 10 rfl)
    have f97 := congrArg Int32.toInt (hF76.1 1 11 rfl)
    have f98 := congrArg Int32.toInt (hF76.1 1 4 rfl)
    have f99 := congrArg Int32.toInt (hF76.1 1 6 rfl)
    have f100 := congrArg Int32.toInt (hF76.1 1 9 rfl)
    have f101 := congrArg Int32.toInt (hF76.1 59 0 rfl)
    have f102 := congrArg Int32.toInt (hF76.1 59 12 rfl)
    have f103 := congrArg Int32.toInt (hF76.1 59 10 rfl)
    have f104 := congrArg Int32.toInt (hF76.1 59 11 rfl)
    have f105 := congrArg Int32.toInt (hF76.1 59 4 rfl)
    have f106 := congrArg Int32.toInt (hF76.1 59 6 rfl)
    have f107 := congrArg Int32.toInt (hF76.1 59 9 rfl)
    have f108 := congrArg Int32.toInt (hF76.1 116 0 rfl)
    have f109 := congrArg Int32.toInt (hF76.1 116 12 rfl)
    have f110 := congrArg Int32.toInt (hF76.1 116 10 rfl)
    have f111 := congrArg Int32.toInt (hF76.1 116 11 rfl)
    have f112 := congrArg Int32.toInt (hF76.1 116 4 rfl)
    have f113 := congrArg Int32.toInt (hF76.1 116 6 rfl)
    have f114 := congrArg Int32.toInt (hF76.1 116 9 rfl)
    have f115 := congrArg Int32.toInt (eA_c (j := 0) (hF76.2.1 173 rfl))
    have f116 := congrArg Int32.toInt (eA_c (j := 1) (hF76.2.1 173 rfl))
    have f117 := congrArg Int32.toInt (hF76.1 174 1 rfl)
    have f118 := congrArg Int32.toInt (hF76.1 0 16 rfl)
    have f119 := congrArg Int32.toInt (hF76.1 176 2 rfl)
    have f120 := congrArg Int32.toInt (eA_c (j := 0) (hF76.2.1 233 rfl))
    have f121 := congrArg Int32.toInt (eA_c (j := 4) (hF76.2.1 233 rfl))
    have f122 := congrArg Int32.toInt (eA_c (j := 5) (hF76.2.1 233 rfl))
    have f123 := congrArg Int32.toInt (eA_c (j := 6) (hF76.2.1 233 rfl))
    have f124 := congrArg Int32.toInt (eA_c (j := 1) (hF76.2.1 233 rfl))
    have f125 := congrArg Int32.toInt (eA_c (j := 2) (hF76.2.1 233 rfl))
    have f126 := congrArg Int32.toInt (eA_c (j := 3) (hF76.2.1 233 rfl))
    have f127 := congrArg Int32.toInt (hF76.1 231 8 rfl)
    have f128 := congrArg Int32.toInt (hF76.1 231 6 rfl)
    have f129 := congrArg Int32.toInt (hF76.1 231 13 rfl)
    refine At.enter rfl ?_
    refine r_pop rfl ?_
    refine r_goto ?_
    exact K _ hI75 (show LwR _ from ⟨(congrArg Int32.toInt (((hF76.1 1 0 (by decide)).trans (hF7.1 1 0 (by decide))))).trans (hR_0.trans (eA_ti (j := 0) (((hF76.2.1 233 (by decide)).trans (hF7.2.1 233 (by decide))))).symm), (congrArg Int32.toInt (((hF76.1 1 12 (by decide)).trans (hF7.1 1 12 (by decide))))).trans (hR_1.trans (eA_ti (j := 4) (((hF76.2.1 233 (by decide)).trans (hF7.2.1 233 (by decide))))).symm), (congrArg Int32.toInt (((hF76.1 1 10 (by decide)).trans (hF7.1 1 10 (by decide))))).trans (hR_2.trans (eA_ti (j := 5) (((hF76.2.1 233 (by decide)).trans (hF7.2.1 233 (by decide))))).symm), (congrArg Int32.toInt (((hF76.1 1 11 (by decide)).trans (hF7.1 1 11 (by decide))))).trans (hR_3.trans (eA_ti (j := 6) (((hF76.2.1 233 (by decide)).trans (hF7.2.1 233 (by decide))))).symm), (congrArg Int32.toInt (((hF76.1 1 4 (by decide)).trans (hF7.1 1 4 (by decide))))).trans (hR_4.trans (eA_ti (j := 1) (((hF76.2.1 233 (by decide)).trans (hF7.2.1 233 (by decide))))).symm), (congrArg Int32.toInt (((hF76.1 1 6 (by decide)).trans (hF7.1 1 6 (by decide))))).trans (hR_5.trans (eA_ti (j := 2) (((hF76.2.1 233 (by decide)).trans (hF7.2.1 233 (by decide))))).symm), (congrArg Int32.toInt (((hF76.1 1 9 (by decide)).trans (hF7.1 1 9 (by decide))))).trans (hR_6.trans (eA_ti (j := 3) (((hF76.2.1 233 (by decide)).trans (hF7.2.1 233 (by decide))))).symm), by omega, by omega, (congrArg Int32.toInt (((hF76.1 174 1 (by decide)).trans (hF7.1 174 1 (by decide))))).trans (hR_9.trans (congrArg Int32.toInt (((hF76.1 231 8 (by decide)).trans (hF7.1 231 8 (by decide))))).symm), (congrArg Int32.toInt (((hF76.1 0 16 (by decide)).trans (hF7.1 0 16 (by decide))))).trans (hR_10.trans (congrArg Int32.toInt (((hF76.1 231 6 (by decide)).trans (hF7.1 231 6 (by decide))))).symm), (congrArg Int32.toInt (((hF76.1 176 2 (by decide)).trans (hF7.1 176 2 (by decide))))).trans (hR_11.trans (congrArg Int32.toInt (((hF76.1 231 13 (by decide)).trans (hF7.1 231 13 (by decide))))).symm), (fun _ => ⟨by omega, by omega, by omega, by omega, by omega, by omega, by omega⟩), IM1.cong hR_13 (by omega) (by omega) (by omega) (by omega) (by omega) (by omega) (by omega) (by omega) (by omega) (by omega) (by omega) (by omega) (by omega) (by omega) (by omega), CT.cong hR_14 (((hF76.2.1 2 (by decide)).trans (hF7.2.1 2 (by decide)))) (((hF76.2.1 3 (by decide)).trans (hF7.2.1 3 (by decide)))) (((hF76.2.1 4 (by decide)).trans (hF7.2.1 4 (by decide)))) (((hF76.2.1 14 (by decide)).trans (hF7.2.1 14 (by decide)))) (((hF76.2.1 15 (by decide)).trans (hF7.2.1 15 (by decide)))) (((hF76.2.1 5 (by decide)).trans (hF7.2.1 5 (by decide)))) (((hF76.2.1 233 (by decide)).trans (hF7.2.1 233 (by decide)))) (congrArg Int32.toInt (((hF76.1 1 4 (by decide)).trans (hF7.1 1 4 (by decide))))), (show CI0 _ from ⟨fun i i0 i1 => ⟨(by have t0_ := hI0.t0; have t1_ := hI0.t1; have o := (hR_15.1 i i0 i1).1; have o2 := (hR_14.1 i i0 i1).1; have x := (eA_ti (j := i) (hF76.2.1 60 (by decide))).trans (q14 i i0 i1); have m := q83 (10 + 3 * i) (by omega) (by omega); have y1 := eA_ti (j := ((10 + 3 * i))) (hF7.2.1 233 (by decide)); have y2 := eA_ti (j := ((10 + 3 * i))) (hF7.2.1 234 (by decide)); (try split at x) <;> (try split at m) <;> omega), (by have t0_ := hI0.t0; have t1_ := hI0.t1; have o := (hR_15.1 i i0 i1).2.1; have o2 := (hR_14.1 i i0 i1).2.1; have x := (eA_ti (j := i) (hF76.2.1 61 (by decide))).trans (q15 i i0 i1); have m := q83 (10 + 3 * i + 1) (by omega) (by omega); have y1 := eA_ti (j := ((10 + 3 * i + 1))) (hF7.2.1 233 (by decide)); have y2 := eA_ti (j := ((10 + 3 * i + 1))) (hF7.2.1 234 (by decide)); (try split at x) <;> (try split at m) <;> omega), (by have t0_ := hI0.t0; have t1_ := hI0.t1; have o := (hR_15.1 i i0 i1).2.2; have o2 := (hR_14.1 i i0 i1).2.2; have x := (eA_ti (j := i) (hF76.2.1 62 (by decide))).trans (q16 i i0 i1); have m := q83 (10 + 3 * i + 2) (by omega) (by omega); have y1 := eA_ti (j := ((10 + 3 * i + 2))) (hF7.2.1 233 (by decide)); have y2 := eA_ti (j := ((10 + 3 * i + 2))) (hF7.2.1 234 (by decide)); (try split at x) <;> (try split at m) <;> omega)⟩, fun i i0 i1 => ⟨(by have t0_ := hI0.t0; have t1_ := hI0.t1; have o := (hR_15.2.1 i i0 i1).1; have o2 := (hR_14.2.1 i i0 i1).1; have x := (eA_ti (j := i) (hF76.2.1 72 (by decide))).trans (q17 i i0 i1); have m := q83 (94 + 2 * i) (by omega) (by omega); have y1 := eA_ti (j := ((94 + 2 * i))) (hF7.2.1 233 (by decide)); have y2 := eA_ti (j := ((94 + 2 * i))) (hF7.2.1 234 (by decide)); (try split at x) <;> (try split at m) <;> omega), (by have t0_ := hI0.t0; have t1_ := hI0.t1; have o := (hR_15.2.1 i i0 i1).2; have o2 := (hR_14.2.1 i i0 i1).2; have x := (eA_ti (j := i) (hF76.2.1 73 (by decide))).trans (q18 i i0 i1); have m := q83 (94 + 2 * i + 1) (by omega) (by omega); have y1 := eA_ti (j := ((94 + 2 * i + 1))) (hF7.2.1 233 (by decide)); have y2 := eA_ti (j := ((94 + 2 * i + 1))) (hF7.2.1 234 (by decide)); (try split at x) <;> (try split at m) <;> omega)⟩, fun i i0 i1 => (by have t0_ := hI0.t0; have t1_ := hI0.t1; have o : i < 6 * (gI g0 59 4).toInt → _ := fun hz => hR_15.2.2 i i0 hz; have o2 : i < 6 * (gI g0 1 4).toInt → _ := fun hz => hR_14.2.2 i i0 hz; have t9_ := RgF.at hI75.2.1 (p := 59) (b := 4) rfl; dsimp only at t9_; have i9_ : i < 48 := (by omega); have x := (eA_ti (j := i) (hF76.2.1 63 (by decide))).trans (q24 i i0 i9_); have m := q83 (46 + i) (by omega) (by omega); have y1 := eA_ti (j := ((46 + i))) (hF7.2.1 233 (by decide)); have y2 := eA_ti (j := ((46 + i))) (hF7.2.1 234 (by decide)); (try split at x) <;> (try split at m) <;> omega)⟩), (show CI1 _ from ⟨fun i i0 i1 => ⟨(by have t0_ := hI0.t0; have t1_ := hI0.t1; have o := (hR_16.1 i i0 i1).1; have o2 := (hR_14.1 i i0 i1).1; have x := (eA_ti (j := i) (hF76.2.1 117 (by decide))).trans (q19 i i0 i1); have m := q84 (10 + 3 * i) (by omega) (by omega); have y1 := eA_ti (j := ((10 + 3 * i))) (hF7.2.1 233 (by decide)); have y2 := eA_ti (j := (5510 + ((10 + 3 * i)))) (hF7.2.1 234 (by decide)); (try split at x) <;> (try split at m) <;> omega), (by have t0_ := hI0.t0; have t1_ := hI0.t1; have o := (hR_16.1 i i0 i1).2.1; have o2 := (hR_14.1 i i0 i1).2.1; have x := (eA_ti (j := i) (hF76.2.1 118 (by decide))).trans (q20 i i0 i1); have m := q84 (10 + 3 * i + 1) (by omega) (by omega); have y1 := eA_ti (j := ((10 + 3 * i + 1))) (hF7.2.1 233 (by decide)); have y2 := eA_ti (j := (5510 + ((10 + 3 * i + 1)))) (hF7.2.1 234 (by decide)); (try split at x) <;> (try split at m) <;> omega), (by have t0_ := hI0.t0; have t1_ := hI0.t1; have o := (hR_16.1 i i0 i1).2.2; have o2 := (hR_14.1 i i0 i1).2.2; have x := (eA_ti (j := i) (hF76.2.1 119 (by decide))).trans (q21 i i0 i1); have m := q84 (10 + 3 * i + 2) (by omega) (by omega); have y1 := eA_ti (j := ((10 + 3 * i + 2))) (hF7.2.1 233 (by decide)); have y2 := eA_ti (j := (5510 + ((10 + 3 * i + 2)))) (hF7.2.1 234 (by decide)); (try split at x) <;> (try split at m) <;> omega)⟩, fun i i0 i1 => ⟨(by have t0_ := hI0.t0; have t1_ := hI0.t1; have o := (hR_16.2.1 i i0 i1).1; have o2 := (hR_14.2.1 i i0 i1).1; have x := (eA_ti (j := i) (hF76.2.1 129 (by decide))).trans (q22 i i0 i1); have m := q84 (94 + 2 * i) (by omega) (by omega); have y1 := eA_ti (j := ((94 + 2 * i))) (hF7.2.1 233 (by decide)); have y2 := eA_ti (j := (5510 + ((94 + 2 * i)))) (hF7.2.1 234 (by decide)); (try split at x) <;> (try split at m) <;> omega), (by have t0_ := hI0.t0; have t1_ := hI0.t1; have o := (hR_16.2.1 i i0 i1).2; have o2 := (hR_14.2.1 i i0 i1).2; have x := (eA_ti (j := i) (hF76.2.1 130 (by decide))).trans (q23 i i0 i1); have m := q84 (94 + 2 * i + 1) (by omega) (by omega); have y1 := eA_ti (j := ((94 + 2 * i + 1))) (hF7.2.1 233 (by decide)); have y2 := eA_ti (j := (5510 + ((94 + 2 * i + 1)))) (hF7.2.1 234 (by decide)); (try split at x) <;> (try split at m) <;> omega)⟩, fun i i0 i1 => (by have t0_ := hI0.t0; have t1_ := hI0.t1; have o : i < 6 * (gI g0 116 4).toInt → _ := fun hz => hR_16.2.2 i i0 hz; have o2 : i < 6 * (gI g0 1 4).toInt → _ := fun hz => hR_14.2.2 i i0 hz; have t9_ := RgF.at hI75.2.1 (p := 116) (b := 4) rfl; dsimp only at t9_; have i9_ : i < 48 := (by omega); have x := (eA_ti (j := i) (hF76.2.1 120 (by decide))).trans (q25 i i0 i9_); have m := q84 (46 + i) (by omega) (by omega); have y1 := eA_ti (j := ((46 + i))) (hF7.2.1 233 (by decide)); have y2 := eA_ti (j := (5510 + ((46 + i)))) (hF7.2.1 234 (by decide)); (try split at x) <;> (try split at m) <;> omega)⟩), (show RT _ from fun i i0 i1 => (eA_ti (((hF76.2.1 175 (by decide)).trans (hF7.2.1 175 (by decide))))).trans ((hR_17 i i0 (by omega)).trans (eA_ti (((hF76.2.1 236 (by decide)).trans (hF7.2.1 236 (by decide))))).symm)), (show BYX _ from fun i i0 i1 => by rw [TX.c (((hF76.2.1 175 (by decide)).trans (hF7.2.1 175 (by decide))))]; exact hR_18 i i0 (by have i2 : i < (gI _ 174 1).toInt := i1; show i < (gI g0 174 1).toInt; omega)), (LAWR_image (c := 0) hR_19 (TOLDX_fr hF76 rfl rfl rfl rfl (TOLDX_s (hF7.2.1 2 (by decide)) (hF7.2.1 3 (by decide)) (hF7.2.1 5 (by decide)) (hF7.1 1 0 (by decide)) (hF7.1 1 4 (by decide)) (hF7.1 1 9 (by decide)) (hF7.1 223 5 (by decide)) (hF7.1 223 6 (by decide)) (hF7.2.1 226 (by decide)) (LSM_img (Or.inl rfl) (fe11.1 n4_e)) hR_19.2.2.2.2)) (((hF76.1 1 6 (by decide)).trans (hF7.1 1 6 (by decide)))) (fun i i0 i1 => eA_ti (((hF76.2.1 233 (by decide)).trans (hF7.2.1 233 (by decide))))) (Or.inl ⟨rfl, (BCI_c (fe11.1 n4_e) (LSA_fr hF76 rfl) (Or.inr (Or.inl rfl))), i32e (by omega), i32e (by omega), i32e (by omega), (fun i i0 i1 => ((RW_p q83 n73_e) i i0 i1).trans (eA_ti (hF7.2.1 233 (by decide)))), (fun i i0 i1 => ((RW_n q84 n73_1) i i0 i1).trans (eA_ti (hF7.2.1 234 (by decide))))⟩)), (SETX_fr hF76 rfl rfl rfl rfl rfl (SETX_s (hF7.2.1 2 (by decide)) (hF7.2.1 3 (by decide)) (hF7.2.1 5 (by decide)) (hF7.1 1 0 (by decide)) (hF7.1 1 4 (by decide)) (hF7.1 1 9 (by decide)) (LSM_img (Or.inl rfl) (fe11.1 n4_e)) (hF7.2.1 4 (by decide)) (hF7.1 223 10 (by decide)) (hF7.1 223 11 (by decide)) (hF7.2.1 227 (by decide)) hR_20))⟩)
  · have n130_e : v2.toInt = 1 := by omega
    have n130_0 : v2.toInt ≠ 0 := by omega
    refine r_callV 1257 rfl [.ref 0, .int v2] [] (Nat.le_of_ble_eq_true rfl) rfl (T_X10_image_0 _ hI0 v2) ?_
    rintro _ _ ⟨g131, rfl, hI132, hF133, v134, rfl, hr135⟩
    refine At.sti ?_
    have hF136 := Fr.tr hF0 hF133 rfl rfl
    have fe137 : PH _ := hr135.2.2
    replace hr135 := And.intro hr135.1 hr135.2.1
    obtain ⟨q138, q139, q140, q141, q142, q143, q144, q145, q146, q147, q148, q149, q150, q151⟩ := hr135
    obtain ⟨p152, p153, p154, p155, p156, p157⟩ := (And.intro q138 q139)
    have w158 := p154 n130_0
    have w159 := p155 n130_e
    clear p153 p154 p155 p156 p157
    clear q139
    have f161 := congrArg Int32.toInt (hF133.1 1 0 rfl)
    have f162 := congrArg Int32.toInt (hF133.1 1 12 rfl)
    have f163 := congrArg Int32.toInt (hF133.1 1 10 rfl)
    have f164 := congrArg Int32.toInt (hF133.1 1 11 rfl)
    have f165 := congrArg Int32.toInt (hF133.1 1 4 rfl)
    have f166 := congrArg Int32.toInt (hF133.1 1 6 rfl)
    have f167 := congrArg Int32.toInt (hF133.1 1 9 rfl)
    have f168 := congrArg Int32.toInt (hF133.1 174 1 rfl)
    have f169 := congrArg Int32.toInt (hF133.1 0 16 rfl)
    have f170 := congrArg Int32.toInt (hF133.1 176 2 rfl)
    have f171 := congrArg Int32.toInt (eA_c (j := 0) (hF133.2.1 233 rfl))
    have f172 := congrArg Int32.toInt (eA_c (j := 4) (hF133.2.1 233 rfl))
    have f173 := congrArg Int32.toInt (eA_c (j := 5) (hF133.2.1 233 rfl))
    have f174 := congrArg Int32.toInt (eA_c (j := 6) (hF133.2.1 233 rfl))
    have f175 := congrArg Int32.toInt (eA_c (j := 1) (hF133.2.1 233 rfl))
    have f176 := congrArg Int32.toInt (eA_c (j := 2) (hF133.2.1 233 rfl))
    have f177 := congrArg Int32.toInt (eA_c (j := 3) (hF133.2.1 233 rfl))
    have f178 := congrArg Int32.toInt (eA_c (j := 0) (hF133.2.1 234 rfl))
    have f179 := congrArg Int32.toInt (eA_c (j := 4) (hF133.2.1 234 rfl))
    have f180 := congrArg Int32.toInt (eA_c (j := 5) (hF133.2.1 234 rfl))
    have f181 := congrArg Int32.toInt (eA_c (j := 6) (hF133.2.1 234 rfl))
    have f182 := congrArg Int32.toInt (eA_c (j := 1) (hF133.2.1 234 rfl))
    have f183 := congrArg Int32.toInt (eA_c (j := 2) (hF133.2.1 234 rfl))
    have f184 := congrArg Int32.toInt (eA_c (j := 3) (hF133.2.1 234 rfl))
    have f185 := congrArg Int32.toInt (eA_c (j := 5510) (hF133.2.1 234 rfl))
    have f186 := congrArg Int32.toInt (eA_c (j := 5514) (hF133.2.1 234 rfl))
    have f187 := congrArg Int32.toInt (eA_c (j := 5515) (hF133.2.1 234 rfl))
    have f188 := congrArg Int32.toInt (eA_c (j := 5516) (hF133.2.1 234 rfl))
    have f189 := congrArg Int32.toInt (eA_c (j := 5511) (hF133.2.1 234 rfl))
    have f190 := congrArg Int32.toInt (eA_c (j := 5512) (hF133.2.1 234 rfl))
    have f191 := congrArg Int32.toInt (eA_c (j := 5513) (hF133.2.1 234 rfl))
    have f192 := congrArg Int32.toInt (eA_c (j := 0) (hF133.2.1 235 rfl))
    have f193 := congrArg Int32.toInt (eA_c (j := 1) (hF133.2.1 235 rfl))
    have f194 := congrArg Int32.toInt (hF133.1 231 8 rfl)
    have f195 := congrArg Int32.toInt (hF133.1 231 6 rfl)
    have f196 := congrArg Int32.toInt (hF133.1 231 13 rfl)
    refine At.enter rfl ?_
    refine r_pop rfl ?_
    refine r_aload_n e2 ?_
    refine r_sload_n e0 ?_
    refine r_iload_n e3 ?_
    refine r_iconst 1 rfl ?_
    refine q_iadd (i.toInt + 1) rfl hx_1 (fun v197 hv197 => ?_)
    refine q_scald (m := L) hL (i.toInt + 1) hv197 hy_1 (fun v198 hv198 => ?_)
    have sv198 := hv2.symm.trans hv198
    subst sv198
    have n199_e : v2.toInt = 1 := by omega
    have n199_0 : v2.toInt ≠ 0 := by omega
    refine r_callV 1267 rfl [.ref 231, .int v2] [] (Nat.le_of_ble_eq_true rfl) rfl (T_X11_image_231 _ hI132 v2) ?_
    rintro _ _ ⟨g200, rfl, hI201, hF202, v203, rfl, hr204⟩
    refine At.sti ?_
    have hF205 := Fr.tr hF136 hF202 rfl rfl
    obtain ⟨q207, q208, q209, q210⟩ := hr204
    obtain ⟨p211, p212, p213, p214, p215, p216⟩ := (And.intro q207 q208)
    have w217 := p213 n199_0
    have w218 := p214 n199_e
    clear p212 p213 p214 p215 p216
    clear q208
    have f220 := congrArg Int32.toInt (hF202.1 1 0 rfl)
    have f221 := congrArg Int32.toInt (hF202.1 1 12 rfl)
    have f222 := congrArg Int32.toInt (hF202.1 1 10 rfl)
    have f223 := congrArg Int32.toInt (hF202.1 1 11 rfl)
    have f224 := congrArg Int32.toInt (hF202.1 1 4 rfl)
    have f225 := congrArg Int32.toInt (hF202.1 1 6 rfl)
    have f226 := congrArg Int32.toInt (hF202.1 1 9 rfl)
    have f227 := congrArg Int32.toInt (hF202.1 59 0 rfl)
    have f228 := congrArg Int32.toInt (hF202.1 59 12 rfl)
    have f229 := congrArg Int32.toInt (hF202.1 59 10 rfl)
    have f230 := congrArg Int32.toInt (hF202.1 59 11 rfl)
    have f231 := congrArg Int32.toInt (hF202.1 59 4 rfl)
    have f232 := congrArg Int32.toInt (hF202.1 59 6 rfl)
    have f233 := congrArg Int32.toInt (hF202.1 59 9 rfl)
    have f234 := congrArg Int32.toInt (hF202.1 116 0 rfl)
    have f235 := congrArg Int32.toInt (hF202.1 116 12 rfl)
    have f236 := congrArg Int32.toInt (hF202.1 116 10 rfl)
    have f237 := congrArg Int32.toInt (hF202.1 116 11 rfl)
    have f238 := congrArg Int32.toInt (hF202.1 116 4 rfl)
    have f239 := congrArg Int32.toInt (hF202.1 116 6 rfl)
    have f240 := congrArg Int32.toInt (hF202.1 116 9 rfl)
    have f241 := congrArg Int32.toInt (eA_c (j := 0) (hF202.2.1 173 rfl))
    have f242 := congrArg Int32.toInt (eA_c (j := 1) (hF202.2.1 173 rfl))
    have f243 := congrArg Int32.toInt (hF202.1 174 1 rfl)
    have f244 := congrArg Int32.toInt (hF202.1 0 16 rfl)
    have f245 := congrArg Int32.toInt (hF202.1 176 2 rfl)
    have f246 := congrArg Int32.toInt (eA_c (j := 0) (hF202.2.1 233 rfl))
    have f247 := congrArg Int32.toInt (eA_c (j := 4) (hF202.2.1 233 rfl))
    have f248 := congrArg Int32.toInt (eA_c (j := 5) (hF202.2.1 233 rfl))
    have f249 := congrArg Int32.toInt (eA_c (j := 6) (hF202.2.1 233 rfl))
    have f250 := congrArg Int32.toInt (eA_c (j := 1) (hF202.2.1 233 rfl))
    have f251 := congrArg Int32.toInt (eA_c (j := 2) (hF202.2.1 233 rfl))
    have f252 := congrArg Int32.toInt (eA_c (j := 3) (hF202.2.1 233 rfl))
    have f253 := congrArg Int32.toInt (hF202.1 231 8 rfl)
    have f254 := congrArg Int32.toInt (hF202.1 231 6 rfl)
    have f255 := congrArg Int32.toInt (hF202.1 231 13 rfl)
    refine At.enter rfl ?_
    refine r_pop rfl ?_
    refine r_goto ?_
    exact K _ hI201 (show LwR _ from ⟨(congrArg Int32.toInt (((hF202.1 1 0 (by decide)).trans (hF133.1 1 0 (by decide))))).trans (hR_0.trans (eA_ti (j := 0) (((hF202.2.1 233 (by decide)).trans (hF133.2.1 233 (by decide))))).symm), (congrArg Int32.toInt (((hF202.1 1 12 (by decide)).trans (hF133.1 1 12 (by decide))))).trans (hR_1.trans (eA_ti (j := 4) (((hF202.2.1 233 (by decide)).trans (hF133.2.1 233 (by decide))))).symm), (congrArg Int32.toInt (((hF202.1 1 10 (by decide)).trans (hF133.1 1 10 (by decide))))).trans (hR_2.trans (eA_ti (j := 5) (((hF202.2.1 233 (by decide)).trans (hF133.2.1 233 (by decide))))).symm), (congrArg Int32.toInt (((hF202.1 1 11 (by decide)).trans (hF133.1 1 11 (by decide))))).trans (hR_3.trans (eA_ti (j := 6) (((hF202.2.1 233 (by decide)).trans (hF133.2.1 233 (by decide))))).symm), (congrArg Int32.toInt (((hF202.1 1 4 (by decide)).trans (hF133.1 1 4 (by decide))))).trans (hR_4.trans (eA_ti (j := 1) (((hF202.2.1 233 (by decide)).trans (hF133.2.1 233 (by decide))))).symm), (congrArg Int32.toInt (((hF202.1 1 6 (by decide)).trans (hF133.1 1 6 (by decide))))).trans (hR_5.trans (eA_ti (j := 2) (((hF202.2.1 233 (by decide)).trans (hF133.2.1 233 (by decide))))).symm), (congrArg Int32.toInt (((hF202.1 1 9 (by decide)).trans (hF133.1 1 9 (by decide))))).trans (hR_6.trans (eA_ti (j := 3) (((hF202.2.1 233 (by decide)).trans (hF133.2.1 233 (by decide))))).symm), by omega, by omega, (congrArg Int32.toInt (((hF202.1 174 1 (by decide)).trans (hF133.1 174 1 (by decide))))).trans (hR_9.trans (congrArg Int32.toInt (((hF202.1 231 8 (by decide)).trans (hF133.1 231 8 (by decide))))).symm), (congrArg Int32.toInt (((hF202.1 0 16 (by decide)).trans (hF133.1 0 16 (by decide))))).trans (hR_10.trans (congrArg Int32.toInt (((hF202.1 231 6 (by decide)).trans (hF133.1 231 6 (by decide))))).symm), (congrArg Int32.toInt (((hF202.1 176 2 (by decide)).trans (hF133.1 176 2 (by decide))))).trans (hR_11.trans (congrArg Int32.toInt (((hF202.1 231 13 (by decide)).trans (hF133.1 231 13 (by decide))))).symm), IM0.cong hR_12 (by omega) (by omega) (by omega) (by omega) (by omega) (by omega) (by omega) (by omega) (by omega) (by omega) (by omega) (by omega) (by omega) (by omega) (by omega), (fun _ => ⟨by omega, by omega, by omega, by omega, by omega, by omega, by omega⟩), CT.cong hR_14 (((hF202.2.1 2 (by decide)).trans (hF133.2.1 2 (by decide)))) (((hF202.2.1 3 (by decide)).trans (hF133.2.1 3 (by decide)))) (((hF202.2.1 4 (by decide)).trans (hF133.2.1 4 (by decide)))) (((hF202.2.1 14 (by decide)).trans (hF133.2.1 14 (by decide)))) (((hF202.2.1 15 (by decide)).trans (hF133.2.1 15 (by decide)))) (((hF202.2.1 5 (by decide)).trans (hF133.2.1 5 (by decide)))) (((hF202.2.1 233 (by decide)).trans (hF133.2.1 233 (by decide)))) (congrArg Int32.toInt (((hF202.1 1 4 (by decide)).trans (hF133.1 1 4 (by decide))))), (show CI0 _ from ⟨fun i i0 i1 => ⟨(by have t0_ := hI0.t0; have t1_ := hI0.t1; have o := (hR_15.1 i i0 i1).1; have o2 := (hR_14.1 i i0 i1).1; have x := (eA_ti (j := i) (hF202.2.1 60 (by decide))).trans (q140 i i0 i1); have m := q209 (10 + 3 * i) (by omega) (by omega); have y1 := eA_ti (j := ((10 + 3 * i))) (hF133.2.1 233 (by decide)); have y2 := eA_ti (j := ((10 + 3 * i))) (hF133.2.1 234 (by decide)); (try split at x) <;> (try split at m) <;> omega), (by have t0_ := hI0.t0; have t1_ := hI0.t1; have o := (hR_15.1 i i0 i1).2.1; have o2 := (hR_14.1 i i0 i1).2.1; have x := (eA_ti (j := i) (hF202.2.1 61 (by decide))).trans (q141 i i0 i1); have m := q209 (10 + 3 * i + 1) (by omega) (by omega); have y1 := eA_ti (j := ((10 + 3 * i + 1))) (hF133.2.1 233 (by decide)); have y2 := eA_ti (j := ((10 + 3 * i + 1))) (hF133.2.1 234 (by decide)); (try split at x) <;> (try split at m) <;> omega), (by have t0_ := hI0.t0; have t1_ := hI0.t1; have o := (hR_15.1 i i0 i1).2.2; have o2 := (hR_14.1 i i0 i1).2.2; have x := (eA_ti (j := i) (hF202.2.1 62 (by decide))).trans (q142 i i0 i1); have m := q209 (10 + 3 * i + 2) (by omega) (by omega); have y1 := eA_ti (j := ((10 + 3 * i + 2))) (hF133.2.1 233 (by decide)); have y2 := eA_ti (j := ((10 + 3 * i + 2))) (hF133.2.1 234 (by decide)); (try split at x) <;> (try split at m) <;> omega)⟩, fun i i0 i1 => ⟨(by have t0_ := hI0.t0; have t1_ := hI0.t1; have o := (hR_15.2.1 i i0 i1).1; have o2 := (hR_14.2.1 i i0 i1).1; have x := (eA_ti (j := i) (hF202.2.1 72 (by decide))).trans (q143 i i0 i1); have m := q209 (94 + 2 * i) (by omega) (by omega); have y1 := eA_ti (j := ((94 + 2 * i))) (hF133.2.1 233 (by decide)); have y2 := eA_ti (j := ((94 + 2 * i))) (hF133.2.1 234 (by decide)); (try split at x) <;> (try split at m) <;> omega), (by have t0_ := hI0.t0; have t1_ := hI0.t1; have o := (hR_15.2.1 i i0 i1).2; have o2 := (hR_14.2.1 i i0 i1).2; have x := (eA_ti (j := i) (hF202.2.1 73 (by decide))).trans (q144 i i0 i1); have m := q209 (94 + 2 * i + 1) (by omega) (by omega); have y1 := eA_ti (j := ((94 + 2 * i + 1))) (hF133.2.1 233 (by decide)); have y2 := eA_ti (j := ((94 + 2 * i + 1))) (hF133.2.1 234 (by decide)); (try split at x) <;> (try split at m) <;> omega)⟩, fun i i0 i1 => (by have t0_ := hI0.t0; have t1_ := hI0.t1; have o : i < 6 * (gI g0 59 4).toInt → _ := fun hz => hR_15.2.2 i i0 hz; have o2 : i < 6 * (gI g0 1 4).toInt → _ := fun hz => hR_14.2.2 i i0 hz; have t9_ := RgF.at hI201.2.1 (p := 59) (b := 4) rfl; dsimp only at t9_; have i9_ : i < 48 := (by omega); have x := (eA_ti (j := i) (hF202.2.1 63 (by decide))).trans (q150 i i0 i9_); have m := q209 (46 + i) (by omega) (by omega); have y1 := eA_ti (j := ((46 + i))) (hF133.2.1 233 (by decide)); have y2 := eA_ti (j := ((46 + i))) (hF133.2.1 234 (by decide)); (try split at x) <;> (try split at m) <;> omega)⟩), (show CI1 _ from ⟨fun i i0 i1 => ⟨(by have t0_ := hI0.t0; have t1_ := hI0.t1; have o := (hR_16.1 i i0 i1).1; have o2 := (hR_14.1 i i0 i1).1; have x := (eA_ti (j := i) (hF202.2.1 117 (by decide))).trans (q145 i i0 i1); have m := q210 (10 + 3 * i) (by omega) (by omega); have y1 := eA_ti (j := ((10 + 3 * i))) (hF133.2.1 233 (by decide)); have y2 := eA_ti (j := (5510 + ((10 + 3 * i)))) (hF133.2.1 234 (by decide)); (try split at x) <;> (try split at m) <;> omega), (by have t0_ := hI0.t0; have t1_ := hI0.t1; have o := (hR_16.1 i i0 i1).2.1; have o2 := (hR_14.1 i i0 i1).2.1; have x := (eA_ti (j := i) (hF202.2.1 118 (by decide))).trans (q146 i i0 i1); have m := q210 (10 + 3 * i + 1) (by omega) (by omega); have y1 := eA_ti (j := ((10 + 3 * i + 1))) (hF133.2.1 233 (by decide)); have y2 := eA_ti (j := (5510 + ((10 + 3 * i + 1)))) (hF133.2.1 234 (by decide)); (try split at x) <;> (try split at m) <;> omega), (by have t0_ := hI0.t0; have t1_ := hI0.t1; have o := (hR_16.1 i i0 i1).2.2; have o2 := (hR_14.1 i i0 i1).2.2; have x := (eA_ti (j := i) (hF202.2.1 119 (by decide))).trans (q147 i i0 i1); have m := q210 (10 + 3 * i + 2) (by omega) (by omega); have y1 := eA_ti (j := ((10 + 3 * i + 2))) (hF133.2.1 233 (by decide)); have y2 := eA_ti (j := (5510 + ((10 + 3 * i + 2)))) (hF133.2.1 234 (by decide)); (try split at x) <;> (try split at m) <;> omega)⟩, fun i i0 i1 => ⟨(by have t0_ := hI0.t0; have t1_ := hI0.t1; have o := (hR_16.2.1 i i0 i1).1; have o2 := (hR_14.2.1 i i0 i1).1; have x := (eA_ti (j := i) (hF202.2.1 129 (by decide))).trans (q148 i i0 i1); have m := q210 (94 + 2 * i) (by omega) (by omega); have y1 := eA_ti (j := ((94 + 2 * i))) (hF133.2.1 233 (by decide)); have y2 := eA_ti (j := (5510 + ((94 + 2 * i)))) (hF133.2.1 234 (by decide)); (try split at x) <;> (try split at m) <;> omega), (by have t0_ := hI0.t0; have t1_ := hI0.t1; have o := (hR_16.2.1 i i0 i1).2; have o2 := (hR_14.2.1 i i0 i1).2; have x := (eA_ti (j := i) (hF202.2.1 130 (by decide))).trans (q149 i i0 i1); have m := q210 (94 + 2 * i + 1) (by omega) (by omega); have y1 := eA_ti (j := ((94 + 2 * i + 1))) (hF133.2.1 233 (by decide)); have y2 := eA_ti (j := (5510 + ((94 + 2 * i + 1)))) (hF133.2.1 234 (by decide)); (try split at x) <;> (try split at m) <;> omega)⟩, fun i i0 i1 => (by have t0_ := hI0.t0; have t1_ := hI0.t1; have o : i < 6 * (gI g0 116 4).toInt → _ := fun hz => hR_16.2.2 i i0 hz; have o2 : i < 6 * (gI g0 1 4).toInt → _ := fun hz => hR_14.2.2 i i0 hz; have t9_ := RgF.at hI201.2.1 (p := 116) (b := 4) rfl; dsimp only at t9_; have i9_ : i < 48 := (by omega); have x := (eA_ti (j := i) (hF202.2.1 120 (by decide))).trans (q151 i i0 i9_); have m := q210 (46 + i) (by omega) (by omega); have y1 := eA_ti (j := ((46 + i))) (hF133.2.1 233 (by decide)); have y2 := eA_ti (j := (5510 + ((46 + i)))) (hF133.2.1 234 (by decide)); (try split at x) <;> (try split at m) <;> omega)⟩), (show RT _ from fun i i0 i1 => (eA_ti (((hF202.2.1 175 (by decide)).trans (hF133.2.1 175 (by decide))))).trans ((hR_17 i i0 (by omega)).trans (eA_ti (((hF202.2.1 236 (by decide)).trans (hF133.2.1 236 (by decide))))).symm)), (show BYX _ from fun i i0 i1 => by rw [TX.c (((hF202.2.1 175 (by decide)).trans (hF133.2.1 175 (by decide))))]; exact hR_18 i i0 (by have i2 : i < (gI _ 174 1).toInt := i1; show i < (gI g0 174 1).toInt; omega)), (LAWR_image (c := 1) hR_19 (TOLDX_fr hF202 rfl rfl rfl rfl (TOLDX_s (hF133.2.1 2 (by decide)) (hF133.2.1 3 (by decide)) (hF133.2.1 5 (by decide)) (hF133.1 1 0 (by decide)) (hF133.1 1 4 (by decide)) (hF133.1 1 9 (by decide)) (hF133.1 223 5 (by decide)) (hF133.1 223 6 (by decide)) (hF133.2.1 226 (by decide)) (LSM_img (Or.inr rfl) (fe137.2.1 n130_e)) hR_19.2.2.2.2)) (((hF202.1 1 6 (by decide)).trans (hF133.1 1 6 (by decide)))) (fun i i0 i1 => eA_ti (((hF202.2.1 233 (by decide)).trans (hF133.2.1 233 (by decide))))) (Or.inr ⟨rfl, (BCI_c (fe137.2.1 n130_e) (LSA_fr hF202 rfl) (Or.inr (Or.inr rfl))), i32e (by omega), i32e (by omega), i32e (by omega), (fun i i0 i1 => ((RW_p q210 n199_e) i i0 i1).trans (eA_ti (hF133.2.1 233 (by decide)))), (fun i i0 i1 => ((RW_n q209 n199_0) i i0 i1).trans (eA_ti (hF133.2.1 234 (by decide))))⟩)), (SETX_fr hF202 rfl rfl rfl rfl rfl (SETX_s (hF133.2.1 2 (by decide)) (hF133.2.1 3 (by decide)) (hF133.2.1 5 (by decide)) (hF133.1 1 0 (by decide)) (hF133.1 1 4 (by decide)) (hF133.1 1 9 (by decide)) (LSM_img (Or.inr rfl) (fe137.2.1 n130_e)) (hF133.2.1 4 (by decide)) (hF133.1 223 10 (by decide)) (hF133.1 223 11 (by decide)) (hF133.2.1 227 (by decide)) hR_20))⟩)
  · have n256_e : (v2.toInt < 0 ∨ 1 < v2.toInt) := by omega
    have n256_0 : v2.toInt ≠ 0 := by omega
    have n256_1 : v2.toInt ≠ 1 := by omega
    refine r_callV 1257 rfl [.ref 0, .int v2] [] (Nat.le_of_ble_eq_true rfl) rfl (T_X10_image_0 _ hI0 v2) ?_
    rintro _ _ ⟨g257, rfl, hI258, hF259, v260, rfl, hr261⟩
    refine At.sti ?_
    have hF262 := Fr.tr hF0 hF259 rfl rfl
    have fe263 : PH _ := hr261.2.2
    replace hr261 := And.intro hr261.1 hr261.2.1
    obtain ⟨q264, q265, q266, q267, q268, q269, q270, q271, q272, q273, q274, q275, q276, q277⟩ := hr261
    obtain ⟨p278, p279, p280, p281, p282, p283⟩ := (And.intro q264 q265)
    have w284 := p283 n256_e
    have w285 := p280 n256_0
    have w286 := p282 n256_1
    clear p279 p280 p281 p282 p283
    clear q265
    have f287 := congrArg Int32.toInt (hF259.1 1 0 rfl)
    have f288 := congrArg Int32.toInt (hF259.1 1 12 rfl)
    have f289 := congrArg Int32.toInt (hF259.1 1 10 rfl)
    have f290 := congrArg Int32.toInt (hF259.1 1 11 rfl)
    have f291 := congrArg Int32.toInt (hF259.1 1 4 rfl)
    have f292 := congrArg Int32.toInt (hF259.1 1 6 rfl)
    have f293 := congrArg Int32.toInt (hF259.1 1 9 rfl)
    have f294 := congrArg Int32.toInt (hF259.1 174 1 rfl)
    have f295 := congrArg Int32.toInt (hF259.1 0 16 rfl)
    have f296 := congrArg Int32.toInt (hF259.1 176 2 rfl)
    have f297 := congrArg Int32.toInt (eA_c (j := 0) (hF259.2.1 233 rfl))
    have f298 := congrArg Int32.toInt (eA_c (j := 4) (hF259.2.1 233 rfl))
    have f299 := congrArg Int32.toInt (eA_c (j := 5) (hF259.2.1 233 rfl))
    have f300 := congrArg Int32.toInt (eA_c (j := 6) (hF259.2.1 233 rfl))
    have f301 := congrArg Int32.toInt (eA_c (j := 1) (hF259.2.1 233 rfl))
    have f302 := congrArg Int32.toInt (eA_c (j := 2) (hF259.2.1 233 rfl))
    have f303 := congrArg Int32.toInt (eA_c (j := 3) (hF259.2.1 233 rfl))
    have f304 := congrArg Int32.toInt (eA_c (j := 0) (hF259.2.1 234 rfl))
    have f305 := congrArg Int32.toInt (eA_c (j := 4) (hF259.2.1 234 rfl))
    have f306 := congrArg Int32.toInt (eA_c (j := 5) (hF259.2.1 234 rfl))
    have f307 := congrArg Int32.toInt (eA_c (j := 6) (hF259.2.1 234 rfl))
    have f308 := congrArg Int32.toInt (eA_c (j := 1) (hF259.2.1 234 rfl))
    have f309 := congrArg Int32.toInt (eA_c (j := 2) (hF259.2.1 234 rfl))
    have f310 := congrArg Int32.toInt (eA_c (j := 3) (hF259.2.1 234 rfl))
    have f311 := congrArg Int32.toInt (eA_c (j := 5510) (hF259.2.1 234 rfl))
    have f312 := congrArg Int32.toInt (eA_c (j := 5514) (hF259.2.1 234 rfl))
    have f313 := congrArg Int32.toInt (eA_c (j := 5515) (hF259.2.1 234 rfl))
    have f314 := congrArg Int32.toInt (eA_c (j := 5516) (hF259.2.1 234 rfl))
    have f315 := congrArg Int32.toInt (eA_c (j := 5511) (hF259.2.1 234 rfl))
    have f316 := congrArg Int32.toInt (eA_c (j := 5512) (hF259.2.1 234 rfl))
    have f317 := congrArg Int32.toInt (eA_c (j := 5513) (hF259.2.1 234 rfl))
    have f318 := congrArg Int32.toInt (eA_c (j := 0) (hF259.2.1 235 rfl))
    have f319 := congrArg Int32.toInt (eA_c (j := 1) (hF259.2.1 235 rfl))
    have f320 := congrArg Int32.toInt (hF259.1 231 8 rfl)
    have f321 := congrArg Int32.toInt (hF259.1 231 6 rfl)
    have f322 := congrArg Int32.toInt (hF259.1 231 13 rfl)
    refine At.enter rfl ?_
    refine r_pop rfl ?_
    refine r_aload_n e2 ?_
    refine r_sload_n e0 ?_
    refine r_iload_n e3 ?_
    refine r_iconst 1 rfl ?_
    refine q_iadd (i.toInt + 1) rfl hx_1 (fun v323 hv323 => ?_)
    refine q_scald (m := L) hL (i.toInt + 1) hv323 hy_1 (fun v324 hv324 => ?_)
    have sv324 := hv2.symm.trans hv324
    subst sv324
    have n325_e : (v2.toInt < 0 ∨ 1 < v2.toInt) := by omega
    have n325_0 : v2.toInt ≠ 0 := by omega
    have n325_1 : v2.toInt ≠ 1 := by omega
    refine r_callV 1267 rfl [.ref 231, .int v2] [] (Nat.le_of_ble_eq_true rfl) rfl (T_X11_image_231 _ hI258 v2) ?_
    rintro _ _ ⟨g326, rfl, hI327, hF328, v329, rfl, hr330⟩
    refine At.sti ?_
    have hF331 := Fr.tr hF262 hF328 rfl rfl
    obtain ⟨q333, q334, q335, q336⟩ := hr330
    obtain ⟨p337, p338, p339, p340, p341, p342⟩ := (And.intro q333 q334)
    have w343 := p342 n325_e
    have w344 := p339 n325_0
    have w345 := p341 n325_1
    clear p338 p339 p340 p341 p342
    clear q334
    have f346 := congrArg Int32.toInt (hF328.1 1 0 rfl)
    have f347 := congrArg Int32.toInt (hF328.1 1 12 rfl)
    have f348 := congrArg Int32.toInt (hF328.1 1 10 rfl)
    have f349 := congrArg Int32.toInt (hF328.1 1 11 rfl)
    have f350 := congrArg Int32.toInt (hF328.1 1 4 rfl)
    have f351 := congrArg Int32.toInt (hF328.1 1 6 rfl)
    have f352 := congrArg Int32.toInt (hF328.1 1 9 rfl)
    have f353 := congrArg Int32.toInt (hF328.1 59 0 rfl)
    have f354 := congrArg Int32.toInt (hF328.1 59 12 rfl)
    have f355 := congrArg Int32.toInt (hF328.1 59 10 rfl)
    have f356 := congrArg Int32.toInt (hF328.1 59 11 rfl)
    have f357 := congrArg Int32.toInt (hF328.1 59 4 rfl)
    have f358 := congrArg Int32.toInt (hF328.1 59 6 rfl)
    have f359 := congrArg Int32.toInt (hF328.1 59 9 rfl)
    have f360 := congrArg Int32.toInt (hF328.1 116 0 rfl)
    have f361 := congrArg Int32.toInt (hF328.1 116 12 rfl)
    have f362 := congrArg Int32.toInt (hF328.1 116 10 rfl)
    have f363 := congrArg Int32.toInt (hF328.1 116 11 rfl)
    have f364 := congrArg Int32.toInt (hF328.1 116 4 rfl)
    have f365 := congrArg Int32.toInt (hF328.1 116 6 rfl)
    have f366 := congrArg Int32.toInt (hF328.1 116 9 rfl)
    have f367 := congrArg Int32.toInt (eA_c (j := 0) (hF328.2.1 173 rfl))
    have f368 := congrArg Int32.toInt (eA_c (j := 1) (hF328.2.1 173 rfl))
    have f369 := congrArg Int32.toInt (hF328.1 174 1 rfl)
    have f370 := congrArg Int32.toInt (hF328.1 0 16 rfl)
    have f371 := congrArg Int32.toInt (hF328.1 176 2 rfl)
    have f372 := congrArg Int32.toInt (eA_c (j := 0) (hF328.2.1 233 rfl))
    have f373 := congrArg Int32.toInt (eA_c (j := 4) (hF328.2.1 233 rfl))
    have f374 := congrArg Int32.toInt (eA_c (j := 5) (hF328.2.1 233 rfl))
    have f375 := congrArg Int32.toInt (eA_c (j := 6) (hF328.2.1 233 rfl))
    have f376 := congrArg Int32.toInt (eA_c (j := 1) (hF328.2.1 233 rfl))
    have f377 := congrArg Int32.toInt (eA_c (j := 2) (hF328.2.1 233 rfl))
    have f378 := congrArg Int32.toInt (eA_c (j := 3) (hF328.2.1 233 rfl))
    have f379 := congrArg Int32.toInt (hF328.1 231 8 rfl)
    have f380 := congrArg Int32.toInt (hF328.1 231 6 rfl)
    have f381 := congrArg Int32.toInt (hF328.1 231 13 rfl)
    refine At.enter rfl ?_
    refine r_pop rfl ?_
    refine r_goto ?_
    exact K _ hI327 (show LwR _ from ⟨(congrArg Int32.toInt (((hF328.1 1 0 (by decide)).trans (hF259.1 1 0 (by decide))))).trans (hR_0.trans (eA_ti (j := 0) (((hF328.2.1 233 (by decide)).trans (hF259.2.1 233 (by decide))))).symm), (congrArg Int32.toInt (((hF328.1 1 12 (by decide)).trans (hF259.1 1 12 (by decide))))).trans (hR_1.trans (eA_ti (j := 4) (((hF328.2.1 233 (by decide)).trans (hF259.2.1 233 (by decide))))).symm), (congrArg Int32.toInt (((hF328.1 1 10 (by decide)).trans (hF259.1 1 10 (by decide))))).trans (hR_2.trans (eA_ti (j := 5) (((hF328.2.1 233 (by decide)).trans (hF259.2.1 233 (by decide))))).symm), (congrArg Int32.toInt (((hF328.1 1 11 (by decide)).trans (hF259.1 1 11 (by decide))))).trans (hR_3.trans (eA_ti (j := 6) (((hF328.2.1 233 (by decide)).trans (hF259.2.1 233 (by decide))))).symm), (congrArg Int32.toInt (((hF328.1 1 4 (by decide)).trans (hF259.1 1 4 (by decide))))).trans (hR_4.trans (eA_ti (j := 1) (((hF328.2.1 233 (by decide)).trans (hF259.2.1 233 (by decide))))).symm), (congrArg Int32.toInt (((hF328.1 1 6 (by decide)).trans (hF259.1 1 6 (by decide))))).trans (hR_5.trans (eA_ti (j := 2) (((hF328.2.1 233 (by decide)).trans (hF259.2.1 233 (by decide))))).symm), (congrArg Int32.toInt (((hF328.1 1 9 (by decide)).trans (hF259.1 1 9 (by decide))))).trans (hR_6.trans (eA_ti (j := 3) (((hF328.2.1 233 (by decide)).trans (hF259.2.1 233 (by decide))))).symm), by omega, by omega, (congrArg Int32.toInt (((hF328.1 174 1 (by decide)).trans (hF259.1 174 1 (by decide))))).trans (hR_9.trans (congrArg Int32.toInt (((hF328.1 231 8 (by decide)).trans (hF259.1 231 8 (by decide))))).symm), (congrArg Int32.toInt (((hF328.1 0 16 (by decide)).trans (hF259.1 0 16 (by decide))))).trans (hR_10.trans (congrArg Int32.toInt (((hF328.1 231 6 (by decide)).trans (hF259.1 231 6 (by decide))))).symm), (congrArg Int32.toInt (((hF328.1 176 2 (by decide)).trans (hF259.1 176 2 (by decide))))).trans (hR_11.trans (congrArg Int32.toInt (((hF328.1 231 13 (by decide)).trans (hF259.1 231 13 (by decide))))).symm), IM0.cong hR_12 (by omega) (by omega) (by omega) (by omega) (by omega) (by omega) (by omega) (by omega) (by omega) (by omega) (by omega) (by omega) (by omega) (by omega) (by omega), IM1.cong hR_13 (by omega) (by omega) (by omega) (by omega) (by omega) (by omega) (by omega) (by omega) (by omega) (by omega) (by omega) (by omega) (by omega) (by omega) (by omega), CT.cong hR_14 (((hF328.2.1 2 (by decide)).trans (hF259.2.1 2 (by decide)))) (((hF328.2.1 3 (by decide)).trans (hF259.2.1 3 (by decide)))) (((hF328.2.1 4 (by decide)).trans (hF259.2.1 4 (by decide)))) (((hF328.2.1 14 (by decide)).trans (hF259.2.1 14 (by decide)))) (((hF328.2.1 15 (by decide)).trans (hF259.2.1 15 (by decide)))) (((hF328.2.1 5 (by decide)).trans (hF259.2.1 5 (by decide)))) (((hF328.2.1 233 (by decide)).trans (hF259.2.1 233 (by decide)))) (congrArg Int32.toInt (((hF328.1 1 4 (by decide)).trans (hF259.1 1 4 (by decide))))), (show CI0 _ from ⟨fun i i0 i1 => ⟨(by have t0_ := hI0.t0; have t1_ := hI0.t1; have o := (hR_15.1 i i0 i1).1; have o2 := (hR_14.1 i i0 i1).1; have x := (eA_ti (j := i) (hF328.2.1 60 (by decide))).trans (q266 i i0 i1); have m := q335 (10 + 3 * i) (by omega) (by omega); have y1 := eA_ti (j := ((10 + 3 * i))) (hF259.2.1 233 (by decide)); have y2 := eA_ti (j := ((10 + 3 * i))) (hF259.2.1 234 (by decide)); (try split at x) <;> (try split at m) <;> omega), (by have t0_ := hI0.t0; have t1_ := hI0.t1; have o := (hR_15.1 i i0 i1).2.1; have o2 := (hR_14.1 i i0 i1).2.1; have x := (eA_ti (j := i) (hF328.2.1 61 (by decide))).trans (q267 i i0 i1); have m := q335 (10 + 3 * i + 1) (by omega) (by omega); have y1 := eA_ti (j := ((10 + 3 * i + 1))) (hF259.2.1 233 (by decide)); have y2 := eA_ti (j := ((10 + 3 * i + 1))) (hF259.2.1 234 (by decide)); (try split at x) <;> (try split at m) <;> omega), (by have t0_ := hI0.t0; have t1_ := hI0.t1; have o := (hR_15.1 i i0 i1).2.2; have o2 := (hR_14.1 i i0 i1).2.2; have x := (eA_ti (j := i) (hF328.2.1 62 (by decide))).trans (q268 i i0 i1); have m := q335 (10 + 3 * i + 2) (by omega) (by omega); have y1 := eA_ti (j := ((10 + 3 * i + 2))) (hF259.2.1 233 (by decide)); have y2 := eA_ti (j := ((10 + 3 * i + 2))) (hF259.2.1 234 (by decide)); (try split at x) <;> (try split at m) <;> omega)⟩, fun i i0 i1 => ⟨(by have t0_ := hI0.t0; have t1_ := hI0.t1; have o := (hR_15.2.1 i i0 i1).1; have o2 := (hR_14.2.1 i i0 i1).1; have x := (eA_ti (j := i) (hF328.2.1 72 (by decide))).trans (q269 i i0 i1); have m := q335 (94 + 2 * i) (by omega) (by omega); have y1 := eA_ti (j := ((94 + 2 * i))) (hF259.2.1 233 (by decide)); have y2 := eA_ti (j := ((94 + 2 * i))) (hF259.2.1 234 (by decide)); (try split at x) <;> (try split at m) <;> omega), (by have t0_ := hI0.t0; have t1_ := hI0.t1; have o := (hR_15.2.1 i i0 i1).2; have o2 := (hR_14.2.1 i i0 i1).2; have x := (eA_ti (j := i) (hF328.2.1 73 (by decide))).trans (q270 i i0 i1); have m := q335 (94 + 2 * i + 1) (by omega) (by omega); have y1 := eA_ti (j := ((94 + 2 * i + 1))) (hF259.2.1 233 (by decide)); have y2 := eA_ti (j := ((94 + 2 * i + 1))) (hF259.2.1 234 (by decide)); (try split at x) <;> (try split at m) <;> omega)⟩, fun i i0 i1 => (by have t0_ := hI0.t0; have t1_ := hI0.t1; have o : i < 6 * (gI g0 59 4).toInt → _ := fun hz => hR_15.2.2 i i0 hz; have o2 : i < 6 * (gI g0 1 4).toInt → _ := fun hz => hR_14.2.2 i i0 hz; have t9_ := RgF.at hI327.2.1 (p := 59) (b := 4) rfl; dsimp only at t9_; have i9_ : i < 48 := (by omega); have x := (eA_ti (j := i) (hF328.2.1 63 (by decide))).trans (q276 i i0 i9_); have m := q335 (46 + i) (by omega) (by omega); have y1 := eA_ti (j := ((46 + i))) (hF259.2.1 233 (by decide)); have y2 := eA_ti (j := ((46 + i))) (hF259.2.1 234 (by decide)); (try split at x) <;> (try split at m) <;> omega)⟩), (show CI1 _ from ⟨fun i i0 i1 => ⟨(by have t0_ := hI0.t0; have t1_ := hI0.t1; have o := (hR_16.1 i i0 i1).1; have o2 := (hR_14.1 i i0 i1).1; have x := (eA_ti (j := i) (hF328.2.1 117 (by decide))).trans (q271 i i0 i1); have m := q336 (10 + 3 * i) (by omega) (by omega); have y1 := eA_ti (j := ((10 + 3 * i))) (hF259.2.1 233 (by decide)); have y2 := eA_ti (j := (5510 + ((10 + 3 * i)))) (hF259.2.1 234 (by decide)); (try split at x) <;> (try split at m) <;> omega), (by have t0_ := hI0.t0; have t1_ := hI0.t1; have o := (hR_16.1 i i0 i1).2.1; have o2 := (hR_14.1 i i0 i1).2.1; have x := (eA_ti (j := i) (hF328.2.1 118 (by decide))).trans (q272 i i0 i1); have m := q336 (10 + 3 * i + 1) (by omega) (by omega); have y1 := eA_ti (j := ((10 + 3 * i + 1))) (hF259.2.1 233 (by decide)); have y2 := eA_ti (j := (5510 + ((10 + 3 * i + 1)))) (hF259.2.1 234 (by decide)); (try split at x) <;> (try split at m) <;> omega), (by have t0_ := hI0.t0; have t1_ := hI0.t1; have o := (hR_16.1 i i0 i1).2.2; have o2 := (hR_14.1 i i0 i1).2.2; have x := (eA_ti (j := i) (hF328.2.1 119 (by decide))).trans (q273 i i0 i1); have m := q336 (10 + 3 * i + 2) (by omega) (by omega); have y1 := eA_ti (j := ((10 + 3 * i + 2))) (hF259.2.1 233 (by decide)); have y2 := eA_ti (j := (5510 + ((10 + 3 * i + 2)))) (hF259.2.1 234 (by decide)); (try split at x) <;> (try split at m) <;> omega)⟩, fun i i0 i1 => ⟨(by have t0_ := hI0.t0; have t1_ := hI0.t1; have o := (hR_16.2.1 i i0 i1).1; have o2 := (hR_14.2.1 i i0 i1).1; have x := (eA_ti (j := i) (hF328.2.1 129 (by decide))).trans (q274 i i0 i1); have m := q336 (94 + 2 * i) (by omega) (by omega); have y1 := eA_ti (j := ((94 + 2 * i))) (hF259.2.1 233 (by decide)); have y2 := eA_ti (j := (5510 + ((94 + 2 * i)))) (hF259.2.1 234 (by decide)); (try split at x) <;> (try split at m) <;> omega), (by have t0_ := hI0.t0; have t1_ := hI0.t1; have o := (hR_16.2.1 i i0 i1).2; have o2 := (hR_14.2.1 i i0 i1).2; have x := (eA_ti (j := i) (hF328.2.1 130 (by decide))).trans (q275 i i0 i1); have m := q336 (94 + 2 * i + 1) (by omega) (by omega); have y1 := eA_ti (j := ((94 + 2 * i + 1))) (hF259.2.1 233 (by decide)); have y2 := eA_ti (j := (5510 + ((94 + 2 * i + 1)))) (hF259.2.1 234 (by decide)); (try split at x) <;> (try split at m) <;> omega)⟩, fun i i0 i1 => (by have t0_ := hI0.t0; have t1_ := hI0.t1; have o : i < 6 * (gI g0 116 4).toInt → _ := fun hz => hR_16.2.2 i i0 hz; have o2 : i < 6 * (gI g0 1 4).toInt → _ := fun hz => hR_14.2.2 i i0 hz; have t9_ := RgF.at hI327.2.1 (p := 116) (b := 4) rfl; dsimp only at t9_; have i9_ : i < 48 := (by omega); have x := (eA_ti (j := i) (hF328.2.1 120 (by decide))).trans (q277 i i0 i9_); have m := q336 (46 + i) (by omega) (by omega); have y1 := eA_ti (j := ((46 + i))) (hF259.2.1 233 (by decide)); have y2 := eA_ti (j := (5510 + ((46 + i)))) (hF259.2.1 234 (by decide)); (try split at x) <;> (try split at m) <;> omega)⟩), (show RT _ from fun i i0 i1 => (eA_ti (((hF328.2.1 175 (by decide)).trans (hF259.2.1 175 (by decide))))).trans ((hR_17 i i0 (by omega)).trans (eA_ti (((hF328.2.1 236 (by decide)).trans (hF259.2.1 236 (by decide))))).symm)), (show BYX _ from fun i i0 i1 => by rw [TX.c (((hF328.2.1 175 (by decide)).trans (hF259.2.1 175 (by decide))))]; exact hR_18 i i0 (by have i2 : i < (gI _ 174 1).toInt := i1; show i < (gI g0 174 1).toInt; omega)), (LAWR_n hR_19 (LSA_tr (fe263.2.2 n256_e) (LSA_fr hF328 rfl)) (by omega) (by omega) (by omega) (by omega) (by omega) (fun i i0 i1 => eA_ti (((hF328.2.1 233 (by decide)).trans (hF259.2.1 233 (by decide))))) (fun i i0 i1 => ⟨((RW_n q335 n325_0) i i0 i1).trans (eA_ti (hF259.2.1 234 (by decide))), ((RW_n q336 n325_1) i i0 i1).trans (eA_ti (hF259.2.1 234 (by decide)))⟩) (TOLDX_fr hF328 rfl rfl rfl rfl (TOLDX_s (hF259.2.1 2 (by decide)) (hF259.2.1 3 (by decide)) (hF259.2.1 5 (by decide)) (hF259.1 1 0 (by decide)) (hF259.1 1 4 (by decide)) (hF259.1 1 9 (by decide)) (hF259.1 223 5 (by decide)) (hF259.1 223 6 (by decide)) (hF259.2.1 226 (by decide)) (fe263.2.2 n256_e _ (QFX_lw g0).1) hR_19.2.2.2.2))), (SETX_fr hF328 rfl rfl rfl rfl rfl (SETX_s (hF259.2.1 2 (by decide)) (hF259.2.1 3 (by decide)) (hF259.2.1 5 (by decide)) (hF259.1 1 0 (by decide)) (hF259.1 1 4 (by decide)) (hF259.1 1 9 (by decide)) (fe263.2.2 n256_e _ (QFX_lw g0).1) (hF259.2.1 4 (by decide)) (hF259.1 223 10 (by decide)) (hF259.1 223 11 (by decide)) (hF259.2.1 227 (by decide)) hR_20))⟩)
