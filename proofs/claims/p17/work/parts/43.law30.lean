set_option maxRecDepth 100000 in
set_option maxHeartbeats 8000000 in
theorem lq_c36 (d : Nat) {N : Nat} {g0 : List en_E} (hI0 : HI g0) (hR0 : LwR g0) {ys : List Int32} {L : Nat} (hL : ys.length = L) (hL2 : L ≤ 3584) {l : en_L} {i : Int32} (e0 : en_get 0 l = some (.float 0)) (e1 : en_get 1 l = some (.ref 0)) (e2 : en_get 2 l = some (.ref 231)) (e3 : en_get 3 l = some (.int i)) (hi : 0 ≤ i.toInt ∧ i.toInt + 7 ≤ L) {Ph : Option Value → en_H → Prop} (K : ∀ g1 : List en_E, HI g1 → LwR g1 → At (d + 423) (some ys) (some .boolean) bs_L_law (1330, l, [], (g1, N)) Ph) : At (d + 423) (some ys) (some .boolean) bs_L_law (1248, l, [], (g0, N)) Ph := by
  have hF0 : Fr F_law A_law g0 g0 := Fr.rf
  have hx_1 : -2147483648 ≤ i.toInt + 1 ∧ i.toInt + 1 ≤ 2147483647 := by omega
  have hx_2 : -2147483648 ≤ i.toInt + 2 ∧ i.toInt + 2 ≤ 2147483647 := by omega
  have hx_3 : -2147483648 ≤ i.toInt + 3 ∧ i.toInt + 3 ≤ 2147483647 := by omega
  have hx_4 : -2147483648 ≤ i.toInt + 4 ∧ i.toInt + 4 ≤ 2147483647 := by omega
  have hx_5 : -2147483648 ≤ i.toInt + 5 ∧ i.toInt + 5 ≤ 2147483647 := by omega
  have hx_6 : -2147483648 ≤ i.toInt + 6 ∧ i.toInt + 6 ≤ 2147483647 := by omega
  have hy_0 : 0 ≤ i.toInt ∧ i.toInt < (L : Int) := by omega
  have hy_1 : 0 ≤ i.toInt + 1 ∧ i.toInt + 1 < (L : Int) := by omega
  have hy_2 : 0 ≤ i.toInt + 2 ∧ i.toInt + 2 < (L : Int) := by omega
  have hy_3 : 0 ≤ i.toInt + 3 ∧ i.toInt + 3 < (L : Int) := by omega
  have hy_4 : 0 ≤ i.toInt + 4 ∧ i.toInt + 4 < (L : Int) := by omega
  have hy_5 : 0 ≤ i.toInt + 5 ∧ i.toInt + 5 < (L : Int) := by omega
  have hy_6 : 0 ≤ i.toInt + 6 ∧ i.toInt + 6 < (L : Int) := by omega
  unfold LwR at hR0
  obtain ⟨hR_0, hR_1, hR_2, hR_3, hR_4, hR_5, hR_6, hR_7, hR_8, hR_9, hR_10, hR_11, hR_12, hR_13, hR_14⟩ := hR0
  refine At.enter rfl ?_
  refine r_aload_n e1 ?_
  refine r_sload_n e0 ?_
  refine r_iload_n e3 ?_
  refine r_iconst 1 rfl ?_
  refine q_iadd (i.toInt + 1) rfl hx_1 (fun v1 hv1 => ?_)
  refine q_scald (m := L) hL (i.toInt + 1) hv1 hy_1 (fun v2 hv2 => ?_)
  rcases (show v2.toInt = 0 ∨ v2.toInt = 1 ∨ (v2.toInt < 0 ∨ 1 < v2.toInt) by omega) with u3 | u3 | u3
  · have n4_e : v2.toInt = 0 := by omega
    have n4_1 : v2.toInt ≠ 1 := by omega
    refine r_callV 1257 rfl [.ref 0, .int v2] [] (Nat.le_of_ble_eq_true rfl) rfl (T_X10_image_0 _ hI0 v2) ?_
    rintro _ _ ⟨g5, rfl, hI6, hF7, v8, rfl, hr9⟩
    refine At.sti ?_
    have hF10 := Fr.tr hF0 hF7 rfl rfl
    obtain ⟨q11, q12, q13, q14, q15, q16, q17, q18, q19, q20, q21, q22, q23, q24⟩ := hr9
    obtain ⟨p25, p26, p27, p28, p29, p30⟩ := (And.intro q11 q12)
    have w31 := p26 n4_e
    have w32 := p29 n4_1
    clear p26 p27 p28 p29 p30
    clear q12
    have f34 := congrArg Int32.toInt (hF7.1 1 0 rfl)
    have f35 := congrArg Int32.toInt (hF7.1 1 12 rfl)
    have f36 := congrArg Int32.toInt (hF7.1 1 10 rfl)
    have f37 := congrArg Int32.toInt (hF7.1 1 11 rfl)
    have f38 := congrArg Int32.toInt (hF7.1 1 4 rfl)
    have f39 := congrArg Int32.toInt (hF7.1 174 1 rfl)
    have f40 := congrArg Int32.toInt (hF7.1 0 16 rfl)
    have f41 := congrArg Int32.toInt (eA_c (j := 0) (hF7.2.1 233 rfl))
    have f42 := congrArg Int32.toInt (eA_c (j := 4) (hF7.2.1 233 rfl))
    have f43 := congrArg Int32.toInt (eA_c (j := 5) (hF7.2.1 233 rfl))
    have f44 := congrArg Int32.toInt (eA_c (j := 6) (hF7.2.1 233 rfl))
    have f45 := congrArg Int32.toInt (eA_c (j := 1) (hF7.2.1 233 rfl))
    have f46 := congrArg Int32.toInt (eA_c (j := 0) (hF7.2.1 234 rfl))
    have f47 := congrArg Int32.toInt (eA_c (j := 4) (hF7.2.1 234 rfl))
    have f48 := congrArg Int32.toInt (eA_c (j := 5) (hF7.2.1 234 rfl))
    have f49 := congrArg Int32.toInt (eA_c (j := 6) (hF7.2.1 234 rfl))
    have f50 := congrArg Int32.toInt (eA_c (j := 1) (hF7.2.1 234 rfl))
    have f51 := congrArg Int32.toInt (eA_c (j := 5510) (hF7.2.1 234 rfl))
    have f52 := congrArg Int32.toInt (eA_c (j := 5514) (hF7.2.1 234 rfl))
    have f53 := congrArg Int32.toInt (eA_c (j := 5515) (hF7.2.1 234 rfl))
    have f54 := congrArg Int32.toInt (eA_c (j := 5516) (hF7.2.1 234 rfl))
    have f55 := congrArg Int32.toInt (eA_c (j := 5511) (hF7.2.1 234 rfl))
    have f56 := congrArg Int32.toInt (eA_c (j := 0) (hF7.2.1 235 rfl))
    have f57 := congrArg Int32.toInt (eA_c (j := 1) (hF7.2.1 235 rfl))
    have f58 := congrArg Int32.toInt (hF7.1 231 8 rfl)
    have f59 := congrArg Int32.toInt (hF7.1 231 6 rfl)
    refine At.enter rfl ?_
    refine r_pop rfl ?_
    refine r_aload_n e2 ?_
    refine r_sload_n e0 ?_
    refine r_iload_n e3 ?_
    refine r_iconst 1 rfl ?_
    refine q_iadd (i.toInt + 1) rfl hx_1 (fun v60 hv60 => ?_)
    refine q_scald (m := L) hL (i.toInt + 1) hv60 hy_1 (fun v61 hv61 => ?_)
    have sv61 := hv2.symm.trans hv61
    subst sv61
    have n62_e : v2.toInt = 0 := by omega
    have n62_1 : v2.toInt ≠ 1 := by omega
    refine r_callV 1267 rfl [.ref 231, .int v2] [] (Nat.le_of_ble_eq_true rfl) rfl (T_X11_image_231 _ hI6 v2) ?_
    rintro _ _ ⟨g63, rfl, hI64, hF65, v66, rfl, hr67⟩
    refine At.sti ?_
    have hF68 := Fr.tr hF10 hF65 rfl rfl
    obtain ⟨q69, q70, q71, q72⟩ := hr67
    obtain ⟨p73, p74, p75, p76, p77, p78⟩ := (And.intro q69 q70)
    have w79 := p74 n62_e
    have w80 := p77 n62_1
    clear p74 p75 p76 p77 p78
    clear q70
    have f82 := congrArg Int32.toInt (hF65.1 1 0 rfl)
    have f83 := congrArg Int32.toInt (hF65.1 1 12 rfl)
    have f84 := congrArg Int32.toInt (hF65.1 1 10 rfl)
    have f85 := congrArg Int32.toInt (hF65.1 1 11 rfl)
    have f86 := congrArg Int32.toInt (hF65.1 1 4 rfl)
    have f87 := congrArg Int32.toInt (hF65.1 59 0 rfl)
    have f88 := congrArg Int32.toInt (hF65.1 59 12 rfl)
    have f89 := congrArg Int32.toInt (hF65.1 59 10 rfl)
    have f90 := congrArg Int32.toInt (hF65.1 59 11 rfl)
    have f91 := congrArg Int32.toInt (hF65.1 59 4 rfl)
    have f92 := congrArg Int32.toInt (hF65.1 116 0 rfl)
    have f93 := congrArg Int32.toInt (hF65.1 116 12 rfl)
    have f94 := congrArg Int32.toInt (hF65.1 116 10 rfl)
    have f95 := congrArg Int32.toInt (hF65.1 116 11 rfl)
    have f96 := congrArg Int32.toInt (hF65.1 116 4 rfl)
    have f97 := congrArg Int32.toInt (eA_c (j := 0) (hF65.2.1 173 rfl))
    have f98 := congrArg Int32.toInt (eA_c (j := 1) (hF65.2.1 173 rfl))
    have f99 := congrArg Int32.toInt (hF65.1 174 1 rfl)
    have f100 := congrArg Int32.toInt (hF65.1 0 16 rfl)
    have f101 := congrArg Int32.toInt (eA_c (j := 0) (hF65.2.1 233 rfl))
    have f102 := congrArg Int32.toInt (eA_c (j := 4) (hF65.2.1 233 rfl))
    have f103 := congrArg Int32.toInt (eA_c (j := 5) (hF65.2.1 233 rfl))
    have f104 := congrArg Int32.toInt (eA_c (j := 6) (hF65.2.1 233 rfl))
    have f105 := congrArg Int32.toInt (eA_c (j := 1) (hF65.2.1 233 rfl))
    have f106 := congrArg Int32.toInt (hF65.1 231 8 rfl)
    have f107 := congrArg Int32.toInt (hF65.1 231 6 rfl)
    refine At.enter rfl ?_
    refine r_pop rfl ?_
    refine r_goto ?_
    exact K _ hI64 (show LwR _ from ⟨(congrArg Int32.toInt (((hF65.1 1 0 (by decide)).trans (hF7.1 1 0 (by decide))))).trans (hR_0.trans (eA_ti (j := 0) (((hF65.2.1 233 (by decide)).trans (hF7.2.1 233 (by decide))))).symm), (congrArg Int32.toInt (((hF65.1 1 12 (by decide)).trans (hF7.1 1 12 (by decide))))).trans (hR_1.trans (eA_ti (j := 4) (((hF65.2.1 233 (by decide)).trans (hF7.2.1 233 (by decide))))).symm), (congrArg Int32.toInt (((hF65.1 1 10 (by decide)).trans (hF7.1 1 10 (by decide))))).trans (hR_2.trans (eA_ti (j := 5) (((hF65.2.1 233 (by decide)).trans (hF7.2.1 233 (by decide))))).symm), (congrArg Int32.toInt (((hF65.1 1 11 (by decide)).trans (hF7.1 1 11 (by decide))))).trans (hR_3.trans (eA_ti (j := 6) (((hF65.2.1 233 (by decide)).trans (hF7.2.1 233 (by decide))))).symm), (congrArg Int32.toInt (((hF65.1 1 4 (by decide)).trans (hF7.1 1 4 (by decide))))).trans (hR_4.trans (eA_ti (j := 1) (((hF65.2.1 233 (by decide)).trans (hF7.2.1 233 (by decide))))).symm), by omega, by omega, (congrArg Int32.toInt (((hF65.1 174 1 (by decide)).trans (hF7.1 174 1 (by decide))))).trans (hR_7.trans (congrArg Int32.toInt (((hF65.1 231 8 (by decide)).trans (hF7.1 231 8 (by decide))))).symm), (congrArg Int32.toInt (((hF65.1 0 16 (by decide)).trans (hF7.1 0 16 (by decide))))).trans (hR_8.trans (congrArg Int32.toInt (((hF65.1 231 6 (by decide)).trans (hF7.1 231 6 (by decide))))).symm), (fun _ => ⟨by omega, by omega, by omega, by omega, by omega⟩), IM1.cong hR_10 (by omega) (by omega) (by omega) (by omega) (by omega) (by omega) (by omega) (by omega) (by omega) (by omega) (by omega), CT.cong hR_11 (((hF65.2.1 2 (by decide)).trans (hF7.2.1 2 (by decide)))) (((hF65.2.1 3 (by decide)).trans (hF7.2.1 3 (by decide)))) (((hF65.2.1 4 (by decide)).trans (hF7.2.1 4 (by decide)))) (((hF65.2.1 14 (by decide)).trans (hF7.2.1 14 (by decide)))) (((hF65.2.1 15 (by decide)).trans (hF7.2.1 15 (by decide)))) (((hF65.2.1 5 (by decide)).trans (hF7.2.1 5 (by decide)))) (((hF65.2.1 233 (by decide)).trans (hF7.2.1 233 (by decide)))) (congrArg Int32.toInt (((hF65.1 1 4 (by decide)).trans (hF7.1 1 4 (by decide))))), (show CI0 _ from ⟨fun i i0 i1 => ⟨(by have t0_ := hI0.t0; have t1_ := hI0.t1; have o := (hR_12.1 i i0 i1).1; have o2 := (hR_11.1 i i0 i1).1; have x := (eA_ti (j := i) (hF65.2.1 60 (by decide))).trans (q13 i i0 i1); have m := q71 (10 + 3 * i) (by omega) (by omega); have y1 := eA_ti (j := ((10 + 3 * i))) (hF7.2.1 233 (by decide)); have y2 := eA_ti (j := ((10 + 3 * i))) (hF7.2.1 234 (by decide)); (try split at x) <;> (try split at m) <;> omega), (by have t0_ := hI0.t0; have t1_ := hI0.t1; have o := (hR_12.1 i i0 i1).2.1; have o2 := (hR_11.1 i i0 i1).2.1; have x := (eA_ti (j := i) (hF65.2.1 61 (by decide))).trans (q14 i i0 i1); have m := q71 (10 + 3 * i + 1) (by omega) (by omega); have y1 := eA_ti (j := ((10 + 3 * i + 1))) (hF7.2.1 233 (by decide)); have y2 := eA_ti (j := ((10 + 3 * i + 1))) (hF7.2.1 234 (by decide)); (try split at x) <;> (try split at m) <;> omega), (by have t0_ := hI0.t0; have t1_ := hI0.t1; have o := (hR_12.1 i i0 i1).2.2; have o2 := (hR_11.1 i i0 i1).2.2; have x := (eA_ti (j := i) (hF65.2.1 62 (by decide))).trans (q15 i i0 i1); have m := q71 (10 + 3 * i + 2) (by omega) (by omega); have y1 := eA_ti (j := ((10 + 3 * i + 2))) (hF7.2.1 233 (by decide)); have y2 := eA_ti (j := ((10 + 3 * i + 2))) (hF7.2.1 234 (by decide)); (try split at x) <;> (try split at m) <;> omega)⟩, fun i i0 i1 => ⟨(by have t0_ := hI0.t0; have t1_ := hI0.t1; have o := (hR_12.2.1 i i0 i1).1; have o2 := (hR_11.2.1 i i0 i1).1; have x := (eA_ti (j := i) (hF65.2.1 72 (by decide))).trans (q16 i i0 i1); have m := q71 (94 + 2 * i) (by omega) (by omega); have y1 := eA_ti (j := ((94 + 2 * i))) (hF7.2.1 233 (by decide)); have y2 := eA_ti (j := ((94 + 2 * i))) (hF7.2.1 234 (by decide)); (try split at x) <;> (try split at m) <;> omega), (by have t0_ := hI0.t0; have t1_ := hI0.t1; have o := (hR_12.2.1 i i0 i1).2; have o2 := (hR_11.2.1 i i0 i1).2; have x := (eA_ti (j := i) (hF65.2.1 73 (by decide))).trans (q17 i i0 i1); have m := q71 (94 + 2 * i + 1) (by omega) (by omega); have y1 := eA_ti (j := ((94 + 2 * i + 1))) (hF7.2.1 233 (by decide)); have y2 := eA_ti (j := ((94 + 2 * i + 1))) (hF7.2.1 234 (by decide)); (try split at x) <;> (try split at m) <;> omega)⟩, fun i i0 i1 => (by have t0_ := hI0.t0; have t1_ := hI0.t1; have o : i < 6 * (gI g0 59 4).toInt → _ := fun hz => hR_12.2.2 i i0 hz; have o2 : i < 6 * (gI g0 1 4).toInt → _ := fun hz => hR_11.2.2 i i0 hz; have t9_ := RgF.at hI64.2.1 (p := 59) (b := 4) rfl; dsimp only at t9_; have i9_ : i < 48 := (by omega); have x := (eA_ti (j := i) (hF65.2.1 63 (by decide))).trans (q23 i i0 i9_); have m := q71 (46 + i) (by omega) (by omega); have y1 := eA_ti (j := ((46 + i))) (hF7.2.1 233 (by decide)); have y2 := eA_ti (j := ((46 + i))) (hF7.2.1 234 (by decide)); (try split at x) <;> (try split at m) <;> omega)⟩), (show CI1 _ from ⟨fun i i0 i1 => ⟨(by have t0_ := hI0.t0; have t1_ := hI0.t1; have o := (hR_13.1 i i0 i1).1; have o2 := (hR_11.1 i i0 i1).1; have x := (eA_ti (j := i) (hF65.2.1 117 (by decide))).trans (q18 i i0 i1); have m := q72 (10 + 3 * i) (by omega) (by omega); have y1 := eA_ti (j := ((10 + 3 * i))) (hF7.2.1 233 (by decide)); have y2 := eA_ti (j := (5510 + ((10 + 3 * i)))) (hF7.2.1 234 (by decide)); (try split at x) <;> (try split at m) <;> omega), (by have t0_ := hI0.t0; have t1_ := hI0.t1; have o := (hR_13.1 i i0 i1).2.1; have o2 := (hR_11.1 i i0 i1).2.1; have x := (eA_ti (j := i) (hF65.2.1 118 (by decide))).trans (q19 i i0 i1); have m := q72 (10 + 3 * i + 1) (by omega) (by omega); have y1 := eA_ti (j := ((10 + 3 * i + 1))) (hF7.2.1 233 (by decide)); have y2 := eA_ti (j := (5510 + ((10 + 3 * i + 1)))) (hF7.2.1 234 (by decide)); (try split at x) <;> (try split at m) <;> omega), (by have t0_ := hI0.t0; have t1_ := hI0.t1; have o := (hR_13.1 i i0 i1).2.2; have o2 := (hR_11.1 i i0 i1).2.2; have x := (eA_ti (j := i) (hF65.2.1 119 (by decide))).trans (q20 i i0 i1); have m := q72 (10 + 3 * i + 2) (by omega) (by omega); have y1 := eA_ti (j := ((10 + 3 * i + 2))) (hF7.2.1 233 (by decide)); have y2 := eA_ti (j := (5510 + ((10 + 3 * i + 2)))) (hF7.2.1 234 (by decide)); (try split at x) <;> (try split at m) <;> omega)⟩, fun i i0 i1 => ⟨(by have t0_ := hI0.t0; have t1_ := hI0.t1; have o := (hR_13.2.1 i i0 i1).1; have o2 := (hR_11.2.1 i i0 i1).1; have x := (eA_ti (j := i) (hF65.2.1 129 (by decide))).trans (q21 i i0 i1); have m := q72 (94 + 2 * i) (by omega) (by omega); have y1 := eA_ti (j := ((94 + 2 * i))) (hF7.2.1 233 (by decide)); have y2 := eA_ti (j := (5510 + ((94 + 2 * i)))) (hF7.2.1 234 (by decide)); (try split at x) <;> (try split at m) <;> omega), (by have t0_ := hI0.t0; have t1_ := hI0.t1; have o := (hR_13.2.1 i i0 i1).2; have o2 := (hR_11.2.1 i i0 i1).2; have x := (eA_ti (j := i) (hF65.2.1 130 (by decide))).trans (q22 i i0 i1); have m := q72 (94 + 2 * i + 1) (by omega) (by omega); have y1 := eA_ti (j := ((94 + 2 * i + 1))) (hF7.2.1 233 (by decide)); have y2 := eA_ti (j := (5510 + ((94 + 2 * i + 1)))) (hF7.2.1 234 (by decide)); (try split at x) <;> (try split at m) <;> omega)⟩, fun i i0 i1 => (by have t0_ := hI0.t0; have t1_ := hI0.t1; have o : i < 6 * (gI g0 116 4).toInt → _ := fun hz => hR_13.2.2 i i0 hz; have o2 : i < 6 * (gI g0 1 4).toInt → _ := fun hz => hR_11.2.2 i i0 hz; have t9_ := RgF.at hI64.2.1 (p := 116) (b := 4) rfl; dsimp only at t9_; have i9_ : i < 48 := (by omega); have x := (eA_ti (j := i) (hF65.2.1 120 (by decide))).trans (q24 i i0 i9_); have m := q72 (46 + i) (by omega) (by omega); have y1 := eA_ti (j := ((46 + i))) (hF7.2.1 233 (by decide)); have y2 := eA_ti (j := (5510 + ((46 + i)))) (hF7.2.1 234 (by decide)); (try split at x) <;> (try split at m) <;> omega)⟩), (show RT _ from fun i i0 i1 => (eA_ti (((hF65.2.1 175 (by decide)).trans (hF7.2.1 175 (by decide))))).trans ((hR_14 i i0 (by omega)).trans (eA_ti (((hF65.2.1 236 (by decide)).trans (hF7.2.1 236 (by decide))))).symm))⟩)
  · have n108_e : v2.toInt = 1 := by omega
    have n108_0 : v2.toInt ≠ 0 := by omega
    refine r_callV 1257 rfl [.ref 0, .int v2] [] (Nat.le_of_ble_eq_true rfl) rfl (T_X10_image_0 _ hI0 v2) ?_
    rintro _ _ ⟨g109, rfl, hI110, hF111, v112, rfl, hr113⟩
    refine At.sti ?_
    have hF114 := Fr.tr hF0 hF111 rfl rfl
    obtain ⟨q115, q116, q117, q118, q119, q120, q121, q122, q123, q124, q125, q126, q127, q128⟩ := hr113
    obtain ⟨p129, p130, p131, p132, p133, p134⟩ := (And.intro q115 q116)
    have w135 := p131 n108_0
    have w136 := p132 n108_e
    clear p130 p131 p132 p133 p134
    clear q116
    have f138 := congrArg Int32.toInt (hF111.1 1 0 rfl)
    have f139 := congrArg Int32.toInt (hF111.1 1 12 rfl)
    have f140 := congrArg Int32.toInt (hF111.1 1 10 rfl)
    have f141 := congrArg Int32.toInt (hF111.1 1 11 rfl)
    have f142 := congrArg Int32.toInt (hF111.1 1 4 rfl)
    have f143 := congrArg Int32.toInt (hF111.1 174 1 rfl)
    have f144 := congrArg Int32.toInt (hF111.1 0 16 rfl)
    have f145 := congrArg Int32.toInt (eA_c (j := 0) (hF111.2.1 233 rfl))
    have f146 := congrArg Int32.toInt (eA_c (j := 4) (hF111.2.1 233 rfl))
    have f147 := congrArg Int32.toInt (eA_c (j := 5) (hF111.2.1 233 rfl))
    have f148 := congrArg Int32.toInt (eA_c (j := 6) (hF111.2.1 233 rfl))
    have f149 := congrArg Int32.toInt (eA_c (j := 1) (hF111.2.1 233 rfl))
    have f150 := congrArg Int32.toInt (eA_c (j := 0) (hF111.2.1 234 rfl))
    have f151 := congrArg Int32.toInt (eA_c (j := 4) (hF111.2.1 234 rfl))
    have f152 := congrArg Int32.toInt (eA_c (j := 5) (hF111.2.1 234 rfl))
    have f153 := congrArg Int32.toInt (eA_c (j := 6) (hF111.2.1 234 rfl))
    have f154 := congrArg Int32.toInt (eA_c (j := 1) (hF111.2.1 234 rfl))
    have f155 := congrArg Int32.toInt (eA_c (j := 5510) (hF111.2.1 234 rfl))
    have f156 := congrArg Int32.toInt (eA_c (j := 5514) (hF111.2.1 234 rfl))
    have f157 := congrArg Int32.toInt (eA_c (j := 5515) (hF111.2.1 234 rfl))
    have f158 := congrArg Int32.toInt (eA_c (j := 5516) (hF111.2.1 234 rfl))
    have f159 := congrArg Int32.toInt (eA_c (j := 5511) (hF111.2.1 234 rfl))
    have f160 := congrArg Int32.toInt (eA_c (j := 0) (hF111.2.1 235 rfl))
    have f161 := congrArg Int32.toInt (eA_c (j := 1) (hF111.2.1 235 rfl))
    have f162 := congrArg Int32.toInt (hF111.1 231 8 rfl)
    have f163 := congrArg Int32.toInt (hF111.1 231 6 rfl)
    refine At.enter rfl ?_
    refine r_pop rfl ?_
    refine r_aload_n e2 ?_
    refine r_sload_n e0 ?_
    refine r_iload_n e3 ?_
    refine r_iconst 1 rfl ?_
    refine q_iadd (i.toInt + 1) rfl hx_1 (fun v164 hv164 => ?_)
    refine q_scald (m := L) hL (i.toInt + 1) hv164 hy_1 (fun v165 hv165 => ?_)
    have sv165 := hv2.symm.trans hv165
    subst sv165
    have n166_e : v2.toInt = 1 := by omega
    have n166_0 : v2.toInt ≠ 0 := by omega
    refine r_callV 1267 rfl [.ref 231, .int v2] [] (Nat.le_of_ble_eq_true rfl) rfl (T_X11_image_231 _ hI110 v2) ?_
    rintro _ _ ⟨g167, rfl, hI168, hF169, v170, rfl, hr171⟩
    refine At.sti ?_
    have hF172 := Fr.tr hF114 hF169 rfl rfl
    obtain ⟨q173, q174, q175, q176⟩ := hr171
    obtain ⟨p177, p178, p179, p180, p181, p182⟩ := (And.intro q173 q174)
    have w183 := p179 n166_0
    have w184 := p180 n166_e
    clear p178 p179 p180 p181 p182
    clear q174
    have f186 := congrArg Int32.toInt (hF169.1 1 0 rfl)
    have f187 := congrArg Int32.toInt (hF169.1 1 12 rfl)
    have f188 := congrArg Int32.toInt (hF169.1 1 10 rfl)
    have f189 := congrArg Int32.toInt (hF169.1 1 11 rfl)
    have f190 := congrArg Int32.toInt (hF169.1 1 4 rfl)
    have f191 := congrArg Int32.toInt (hF169.1 59 0 rfl)
    have f192 := congrArg Int32.toInt (hF169.1 59 12 rfl)
    have f193 := congrArg Int32.toInt (hF169.1 59 10 rfl)
    have f194 := congrArg Int32.toInt (hF169.1 59 11 rfl)
    have f195 := congrArg Int32.toInt (hF169.1 59 4 rfl)
    have f196 := congrArg Int32.toInt (hF169.1 116 0 rfl)
    have f197 := congrArg Int32.toInt (hF169.1 116 12 rfl)
    have f198 := congrArg Int32.toInt (hF169.1 116 10 rfl)
    have f199 := congrArg Int32.toInt (hF169.1 116 11 rfl)
    have f200 := congrArg Int32.toInt (hF169.1 116 4 rfl)
    have f201 := congrArg Int32.toInt (eA_c (j := 0) (hF169.2.1 173 rfl))
    have f202 := congrArg Int32.toInt (eA_c (j := 1) (hF169.2.1 173 rfl))
    have f203 := congrArg Int32.toInt (hF169.1 174 1 rfl)
    have f204 := congrArg Int32.toInt (hF169.1 0 16 rfl)
    have f205 := congrArg Int32.toInt (eA_c (j := 0) (hF169.2.1 233 rfl))
    have f206 := congrArg Int32.toInt (eA_c (j := 4) (hF169.2.1 233 rfl))
    have f207 := congrArg Int32.toInt (eA_c (j := 5) (hF169.2.1 233 rfl))
    have f208 := congrArg Int32.toInt (eA_c (j := 6) (hF169.2.1 233 rfl))
    have f209 := congrArg Int32.toInt (eA_c (j := 1) (hF169.2.1 233 rfl))
    have f210 := congrArg Int32.toInt (hF169.1 231 8 rfl)
    have f211 := congrArg Int32.toInt (hF169.1 231 6 rfl)
    refine At.enter rfl ?_
    refine r_pop rfl ?_
    refine r_goto ?_
    exact K _ hI168 (show LwR _ from ⟨(congrArg Int32.toInt (((hF169.1 1 0 (by decide)).trans (hF111.1 1 0 (by decide))))).trans (hR_0.trans (eA_ti (j := 0) (((hF169.2.1 233 (by decide)).trans (hF111.2.1 233 (by decide))))).symm), (congrArg Int32.toInt (((hF169.1 1 12 (by decide)).trans (hF111.1 1 12 (by decide))))).trans (hR_1.trans (eA_ti (j := 4) (((hF169.2.1 233 (by decide)).trans (hF111.2.1 233 (by decide))))).symm), (congrArg Int32.toInt (((hF169.1 1 10 (by decide)).trans (hF111.1 1 10 (by decide))))).trans (hR_2.trans (eA_ti (j := 5) (((hF169.2.1 233 (by decide)).trans (hF111.2.1 233 (by decide))))).symm), (congrArg Int32.toInt (((hF169.1 1 11 (by decide)).trans (hF111.1 1 11 (by decide))))).trans (hR_3.trans (eA_ti (j := 6) (((hF169.2.1 233 (by decide)).trans (hF111.2.1 233 (by decide))))).symm), (congrArg Int32.toInt (((hF169.1 1 4 (by decide)).trans (hF111.1 1 4 (by decide))))).trans (hR_4.trans (eA_ti (j := 1) (((hF169.2.1 233 (by decide)).trans (hF111.2.1 233 (by decide))))).symm), by omega, by omega, (congrArg Int32.toInt (((hF169.1 174 1 (by decide)).trans (hF111.1 174 1 (by decide))))).trans (hR_7.trans (congrArg Int32.toInt (((hF169.1 231 8 (by decide)).trans (hF111.1 231 8 (by decide))))).symm), (congrArg Int32.toInt (((hF169.1 0 16 (by decide)).trans (hF111.1 0 16 (by decide))))).trans (hR_8.trans (congrArg Int32.toInt (((hF169.1 231 6 (by decide)).trans (hF111.1 231 6 (by decide))))).symm), IM0.cong hR_9 (by omega) (by omega) (by omega) (by omega) (by omega) (by omega) (by omega) (by omega) (by omega) (by omega) (by omega), (fun _ => ⟨by omega, by omega, by omega, by omega, by omega⟩), CT.cong hR_11 (((hF169.2.1 2 (by decide)).trans (hF111.2.1 2 (by decide)))) (((hF169.2.1 3 (by decide)).trans (hF111.2.1 3 (by decide)))) (((hF169.2.1 4 (by decide)).trans (hF111.2.1 4 (by decide)))) (((hF169.2.1 14 (by decide)).trans (hF111.2.1 14 (by decide)))) (((hF169.2.1 15 (by decide)).trans (hF111.2.1 15 (by decide)))) (((hF169.2.1 5 (by decide)).trans (hF111.2.1 5 (by decide)))) (((hF169.2.1 233 (by decide)).trans (hF111.2.1 233 (by decide)))) (congrArg Int32.toInt (((hF169.1 1 4 (by decide)).trans (hF111.1 1 4 (by decide))))), (show CI0 _ from ⟨fun i i0 i1 => ⟨(by have t0_ := hI0.t0; have t1_ := hI0.t1; have o := (hR_12.1 i i0 i1).1; have o2 := (hR_11.1 i i0 i1).1; have x := (eA_ti (j := i) (hF169.2.1 60 (by decide))).trans (q117 i i0 i1); have m := q175 (10 + 3 * i) (by omega) (by omega); have y1 := eA_ti (j := ((10 + 3 * i))) (hF111.2.1 233 (by decide)); have y2 := eA_ti (j := ((10 + 3 * i))) (hF111.2.1 234 (by decide)); (try split at x) <;> (try split at m) <;> omega), (by have t0_ := hI0.t0; have t1_ := hI0.t1; have o := (hR_12.1 i i0 i1).2.1; have o2 := (hR_11.1 i i0 i1).2.1; have x := (eA_ti (j := i) (hF169.2.1 61 (by decide))).trans (q118 i i0 i1); have m := q175 (10 + 3 * i + 1) (by omega) (by omega); have y1 := eA_ti (j := ((10 + 3 * i + 1))) (hF111.2.1 233 (by decide)); have y2 := eA_ti (j := ((10 + 3 * i + 1))) (hF111.2.1 234 (by decide)); (try split at x) <;> (try split at m) <;> omega), (by have t0_ := hI0.t0; have t1_ := hI0.t1; have o := (hR_12.1 i i0 i1).2.2; have o2 := (hR_11.1 i i0 i1).2.2; have x := (eA_ti (j := i) (hF169.2.1 62 (by decide))).trans (q119 i i0 i1); have m := q175 (10 + 3 * i + 2) (by omega) (by omega); have y1 := eA_ti (j := ((10 + 3 * i + 2))) (hF111.2.1 233 (by decide)); have y2 := eA_ti (j := ((10 + 3 * i + 2))) (hF111.2.1 234 (by decide)); (try split at x) <;> (try split at m) <;> omega)⟩, fun i i0 i1 => ⟨(by have t0_ := hI0.t0; have t1_ := hI0.t1; have o := (hR_12.2.1 i i0 i1).1; have o2 := (hR_11.2.1 i i0 i1).1; have x := (eA_ti (j := i) (hF169.2.1 72 (by decide))).trans (q120 i i0 i1); have m := q175 (94 + 2 * i) (by omega) (by omega); have y1 := eA_ti (j := ((94 + 2 * i))) (hF111.2.1 233 (by decide)); have y2 := eA_ti (j := ((94 + 2 * i))) (hF111.2.1 234 (by decide)); (try split at x) <;> (try split at m) <;> omega), (by have t0_ := hI0.t0; have t1_ := hI0.t1; have o := (hR_12.2.1 i i0 i1).2; have o2 := (hR_11.2.1 i i0 i1).2; have x := (eA_ti (j := i) (hF169.2.1 73 (by decide))).trans (q121 i i0 i1); have m := q175 (94 + 2 * i + 1) (by omega) (by omega); have y1 := eA_ti (j := ((94 + 2 * i + 1))) (hF111.2.1 233 (by decide)); have y2 := eA_ti (j := ((94 + 2 * i + 1))) (hF111.2.1 234 (by decide)); (try split at x) <;> (try split at m) <;> omega)⟩, fun i i0 i1 => (by have t0_ := hI0.t0; have t1_ := hI0.t1; have o : i < 6 * (gI g0 59 4).toInt → _ := fun hz => hR_12.2.2 i i0 hz; have o2 : i < 6 * (gI g0 1 4).toInt → _ := fun hz => hR_11.2.2 i i0 hz; have t9_ := RgF.at hI168.2.1 (p := 59) (b := 4) rfl; dsimp only at t9_; have i9_ : i < 48 := (by omega); have x := (eA_ti (j := i) (hF169.2.1 63 (by decide))).trans (q127 i i0 i9_); have m := q175 (46 + i) (by omega) (by omega); have y1 := eA_ti (j := ((46 + i))) (hF111.2.1 233 (by decide)); have y2 := eA_ti (j := ((46 + i))) (hF111.2.1 234 (by decide)); (try split at x) <;> (try split at m) <;> omega)⟩), (show CI1 _ from ⟨fun i i0 i1 => ⟨(by have t0_ := hI0.t0; have t1_ := hI0.t1; have o := (hR_13.1 i i0 i1).1; have o2 := (hR_11.1 i i0 i1).1; have x := (eA_ti (j := i) (hF169.2.1 117 (by decide))).trans (q122 i i0 i1); have m := q176 (10 + 3 * i) (by omega) (by omega); have y1 := eA_ti (j := ((10 + 3 * i))) (hF111.2.1 233 (by decide)); have y2 := eA_ti (j := (5510 + ((10 + 3 * i)))) (hF111.2.1 234 (by decide)); (try split at x) <;> (try split at m) <;> omega), (by have t0_ := hI0.t0; have t1_ := hI0.t1; have o := (hR_13.1 i i0 i1).2.1; have o2 := (hR_11.1 i i0 i1).2.1; have x := (eA_ti (j := i) (hF169.2.1 118 (by decide))).trans (q123 i i0 i1); have m := q176 (10 + 3 * i + 1) (by omega) (by omega); have y1 := eA_ti (j := ((10 + 3 * i + 1))) (hF111.2.1 233 (by decide)); have y2 := eA_ti (j := (5510 + ((10 + 3 * i + 1)))) (hF111.2.1 234 (by decide)); (try split at x) <;> (try split at m) <;> omega), (by have t0_ := hI0.t0; have t1_ := hI0.t1; have o := (hR_13.1 i i0 i1).2.2; have o2 := (hR_11.1 i i0 i1).2.2; have x := (eA_ti (j := i) (hF169.2.1 119 (by decide))).trans (q124 i i0 i1); have m := q176 (10 + 3 * i + 2) (by omega) (by omega); have y1 := eA_ti (j := ((10 + 3 * i + 2))) (hF111.2.1 233 (by decide)); have y2 := eA_ti (j := (5510 + ((10 + 3 * i + 2)))) (hF111.2.1 234 (by decide)); (try split at x) <;> (try split at m) <;> omega)⟩, fun i i0 i1 => ⟨(by have t0_ := hI0.t0; have t1_ := hI0.t1; have o := (hR_13.2.1 i i0 i1).1; have o2 := (hR_11.2.1 i i0 i1).1; have x := (eA_ti (j := i) (hF169.2.1 129 (by decide))).trans (q125 i i0 i1); have m := q176 (94 + 2 * i) (by omega) (by omega); have y1 := eA_ti (j := ((94 + 2 * i))) (hF111.2.1 233 (by decide)); have y2 := eA_ti (j := (5510 + ((94 + 2 * i)))) (hF111.2.1 234 (by decide)); (try split at x) <;> (try split at m) <;> omega), (by have t0_ := hI0.t0; have t1_ := hI0.t1; have o := (hR_13.2.1 i i0 i1).2; have o2 := (hR_11.2.1 i i0 i1).2; have x := (eA_ti (j := i) (hF169.2.1 130 (by decide))).trans (q126 i i0 i1); have m := q176 (94 + 2 * i + 1) (by omega) (by omega); have y1 := eA_ti (j := ((94 + 2 * i + 1))) (hF111.2.1 233 (by decide)); have y2 := eA_ti (j := (5510 + ((94 + 2 * i + 1)))) (hF111.2.1 234 (by decide)); (try split at x) <;> (try split at m) <;> omega)⟩, fun i i0 i1 => (by have t0_ := hI0.t0; have t1_ := hI0.t1; have o : i < 6 * (gI g0 116 4).toInt → _ := fun hz => hR_13.2.2 i i0 hz; have o2 : i < 6 * (gI g0 1 4).toInt → _ := fun hz => hR_11.2.2 i i0 hz; have t9_ := RgF.at hI168.2.1 (p := 116) (b := 4) rfl; dsimp only at t9_; have i9_ : i < 48 := (by omega); have x := (eA_ti (j := i) (hF169.2.1 120 (by decide))).trans (q128 i i0 i9_); have m := q176 (46 + i) (by omega) (by omega); have y1 := eA_ti (j := ((46 + i))) (hF111.2.1 233 (by decide)); have y2 := eA_ti (j := (5510 + ((46 + i)))) (hF111.2.1 234 (by decide)); (try split at x) <;> (try split at m) <;> omega)⟩), (show RT _ from fun i i0 i1 => (eA_ti (((hF169.2.1 175 (by decide)).trans (hF111.2.1 175 (by decide))))).trans ((hR_14 i i0 (by omega)).trans (eA_ti (((hF169.2.1 236 (by decide)).trans (hF111.2.1 236 (by decide))))).symm))⟩)
  · have n212_e : (v2.toInt < 0 ∨ 1 < v2.toInt) := by omega
    have n212_0 : v2.toInt ≠ 0 := by omega
    have n212_1 : v2.toInt ≠ 1 := by omega
    refine r_callV 1257 rfl [.ref 0, .int v2] [] (Nat.le_of_ble_eq_true rfl) rfl (T_X10_image_0 _ hI0 v2) ?_
    rintro _ _ ⟨g213, rfl, hI214, hF215, v216, rfl, hr217⟩
    refine At.sti ?_
    have hF218 := Fr.tr hF0 hF215 rfl rfl
    obtain ⟨q219, q220, q221, q222, q223, q224, q225, q226, q227, q228, q229, q230, q231, q232⟩ := hr217
    obtain ⟨p233, p234, p235, p236, p237, p238⟩ := (And.intro q219 q220)
    have w239 := p238 n212_e
    have w240 := p235 n212_0
    have w241 := p237 n212_1
    clear p234 p235 p236 p237 p238
    clear q220
    have f242 := congrArg Int32.toInt (hF215.1 1 0 rfl)
    have f243 := congrArg Int32.toInt (hF215.1 1 12 rfl)
    have f244 := congrArg Int32.toInt (hF215.1 1 10 rfl)
    have f245 := congrArg Int32.toInt (hF215.1 1 11 rfl)
    have f246 := congrArg Int32.toInt (hF215.1 1 4 rfl)
    have f247 := congrArg Int32.toInt (hF215.1 174 1 rfl)
    have f248 := congrArg Int32.toInt (hF215.1 0 16 rfl)
    have f249 := congrArg Int32.toInt (eA_c (j := 0) (hF215.2.1 233 rfl))
    have f250 := congrArg Int32.toInt (eA_c (j := 4) (hF215.2.1 233 rfl))
    have f251 := congrArg Int32.toInt (eA_c (j := 5) (hF215.2.1 233 rfl))
    have f252 := congrArg Int32.toInt (eA_c (j := 6) (hF215.2.1 233 rfl))
    have f253 := congrArg Int32.toInt (eA_c (j := 1) (hF215.2.1 233 rfl))
    have f254 := congrArg Int32.toInt (eA_c (j := 0) (hF215.2.1 234 rfl))
    have f255 := congrArg Int32.toInt (eA_c (j := 4) (hF215.2.1 234 rfl))
    have f256 := congrArg Int32.toInt (eA_c (j := 5) (hF215.2.1 234 rfl))
    have f257 := congrArg Int32.toInt (eA_c (j := 6) (hF215.2.1 234 rfl))
    have f258 := congrArg Int32.toInt (eA_c (j := 1) (hF215.2.1 234 rfl))
    have f259 := congrArg Int32.toInt (eA_c (j := 5510) (hF215.2.1 234 rfl))
    have f260 := congrArg Int32.toInt (eA_c (j := 5514) (hF215.2.1 234 rfl))
    have f261 := congrArg Int32.toInt (eA_c (j := 5515) (hF215.2.1 234 rfl))
    have f262 := congrArg Int32.toInt (eA_c (j := 5516) (hF215.2.1 234 rfl))
    have f263 := congrArg Int32.toInt (eA_c (j := 5511) (hF215.2.1 234 rfl))
    have f264 := congrArg Int32.toInt (eA_c (j := 0) (hF215.2.1 235 rfl))
    have f265 := congrArg Int32.toInt (eA_c (j := 1) (hF215.2.1 235 rfl))
    have f266 := congrArg Int32.toInt (hF215.1 231 8 rfl)
    have f267 := congrArg Int32.toInt (hF215.1 231 6 rfl)
    refine At.enter rfl ?_
    refine r_pop rfl ?_
    refine r_aload_n e2 ?_
    refine r_sload_n e0 ?_
    refine r_iload_n e3 ?_
    refine r_iconst 1 rfl ?_
    refine q_iadd (i.toInt + 1) rfl hx_1 (fun v268 hv268 => ?_)
    refine q_scald (m := L) hL (i.toInt + 1) hv268 hy_1 (fun v269 hv269 => ?_)
    have sv269 := hv2.symm.trans hv269
    subst sv269
    have n270_e : (v2.toInt < 0 ∨ 1 < v2.toInt) := by omega
    have n270_0 : v2.toInt ≠ 0 := by omega
    have n270_1 : v2.toInt ≠ 1 := by omega
    refine r_callV 1267 rfl [.ref 231, .int v2] [] (Nat.le_of_ble_eq_true rfl) rfl (T_X11_image_231 _ hI214 v2) ?_
    rintro _ _ ⟨g271, rfl, hI272, hF273, v274, rfl, hr275⟩
    refine At.sti ?_
    have hF276 := Fr.tr hF218 hF273 rfl rfl
    obtain ⟨q277, q278, q279, q280⟩ := hr275
    obtain ⟨p281, p282, p283, p284, p285, p286⟩ := (And.intro q277 q278)
    have w287 := p286 n270_e
    have w288 := p283 n270_0
    have w289 := p285 n270_1
    clear p282 p283 p284 p285 p286
    clear q278
    have f290 := congrArg Int32.toInt (hF273.1 1 0 rfl)
    have f291 := congrArg Int32.toInt (hF273.1 1 12 rfl)
    have f292 := congrArg Int32.toInt (hF273.1 1 10 rfl)
    have f293 := congrArg Int32.toInt (hF273.1 1 11 rfl)
    have f294 := congrArg Int32.toInt (hF273.1 1 4 rfl)
    have f295 := congrArg Int32.toInt (hF273.1 59 0 rfl)
    have f296 := congrArg Int32.toInt (hF273.1 59 12 rfl)
    have f297 := congrArg Int32.toInt (hF273.1 59 10 rfl)
    have f298 := congrArg Int32.toInt (hF273.1 59 11 rfl)
    have f299 := congrArg Int32.toInt (hF273.1 59 4 rfl)
    have f300 := congrArg Int32.toInt (hF273.1 116 0 rfl)
    have f301 := congrArg Int32.toInt (hF273.1 116 12 rfl)
    have f302 := congrArg Int32.toInt (hF273.1 116 10 rfl)
    have f303 := congrArg Int32.toInt (hF273.1 116 11 rfl)
    have f304 := congrArg Int32.toInt (hF273.1 116 4 rfl)
    have f305 := congrArg Int32.toInt (eA_c (j := 0) (hF273.2.1 173 rfl))
    have f306 := congrArg Int32.toInt (eA_c (j := 1) (hF273.2.1 173 rfl))
    have f307 := congrArg Int32.toInt (hF273.1 174 1 rfl)
    have f308 := congrArg Int32.toInt (hF273.1 0 16 rfl)
    have f309 := congrArg Int32.toInt (eA_c (j := 0) (hF273.2.1 233 rfl))
    have f310 := congrArg Int32.toInt (eA_c (j := 4) (hF273.2.1 233 rfl))
    have f311 := congrArg Int32.toInt (eA_c (j := 5) (hF273.2.1 233 rfl))
    have f312 := congrArg Int32.toInt (eA_c (j := 6) (hF273.2.1 233 rfl))
    have f313 := congrArg Int32.toInt (eA_c (j := 1) (hF273.2.1 233 rfl))
    have f314 := congrArg Int32.toInt (hF273.1 231 8 rfl)
    have f315 := congrArg Int32.toInt (hF273.1 231 6 rfl)
    refine At.enter rfl ?_
    refine r_pop rfl ?_
    refine r_goto ?_
    exact K _ hI272 (show LwR _ from ⟨(congrArg Int32.toInt (((hF273.1 1 0 (by decide)).trans (hF215.1 1 0 (by decide))))).trans (hR_0.trans (eA_ti (j := 0) (((hF273.2.1 233 (by decide)).trans (hF215.2.1 233 (by decide))))).symm), (congrArg Int32.toInt (((hF273.1 1 12 (by decide)).trans (hF215.1 1 12 (by decide))))).trans (hR_1.trans (eA_ti (j := 4) (((hF273.2.1 233 (by decide)).trans (hF215.2.1 233 (by decide))))).symm), (congrArg Int32.toInt (((hF273.1 1 10 (by decide)).trans (hF215.1 1 10 (by decide))))).trans (hR_2.trans (eA_ti (j := 5) (((hF273.2.1 233 (by decide)).trans (hF215.2.1 233 (by decide))))).symm), (congrArg Int32.toInt (((hF273.1 1 11 (by decide)).trans (hF215.1 1 11 (by decide))))).trans (hR_3.trans (eA_ti (j := 6) (((hF273.2.1 233 (by decide)).trans (hF215.2.1 233 (by decide))))).symm), (congrArg Int32.toInt (((hF273.1 1 4 (by decide)).trans (hF215.1 1 4 (by decide))))).trans (hR_4.trans (eA_ti (j := 1) (((hF273.2.1 233 (by decide)).trans (hF215.2.1 233 (by decide))))).symm), by omega, by omega, (congrArg Int32.toInt (((hF273.1 174 1 (by decide)).trans (hF215.1 174 1 (by decide))))).trans (hR_7.trans (congrArg Int32.toInt (((hF273.1 231 8 (by decide)).trans (hF215.1 231 8 (by decide))))).symm), (congrArg Int32.toInt (((hF273.1 0 16 (by decide)).trans (hF215.1 0 16 (by decide))))).trans (hR_8.trans (congrArg Int32.toInt (((hF273.1 231 6 (by decide)).trans (hF215.1 231 6 (by decide))))).symm), IM0.cong hR_9 (by omega) (by omega) (by omega) (by omega) (by omega) (by omega) (by omega) (by omega) (by omega) (by omega) (by omega), IM1.cong hR_10 (by omega) (by omega) (by omega) (by omega) (by omega) (by omega) (by omega) (by omega) (by omega) (by omega) (by omega), CT.cong hR_11 (((hF273.2.1 2 (by decide)).trans (hF215.2.1 2 (by decide)))) (((hF273.2.1 3 (by decide)).trans (hF215.2.1 3 (by decide)))) (((hF273.2.1 4 (by decide)).trans (hF215.2.1 4 (by decide)))) (((hF273.2.1 14 (by decide)).trans (hF215.2.1 14 (by decide)))) (((hF273.2.1 15 (by decide)).trans (hF215.2.1 15 (by decide)))) (((hF273.2.1 5 (by decide)).trans (hF215.2.1 5 (by decide)))) (((hF273.2.1 233 (by decide)).trans (hF215.2.1 233 (by decide)))) (congrArg Int32.toInt (((hF273.1 1 4 (by decide)).trans (hF215.1 1 4 (by decide))))), (show CI0 _ from ⟨fun i i0 i1 => ⟨(by have t0_ := hI0.t0; have t1_ := hI0.t1; have o := (hR_12.1 i i0 i1).1; have o2 := (hR_11.1 i i0 i1).1; have x := (eA_ti (j := i) (hF273.2.1 60 (by decide))).trans (q221 i i0 i1); have m := q279 (10 + 3 * i) (by omega) (by omega); have y1 := eA_ti (j := ((10 + 3 * i))) (hF215.2.1 233 (by decide)); have y2 := eA_ti (j := ((10 + 3 * i))) (hF215.2.1 234 (by decide)); (try split at x) <;> (try split at m) <;> omega), (by have t0_ := hI0.t0; have t1_ := hI0.t1; have o := (hR_12.1 i i0 i1).2.1; have o2 := (hR_11.1 i i0 i1).2.1; have x := (eA_ti (j := i) (hF273.2.1 61 (by decide))).trans (q222 i i0 i1); have m := q279 (10 + 3 * i + 1) (by omega) (by omega); have y1 := eA_ti (j := ((10 + 3 * i + 1))) (hF215.2.1 233 (by decide)); have y2 := eA_ti (j := ((10 + 3 * i + 1))) (hF215.2.1 234 (by decide)); (try split at x) <;> (try split at m) <;> omega), (by have t0_ := hI0.t0; have t1_ := hI0.t1; have o := (hR_12.1 i i0 i1).2.2; have o2 := (hR_11.1 i i0 i1).2.2; have x := (eA_ti (j := i) (hF273.2.1 62 (by decide))).trans (q223 i i0 i1); have m := q279 (10 + 3 * i + 2) (by omega) (by omega); have y1 := eA_ti (j := ((10 + 3 * i + 2))) (hF215.2.1 233 (by decide)); have y2 := eA_ti (j := ((10 + 3 * i + 2))) (hF215.2.1 234 (by decide)); (try split at x) <;> (try split at m) <;> omega)⟩, fun i i0 i1 => ⟨(by have t0_ := hI0.t0; have t1_ := hI0.t1; have o := (hR_12.2.1 i i0 i1).1; have o2 := (hR_11.2.1 i i0 i1).1; have x := (eA_ti (j := i) (hF273.2.1 72 (by decide))).trans (q224 i i0 i1); have m := q279 (94 + 2 * i) (by omega) (by omega); have y1 := eA_ti (j := ((94 + 2 * i))) (hF215.2.1 233 (by decide)); have y2 := eA_ti (j := ((94 + 2 * i))) (hF215.2.1 234 (by decide)); (try split at x) <;> (try split at m) <;> omega), (by have t0_ := hI0.t0; have t1_ := hI0.t1; have o := (hR_12.2.1 i i0 i1).2; have o2 := (hR_11.2.1 i i0 i1).2; have x := (eA_ti (j := i) (hF273.2.1 73 (by decide))).trans (q225 i i0 i1); have m := q279 (94 + 2 * i + 1) (by omega) (by omega); have y1 := eA_ti (j := ((94 + 2 * i + 1))) (hF215.2.1 233 (by decide)); have y2 := eA_ti (j := ((94 + 2 * i + 1))) (hF215.2.1 234 (by decide)); (try split at x) <;> (try split at m) <;> omega)⟩, fun i i0 i1 => (by have t0_ := hI0.t0; have t1_ := hI0.t1; have o : i < 6 * (gI g0 59 4).toInt → _ := fun hz => hR_12.2.2 i i0 hz; have o2 : i < 6 * (gI g0 1 4).toInt → _ := fun hz => hR_11.2.2 i i0 hz; have t9_ := RgF.at hI272.2.1 (p := 59) (b := 4) rfl; dsimp only at t9_; have i9_ : i < 48 := (by omega); have x := (eA_ti (j := i) (hF273.2.1 63 (by decide))).trans (q231 i i0 i9_); have m := q279 (46 + i) (by omega) (by omega); have y1 := eA_ti (j := ((46 + i))) (hF215.2.1 233 (by decide)); have y2 := eA_ti (j := ((46 + i))) (hF215.2.1 234 (by decide)); (try split at x) <;> (try split at m) <;> omega)⟩), (show CI1 _ from ⟨fun i i0 i1 => ⟨(by have t0_ := hI0.t0; have t1_ := hI0.t1; have o := (hR_13.1 i i0 i1).1; have o2 := (hR_11.1 i i0 i1).1; have x := (eA_ti (j := i) (hF273.2.1 117 (by decide))).trans (q226 i i0 i1); have m := q280 (10 + 3 * i) (by omega) (by omega); have y1 := eA_ti (j := ((10 + 3 * i))) (hF215.2.1 233 (by decide)); have y2 := eA_ti (j := (5510 + ((10 + 3 * i)))) (hF215.2.1 234 (by decide)); (try split at x) <;> (try split at m) <;> omega), (by have t0_ := hI0.t0; have t1_ := hI0.t1; have o := (hR_13.1 i i0 i1).2.1; have o2 := (hR_11.1 i i0 i1).2.1; have x := (eA_ti (j := i) (hF273.2.1 118 (by decide))).trans (q227 i i0 i1); have m := q280 (10 + 3 * i + 1) (by omega) (by omega); have y1 := eA_ti (j := ((10 + 3 * i + 1))) (hF215.2.1 233 (by decide)); have y2 := eA_ti (j := (5510 + ((10 + 3 * i + 1)))) (hF215.2.1 234 (by decide)); (try split at x) <;> (try split at m) <;> omega), (by have t0_ := hI0.t0; have t1_ := hI0.t1; have o := (hR_13.1 i i0 i1).2.2; have o2 := (hR_11.1 i i0 i1).2.2; have x := (eA_ti (j := i) (hF273.2.1 119 (by decide))).trans (q228 i i0 i1); have m := q280 (10 + 3 * i + 2) (by omega) (by omega); have y1 := eA_ti (j := ((10 + 3 * i + 2))) (hF215.2.1 233 (by decide)); have y2 := eA_ti (j := (5510 + ((10 + 3 * i + 2)))) (hF215.2.1 234 (by decide)); (try split at x) <;> (try split at m) <;> omega)⟩, fun i i0 i1 => ⟨(by have t0_ := hI0.t0; have t1_ := hI0.t1; have o := (hR_13.2.1 i i0 i1).1; have o2 := (hR_11.2.1 i i0 i1).1; have x := (eA_ti (j := i) (hF273.2.1 129 (by decide))).trans (q229 i i0 i1); have m := q280 (94 + 2 * i) (by omega) (by omega); have y1 := eA_ti (j := ((94 + 2 * i))) (hF215.2.1 233 (by decide)); have y2 := eA_ti (j := (5510 + ((94 + 2 * i)))) (hF215.2.1 234 (by decide)); (try split at x) <;> (try split at m) <;> omega), (by have t0_ := hI0.t0; have t1_ := hI0.t1; have o := (hR_13.2.1 i i0 i1).2; have o2 := (hR_11.2.1 i i0 i1).2; have x := (eA_ti (j := i) (hF273.2.1 130 (by decide))).trans (q230 i i0 i1); have m := q280 (94 + 2 * i + 1) (by omega) (by omega); have y1 := eA_ti (j := ((94 + 2 * i + 1))) (hF215.2.1 233 (by decide)); have y2 := eA_ti (j := (5510 + ((94 + 2 * i + 1)))) (hF215.2.1 234 (by decide)); (try split at x) <;> (try split at m) <;> omega)⟩, fun i i0 i1 => (by have t0_ := hI0.t0; have t1_ := hI0.t1; have o : i < 6 * (gI g0 116 4).toInt → _ := fun hz => hR_13.2.2 i i0 hz; have o2 : i < 6 * (gI g0 1 4).toInt → _ := fun hz => hR_11.2.2 i i0 hz; have t9_ := RgF.at hI272.2.1 (p := 116) (b := 4) rfl; dsimp only at t9_; have i9_ : i < 48 := (by omega); have x := (eA_ti (j := i) (hF273.2.1 120 (by decide))).trans (q232 i i0 i9_); have m := q280 (46 + i) (by omega) (by omega); have y1 := eA_ti (j := ((46 + i))) (hF215.2.1 233 (by decide)); have y2 := eA_ti (j := (5510 + ((46 + i)))) (hF215.2.1 234 (by decide)); (try split at x) <;> (try split at m) <;> omega)⟩), (show RT _ from fun i i0 i1 => (eA_ti (((hF273.2.1 175 (by decide)).trans (hF215.2.1 175 (by decide))))).trans ((hR_14 i i0 (by omega)).trans (eA_ti (((hF273.2.1 236 (by decide)).trans (hF215.2.1 236 (by decide))))).symm))⟩)
