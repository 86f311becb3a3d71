set_option maxRecDepth 100000 in
set_option maxHeartbeats 8000000 in
theorem lq_c5 (d : Nat) {N : Nat} {g0 : List en_E} (hI0 : HI g0) (hR0 : LwR g0) {ys : List Int32} {L : Nat} (hL : ys.length = L) (hL2 : L ≤ 3584) {l : en_L} {i : Int32} (e0 : en_get 0 l = some (.float 0)) (e1 : en_get 1 l = some (.ref 0)) (e2 : en_get 2 l = some (.ref 231)) (e3 : en_get 3 l = some (.int i)) (hi : 0 ≤ i.toInt ∧ i.toInt + 7 ≤ L) {Ph : Option Value → en_H → Prop} (K : ∀ g1 : List en_E, HI g1 → LwR g1 → At (d + 423) (some ys) (some .boolean) bs_L_law (1330, l, [], (g1, N)) Ph) : At (d + 423) (some ys) (some .boolean) bs_L_law (435, l, [], (g0, N)) Ph := by
  have hF0 : Fr F_law A_law g0 g0 := Fr.rf
  have hx_1 : -2147483648 ≤ i.toInt + 1 ∧ i.toInt + 1 ≤ 2147483647 := by omega
  have hx_2 : -2147483648 ≤ i.toInt + 2 ∧ i.toInt + 2 ≤ 2147483647 := by omega
  have hx_3 : -2147483648 ≤ i.toInt + 3 ∧ i.toInt + 3 ≤ 2147483647 := by omega
  have hx_4 : -2147483648 ≤ i.toInt + 4 ∧ i.toInt + 4 ≤ 2147483647 := by omega
  have hx_5 : -2147483648 ≤ i.toInt + 5 ∧ i.toInt + 5 ≤ 2147483647 := by omega
  have hx_6 : -2147483648 ≤ i.toInt + 6 ∧ i.toInt + 6 ≤ 2147483647 := by omega
  have hy_0 : 0 ≤ i.toInt ∧ i.toInt < (L : Int) := by omega
  have hy_1 : 0 ≤ i.toInt + 1 ∧ i.toInt + 1 < (L : Int) := by omega
  have hy_2 : 0 ≤ i.toInt + 2 ∧ i.toInt + 2 < (L : Int) := by omega
  have hy_3 : 0 ≤ i.toInt + 3 ∧ i.toInt + 3 < (L : Int) := by omega
  have hy_4 : 0 ≤ i.toInt + 4 ∧ i.toInt + 4 < (L : Int) := by omega
  have hy_5 : 0 ≤ i.toInt + 5 ∧ i.toInt + 5 < (L : Int) := by omega
  have hy_6 : 0 ≤ i.toInt + 6 ∧ i.toInt + 6 < (L : Int) := by omega
  unfold LwR at hR0
  obtain ⟨hR_0, hR_1, hR_2, hR_3, hR_4, hR_5, hR_6, hR_7, hR_8, hR_9, hR_10, hR_11, hR_12, hR_13, hR_14⟩ := hR0
  refine At.enter rfl ?_
  refine r_aload_n e1 ?_
  refine r_sload_n e0 ?_
  refine r_iload_n e3 ?_
  refine r_iconst 1 rfl ?_
  refine q_iadd (i.toInt + 1) rfl hx_1 (fun v1 hv1 => ?_)
  refine q_scald (m := L) hL (i.toInt + 1) hv1 hy_1 (fun v2 hv2 => ?_)
  rcases cs2 (0 ≤ v2.toInt ∧ v2.toInt < (gI g0 1 4).toInt) with pk3 | pk3
  · refine r_callV 444 rfl [.ref 0, .int v2] [] (Nat.le_of_ble_eq_true rfl) rfl (T_X10_drop_0 _ hI0 v2) ?_
    rintro _ _ ⟨g4, rfl, hI5, hF6, v7, rfl, hr8⟩
    refine At.sti ?_
    have hF9 := Fr.tr hF0 hF6 rfl rfl
    obtain ⟨q10, q11, q12⟩ := hr8
    obtain ⟨i14, i15⟩ := q11
    have w13 := i15 pk3
    clear i14 i15
    have f16 := congrArg Int32.toInt (hF6.1 1 0 rfl)
    have f17 := congrArg Int32.toInt (hF6.1 1 12 rfl)
    have f18 := congrArg Int32.toInt (hF6.1 1 10 rfl)
    have f19 := congrArg Int32.toInt (hF6.1 1 11 rfl)
    have f20 := congrArg Int32.toInt (hF6.1 59 0 rfl)
    have f21 := congrArg Int32.toInt (hF6.1 59 12 rfl)
    have f22 := congrArg Int32.toInt (hF6.1 59 10 rfl)
    have f23 := congrArg Int32.toInt (hF6.1 59 11 rfl)
    have f24 := congrArg Int32.toInt (hF6.1 59 4 rfl)
    have f25 := congrArg Int32.toInt (hF6.1 116 0 rfl)
    have f26 := congrArg Int32.toInt (hF6.1 116 12 rfl)
    have f27 := congrArg Int32.toInt (hF6.1 116 10 rfl)
    have f28 := congrArg Int32.toInt (hF6.1 116 11 rfl)
    have f29 := congrArg Int32.toInt (hF6.1 116 4 rfl)
    have f30 := congrArg Int32.toInt (eA_c (j := 0) (hF6.2.1 173 rfl))
    have f31 := congrArg Int32.toInt (eA_c (j := 1) (hF6.2.1 173 rfl))
    have f32 := congrArg Int32.toInt (hF6.1 174 1 rfl)
    have f33 := congrArg Int32.toInt (hF6.1 0 16 rfl)
    have f34 := congrArg Int32.toInt (eA_c (j := 0) (hF6.2.1 233 rfl))
    have f35 := congrArg Int32.toInt (eA_c (j := 4) (hF6.2.1 233 rfl))
    have f36 := congrArg Int32.toInt (eA_c (j := 5) (hF6.2.1 233 rfl))
    have f37 := congrArg Int32.toInt (eA_c (j := 6) (hF6.2.1 233 rfl))
    have f38 := congrArg Int32.toInt (eA_c (j := 1) (hF6.2.1 233 rfl))
    have f39 := congrArg Int32.toInt (eA_c (j := 0) (hF6.2.1 234 rfl))
    have f40 := congrArg Int32.toInt (eA_c (j := 4) (hF6.2.1 234 rfl))
    have f41 := congrArg Int32.toInt (eA_c (j := 5) (hF6.2.1 234 rfl))
    have f42 := congrArg Int32.toInt (eA_c (j := 6) (hF6.2.1 234 rfl))
    have f43 := congrArg Int32.toInt (eA_c (j := 1) (hF6.2.1 234 rfl))
    have f44 := congrArg Int32.toInt (eA_c (j := 5510) (hF6.2.1 234 rfl))
    have f45 := congrArg Int32.toInt (eA_c (j := 5514) (hF6.2.1 234 rfl))
    have f46 := congrArg Int32.toInt (eA_c (j := 5515) (hF6.2.1 234 rfl))
    have f47 := congrArg Int32.toInt (eA_c (j := 5516) (hF6.2.1 234 rfl))
    have f48 := congrArg Int32.toInt (eA_c (j := 5511) (hF6.2.1 234 rfl))
    have f49 := congrArg Int32.toInt (eA_c (j := 0) (hF6.2.1 235 rfl))
    have f50 := congrArg Int32.toInt (eA_c (j := 1) (hF6.2.1 235 rfl))
    have f51 := congrArg Int32.toInt (hF6.1 231 8 rfl)
    have f52 := congrArg Int32.toInt (hF6.1 231 6 rfl)
    refine At.enter rfl ?_
    refine r_pop rfl ?_
    refine r_aload_n e2 ?_
    refine r_sload_n e0 ?_
    refine r_iload_n e3 ?_
    refine r_iconst 1 rfl ?_
    refine q_iadd (i.toInt + 1) rfl hx_1 (fun v53 hv53 => ?_)
    refine q_scald (m := L) hL (i.toInt + 1) hv53 hy_1 (fun v54 hv54 => ?_)
    have sv54 := hv2.symm.trans hv54
    subst sv54
    refine r_callV 454 rfl [.ref 231, .int v2] [] (Nat.le_of_ble_eq_true rfl) rfl (T_X11_drop_231 _ hI5 v2) ?_
    rintro _ _ ⟨g55, rfl, hI56, hF57, v58, rfl, hr59⟩
    refine At.sti ?_
    have hF60 := Fr.tr hF9 hF57 rfl rfl
    obtain ⟨q61, q62, q63, q64, q65⟩ := hr59
    have ek73 : (eA g4 233 0).toInt = (gI g0 1 0).toInt := (eA_ti (j := 0) (hF6.2.1 233 (by decide))).trans hR_0.symm
    have ek74 : (eA g4 233 1).toInt = (gI g0 1 4).toInt := (eA_ti (j := 1) (hF6.2.1 233 (by decide))).trans hR_4.symm
    obtain ⟨i67, i68, sm69, sm70, sm71, sm72⟩ := q62
    have w66 := i68 (by rw [ek74]; exact pk3)
    clear i67 i68
    have f75 := congrArg Int32.toInt (hF57.1 1 0 rfl)
    have f76 := congrArg Int32.toInt (hF57.1 1 12 rfl)
    have f77 := congrArg Int32.toInt (hF57.1 1 10 rfl)
    have f78 := congrArg Int32.toInt (hF57.1 1 11 rfl)
    have f79 := congrArg Int32.toInt (hF57.1 1 4 rfl)
    have f80 := congrArg Int32.toInt (hF57.1 59 0 rfl)
    have f81 := congrArg Int32.toInt (hF57.1 59 12 rfl)
    have f82 := congrArg Int32.toInt (hF57.1 59 10 rfl)
    have f83 := congrArg Int32.toInt (hF57.1 59 11 rfl)
    have f84 := congrArg Int32.toInt (hF57.1 59 4 rfl)
    have f85 := congrArg Int32.toInt (hF57.1 116 0 rfl)
    have f86 := congrArg Int32.toInt (hF57.1 116 12 rfl)
    have f87 := congrArg Int32.toInt (hF57.1 116 10 rfl)
    have f88 := congrArg Int32.toInt (hF57.1 116 11 rfl)
    have f89 := congrArg Int32.toInt (hF57.1 116 4 rfl)
    have f90 := congrArg Int32.toInt (eA_c (j := 0) (hF57.2.1 173 rfl))
    have f91 := congrArg Int32.toInt (eA_c (j := 1) (hF57.2.1 173 rfl))
    have f92 := congrArg Int32.toInt (hF57.1 174 1 rfl)
    have f93 := congrArg Int32.toInt (hF57.1 0 16 rfl)
    have f94 := congrArg Int32.toInt (eA_c (j := 0) (hF57.2.1 234 rfl))
    have f95 := congrArg Int32.toInt (eA_c (j := 4) (hF57.2.1 234 rfl))
    have f96 := congrArg Int32.toInt (eA_c (j := 5) (hF57.2.1 234 rfl))
    have f97 := congrArg Int32.toInt (eA_c (j := 6) (hF57.2.1 234 rfl))
    have f98 := congrArg Int32.toInt (eA_c (j := 1) (hF57.2.1 234 rfl))
    have f99 := congrArg Int32.toInt (eA_c (j := 5510) (hF57.2.1 234 rfl))
    have f100 := congrArg Int32.toInt (eA_c (j := 5514) (hF57.2.1 234 rfl))
    have f101 := congrArg Int32.toInt (eA_c (j := 5515) (hF57.2.1 234 rfl))
    have f102 := congrArg Int32.toInt (eA_c (j := 5516) (hF57.2.1 234 rfl))
    have f103 := congrArg Int32.toInt (eA_c (j := 5511) (hF57.2.1 234 rfl))
    have f104 := congrArg Int32.toInt (eA_c (j := 0) (hF57.2.1 235 rfl))
    have f105 := congrArg Int32.toInt (eA_c (j := 1) (hF57.2.1 235 rfl))
    have f106 := congrArg Int32.toInt (hF57.1 231 8 rfl)
    have f107 := congrArg Int32.toInt (hF57.1 231 6 rfl)
    refine At.enter rfl ?_
    refine r_pop rfl ?_
    refine r_goto ?_
    exact K _ hI56 (show LwR _ from ⟨by omega, by omega, by omega, by omega, by omega, (eA_ti (j := 0) (((hF57.2.1 173 (by decide)).trans (hF6.2.1 173 (by decide))))).trans (hR_5.trans (eA_ti (j := 0) (((hF57.2.1 235 (by decide)).trans (hF6.2.1 235 (by decide))))).symm), (eA_ti (j := 1) (((hF57.2.1 173 (by decide)).trans (hF6.2.1 173 (by decide))))).trans (hR_6.trans (eA_ti (j := 1) (((hF57.2.1 235 (by decide)).trans (hF6.2.1 235 (by decide))))).symm), (congrArg Int32.toInt (((hF57.1 174 1 (by decide)).trans (hF6.1 174 1 (by decide))))).trans (hR_7.trans (congrArg Int32.toInt (((hF57.1 231 8 (by decide)).trans (hF6.1 231 8 (by decide))))).symm), (congrArg Int32.toInt (((hF57.1 0 16 (by decide)).trans (hF6.1 0 16 (by decide))))).trans (hR_8.trans (congrArg Int32.toInt (((hF57.1 231 6 (by decide)).trans (hF6.1 231 6 (by decide))))).symm), IM0.cong hR_9 (eA_ti (j := 0) (((hF57.2.1 173 (by decide)).trans (hF6.2.1 173 (by decide))))) (congrArg Int32.toInt (((hF57.1 59 0 (by decide)).trans (hF6.1 59 0 (by decide))))) (eA_ti (j := 0) (((hF57.2.1 234 (by decide)).trans (hF6.2.1 234 (by decide))))) (congrArg Int32.toInt (((hF57.1 59 12 (by decide)).trans (hF6.1 59 12 (by decide))))) (eA_ti (j := 4) (((hF57.2.1 234 (by decide)).trans (hF6.2.1 234 (by decide))))) (congrArg Int32.toInt (((hF57.1 59 10 (by decide)).trans (hF6.1 59 10 (by decide))))) (eA_ti (j := 5) (((hF57.2.1 234 (by decide)).trans (hF6.2.1 234 (by decide))))) (congrArg Int32.toInt (((hF57.1 59 11 (by decide)).trans (hF6.1 59 11 (by decide))))) (eA_ti (j := 6) (((hF57.2.1 234 (by decide)).trans (hF6.2.1 234 (by decide))))) (congrArg Int32.toInt (((hF57.1 59 4 (by decide)).trans (hF6.1 59 4 (by decide))))) (eA_ti (j := 1) (((hF57.2.1 234 (by decide)).trans (hF6.2.1 234 (by decide))))), IM1.cong hR_10 (eA_ti (j := 1) (((hF57.2.1 173 (by decide)).trans (hF6.2.1 173 (by decide))))) (congrArg Int32.toInt (((hF57.1 116 0 (by decide)).trans (hF6.1 116 0 (by decide))))) (eA_ti (j := 5510) (((hF57.2.1 234 (by decide)).trans (hF6.2.1 234 (by decide))))) (congrArg Int32.toInt (((hF57.1 116 12 (by decide)).trans (hF6.1 116 12 (by decide))))) (eA_ti (j := 5514) (((hF57.2.1 234 (by decide)).trans (hF6.2.1 234 (by decide))))) (congrArg Int32.toInt (((hF57.1 116 10 (by decide)).trans (hF6.1 116 10 (by decide))))) (eA_ti (j := 5515) (((hF57.2.1 234 (by decide)).trans (hF6.2.1 234 (by decide))))) (congrArg Int32.toInt (((hF57.1 116 11 (by decide)).trans (hF6.1 116 11 (by decide))))) (eA_ti (j := 5516) (((hF57.2.1 234 (by decide)).trans (hF6.2.1 234 (by decide))))) (congrArg Int32.toInt (((hF57.1 116 4 (by decide)).trans (hF6.1 116 4 (by decide))))) (eA_ti (j := 5511) (((hF57.2.1 234 (by decide)).trans (hF6.2.1 234 (by decide))))), (show CT _ from ⟨fun i i0 i1 => ⟨(by have t0_ := hI0.t0; have t1_ := hI0.t1; have o := (hR_11.1 i i0 i1).1; have x := eA_ti (j := i) (((hF57.2.1 2 (by decide)).trans (hF6.2.1 2 (by decide)))); have m := q63 (10 + 3 * i) (by omega) (by omega); have y1 := eA_ti (j := ((10 + 3 * i))) (hF6.2.1 233 (by decide)); first | exact x.trans (o.trans (m.trans y1).symm) | omega), (by have t0_ := hI0.t0; have t1_ := hI0.t1; have o := (hR_11.1 i i0 i1).2.1; have x := eA_ti (j := i) (((hF57.2.1 3 (by decide)).trans (hF6.2.1 3 (by decide)))); have m := q63 (10 + 3 * i + 1) (by omega) (by omega); have y1 := eA_ti (j := ((10 + 3 * i + 1))) (hF6.2.1 233 (by decide)); first | exact x.trans (o.trans (m.trans y1).symm) | omega), (by have t0_ := hI0.t0; have t1_ := hI0.t1; have o := (hR_11.1 i i0 i1).2.2; have x := eA_ti (j := i) (((hF57.2.1 4 (by decide)).trans (hF6.2.1 4 (by decide)))); have m := q63 (10 + 3 * i + 2) (by omega) (by omega); have y1 := eA_ti (j := ((10 + 3 * i + 2))) (hF6.2.1 233 (by decide)); first | exact x.trans (o.trans (m.trans y1).symm) | omega)⟩, fun i i0 i1 => ⟨(by have t0_ := hI0.t0; have t1_ := hI0.t1; have o := (hR_11.2.1 i i0 i1).1; have x := eA_ti (j := i) (((hF57.2.1 14 (by decide)).trans (hF6.2.1 14 (by decide)))); have m := q64 (94 + 2 * i) (by omega) (by omega); have y1 := eA_ti (j := ((94 + 2 * i))) (hF6.2.1 233 (by decide)); first | exact x.trans (o.trans (m.trans y1).symm) | omega), (by have t0_ := hI0.t0; have t1_ := hI0.t1; have o := (hR_11.2.1 i i0 i1).2; have x := eA_ti (j := i) (((hF57.2.1 15 (by decide)).trans (hF6.2.1 15 (by decide)))); have m := q64 (94 + 2 * i + 1) (by omega) (by omega); have y1 := eA_ti (j := ((94 + 2 * i + 1))) (hF6.2.1 233 (by decide)); first | exact x.trans (o.trans (m.trans y1).symm) | omega)⟩, fun i i0 i1 => (by have t0_ := hI0.t0; have t1_ := hI0.t1; have o : i < 6 * (gI g0 1 4).toInt → _ := fun hz => hR_11.2.2 i i0 hz; have o6 : i + 6 < 6 * (gI g0 1 4).toInt → _ := fun hz => hR_11.2.2 (i + 6) (by omega) hz; have x6 := eA_ix (g := g0) (p := 233) (show 46 + i + 6 = 46 + (i + 6) from by omega); have kd : ¬ (0 ≤ v2.toInt ∧ v2.toInt < (gI g0 1 4).toInt) := pk3; have t9_ := RgF.at hI56.2.1 (p := 1) (b := 4) rfl; dsimp only at t9_; have i9_ : i < 48 := (by omega); have x := (eA_ti (j := i) (hF57.2.1 5 (by decide))).trans (q12 i i0 i9_); have m := q65 (46 + i) (by omega) (by omega); have y1 := eA_ti (j := ((46 + i) + 6)) (hF6.2.1 233 (by decide)); have y2 := eA_ti (j := ((46 + i))) (hF6.2.1 233 (by decide)); (try split at x) <;> (try split at m) <;> omega)⟩), CI0.cong hR_12 (((hF57.2.1 60 (by decide)).trans (hF6.2.1 60 (by decide)))) (((hF57.2.1 61 (by decide)).trans (hF6.2.1 61 (by decide)))) (((hF57.2.1 62 (by decide)).trans (hF6.2.1 62 (by decide)))) (((hF57.2.1 72 (by decide)).trans (hF6.2.1 72 (by decide)))) (((hF57.2.1 73 (by decide)).trans (hF6.2.1 73 (by decide)))) (((hF57.2.1 63 (by decide)).trans (hF6.2.1 63 (by decide)))) (((hF57.2.1 234 (by decide)).trans (hF6.2.1 234 (by decide)))) (congrArg Int32.toInt (((hF57.1 59 4 (by decide)).trans (hF6.1 59 4 (by decide))))), CI1.cong hR_13 (((hF57.2.1 117 (by decide)).trans (hF6.2.1 117 (by decide)))) (((hF57.2.1 118 (by decide)).trans (hF6.2.1 118 (by decide)))) (((hF57.2.1 119 (by decide)).trans (hF6.2.1 119 (by decide)))) (((hF57.2.1 129 (by decide)).trans (hF6.2.1 129 (by decide)))) (((hF57.2.1 130 (by decide)).trans (hF6.2.1 130 (by decide)))) (((hF57.2.1 120 (by decide)).trans (hF6.2.1 120 (by decide)))) (((hF57.2.1 234 (by decide)).trans (hF6.2.1 234 (by decide)))) (congrArg Int32.toInt (((hF57.1 116 4 (by decide)).trans (hF6.1 116 4 (by decide))))), (show RT _ from fun i i0 i1 => (eA_ti (((hF57.2.1 175 (by decide)).trans (hF6.2.1 175 (by decide))))).trans ((hR_14 i i0 (by omega)).trans (eA_ti (((hF57.2.1 236 (by decide)).trans (hF6.2.1 236 (by decide))))).symm))⟩)
  · refine r_callV 444 rfl [.ref 0, .int v2] [] (Nat.le_of_ble_eq_true rfl) rfl (T_X10_drop_0 _ hI0 v2) ?_
    rintro _ _ ⟨g108, rfl, hI109, hF110, v111, rfl, hr112⟩
    refine At.sti ?_
    have hF113 := Fr.tr hF0 hF110 rfl rfl
    obtain ⟨q114, q115, q116⟩ := hr112
    obtain ⟨i118, i119⟩ := q115
    have w117 := i118 pk3
    clear i118 i119
    have f120 := congrArg Int32.toInt (hF110.1 1 0 rfl)
    have f121 := congrArg Int32.toInt (hF110.1 1 12 rfl)
    have f122 := congrArg Int32.toInt (hF110.1 1 10 rfl)
    have f123 := congrArg Int32.toInt (hF110.1 1 11 rfl)
    have f124 := congrArg Int32.toInt (hF110.1 59 0 rfl)
    have f125 := congrArg Int32.toInt (hF110.1 59 12 rfl)
    have f126 := congrArg Int32.toInt (hF110.1 59 10 rfl)
    have f127 := congrArg Int32.toInt (hF110.1 59 11 rfl)
    have f128 := congrArg Int32.toInt (hF110.1 59 4 rfl)
    have f129 := congrArg Int32.toInt (hF110.1 116 0 rfl)
    have f130 := congrArg Int32.toInt (hF110.1 116 12 rfl)
    have f131 := congrArg Int32.toInt (hF110.1 116 10 rfl)
    have f132 := congrArg Int32.toInt (hF110.1 116 11 rfl)
    have f133 := congrArg Int32.toInt (hF110.1 116 4 rfl)
    have f134 := congrArg Int32.toInt (eA_c (j := 0) (hF110.2.1 173 rfl))
    have f135 := congrArg Int32.toInt (eA_c (j := 1) (hF110.2.1 173 rfl))
    have f136 := congrArg Int32.toInt (hF110.1 174 1 rfl)
    have f137 := congrArg Int32.toInt (hF110.1 0 16 rfl)
    have f138 := congrArg Int32.toInt (eA_c (j := 0) (hF110.2.1 233 rfl))
    have f139 := congrArg Int32.toInt (eA_c (j := 4) (hF110.2.1 233 rfl))
    have f140 := congrArg Int32.toInt (eA_c (j := 5) (hF110.2.1 233 rfl))
    have f141 := congrArg Int32.toInt (eA_c (j := 6) (hF110.2.1 233 rfl))
    have f142 := congrArg Int32.toInt (eA_c (j := 1) (hF110.2.1 233 rfl))
    have f143 := congrArg Int32.toInt (eA_c (j := 0) (hF110.2.1 234 rfl))
    have f144 := congrArg Int32.toInt (eA_c (j := 4) (hF110.2.1 234 rfl))
    have f145 := congrArg Int32.toInt (eA_c (j := 5) (hF110.2.1 234 rfl))
    have f146 := congrArg Int32.toInt (eA_c (j := 6) (hF110.2.1 234 rfl))
    have f147 := congrArg Int32.toInt (eA_c (j := 1) (hF110.2.1 234 rfl))
    have f148 := congrArg Int32.toInt (eA_c (j := 5510) (hF110.2.1 234 rfl))
    have f149 := congrArg Int32.toInt (eA_c (j := 5514) (hF110.2.1 234 rfl))
    have f150 := congrArg Int32.toInt (eA_c (j := 5515) (hF110.2.1 234 rfl))
    have f151 := congrArg Int32.toInt (eA_c (j := 5516) (hF110.2.1 234 rfl))
    have f152 := congrArg Int32.toInt (eA_c (j := 5511) (hF110.2.1 234 rfl))
    have f153 := congrArg Int32.toInt (eA_c (j := 0) (hF110.2.1 235 rfl))
    have f154 := congrArg Int32.toInt (eA_c (j := 1) (hF110.2.1 235 rfl))
    have f155 := congrArg Int32.toInt (hF110.1 231 8 rfl)
    have f156 := congrArg Int32.toInt (hF110.1 231 6 rfl)
    refine At.enter rfl ?_
    refine r_pop rfl ?_
    refine r_aload_n e2 ?_
    refine r_sload_n e0 ?_
    refine r_iload_n e3 ?_
    refine r_iconst 1 rfl ?_
    refine q_iadd (i.toInt + 1) rfl hx_1 (fun v157 hv157 => ?_)
    refine q_scald (m := L) hL (i.toInt + 1) hv157 hy_1 (fun v158 hv158 => ?_)
    have sv158 := hv2.symm.trans hv158
    subst sv158
    refine r_callV 454 rfl [.ref 231, .int v2] [] (Nat.le_of_ble_eq_true rfl) rfl (T_X11_drop_231 _ hI109 v2) ?_
    rintro _ _ ⟨g159, rfl, hI160, hF161, v162, rfl, hr163⟩
    refine At.sti ?_
    have hF164 := Fr.tr hF113 hF161 rfl rfl
    obtain ⟨q165, q166, q167, q168, q169⟩ := hr163
    have ek177 : (eA g108 233 0).toInt = (gI g0 1 0).toInt := (eA_ti (j := 0) (hF110.2.1 233 (by decide))).trans hR_0.symm
    have ek178 : (eA g108 233 1).toInt = (gI g0 1 4).toInt := (eA_ti (j := 1) (hF110.2.1 233 (by decide))).trans hR_4.symm
    obtain ⟨i171, i172, sm173, sm174, sm175, sm176⟩ := q166
    have w170 := i171 (by rw [ek178]; exact pk3)
    clear i171 i172
    have f179 := congrArg Int32.toInt (hF161.1 1 0 rfl)
    have f180 := congrArg Int32.toInt (hF161.1 1 12 rfl)
    have f181 := congrArg Int32.toInt (hF161.1 1 10 rfl)
    have f182 := congrArg Int32.toInt (hF161.1 1 11 rfl)
    have f183 := congrArg Int32.toInt (hF161.1 1 4 rfl)
    have f184 := congrArg Int32.toInt (hF161.1 59 0 rfl)
    have f185 := congrArg Int32.toInt (hF161.1 59 12 rfl)
    have f186 := congrArg Int32.toInt (hF161.1 59 10 rfl)
    have f187 := congrArg Int32.toInt (hF161.1 59 11 rfl)
    have f188 := congrArg Int32.toInt (hF161.1 59 4 rfl)
    have f189 := congrArg Int32.toInt (hF161.1 116 0 rfl)
    have f190 := congrArg Int32.toInt (hF161.1 116 12 rfl)
    have f191 := congrArg Int32.toInt (hF161.1 116 10 rfl)
    have f192 := congrArg Int32.toInt (hF161.1 116 11 rfl)
    have f193 := congrArg Int32.toInt (hF161.1 116 4 rfl)
    have f194 := congrArg Int32.toInt (eA_c (j := 0) (hF161.2.1 173 rfl))
    have f195 := congrArg Int32.toInt (eA_c (j := 1) (hF161.2.1 173 rfl))
    have f196 := congrArg Int32.toInt (hF161.1 174 1 rfl)
    have f197 := congrArg Int32.toInt (hF161.1 0 16 rfl)
    have f198 := congrArg Int32.toInt (eA_c (j := 0) (hF161.2.1 234 rfl))
    have f199 := congrArg Int32.toInt (eA_c (j := 4) (hF161.2.1 234 rfl))
    have f200 := congrArg Int32.toInt (eA_c (j := 5) (hF161.2.1 234 rfl))
    have f201 := congrArg Int32.toInt (eA_c (j := 6) (hF161.2.1 234 rfl))
    have f202 := congrArg Int32.toInt (eA_c (j := 1) (hF161.2.1 234 rfl))
    have f203 := congrArg Int32.toInt (eA_c (j := 5510) (hF161.2.1 234 rfl))
    have f204 := congrArg Int32.toInt (eA_c (j := 5514) (hF161.2.1 234 rfl))
    have f205 := congrArg Int32.toInt (eA_c (j := 5515) (hF161.2.1 234 rfl))
    have f206 := congrArg Int32.toInt (eA_c (j := 5516) (hF161.2.1 234 rfl))
    have f207 := congrArg Int32.toInt (eA_c (j := 5511) (hF161.2.1 234 rfl))
    have f208 := congrArg Int32.toInt (eA_c (j := 0) (hF161.2.1 235 rfl))
    have f209 := congrArg Int32.toInt (eA_c (j := 1) (hF161.2.1 235 rfl))
    have f210 := congrArg Int32.toInt (hF161.1 231 8 rfl)
    have f211 := congrArg Int32.toInt (hF161.1 231 6 rfl)
    refine At.enter rfl ?_
    refine r_pop rfl ?_
    refine r_goto ?_
    exact K _ hI160 (show LwR _ from ⟨by omega, by omega, by omega, by omega, by omega, (eA_ti (j := 0) (((hF161.2.1 173 (by decide)).trans (hF110.2.1 173 (by decide))))).trans (hR_5.trans (eA_ti (j := 0) (((hF161.2.1 235 (by decide)).trans (hF110.2.1 235 (by decide))))).symm), (eA_ti (j := 1) (((hF161.2.1 173 (by decide)).trans (hF110.2.1 173 (by decide))))).trans (hR_6.trans (eA_ti (j := 1) (((hF161.2.1 235 (by decide)).trans (hF110.2.1 235 (by decide))))).symm), (congrArg Int32.toInt (((hF161.1 174 1 (by decide)).trans (hF110.1 174 1 (by decide))))).trans (hR_7.trans (congrArg Int32.toInt (((hF161.1 231 8 (by decide)).trans (hF110.1 231 8 (by decide))))).symm), (congrArg Int32.toInt (((hF161.1 0 16 (by decide)).trans (hF110.1 0 16 (by decide))))).trans (hR_8.trans (congrArg Int32.toInt (((hF161.1 231 6 (by decide)).trans (hF110.1 231 6 (by decide))))).symm), IM0.cong hR_9 (eA_ti (j := 0) (((hF161.2.1 173 (by decide)).trans (hF110.2.1 173 (by decide))))) (congrArg Int32.toInt (((hF161.1 59 0 (by decide)).trans (hF110.1 59 0 (by decide))))) (eA_ti (j := 0) (((hF161.2.1 234 (by decide)).trans (hF110.2.1 234 (by decide))))) (congrArg Int32.toInt (((hF161.1 59 12 (by decide)).trans (hF110.1 59 12 (by decide))))) (eA_ti (j := 4) (((hF161.2.1 234 (by decide)).trans (hF110.2.1 234 (by decide))))) (congrArg Int32.toInt (((hF161.1 59 10 (by decide)).trans (hF110.1 59 10 (by decide))))) (eA_ti (j := 5) (((hF161.2.1 234 (by decide)).trans (hF110.2.1 234 (by decide))))) (congrArg Int32.toInt (((hF161.1 59 11 (by decide)).trans (hF110.1 59 11 (by decide))))) (eA_ti (j := 6) (((hF161.2.1 234 (by decide)).trans (hF110.2.1 234 (by decide))))) (congrArg Int32.toInt (((hF161.1 59 4 (by decide)).trans (hF110.1 59 4 (by decide))))) (eA_ti (j := 1) (((hF161.2.1 234 (by decide)).trans (hF110.2.1 234 (by decide))))), IM1.cong hR_10 (eA_ti (j := 1) (((hF161.2.1 173 (by decide)).trans (hF110.2.1 173 (by decide))))) (congrArg Int32.toInt (((hF161.1 116 0 (by decide)).trans (hF110.1 116 0 (by decide))))) (eA_ti (j := 5510) (((hF161.2.1 234 (by decide)).trans (hF110.2.1 234 (by decide))))) (congrArg Int32.toInt (((hF161.1 116 12 (by decide)).trans (hF110.1 116 12 (by decide))))) (eA_ti (j := 5514) (((hF161.2.1 234 (by decide)).trans (hF110.2.1 234 (by decide))))) (congrArg Int32.toInt (((hF161.1 116 10 (by decide)).trans (hF110.1 116 10 (by decide))))) (eA_ti (j := 5515) (((hF161.2.1 234 (by decide)).trans (hF110.2.1 234 (by decide))))) (congrArg Int32.toInt (((hF161.1 116 11 (by decide)).trans (hF110.1 116 11 (by decide))))) (eA_ti (j := 5516) (((hF161.2.1 234 (by decide)).trans (hF110.2.1 234 (by decide))))) (congrArg Int32.toInt (((hF161.1 116 4 (by decide)).trans (hF110.1 116 4 (by decide))))) (eA_ti (j := 5511) (((hF161.2.1 234 (by decide)).trans (hF110.2.1 234 (by decide))))), (show CT _ from ⟨fun i i0 i1 => ⟨(by have t0_ := hI0.t0; have t1_ := hI0.t1; have o := (hR_11.1 i i0 i1).1; have x := eA_ti (j := i) (((hF161.2.1 2 (by decide)).trans (hF110.2.1 2 (by decide)))); have m := q167 (10 + 3 * i) (by omega) (by omega); have y1 := eA_ti (j := ((10 + 3 * i))) (hF110.2.1 233 (by decide)); first | exact x.trans (o.trans (m.trans y1).symm) | omega), (by have t0_ := hI0.t0; have t1_ := hI0.t1; have o := (hR_11.1 i i0 i1).2.1; have x := eA_ti (j := i) (((hF161.2.1 3 (by decide)).trans (hF110.2.1 3 (by decide)))); have m := q167 (10 + 3 * i + 1) (by omega) (by omega); have y1 := eA_ti (j := ((10 + 3 * i + 1))) (hF110.2.1 233 (by decide)); first | exact x.trans (o.trans (m.trans y1).symm) | omega), (by have t0_ := hI0.t0; have t1_ := hI0.t1; have o := (hR_11.1 i i0 i1).2.2; have x := eA_ti (j := i) (((hF161.2.1 4 (by decide)).trans (hF110.2.1 4 (by decide)))); have m := q167 (10 + 3 * i + 2) (by omega) (by omega); have y1 := eA_ti (j := ((10 + 3 * i + 2))) (hF110.2.1 233 (by decide)); first | exact x.trans (o.trans (m.trans y1).symm) | omega)⟩, fun i i0 i1 => ⟨(by have t0_ := hI0.t0; have t1_ := hI0.t1; have o := (hR_11.2.1 i i0 i1).1; have x := eA_ti (j := i) (((hF161.2.1 14 (by decide)).trans (hF110.2.1 14 (by decide)))); have m := q168 (94 + 2 * i) (by omega) (by omega); have y1 := eA_ti (j := ((94 + 2 * i))) (hF110.2.1 233 (by decide)); first | exact x.trans (o.trans (m.trans y1).symm) | omega), (by have t0_ := hI0.t0; have t1_ := hI0.t1; have o := (hR_11.2.1 i i0 i1).2; have x := eA_ti (j := i) (((hF161.2.1 15 (by decide)).trans (hF110.2.1 15 (by decide)))); have m := q168 (94 + 2 * i + 1) (by omega) (by omega); have y1 := eA_ti (j := ((94 + 2 * i + 1))) (hF110.2.1 233 (by decide)); first | exact x.trans (o.trans (m.trans y1).symm) | omega)⟩, fun i i0 i1 => (by have t0_ := hI0.t0; have t1_ := hI0.t1; have o : i < 6 * (gI g0 1 4).toInt → _ := fun hz => hR_11.2.2 i i0 hz; have o6 : i + 6 < 6 * (gI g0 1 4).toInt → _ := fun hz => hR_11.2.2 (i + 6) (by omega) hz; have x6 := eA_ix (g := g0) (p := 233) (show 46 + i + 6 = 46 + (i + 6) from by omega); have kd : (0 ≤ v2.toInt ∧ v2.toInt < (gI g0 1 4).toInt) := pk3; have t9_ := RgF.at hI160.2.1 (p := 1) (b := 4) rfl; dsimp only at t9_; have i9_ : i < 48 := (by omega); have x := (eA_ti (j := i) (hF161.2.1 5 (by decide))).trans (q116 i i0 i9_); have m := q169 (46 + i) (by omega) (by omega); have y1 := eA_ti (j := ((46 + i) + 6)) (hF110.2.1 233 (by decide)); have y2 := eA_ti (j := ((46 + i))) (hF110.2.1 233 (by decide)); (try split at x) <;> (try split at m) <;> omega)⟩), CI0.cong hR_12 (((hF161.2.1 60 (by decide)).trans (hF110.2.1 60 (by decide)))) (((hF161.2.1 61 (by decide)).trans (hF110.2.1 61 (by decide)))) (((hF161.2.1 62 (by decide)).trans (hF110.2.1 62 (by decide)))) (((hF161.2.1 72 (by decide)).trans (hF110.2.1 72 (by decide)))) (((hF161.2.1 73 (by decide)).trans (hF110.2.1 73 (by decide)))) (((hF161.2.1 63 (by decide)).trans (hF110.2.1 63 (by decide)))) (((hF161.2.1 234 (by decide)).trans (hF110.2.1 234 (by decide)))) (congrArg Int32.toInt (((hF161.1 59 4 (by decide)).trans (hF110.1 59 4 (by decide))))), CI1.cong hR_13 (((hF161.2.1 117 (by decide)).trans (hF110.2.1 117 (by decide)))) (((hF161.2.1 118 (by decide)).trans (hF110.2.1 118 (by decide)))) (((hF161.2.1 119 (by decide)).trans (hF110.2.1 119 (by decide)))) (((hF161.2.1 129 (by decide)).trans (hF110.2.1 129 (by decide)))) (((hF161.2.1 130 (by decide)).trans (hF110.2.1 130 (by decide)))) (((hF161.2.1 120 (by decide)).trans (hF110.2.1 120 (by decide)))) (((hF161.2.1 234 (by decide)).trans (hF110.2.1 234 (by decide)))) (congrArg Int32.toInt (((hF161.1 116 4 (by decide)).trans (hF110.1 116 4 (by decide))))), (show RT _ from fun i i0 i1 => (eA_ti (((hF161.2.1 175 (by decide)).trans (hF110.2.1 175 (by decide))))).trans ((hR_14 i i0 (by omega)).trans (eA_ti (((hF161.2.1 236 (by decide)).trans (hF110.2.1 236 (by decide))))).symm))⟩)
