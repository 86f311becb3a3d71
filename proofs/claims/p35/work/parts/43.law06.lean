set_option maxRecDepth 100000 in
set_option maxHeartbeats 8000000 in
theorem lq_c10 (d : Nat) {N : Nat} {g0 : List en_E} (hI0 : HI g0) (hR0 : LwR g0) {ys : List Int32} {L : Nat} (hL : ys.length = L) (hL2 : L ≤ 3584) {l : en_L} {i : Int32} (e0 : en_get 0 l = some (.float 0)) (e1 : en_get 1 l = some (.ref 0)) (e2 : en_get 2 l = some (.ref 231)) (e3 : en_get 3 l = some (.int i)) (hi : 0 ≤ i.toInt ∧ i.toInt + 7 ≤ L) {Ph : Option Value → en_H → Prop} (K : ∀ g1 : List en_E, HI g1 → LwR g1 → At (d + 423) (some ys) (some .boolean) bs_L_law (1330, l, [], (g1, N)) Ph) : At (d + 423) (some ys) (some .boolean) bs_L_law (590, l, [], (g0, N)) Ph := by
  have hF0 : Fr F_law A_law g0 g0 := Fr.rf
  have hx_1 : -2147483648 ≤ i.toInt + 1 ∧ i.toInt + 1 ≤ 2147483647 := by omega
  have hx_2 : -2147483648 ≤ i.toInt + 2 ∧ i.toInt + 2 ≤ 2147483647 := by omega
  have hx_3 : -2147483648 ≤ i.toInt + 3 ∧ i.toInt + 3 ≤ 2147483647 := by omega
  have hx_4 : -2147483648 ≤ i.toInt + 4 ∧ i.toInt + 4 ≤ 2147483647 := by omega
  have hx_5 : -2147483648 ≤ i.toInt + 5 ∧ i.toInt + 5 ≤ 2147483647 := by omega
  have hx_6 : -2147483648 ≤ i.toInt + 6 ∧ i.toInt + 6 ≤ 2147483647 := by omega
  have hy_0 : 0 ≤ i.toInt ∧ i.toInt < (L : Int) := by omega
  have hy_1 : 0 ≤ i.toInt + 1 ∧ i.toInt + 1 < (L : Int) := by omega
  have hy_2 : 0 ≤ i.toInt + 2 ∧ i.toInt + 2 < (L : Int) := by omega
  have hy_3 : 0 ≤ i.toInt + 3 ∧ i.toInt + 3 < (L : Int) := by omega
  have hy_4 : 0 ≤ i.toInt + 4 ∧ i.toInt + 4 < (L : Int) := by omega
  have hy_5 : 0 ≤ i.toInt + 5 ∧ i.toInt + 5 < (L : Int) := by omega
  have hy_6 : 0 ≤ i.toInt + 6 ∧ i.toInt + 6 < (L : Int) := by omega
  unfold LwR at hR0
  obtain ⟨hR_0, hR_1, hR_2, hR_3, hR_4, hR_5, hR_6, hR_7, hR_8, hR_9, hR_10, hR_11⟩ := hR0
  refine At.enter rfl ?_
  refine r_aload_n e1 ?_
  refine r_callV 594 rfl [.ref 0] [] (Nat.le_of_ble_eq_true rfl) rfl (T_X10_dropped_0 _ hI0) ?_
  rintro _ _ ⟨g1, rfl, hI2, hF3, v4, rfl, hr5⟩
  refine At.sti ?_
  have hF6 := Fr.tr hF0 hF3 rfl rfl
  have f7 := congrArg Int32.toInt (hF3.1 1 0 rfl)
  have f8 := congrArg Int32.toInt (hF3.1 1 12 rfl)
  have f9 := congrArg Int32.toInt (hF3.1 1 10 rfl)
  have f10 := congrArg Int32.toInt (hF3.1 1 11 rfl)
  have f11 := congrArg Int32.toInt (hF3.1 59 0 rfl)
  have f12 := congrArg Int32.toInt (hF3.1 59 12 rfl)
  have f13 := congrArg Int32.toInt (hF3.1 59 10 rfl)
  have f14 := congrArg Int32.toInt (hF3.1 59 11 rfl)
  have f15 := congrArg Int32.toInt (hF3.1 116 0 rfl)
  have f16 := congrArg Int32.toInt (hF3.1 116 12 rfl)
  have f17 := congrArg Int32.toInt (hF3.1 116 10 rfl)
  have f18 := congrArg Int32.toInt (hF3.1 116 11 rfl)
  have f19 := congrArg Int32.toInt (eA_c (j := 0) (hF3.2.1 173 rfl))
  have f20 := congrArg Int32.toInt (eA_c (j := 1) (hF3.2.1 173 rfl))
  have f21 := congrArg Int32.toInt (hF3.1 174 1 rfl)
  have f22 := congrArg Int32.toInt (eA_c (j := 0) (hF3.2.1 233 rfl))
  have f23 := congrArg Int32.toInt (eA_c (j := 4) (hF3.2.1 233 rfl))
  have f24 := congrArg Int32.toInt (eA_c (j := 5) (hF3.2.1 233 rfl))
  have f25 := congrArg Int32.toInt (eA_c (j := 6) (hF3.2.1 233 rfl))
  have f26 := congrArg Int32.toInt (eA_c (j := 0) (hF3.2.1 234 rfl))
  have f27 := congrArg Int32.toInt (eA_c (j := 4) (hF3.2.1 234 rfl))
  have f28 := congrArg Int32.toInt (eA_c (j := 5) (hF3.2.1 234 rfl))
  have f29 := congrArg Int32.toInt (eA_c (j := 6) (hF3.2.1 234 rfl))
  have f30 := congrArg Int32.toInt (eA_c (j := 5510) (hF3.2.1 234 rfl))
  have f31 := congrArg Int32.toInt (eA_c (j := 5514) (hF3.2.1 234 rfl))
  have f32 := congrArg Int32.toInt (eA_c (j := 5515) (hF3.2.1 234 rfl))
  have f33 := congrArg Int32.toInt (eA_c (j := 5516) (hF3.2.1 234 rfl))
  have f34 := congrArg Int32.toInt (eA_c (j := 0) (hF3.2.1 235 rfl))
  have f35 := congrArg Int32.toInt (eA_c (j := 1) (hF3.2.1 235 rfl))
  have f36 := congrArg Int32.toInt (hF3.1 231 8 rfl)
  refine At.enter rfl ?_
  refine r_pop rfl ?_
  refine r_aload_n e2 ?_
  refine r_callV 599 rfl [.ref 231] [] (Nat.le_of_ble_eq_true rfl) rfl (T_X11_dropped_231 _ hI2) ?_
  rintro _ _ ⟨g37, rfl, hI38, hF39, v40, rfl, hr41⟩
  refine At.sti ?_
  have hF42 := Fr.tr hF6 hF39 rfl rfl
  have f43 := congrArg Int32.toInt (hF39.1 1 0 rfl)
  have f44 := congrArg Int32.toInt (hF39.1 1 12 rfl)
  have f45 := congrArg Int32.toInt (hF39.1 1 10 rfl)
  have f46 := congrArg Int32.toInt (hF39.1 1 11 rfl)
  have f47 := congrArg Int32.toInt (hF39.1 59 0 rfl)
  have f48 := congrArg Int32.toInt (hF39.1 59 12 rfl)
  have f49 := congrArg Int32.toInt (hF39.1 59 10 rfl)
  have f50 := congrArg Int32.toInt (hF39.1 59 11 rfl)
  have f51 := congrArg Int32.toInt (hF39.1 116 0 rfl)
  have f52 := congrArg Int32.toInt (hF39.1 116 12 rfl)
  have f53 := congrArg Int32.toInt (hF39.1 116 10 rfl)
  have f54 := congrArg Int32.toInt (hF39.1 116 11 rfl)
  have f55 := congrArg Int32.toInt (eA_c (j := 0) (hF39.2.1 173 rfl))
  have f56 := congrArg Int32.toInt (eA_c (j := 1) (hF39.2.1 173 rfl))
  have f57 := congrArg Int32.toInt (hF39.1 174 1 rfl)
  have f58 := congrArg Int32.toInt (eA_c (j := 0) (hF39.2.1 233 rfl))
  have f59 := congrArg Int32.toInt (eA_c (j := 4) (hF39.2.1 233 rfl))
  have f60 := congrArg Int32.toInt (eA_c (j := 5) (hF39.2.1 233 rfl))
  have f61 := congrArg Int32.toInt (eA_c (j := 6) (hF39.2.1 233 rfl))
  have f62 := congrArg Int32.toInt (eA_c (j := 0) (hF39.2.1 234 rfl))
  have f63 := congrArg Int32.toInt (eA_c (j := 4) (hF39.2.1 234 rfl))
  have f64 := congrArg Int32.toInt (eA_c (j := 5) (hF39.2.1 234 rfl))
  have f65 := congrArg Int32.toInt (eA_c (j := 6) (hF39.2.1 234 rfl))
  have f66 := congrArg Int32.toInt (eA_c (j := 5510) (hF39.2.1 234 rfl))
  have f67 := congrArg Int32.toInt (eA_c (j := 5514) (hF39.2.1 234 rfl))
  have f68 := congrArg Int32.toInt (eA_c (j := 5515) (hF39.2.1 234 rfl))
  have f69 := congrArg Int32.toInt (eA_c (j := 5516) (hF39.2.1 234 rfl))
  have f70 := congrArg Int32.toInt (eA_c (j := 0) (hF39.2.1 235 rfl))
  have f71 := congrArg Int32.toInt (eA_c (j := 1) (hF39.2.1 235 rfl))
  have f72 := congrArg Int32.toInt (hF39.1 231 8 rfl)
  refine At.enter rfl ?_
  refine r_pop rfl ?_
  refine r_goto ?_
  exact K _ hI38 (show LwR _ from ⟨(congrArg Int32.toInt (((hF39.1 1 0 (by decide)).trans (hF3.1 1 0 (by decide))))).trans (hR_0.trans (eA_ti (j := 0) (((hF39.2.1 233 (by decide)).trans (hF3.2.1 233 (by decide))))).symm), (congrArg Int32.toInt (((hF39.1 1 12 (by decide)).trans (hF3.1 1 12 (by decide))))).trans (hR_1.trans (eA_ti (j := 4) (((hF39.2.1 233 (by decide)).trans (hF3.2.1 233 (by decide))))).symm), (congrArg Int32.toInt (((hF39.1 1 10 (by decide)).trans (hF3.1 1 10 (by decide))))).trans (hR_2.trans (eA_ti (j := 5) (((hF39.2.1 233 (by decide)).trans (hF3.2.1 233 (by decide))))).symm), (congrArg Int32.toInt (((hF39.1 1 11 (by decide)).trans (hF3.1 1 11 (by decide))))).trans (hR_3.trans (eA_ti (j := 6) (((hF39.2.1 233 (by decide)).trans (hF3.2.1 233 (by decide))))).symm), (eA_ti (j := 0) (((hF39.2.1 173 (by decide)).trans (hF3.2.1 173 (by decide))))).trans (hR_4.trans (eA_ti (j := 0) (((hF39.2.1 235 (by decide)).trans (hF3.2.1 235 (by decide))))).symm), (eA_ti (j := 1) (((hF39.2.1 173 (by decide)).trans (hF3.2.1 173 (by decide))))).trans (hR_5.trans (eA_ti (j := 1) (((hF39.2.1 235 (by decide)).trans (hF3.2.1 235 (by decide))))).symm), (congrArg Int32.toInt (((hF39.1 174 1 (by decide)).trans (hF3.1 174 1 (by decide))))).trans (hR_6.trans (congrArg Int32.toInt (((hF39.1 231 8 (by decide)).trans (hF3.1 231 8 (by decide))))).symm), IM0.cong hR_7 (eA_ti (j := 0) (((hF39.2.1 173 (by decide)).trans (hF3.2.1 173 (by decide))))) (congrArg Int32.toInt (((hF39.1 59 0 (by decide)).trans (hF3.1 59 0 (by decide))))) (eA_ti (j := 0) (((hF39.2.1 234 (by decide)).trans (hF3.2.1 234 (by decide))))) (congrArg Int32.toInt (((hF39.1 59 12 (by decide)).trans (hF3.1 59 12 (by decide))))) (eA_ti (j := 4) (((hF39.2.1 234 (by decide)).trans (hF3.2.1 234 (by decide))))) (congrArg Int32.toInt (((hF39.1 59 10 (by decide)).trans (hF3.1 59 10 (by decide))))) (eA_ti (j := 5) (((hF39.2.1 234 (by decide)).trans (hF3.2.1 234 (by decide))))) (congrArg Int32.toInt (((hF39.1 59 11 (by decide)).trans (hF3.1 59 11 (by decide))))) (eA_ti (j := 6) (((hF39.2.1 234 (by decide)).trans (hF3.2.1 234 (by decide))))), IM1.cong hR_8 (eA_ti (j := 1) (((hF39.2.1 173 (by decide)).trans (hF3.2.1 173 (by decide))))) (congrArg Int32.toInt (((hF39.1 116 0 (by decide)).trans (hF3.1 116 0 (by decide))))) (eA_ti (j := 5510) (((hF39.2.1 234 (by decide)).trans (hF3.2.1 234 (by decide))))) (congrArg Int32.toInt (((hF39.1 116 12 (by decide)).trans (hF3.1 116 12 (by decide))))) (eA_ti (j := 5514) (((hF39.2.1 234 (by decide)).trans (hF3.2.1 234 (by decide))))) (congrArg Int32.toInt (((hF39.1 116 10 (by decide)).trans (hF3.1 116 10 (by decide))))) (eA_ti (j := 5515) (((hF39.2.1 234 (by decide)).trans (hF3.2.1 234 (by decide))))) (congrArg Int32.toInt (((hF39.1 116 11 (by decide)).trans (hF3.1 116 11 (by decide))))) (eA_ti (j := 5516) (((hF39.2.1 234 (by decide)).trans (hF3.2.1 234 (by decide))))), CT.cong hR_9 (((hF39.2.1 2 (by decide)).trans (hF3.2.1 2 (by decide)))) (((hF39.2.1 3 (by decide)).trans (hF3.2.1 3 (by decide)))) (((hF39.2.1 4 (by decide)).trans (hF3.2.1 4 (by decide)))) (((hF39.2.1 14 (by decide)).trans (hF3.2.1 14 (by decide)))) (((hF39.2.1 15 (by decide)).trans (hF3.2.1 15 (by decide)))) (((hF39.2.1 233 (by decide)).trans (hF3.2.1 233 (by decide)))), CI0.cong hR_10 (((hF39.2.1 60 (by decide)).trans (hF3.2.1 60 (by decide)))) (((hF39.2.1 61 (by decide)).trans (hF3.2.1 61 (by decide)))) (((hF39.2.1 62 (by decide)).trans (hF3.2.1 62 (by decide)))) (((hF39.2.1 72 (by decide)).trans (hF3.2.1 72 (by decide)))) (((hF39.2.1 73 (by decide)).trans (hF3.2.1 73 (by decide)))) (((hF39.2.1 234 (by decide)).trans (hF3.2.1 234 (by decide)))), CI1.cong hR_11 (((hF39.2.1 117 (by decide)).trans (hF3.2.1 117 (by decide)))) (((hF39.2.1 118 (by decide)).trans (hF3.2.1 118 (by decide)))) (((hF39.2.1 119 (by decide)).trans (hF3.2.1 119 (by decide)))) (((hF39.2.1 129 (by decide)).trans (hF3.2.1 129 (by decide)))) (((hF39.2.1 130 (by decide)).trans (hF3.2.1 130 (by decide)))) (((hF39.2.1 234 (by decide)).trans (hF3.2.1 234 (by decide))))⟩)

set_option maxRecDepth 100000 in
set_option maxHeartbeats 8000000 in
theorem lq_c11 (d : Nat) {N : Nat} {g0 : List en_E} (hI0 : HI g0) (hR0 : LwR g0) {ys : List Int32} {L : Nat} (hL : ys.length = L) (hL2 : L ≤ 3584) {l : en_L} {i : Int32} (e0 : en_get 0 l = some (.float 0)) (e1 : en_get 1 l = some (.ref 0)) (e2 : en_get 2 l = some (.ref 231)) (e3 : en_get 3 l = some (.int i)) (hi : 0 ≤ i.toInt ∧ i.toInt + 7 ≤ L) {Ph : Option Value → en_H → Prop} (K : ∀ g1 : List en_E, HI g1 → LwR g1 → At (d + 423) (some ys) (some .boolean) bs_L_law (1330, l, [], (g1, N)) Ph) : At (d + 423) (some ys) (some .boolean) bs_L_law (603, l, [], (g0, N)) Ph := by
  have hF0 : Fr F_law A_law g0 g0 := Fr.rf
  have hx_1 : -2147483648 ≤ i.toInt + 1 ∧ i.toInt + 1 ≤ 2147483647 := by omega
  have hx_2 : -2147483648 ≤ i.toInt + 2 ∧ i.toInt + 2 ≤ 2147483647 := by omega
  have hx_3 : -2147483648 ≤ i.toInt + 3 ∧ i.toInt + 3 ≤ 2147483647 := by omega
  have hx_4 : -2147483648 ≤ i.toInt + 4 ∧ i.toInt + 4 ≤ 2147483647 := by omega
  have hx_5 : -2147483648 ≤ i.toInt + 5 ∧ i.toInt + 5 ≤ 2147483647 := by omega
  have hx_6 : -2147483648 ≤ i.toInt + 6 ∧ i.toInt + 6 ≤ 2147483647 := by omega
  have hy_0 : 0 ≤ i.toInt ∧ i.toInt < (L : Int) := by omega
  have hy_1 : 0 ≤ i.toInt + 1 ∧ i.toInt + 1 < (L : Int) := by omega
  have hy_2 : 0 ≤ i.toInt + 2 ∧ i.toInt + 2 < (L : Int) := by omega
  have hy_3 : 0 ≤ i.toInt + 3 ∧ i.toInt + 3 < (L : Int) := by omega
  have hy_4 : 0 ≤ i.toInt + 4 ∧ i.toInt + 4 < (L : Int) := by omega
  have hy_5 : 0 ≤ i.toInt + 5 ∧ i.toInt + 5 < (L : Int) := by omega
  have hy_6 : 0 ≤ i.toInt + 6 ∧ i.toInt + 6 < (L : Int) := by omega
  unfold LwR at hR0
  obtain ⟨hR_0, hR_1, hR_2, hR_3, hR_4, hR_5, hR_6, hR_7, hR_8, hR_9, hR_10, hR_11⟩ := hR0
  refine At.enter rfl ?_
  refine r_aload_n e1 ?_
  refine r_callV 607 rfl [.ref 0] [] (Nat.le_of_ble_eq_true rfl) rfl (T_X10_law_0 _ hI0) ?_
  rintro _ _ ⟨g1, rfl, hI2, hF3, v4, rfl, hr5⟩
  refine At.sti ?_
  have hF6 := Fr.tr hF0 hF3 rfl rfl
  have f7 := congrArg Int32.toInt (hF3.1 1 0 rfl)
  have f8 := congrArg Int32.toInt (hF3.1 1 12 rfl)
  have f9 := congrArg Int32.toInt (hF3.1 1 10 rfl)
  have f10 := congrArg Int32.toInt (hF3.1 1 11 rfl)
  have f11 := congrArg Int32.toInt (hF3.1 59 0 rfl)
  have f12 := congrArg Int32.toInt (hF3.1 59 12 rfl)
  have f13 := congrArg Int32.toInt (hF3.1 59 10 rfl)
  have f14 := congrArg Int32.toInt (hF3.1 59 11 rfl)
  have f15 := congrArg Int32.toInt (hF3.1 116 0 rfl)
  have f16 := congrArg Int32.toInt (hF3.1 116 12 rfl)
  have f17 := congrArg Int32.toInt (hF3.1 116 10 rfl)
  have f18 := congrArg Int32.toInt (hF3.1 116 11 rfl)
  have f19 := congrArg Int32.toInt (eA_c (j := 0) (hF3.2.1 173 rfl))
  have f20 := congrArg Int32.toInt (eA_c (j := 1) (hF3.2.1 173 rfl))
  have f21 := congrArg Int32.toInt (eA_c (j := 0) (hF3.2.1 233 rfl))
  have f22 := congrArg Int32.toInt (eA_c (j := 4) (hF3.2.1 233 rfl))
  have f23 := congrArg Int32.toInt (eA_c (j := 5) (hF3.2.1 233 rfl))
  have f24 := congrArg Int32.toInt (eA_c (j := 6) (hF3.2.1 233 rfl))
  have f25 := congrArg Int32.toInt (eA_c (j := 0) (hF3.2.1 234 rfl))
  have f26 := congrArg Int32.toInt (eA_c (j := 4) (hF3.2.1 234 rfl))
  have f27 := congrArg Int32.toInt (eA_c (j := 5) (hF3.2.1 234 rfl))
  have f28 := congrArg Int32.toInt (eA_c (j := 6) (hF3.2.1 234 rfl))
  have f29 := congrArg Int32.toInt (eA_c (j := 5510) (hF3.2.1 234 rfl))
  have f30 := congrArg Int32.toInt (eA_c (j := 5514) (hF3.2.1 234 rfl))
  have f31 := congrArg Int32.toInt (eA_c (j := 5515) (hF3.2.1 234 rfl))
  have f32 := congrArg Int32.toInt (eA_c (j := 5516) (hF3.2.1 234 rfl))
  have f33 := congrArg Int32.toInt (eA_c (j := 0) (hF3.2.1 235 rfl))
  have f34 := congrArg Int32.toInt (eA_c (j := 1) (hF3.2.1 235 rfl))
  have f35 := congrArg Int32.toInt (hF3.1 231 8 rfl)
  refine At.enter rfl ?_
  refine r_pop rfl ?_
  refine r_aload_n e2 ?_
  refine r_callV 612 rfl [.ref 231] [] (Nat.le_of_ble_eq_true rfl) rfl (T_X11_law_231 _ hI2) ?_
  rintro _ _ ⟨g36, rfl, hI37, hF38, v39, rfl, hr40⟩
  refine At.sti ?_
  have hF41 := Fr.tr hF6 hF38 rfl rfl
  have f42 := hr40.2.2
  have f43 := congrArg Int32.toInt (hr40.2.1 0 (by decide) (by decide) (by decide))
  have f44 := congrArg Int32.toInt (hr40.2.1 4 (by decide) (by decide) (by decide))
  have f45 := congrArg Int32.toInt (hr40.2.1 5 (by decide) (by decide) (by decide))
  have f46 := congrArg Int32.toInt (hr40.2.1 6 (by decide) (by decide) (by decide))
  have f47 := congrArg Int32.toInt (hF38.1 1 0 rfl)
  have f48 := congrArg Int32.toInt (hF38.1 1 12 rfl)
  have f49 := congrArg Int32.toInt (hF38.1 1 10 rfl)
  have f50 := congrArg Int32.toInt (hF38.1 1 11 rfl)
  have f51 := congrArg Int32.toInt (hF38.1 59 0 rfl)
  have f52 := congrArg Int32.toInt (hF38.1 59 12 rfl)
  have f53 := congrArg Int32.toInt (hF38.1 59 10 rfl)
  have f54 := congrArg Int32.toInt (hF38.1 59 11 rfl)
  have f55 := congrArg Int32.toInt (hF38.1 116 0 rfl)
  have f56 := congrArg Int32.toInt (hF38.1 116 12 rfl)
  have f57 := congrArg Int32.toInt (hF38.1 116 10 rfl)
  have f58 := congrArg Int32.toInt (hF38.1 116 11 rfl)
  have f59 := congrArg Int32.toInt (eA_c (j := 0) (hF38.2.1 173 rfl))
  have f60 := congrArg Int32.toInt (eA_c (j := 1) (hF38.2.1 173 rfl))
  have f61 := congrArg Int32.toInt (hF38.1 174 1 rfl)
  have f62 := congrArg Int32.toInt (eA_c (j := 0) (hF38.2.1 234 rfl))
  have f63 := congrArg Int32.toInt (eA_c (j := 4) (hF38.2.1 234 rfl))
  have f64 := congrArg Int32.toInt (eA_c (j := 5) (hF38.2.1 234 rfl))
  have f65 := congrArg Int32.toInt (eA_c (j := 6) (hF38.2.1 234 rfl))
  have f66 := congrArg Int32.toInt (eA_c (j := 5510) (hF38.2.1 234 rfl))
  have f67 := congrArg Int32.toInt (eA_c (j := 5514) (hF38.2.1 234 rfl))
  have f68 := congrArg Int32.toInt (eA_c (j := 5515) (hF38.2.1 234 rfl))
  have f69 := congrArg Int32.toInt (eA_c (j := 5516) (hF38.2.1 234 rfl))
  have f70 := congrArg Int32.toInt (eA_c (j := 0) (hF38.2.1 235 rfl))
  have f71 := congrArg Int32.toInt (eA_c (j := 1) (hF38.2.1 235 rfl))
  refine At.enter rfl ?_
  refine r_pop rfl ?_
  refine r_goto ?_
  exact K _ hI37 (show LwR _ from ⟨by omega, by omega, by omega, by omega, (eA_ti (j := 0) (((hF38.2.1 173 (by decide)).trans (hF3.2.1 173 (by decide))))).trans (hR_4.trans (eA_ti (j := 0) (((hF38.2.1 235 (by decide)).trans (hF3.2.1 235 (by decide))))).symm), (eA_ti (j := 1) (((hF38.2.1 173 (by decide)).trans (hF3.2.1 173 (by decide))))).trans (hR_5.trans (eA_ti (j := 1) (((hF38.2.1 235 (by decide)).trans (hF3.2.1 235 (by decide))))).symm), by omega, IM0.cong hR_7 (eA_ti (j := 0) (((hF38.2.1 173 (by decide)).trans (hF3.2.1 173 (by decide))))) (congrArg Int32.toInt (((hF38.1 59 0 (by decide)).trans (hF3.1 59 0 (by decide))))) (eA_ti (j := 0) (((hF38.2.1 234 (by decide)).trans (hF3.2.1 234 (by decide))))) (congrArg Int32.toInt (((hF38.1 59 12 (by decide)).trans (hF3.1 59 12 (by decide))))) (eA_ti (j := 4) (((hF38.2.1 234 (by decide)).trans (hF3.2.1 234 (by decide))))) (congrArg Int32.toInt (((hF38.1 59 10 (by decide)).trans (hF3.1 59 10 (by decide))))) (eA_ti (j := 5) (((hF38.2.1 234 (by decide)).trans (hF3.2.1 234 (by decide))))) (congrArg Int32.toInt (((hF38.1 59 11 (by decide)).trans (hF3.1 59 11 (by decide))))) (eA_ti (j := 6) (((hF38.2.1 234 (by decide)).trans (hF3.2.1 234 (by decide))))), IM1.cong hR_8 (eA_ti (j := 1) (((hF38.2.1 173 (by decide)).trans (hF3.2.1 173 (by decide))))) (congrArg Int32.toInt (((hF38.1 116 0 (by decide)).trans (hF3.1 116 0 (by decide))))) (eA_ti (j := 5510) (((hF38.2.1 234 (by decide)).trans (hF3.2.1 234 (by decide))))) (congrArg Int32.toInt (((hF38.1 116 12 (by decide)).trans (hF3.1 116 12 (by decide))))) (eA_ti (j := 5514) (((hF38.2.1 234 (by decide)).trans (hF3.2.1 234 (by decide))))) (congrArg Int32.toInt (((hF38.1 116 10 (by decide)).trans (hF3.1 116 10 (by decide))))) (eA_ti (j := 5515) (((hF38.2.1 234 (by decide)).trans (hF3.2.1 234 (by decide))))) (congrArg Int32.toInt (((hF38.1 116 11 (by decide)).trans (hF3.1 116 11 (by decide))))) (eA_ti (j := 5516) (((hF38.2.1 234 (by decide)).trans (hF3.2.1 234 (by decide))))), (show CT _ from ⟨fun i i0 i1 => ⟨(by have t0_ := hI0.t0; have t1_ := hI0.t1; clear hr5; have o := (hR_9.1 i i0 i1).1; have x := eA_ti (j := i) (((hF38.2.1 2 (by decide)).trans (hF3.2.1 2 (by decide)))); have m := congrArg Int32.toInt (hr40.2.1 (10 + 3 * i) (by omega) (by omega) (by omega)); have y1 := eA_ti (j := ((10 + 3 * i))) (hF3.2.1 233 (by decide)); first | exact x.trans (o.trans (m.trans y1).symm) | omega), (by have t0_ := hI0.t0; have t1_ := hI0.t1; clear hr5; have o := (hR_9.1 i i0 i1).2.1; have x := eA_ti (j := i) (((hF38.2.1 3 (by decide)).trans (hF3.2.1 3 (by decide)))); have m := congrArg Int32.toInt (hr40.2.1 (10 + 3 * i + 1) (by omega) (by omega) (by omega)); have y1 := eA_ti (j := ((10 + 3 * i + 1))) (hF3.2.1 233 (by decide)); first | exact x.trans (o.trans (m.trans y1).symm) | omega), (by have t0_ := hI0.t0; have t1_ := hI0.t1; clear hr5; have o := (hR_9.1 i i0 i1).2.2; have x := eA_ti (j := i) (((hF38.2.1 4 (by decide)).trans (hF3.2.1 4 (by decide)))); have m := congrArg Int32.toInt (hr40.2.1 (10 + 3 * i + 2) (by omega) (by omega) (by omega)); have y1 := eA_ti (j := ((10 + 3 * i + 2))) (hF3.2.1 233 (by decide)); first | exact x.trans (o.trans (m.trans y1).symm) | omega)⟩, fun i i0 i1 => ⟨(by have t0_ := hI0.t0; have t1_ := hI0.t1; clear hr5; have o := (hR_9.2 i i0 i1).1; have x := eA_ti (j := i) (((hF38.2.1 14 (by decide)).trans (hF3.2.1 14 (by decide)))); have m := congrArg Int32.toInt (hr40.2.1 (94 + 2 * i) (by omega) (by omega) (by omega)); have y1 := eA_ti (j := ((94 + 2 * i))) (hF3.2.1 233 (by decide)); first | exact x.trans (o.trans (m.trans y1).symm) | omega), (by have t0_ := hI0.t0; have t1_ := hI0.t1; clear hr5; have o := (hR_9.2 i i0 i1).2; have x := eA_ti (j := i) (((hF38.2.1 15 (by decide)).trans (hF3.2.1 15 (by decide)))); have m := congrArg Int32.toInt (hr40.2.1 (94 + 2 * i + 1) (by omega) (by omega) (by omega)); have y1 := eA_ti (j := ((94 + 2 * i + 1))) (hF3.2.1 233 (by decide)); first | exact x.trans (o.trans (m.trans y1).symm) | omega)⟩⟩), CI0.cong hR_10 (((hF38.2.1 60 (by decide)).trans (hF3.2.1 60 (by decide)))) (((hF38.2.1 61 (by decide)).trans (hF3.2.1 61 (by decide)))) (((hF38.2.1 62 (by decide)).trans (hF3.2.1 62 (by decide)))) (((hF38.2.1 72 (by decide)).trans (hF3.2.1 72 (by decide)))) (((hF38.2.1 73 (by decide)).trans (hF3.2.1 73 (by decide)))) (((hF38.2.1 234 (by decide)).trans (hF3.2.1 234 (by decide)))), CI1.cong hR_11 (((hF38.2.1 117 (by decide)).trans (hF3.2.1 117 (by decide)))) (((hF38.2.1 118 (by decide)).trans (hF3.2.1 118 (by decide)))) (((hF38.2.1 119 (by decide)).trans (hF3.2.1 119 (by decide)))) (((hF38.2.1 129 (by decide)).trans (hF3.2.1 129 (by decide)))) (((hF38.2.1 130 (by decide)).trans (hF3.2.1 130 (by decide)))) (((hF38.2.1 234 (by decide)).trans (hF3.2.1 234 (by decide))))⟩)
