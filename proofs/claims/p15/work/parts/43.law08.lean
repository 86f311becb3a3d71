set_option maxRecDepth 100000 in
set_option maxHeartbeats 8000000 in
theorem lq_c8 (d : Nat) {N : Nat} {g0 : List en_E} (hI0 : HI g0) (hR0 : LwR g0) {ys : List Int32} {L : Nat} (hL : ys.length = L) (hL2 : L ≤ 3584) {l : en_L} {i : Int32} (e0 : en_get 0 l = some (.float 0)) (e1 : en_get 1 l = some (.ref 0)) (e2 : en_get 2 l = some (.ref 231)) (e3 : en_get 3 l = some (.int i)) (hi : 0 ≤ i.toInt ∧ i.toInt + 7 ≤ L) {Ph : Option Value → en_H → Prop} (K : ∀ g1 : List en_E, HI g1 → LwR g1 → At (d + 423) (some ys) (some .boolean) bs_L_law (1330, l, [], (g1, N)) Ph) : At (d + 423) (some ys) (some .boolean) bs_L_law (554, l, [], (g0, N)) Ph := by
  have hF0 : Fr F_law A_law g0 g0 := Fr.rf
  have hx_1 : -2147483648 ≤ i.toInt + 1 ∧ i.toInt + 1 ≤ 2147483647 := by omega
  have hx_2 : -2147483648 ≤ i.toInt + 2 ∧ i.toInt + 2 ≤ 2147483647 := by omega
  have hx_3 : -2147483648 ≤ i.toInt + 3 ∧ i.toInt + 3 ≤ 2147483647 := by omega
  have hx_4 : -2147483648 ≤ i.toInt + 4 ∧ i.toInt + 4 ≤ 2147483647 := by omega
  have hx_5 : -2147483648 ≤ i.toInt + 5 ∧ i.toInt + 5 ≤ 2147483647 := by omega
  have hx_6 : -2147483648 ≤ i.toInt + 6 ∧ i.toInt + 6 ≤ 2147483647 := by omega
  have hy_0 : 0 ≤ i.toInt ∧ i.toInt < (L : Int) := by omega
  have hy_1 : 0 ≤ i.toInt + 1 ∧ i.toInt + 1 < (L : Int) := by omega
  have hy_2 : 0 ≤ i.toInt + 2 ∧ i.toInt + 2 < (L : Int) := by omega
  have hy_3 : 0 ≤ i.toInt + 3 ∧ i.toInt + 3 < (L : Int) := by omega
  have hy_4 : 0 ≤ i.toInt + 4 ∧ i.toInt + 4 < (L : Int) := by omega
  have hy_5 : 0 ≤ i.toInt + 5 ∧ i.toInt + 5 < (L : Int) := by omega
  have hy_6 : 0 ≤ i.toInt + 6 ∧ i.toInt + 6 < (L : Int) := by omega
  unfold LwR at hR0
  obtain ⟨hR_0, hR_1, hR_2, hR_3, hR_4, hR_5, hR_6, hR_7, hR_8, hR_9, hR_10, hR_11, hR_12, hR_13⟩ := hR0
  refine At.enter rfl ?_
  refine r_aload_n e1 ?_
  refine r_sload_n e0 ?_
  refine r_iload_n e3 ?_
  refine r_iconst 1 rfl ?_
  refine q_iadd (i.toInt + 1) rfl hx_1 (fun v1 hv1 => ?_)
  refine q_scald (m := L) hL (i.toInt + 1) hv1 hy_1 (fun v2 hv2 => ?_)
  refine r_callV 563 rfl [.ref 0, .int v2] [] (Nat.le_of_ble_eq_true rfl) rfl (T_X10_end_0 _ hI0 v2) ?_
  rintro _ _ ⟨g3, rfl, hI4, hF5, v6, rfl, hr7⟩
  refine At.sti ?_
  have hF8 := Fr.tr hF0 hF5 rfl rfl
  have f9 := congrArg Int32.toInt (hF5.1 1 0 rfl)
  have f10 := congrArg Int32.toInt (hF5.1 1 12 rfl)
  have f11 := congrArg Int32.toInt (hF5.1 1 10 rfl)
  have f12 := congrArg Int32.toInt (hF5.1 1 11 rfl)
  have f13 := congrArg Int32.toInt (hF5.1 1 6 rfl)
  have f14 := congrArg Int32.toInt (hF5.1 1 9 rfl)
  have f15 := congrArg Int32.toInt (hF5.1 59 0 rfl)
  have f16 := congrArg Int32.toInt (hF5.1 59 12 rfl)
  have f17 := congrArg Int32.toInt (hF5.1 59 10 rfl)
  have f18 := congrArg Int32.toInt (hF5.1 59 11 rfl)
  have f19 := congrArg Int32.toInt (hF5.1 59 6 rfl)
  have f20 := congrArg Int32.toInt (hF5.1 59 9 rfl)
  have f21 := congrArg Int32.toInt (hF5.1 116 0 rfl)
  have f22 := congrArg Int32.toInt (hF5.1 116 12 rfl)
  have f23 := congrArg Int32.toInt (hF5.1 116 10 rfl)
  have f24 := congrArg Int32.toInt (hF5.1 116 11 rfl)
  have f25 := congrArg Int32.toInt (hF5.1 116 6 rfl)
  have f26 := congrArg Int32.toInt (hF5.1 116 9 rfl)
  have f27 := congrArg Int32.toInt (eA_c (j := 0) (hF5.2.1 173 rfl))
  have f28 := congrArg Int32.toInt (eA_c (j := 1) (hF5.2.1 173 rfl))
  have f30 := congrArg Int32.toInt (hF5.1 176 2 rfl)
  have f31 := congrArg Int32.toInt (eA_c (j := 0) (hF5.2.1 233 rfl))
  have f32 := congrArg Int32.toInt (eA_c (j := 4) (hF5.2.1 233 rfl))
  have f33 := congrArg Int32.toInt (eA_c (j := 5) (hF5.2.1 233 rfl))
  have f34 := congrArg Int32.toInt (eA_c (j := 6) (hF5.2.1 233 rfl))
  have f35 := congrArg Int32.toInt (eA_c (j := 2) (hF5.2.1 233 rfl))
  have f36 := congrArg Int32.toInt (eA_c (j := 3) (hF5.2.1 233 rfl))
  have f37 := congrArg Int32.toInt (eA_c (j := 0) (hF5.2.1 234 rfl))
  have f38 := congrArg Int32.toInt (eA_c (j := 4) (hF5.2.1 234 rfl))
  have f39 := congrArg Int32.toInt (eA_c (j := 5) (hF5.2.1 234 rfl))
  have f40 := congrArg Int32.toInt (eA_c (j := 6) (hF5.2.1 234 rfl))
  have f41 := congrArg Int32.toInt (eA_c (j := 2) (hF5.2.1 234 rfl))
  have f42 := congrArg Int32.toInt (eA_c (j := 3) (hF5.2.1 234 rfl))
  have f43 := congrArg Int32.toInt (eA_c (j := 5510) (hF5.2.1 234 rfl))
  have f44 := congrArg Int32.toInt (eA_c (j := 5514) (hF5.2.1 234 rfl))
  have f45 := congrArg Int32.toInt (eA_c (j := 5515) (hF5.2.1 234 rfl))
  have f46 := congrArg Int32.toInt (eA_c (j := 5516) (hF5.2.1 234 rfl))
  have f47 := congrArg Int32.toInt (eA_c (j := 5512) (hF5.2.1 234 rfl))
  have f48 := congrArg Int32.toInt (eA_c (j := 5513) (hF5.2.1 234 rfl))
  have f49 := congrArg Int32.toInt (eA_c (j := 0) (hF5.2.1 235 rfl))
  have f50 := congrArg Int32.toInt (eA_c (j := 1) (hF5.2.1 235 rfl))
  have f51 := congrArg Int32.toInt (hF5.1 231 8 rfl)
  have f52 := congrArg Int32.toInt (hF5.1 231 13 rfl)
  refine At.enter rfl ?_
  refine r_pop rfl ?_
  refine r_aload_n e2 ?_
  refine r_sload_n e0 ?_
  refine r_iload_n e3 ?_
  refine r_iconst 1 rfl ?_
  refine q_iadd (i.toInt + 1) rfl hx_1 (fun v53 hv53 => ?_)
  refine q_scald (m := L) hL (i.toInt + 1) hv53 hy_1 (fun v54 hv54 => ?_)
  have sv54 := hv2.symm.trans hv54
  subst sv54
  refine r_callV 573 rfl [.ref 231, .int v2] [] (Nat.le_of_ble_eq_true rfl) rfl (T_X11_end_231 _ hI4 v2) ?_
  rintro _ _ ⟨g55, rfl, hI56, hF57, v58, rfl, hr59⟩
  refine At.sti ?_
  have hF60 := Fr.tr hF8 hF57 rfl rfl
  have f61 := congrArg Int32.toInt (hF57.1 1 0 rfl)
  have f62 := congrArg Int32.toInt (hF57.1 1 12 rfl)
  have f63 := congrArg Int32.toInt (hF57.1 1 10 rfl)
  have f64 := congrArg Int32.toInt (hF57.1 1 11 rfl)
  have f65 := congrArg Int32.toInt (hF57.1 1 6 rfl)
  have f66 := congrArg Int32.toInt (hF57.1 1 9 rfl)
  have f67 := congrArg Int32.toInt (hF57.1 59 0 rfl)
  have f68 := congrArg Int32.toInt (hF57.1 59 12 rfl)
  have f69 := congrArg Int32.toInt (hF57.1 59 10 rfl)
  have f70 := congrArg Int32.toInt (hF57.1 59 11 rfl)
  have f71 := congrArg Int32.toInt (hF57.1 59 6 rfl)
  have f72 := congrArg Int32.toInt (hF57.1 59 9 rfl)
  have f73 := congrArg Int32.toInt (hF57.1 116 0 rfl)
  have f74 := congrArg Int32.toInt (hF57.1 116 12 rfl)
  have f75 := congrArg Int32.toInt (hF57.1 116 10 rfl)
  have f76 := congrArg Int32.toInt (hF57.1 116 11 rfl)
  have f77 := congrArg Int32.toInt (hF57.1 116 6 rfl)
  have f78 := congrArg Int32.toInt (hF57.1 116 9 rfl)
  have f79 := congrArg Int32.toInt (eA_c (j := 0) (hF57.2.1 173 rfl))
  have f80 := congrArg Int32.toInt (eA_c (j := 1) (hF57.2.1 173 rfl))
  have f81 := congrArg Int32.toInt (hF57.1 174 1 rfl)
  have f82 := congrArg Int32.toInt (hF57.1 176 2 rfl)
  have f83 := congrArg Int32.toInt (eA_c (j := 0) (hF57.2.1 233 rfl))
  have f84 := congrArg Int32.toInt (eA_c (j := 4) (hF57.2.1 233 rfl))
  have f85 := congrArg Int32.toInt (eA_c (j := 5) (hF57.2.1 233 rfl))
  have f86 := congrArg Int32.toInt (eA_c (j := 6) (hF57.2.1 233 rfl))
  have f87 := congrArg Int32.toInt (eA_c (j := 2) (hF57.2.1 233 rfl))
  have f88 := congrArg Int32.toInt (eA_c (j := 3) (hF57.2.1 233 rfl))
  have f89 := congrArg Int32.toInt (eA_c (j := 0) (hF57.2.1 234 rfl))
  have f90 := congrArg Int32.toInt (eA_c (j := 4) (hF57.2.1 234 rfl))
  have f91 := congrArg Int32.toInt (eA_c (j := 5) (hF57.2.1 234 rfl))
  have f92 := congrArg Int32.toInt (eA_c (j := 6) (hF57.2.1 234 rfl))
  have f93 := congrArg Int32.toInt (eA_c (j := 2) (hF57.2.1 234 rfl))
  have f94 := congrArg Int32.toInt (eA_c (j := 3) (hF57.2.1 234 rfl))
  have f95 := congrArg Int32.toInt (eA_c (j := 5510) (hF57.2.1 234 rfl))
  have f96 := congrArg Int32.toInt (eA_c (j := 5514) (hF57.2.1 234 rfl))
  have f97 := congrArg Int32.toInt (eA_c (j := 5515) (hF57.2.1 234 rfl))
  have f98 := congrArg Int32.toInt (eA_c (j := 5516) (hF57.2.1 234 rfl))
  have f99 := congrArg Int32.toInt (eA_c (j := 5512) (hF57.2.1 234 rfl))
  have f100 := congrArg Int32.toInt (eA_c (j := 5513) (hF57.2.1 234 rfl))
  have f101 := congrArg Int32.toInt (eA_c (j := 0) (hF57.2.1 235 rfl))
  have f102 := congrArg Int32.toInt (eA_c (j := 1) (hF57.2.1 235 rfl))
  have f104 := congrArg Int32.toInt (hF57.1 231 13 rfl)
  refine At.enter rfl ?_
  refine r_pop rfl ?_
  refine r_goto ?_
  exact K _ hI56 (show LwR _ from ⟨(congrArg Int32.toInt (((hF57.1 1 0 (by decide)).trans (hF5.1 1 0 (by decide))))).trans (hR_0.trans (eA_ti (j := 0) (((hF57.2.1 233 (by decide)).trans (hF5.2.1 233 (by decide))))).symm), (congrArg Int32.toInt (((hF57.1 1 12 (by decide)).trans (hF5.1 1 12 (by decide))))).trans (hR_1.trans (eA_ti (j := 4) (((hF57.2.1 233 (by decide)).trans (hF5.2.1 233 (by decide))))).symm), (congrArg Int32.toInt (((hF57.1 1 10 (by decide)).trans (hF5.1 1 10 (by decide))))).trans (hR_2.trans (eA_ti (j := 5) (((hF57.2.1 233 (by decide)).trans (hF5.2.1 233 (by decide))))).symm), (congrArg Int32.toInt (((hF57.1 1 11 (by decide)).trans (hF5.1 1 11 (by decide))))).trans (hR_3.trans (eA_ti (j := 6) (((hF57.2.1 233 (by decide)).trans (hF5.2.1 233 (by decide))))).symm), (congrArg Int32.toInt (((hF57.1 1 6 (by decide)).trans (hF5.1 1 6 (by decide))))).trans (hR_4.trans (eA_ti (j := 2) (((hF57.2.1 233 (by decide)).trans (hF5.2.1 233 (by decide))))).symm), (congrArg Int32.toInt (((hF57.1 1 9 (by decide)).trans (hF5.1 1 9 (by decide))))).trans (hR_5.trans (eA_ti (j := 3) (((hF57.2.1 233 (by decide)).trans (hF5.2.1 233 (by decide))))).symm), (eA_ti (j := 0) (((hF57.2.1 173 (by decide)).trans (hF5.2.1 173 (by decide))))).trans (hR_6.trans (eA_ti (j := 0) (((hF57.2.1 235 (by decide)).trans (hF5.2.1 235 (by decide))))).symm), (eA_ti (j := 1) (((hF57.2.1 173 (by decide)).trans (hF5.2.1 173 (by decide))))).trans (hR_7.trans (eA_ti (j := 1) (((hF57.2.1 235 (by decide)).trans (hF5.2.1 235 (by decide))))).symm), by first | (clear f9 f10 f11 f12 f13 f14 f15 f16 f17 f18 f19 f20 f21 f22 f23 f24 f25 f26 f27 f28 f30 f31 f32 f33 f34 f35 f36 f37 f38 f39 f40 f41 f42 f43 f44 f45 f46 f47 f48 f49 f50 f52 f61 f62 f63 f64 f65 f66 f67 f68 f69 f70 f71 f72 f73 f74 f75 f76 f77 f78 f79 f80 f82 f83 f84 f85 f86 f87 f88 f89 f90 f91 f92 f93 f94 f95 f96 f97 f98 f99 f100 f101 f102 f104; omega) | omega, (congrArg Int32.toInt (((hF57.1 176 2 (by decide)).trans (hF5.1 176 2 (by decide))))).trans (hR_9.trans (congrArg Int32.toInt (((hF57.1 231 13 (by decide)).trans (hF5.1 231 13 (by decide))))).symm), IM0.cong hR_10 (eA_ti (j := 0) (((hF57.2.1 173 (by decide)).trans (hF5.2.1 173 (by decide))))) (congrArg Int32.toInt (((hF57.1 59 0 (by decide)).trans (hF5.1 59 0 (by decide))))) (eA_ti (j := 0) (((hF57.2.1 234 (by decide)).trans (hF5.2.1 234 (by decide))))) (congrArg Int32.toInt (((hF57.1 59 12 (by decide)).trans (hF5.1 59 12 (by decide))))) (eA_ti (j := 4) (((hF57.2.1 234 (by decide)).trans (hF5.2.1 234 (by decide))))) (congrArg Int32.toInt (((hF57.1 59 10 (by decide)).trans (hF5.1 59 10 (by decide))))) (eA_ti (j := 5) (((hF57.2.1 234 (by decide)).trans (hF5.2.1 234 (by decide))))) (congrArg Int32.toInt (((hF57.1 59 11 (by decide)).trans (hF5.1 59 11 (by decide))))) (eA_ti (j := 6) (((hF57.2.1 234 (by decide)).trans (hF5.2.1 234 (by decide))))) (congrArg Int32.toInt (((hF57.1 59 6 (by decide)).trans (hF5.1 59 6 (by decide))))) (eA_ti (j := 2) (((hF57.2.1 234 (by decide)).trans (hF5.2.1 234 (by decide))))) (congrArg Int32.toInt (((hF57.1 59 9 (by decide)).trans (hF5.1 59 9 (by decide))))) (eA_ti (j := 3) (((hF57.2.1 234 (by decide)).trans (hF5.2.1 234 (by decide))))), IM1.cong hR_11 (eA_ti (j := 1) (((hF57.2.1 173 (by decide)).trans (hF5.2.1 173 (by decide))))) (congrArg Int32.toInt (((hF57.1 116 0 (by decide)).trans (hF5.1 116 0 (by decide))))) (eA_ti (j := 5510) (((hF57.2.1 234 (by decide)).trans (hF5.2.1 234 (by decide))))) (congrArg Int32.toInt (((hF57.1 116 12 (by decide)).trans (hF5.1 116 12 (by decide))))) (eA_ti (j := 5514) (((hF57.2.1 234 (by decide)).trans (hF5.2.1 234 (by decide))))) (congrArg Int32.toInt (((hF57.1 116 10 (by decide)).trans (hF5.1 116 10 (by decide))))) (eA_ti (j := 5515) (((hF57.2.1 234 (by decide)).trans (hF5.2.1 234 (by decide))))) (congrArg Int32.toInt (((hF57.1 116 11 (by decide)).trans (hF5.1 116 11 (by decide))))) (eA_ti (j := 5516) (((hF57.2.1 234 (by decide)).trans (hF5.2.1 234 (by decide))))) (congrArg Int32.toInt (((hF57.1 116 6 (by decide)).trans (hF5.1 116 6 (by decide))))) (eA_ti (j := 5512) (((hF57.2.1 234 (by decide)).trans (hF5.2.1 234 (by decide))))) (congrArg Int32.toInt (((hF57.1 116 9 (by decide)).trans (hF5.1 116 9 (by decide))))) (eA_ti (j := 5513) (((hF57.2.1 234 (by decide)).trans (hF5.2.1 234 (by decide))))), (show RT _ from fun i i0 i1 => (eA_ti (((hF57.2.1 175 (by decide)).trans (hF5.2.1 175 (by decide))))).trans ((hR_12 i i0 (by omega)).trans (eA_ti (((hF57.2.1 236 (by decide)).trans (hF5.2.1 236 (by decide))))).symm)), (show BYX _ from fun i i0 i1 => by rw [TX.c (((hF57.2.1 175 (by decide)).trans (hF5.2.1 175 (by decide))))]; exact hR_13 i i0 (by have i2 : i < (gI _ 174 1).toInt := i1; show i < (gI g0 174 1).toInt; omega))⟩)
