set_option maxRecDepth 100000 in
set_option maxHeartbeats 8000000 in
theorem lq_c21 (d : Nat) {N : Nat} {g0 : List en_E} (hI0 : HI g0) (hR0 : LwR g0) {ys : List Int32} {L : Nat} (hL : ys.length = L) (hL2 : L ≤ 3584) {l : en_L} {i : Int32} (e0 : en_get 0 l = some (.float 0)) (e1 : en_get 1 l = some (.ref 0)) (e2 : en_get 2 l = some (.ref 231)) (e3 : en_get 3 l = some (.int i)) (hi : 0 ≤ i.toInt ∧ i.toInt + 7 ≤ L) {Ph : Option Value → en_H → Prop} (K : ∀ g1 : List en_E, HI g1 → LwR g1 → At (d + 423) (some ys) (some .boolean) bs_L_law (1330, l, [], (g1, N)) Ph) : At (d + 423) (some ys) (some .boolean) bs_L_law (873, l, [], (g0, N)) Ph := by
  have hF0 : Fr F_law A_law g0 g0 := Fr.rf
  have hx_1 : -2147483648 ≤ i.toInt + 1 ∧ i.toInt + 1 ≤ 2147483647 := by omega
  have hx_2 : -2147483648 ≤ i.toInt + 2 ∧ i.toInt + 2 ≤ 2147483647 := by omega
  have hx_3 : -2147483648 ≤ i.toInt + 3 ∧ i.toInt + 3 ≤ 2147483647 := by omega
  have hx_4 : -2147483648 ≤ i.toInt + 4 ∧ i.toInt + 4 ≤ 2147483647 := by omega
  have hx_5 : -2147483648 ≤ i.toInt + 5 ∧ i.toInt + 5 ≤ 2147483647 := by omega
  have hx_6 : -2147483648 ≤ i.toInt + 6 ∧ i.toInt + 6 ≤ 2147483647 := by omega
  have hy_0 : 0 ≤ i.toInt ∧ i.toInt < (L : Int) := by omega
  have hy_1 : 0 ≤ i.toInt + 1 ∧ i.toInt + 1 < (L : Int) := by omega
  have hy_2 : 0 ≤ i.toInt + 2 ∧ i.toInt + 2 < (L : Int) := by omega
  have hy_3 : 0 ≤ i.toInt + 3 ∧ i.toInt + 3 < (L : Int) := by omega
  have hy_4 : 0 ≤ i.toInt + 4 ∧ i.toInt + 4 < (L : Int) := by omega
  have hy_5 : 0 ≤ i.toInt + 5 ∧ i.toInt + 5 < (L : Int) := by omega
  have hy_6 : 0 ≤ i.toInt + 6 ∧ i.toInt + 6 < (L : Int) := by omega
  unfold LwR at hR0
  obtain ⟨hR_0, hR_1, hR_2, hR_3, hR_4, hR_5, hR_6, hR_7, hR_8, hR_9, hR_10, hR_11, hR_12, hR_13⟩ := hR0
  refine At.enter rfl ?_
  refine r_aload_n e1 ?_
  refine r_sload_n e0 ?_
  refine r_iload_n e3 ?_
  refine r_iconst 1 rfl ?_
  refine q_iadd (i.toInt + 1) rfl hx_1 (fun v1 hv1 => ?_)
  refine q_scald (m := L) hL (i.toInt + 1) hv1 hy_1 (fun v2 hv2 => ?_)
  refine r_sload_n e0 ?_
  refine r_iload_n e3 ?_
  refine r_iconst 2 rfl ?_
  refine q_iadd (i.toInt + 2) rfl hx_2 (fun v3 hv3 => ?_)
  refine q_scald (m := L) hL (i.toInt + 2) hv3 hy_2 (fun v4 hv4 => ?_)
  refine r_callV 887 rfl [.ref 0, .int v2, .int v4] [] (Nat.le_of_ble_eq_true rfl) rfl (T_X10_swap_0 _ hI0 v2 v4) ?_
  rintro _ _ ⟨g5, rfl, hI6, hF7, v8, rfl, hr9⟩
  refine At.sti ?_
  have hF10 := Fr.tr hF0 hF7 rfl rfl
  have f11 := congrArg Int32.toInt (hF7.1 1 0 rfl)
  have f12 := congrArg Int32.toInt (hF7.1 1 12 rfl)
  have f13 := congrArg Int32.toInt (hF7.1 1 10 rfl)
  have f14 := congrArg Int32.toInt (hF7.1 1 11 rfl)
  have f15 := congrArg Int32.toInt (hF7.1 1 6 rfl)
  have f16 := congrArg Int32.toInt (hF7.1 1 9 rfl)
  have f17 := congrArg Int32.toInt (hF7.1 59 0 rfl)
  have f18 := congrArg Int32.toInt (hF7.1 59 12 rfl)
  have f19 := congrArg Int32.toInt (hF7.1 59 10 rfl)
  have f20 := congrArg Int32.toInt (hF7.1 59 11 rfl)
  have f21 := congrArg Int32.toInt (hF7.1 59 6 rfl)
  have f22 := congrArg Int32.toInt (hF7.1 59 9 rfl)
  have f23 := congrArg Int32.toInt (hF7.1 116 0 rfl)
  have f24 := congrArg Int32.toInt (hF7.1 116 12 rfl)
  have f25 := congrArg Int32.toInt (hF7.1 116 10 rfl)
  have f26 := congrArg Int32.toInt (hF7.1 116 11 rfl)
  have f27 := congrArg Int32.toInt (hF7.1 116 6 rfl)
  have f28 := congrArg Int32.toInt (hF7.1 116 9 rfl)
  have f29 := congrArg Int32.toInt (eA_c (j := 0) (hF7.2.1 173 rfl))
  have f30 := congrArg Int32.toInt (eA_c (j := 1) (hF7.2.1 173 rfl))
  have f31 := congrArg Int32.toInt (hF7.1 174 1 rfl)
  have f32 := congrArg Int32.toInt (hF7.1 176 2 rfl)
  have f33 := congrArg Int32.toInt (eA_c (j := 0) (hF7.2.1 233 rfl))
  have f34 := congrArg Int32.toInt (eA_c (j := 4) (hF7.2.1 233 rfl))
  have f35 := congrArg Int32.toInt (eA_c (j := 5) (hF7.2.1 233 rfl))
  have f36 := congrArg Int32.toInt (eA_c (j := 6) (hF7.2.1 233 rfl))
  have f37 := congrArg Int32.toInt (eA_c (j := 2) (hF7.2.1 233 rfl))
  have f38 := congrArg Int32.toInt (eA_c (j := 3) (hF7.2.1 233 rfl))
  have f39 := congrArg Int32.toInt (eA_c (j := 0) (hF7.2.1 234 rfl))
  have f40 := congrArg Int32.toInt (eA_c (j := 4) (hF7.2.1 234 rfl))
  have f41 := congrArg Int32.toInt (eA_c (j := 5) (hF7.2.1 234 rfl))
  have f42 := congrArg Int32.toInt (eA_c (j := 6) (hF7.2.1 234 rfl))
  have f43 := congrArg Int32.toInt (eA_c (j := 2) (hF7.2.1 234 rfl))
  have f44 := congrArg Int32.toInt (eA_c (j := 3) (hF7.2.1 234 rfl))
  have f45 := congrArg Int32.toInt (eA_c (j := 5510) (hF7.2.1 234 rfl))
  have f46 := congrArg Int32.toInt (eA_c (j := 5514) (hF7.2.1 234 rfl))
  have f47 := congrArg Int32.toInt (eA_c (j := 5515) (hF7.2.1 234 rfl))
  have f48 := congrArg Int32.toInt (eA_c (j := 5516) (hF7.2.1 234 rfl))
  have f49 := congrArg Int32.toInt (eA_c (j := 5512) (hF7.2.1 234 rfl))
  have f50 := congrArg Int32.toInt (eA_c (j := 5513) (hF7.2.1 234 rfl))
  have f51 := congrArg Int32.toInt (eA_c (j := 0) (hF7.2.1 235 rfl))
  have f52 := congrArg Int32.toInt (eA_c (j := 1) (hF7.2.1 235 rfl))
  have f53 := congrArg Int32.toInt (hF7.1 231 8 rfl)
  have f54 := congrArg Int32.toInt (hF7.1 231 13 rfl)
  refine At.enter rfl ?_
  refine r_pop rfl ?_
  refine r_aload_n e2 ?_
  refine r_sload_n e0 ?_
  refine r_iload_n e3 ?_
  refine r_iconst 1 rfl ?_
  refine q_iadd (i.toInt + 1) rfl hx_1 (fun v55 hv55 => ?_)
  refine q_scald (m := L) hL (i.toInt + 1) hv55 hy_1 (fun v56 hv56 => ?_)
  have sv56 := hv2.symm.trans hv56
  subst sv56
  refine r_sload_n e0 ?_
  refine r_iload_n e3 ?_
  refine r_iconst 2 rfl ?_
  refine q_iadd (i.toInt + 2) rfl hx_2 (fun v57 hv57 => ?_)
  refine q_scald (m := L) hL (i.toInt + 2) hv57 hy_2 (fun v58 hv58 => ?_)
  have sv58 := hv4.symm.trans hv58
  subst sv58
  refine r_callV 902 rfl [.ref 231, .int v2, .int v4] [] (Nat.le_of_ble_eq_true rfl) rfl (T_X11_swap_231 _ hI6 v2 v4) ?_
  rintro _ _ ⟨g59, rfl, hI60, hF61, v62, rfl, hr63⟩
  refine At.sti ?_
  have hF64 := Fr.tr hF10 hF61 rfl rfl
  have f65 := congrArg Int32.toInt (hF61.1 1 0 rfl)
  have f66 := congrArg Int32.toInt (hF61.1 1 12 rfl)
  have f67 := congrArg Int32.toInt (hF61.1 1 10 rfl)
  have f68 := congrArg Int32.toInt (hF61.1 1 11 rfl)
  have f69 := congrArg Int32.toInt (hF61.1 1 6 rfl)
  have f70 := congrArg Int32.toInt (hF61.1 1 9 rfl)
  have f71 := congrArg Int32.toInt (hF61.1 59 0 rfl)
  have f72 := congrArg Int32.toInt (hF61.1 59 12 rfl)
  have f73 := congrArg Int32.toInt (hF61.1 59 10 rfl)
  have f74 := congrArg Int32.toInt (hF61.1 59 11 rfl)
  have f75 := congrArg Int32.toInt (hF61.1 59 6 rfl)
  have f76 := congrArg Int32.toInt (hF61.1 59 9 rfl)
  have f77 := congrArg Int32.toInt (hF61.1 116 0 rfl)
  have f78 := congrArg Int32.toInt (hF61.1 116 12 rfl)
  have f79 := congrArg Int32.toInt (hF61.1 116 10 rfl)
  have f80 := congrArg Int32.toInt (hF61.1 116 11 rfl)
  have f81 := congrArg Int32.toInt (hF61.1 116 6 rfl)
  have f82 := congrArg Int32.toInt (hF61.1 116 9 rfl)
  have f83 := congrArg Int32.toInt (eA_c (j := 0) (hF61.2.1 173 rfl))
  have f84 := congrArg Int32.toInt (eA_c (j := 1) (hF61.2.1 173 rfl))
  have f85 := congrArg Int32.toInt (hF61.1 174 1 rfl)
  have f86 := congrArg Int32.toInt (hF61.1 176 2 rfl)
  have f93 := congrArg Int32.toInt (eA_c (j := 0) (hF61.2.1 234 rfl))
  have f94 := congrArg Int32.toInt (eA_c (j := 4) (hF61.2.1 234 rfl))
  have f95 := congrArg Int32.toInt (eA_c (j := 5) (hF61.2.1 234 rfl))
  have f96 := congrArg Int32.toInt (eA_c (j := 6) (hF61.2.1 234 rfl))
  have f97 := congrArg Int32.toInt (eA_c (j := 2) (hF61.2.1 234 rfl))
  have f98 := congrArg Int32.toInt (eA_c (j := 3) (hF61.2.1 234 rfl))
  have f99 := congrArg Int32.toInt (eA_c (j := 5510) (hF61.2.1 234 rfl))
  have f100 := congrArg Int32.toInt (eA_c (j := 5514) (hF61.2.1 234 rfl))
  have f101 := congrArg Int32.toInt (eA_c (j := 5515) (hF61.2.1 234 rfl))
  have f102 := congrArg Int32.toInt (eA_c (j := 5516) (hF61.2.1 234 rfl))
  have f103 := congrArg Int32.toInt (eA_c (j := 5512) (hF61.2.1 234 rfl))
  have f104 := congrArg Int32.toInt (eA_c (j := 5513) (hF61.2.1 234 rfl))
  have f105 := congrArg Int32.toInt (eA_c (j := 0) (hF61.2.1 235 rfl))
  have f106 := congrArg Int32.toInt (eA_c (j := 1) (hF61.2.1 235 rfl))
  have f107 := congrArg Int32.toInt (hF61.1 231 8 rfl)
  have f108 := congrArg Int32.toInt (hF61.1 231 13 rfl)
  refine At.enter rfl ?_
  refine r_pop rfl ?_
  refine r_goto ?_
  exact K _ hI60 (show LwR _ from ⟨by first | (clear f12 f13 f14 f15 f16 f17 f18 f19 f20 f21 f22 f23 f24 f25 f26 f27 f28 f29 f30 f31 f32 f34 f35 f36 f37 f38 f39 f40 f41 f42 f43 f44 f45 f46 f47 f48 f49 f50 f51 f52 f53 f54 f66 f67 f68 f69 f70 f71 f72 f73 f74 f75 f76 f77 f78 f79 f80 f81 f82 f83 f84 f85 f86 f93 f94 f95 f96 f97 f98 f99 f100 f101 f102 f103 f104 f105 f106 f107 f108 hr9 hr63; omega) | omega, by first | (clear f11 f13 f14 f15 f16 f17 f18 f19 f20 f21 f22 f23 f24 f25 f26 f27 f28 f29 f30 f31 f32 f33 f35 f36 f37 f38 f39 f40 f41 f42 f43 f44 f45 f46 f47 f48 f49 f50 f51 f52 f53 f54 f65 f67 f68 f69 f70 f71 f72 f73 f74 f75 f76 f77 f78 f79 f80 f81 f82 f83 f84 f85 f86 f93 f94 f95 f96 f97 f98 f99 f100 f101 f102 f103 f104 f105 f106 f107 f108 hr9 hr63; omega) | omega, by first | (clear f11 f12 f14 f15 f16 f17 f18 f19 f20 f21 f22 f23 f24 f25 f26 f27 f28 f29 f30 f31 f32 f33 f34 f36 f37 f38 f39 f40 f41 f42 f43 f44 f45 f46 f47 f48 f49 f50 f51 f52 f53 f54 f65 f66 f68 f69 f70 f71 f72 f73 f74 f75 f76 f77 f78 f79 f80 f81 f82 f83 f84 f85 f86 f93 f94 f95 f96 f97 f98 f99 f100 f101 f102 f103 f104 f105 f106 f107 f108 hr9 hr63; omega) | omega, by first | (clear f11 f12 f13 f15 f16 f17 f18 f19 f20 f21 f22 f23 f24 f25 f26 f27 f28 f29 f30 f31 f32 f33 f34 f35 f37 f38 f39 f40 f41 f42 f43 f44 f45 f46 f47 f48 f49 f50 f51 f52 f53 f54 f65 f66 f67 f69 f70 f71 f72 f73 f74 f75 f76 f77 f78 f79 f80 f81 f82 f83 f84 f85 f86 f93 f94 f95 f96 f97 f98 f99 f100 f101 f102 f103 f104 f105 f106 f107 f108 hr9 hr63; omega) | omega, by first | (clear f11 f12 f13 f14 f16 f17 f18 f19 f20 f21 f22 f23 f24 f25 f26 f27 f28 f29 f30 f31 f32 f33 f34 f35 f36 f38 f39 f40 f41 f42 f43 f44 f45 f46 f47 f48 f49 f50 f51 f52 f53 f54 f65 f66 f67 f68 f70 f71 f72 f73 f74 f75 f76 f77 f78 f79 f80 f81 f82 f83 f84 f85 f86 f93 f94 f95 f96 f97 f98 f99 f100 f101 f102 f103 f104 f105 f106 f107 f108 hr9 hr63; omega) | omega, by first | (clear f11 f12 f13 f14 f15 f17 f18 f19 f20 f21 f22 f23 f24 f25 f26 f27 f28 f29 f30 f31 f32 f33 f34 f35 f36 f37 f39 f40 f41 f42 f43 f44 f45 f46 f47 f48 f49 f50 f51 f52 f53 f54 f65 f66 f67 f68 f69 f71 f72 f73 f74 f75 f76 f77 f78 f79 f80 f81 f82 f83 f84 f85 f86 f93 f94 f95 f96 f97 f98 f99 f100 f101 f102 f103 f104 f105 f106 f107 f108 hr9 hr63; omega) | omega, (eA_ti (j := 0) (((hF61.2.1 173 (by decide)).trans (hF7.2.1 173 (by decide))))).trans (hR_6.trans (eA_ti (j := 0) (((hF61.2.1 235 (by decide)).trans (hF7.2.1 235 (by decide))))).symm), (eA_ti (j := 1) (((hF61.2.1 173 (by decide)).trans (hF7.2.1 173 (by decide))))).trans (hR_7.trans (eA_ti (j := 1) (((hF61.2.1 235 (by decide)).trans (hF7.2.1 235 (by decide))))).symm), (congrArg Int32.toInt (((hF61.1 174 1 (by decide)).trans (hF7.1 174 1 (by decide))))).trans (hR_8.trans (congrArg Int32.toInt (((hF61.1 231 8 (by decide)).trans (hF7.1 231 8 (by decide))))).symm), (congrArg Int32.toInt (((hF61.1 176 2 (by decide)).trans (hF7.1 176 2 (by decide))))).trans (hR_9.trans (congrArg Int32.toInt (((hF61.1 231 13 (by decide)).trans (hF7.1 231 13 (by decide))))).symm), IM0.cong hR_10 (eA_ti (j := 0) (((hF61.2.1 173 (by decide)).trans (hF7.2.1 173 (by decide))))) (congrArg Int32.toInt (((hF61.1 59 0 (by decide)).trans (hF7.1 59 0 (by decide))))) (eA_ti (j := 0) (((hF61.2.1 234 (by decide)).trans (hF7.2.1 234 (by decide))))) (congrArg Int32.toInt (((hF61.1 59 12 (by decide)).trans (hF7.1 59 12 (by decide))))) (eA_ti (j := 4) (((hF61.2.1 234 (by decide)).trans (hF7.2.1 234 (by decide))))) (congrArg Int32.toInt (((hF61.1 59 10 (by decide)).trans (hF7.1 59 10 (by decide))))) (eA_ti (j := 5) (((hF61.2.1 234 (by decide)).trans (hF7.2.1 234 (by decide))))) (congrArg Int32.toInt (((hF61.1 59 11 (by decide)).trans (hF7.1 59 11 (by decide))))) (eA_ti (j := 6) (((hF61.2.1 234 (by decide)).trans (hF7.2.1 234 (by decide))))) (congrArg Int32.toInt (((hF61.1 59 6 (by decide)).trans (hF7.1 59 6 (by decide))))) (eA_ti (j := 2) (((hF61.2.1 234 (by decide)).trans (hF7.2.1 234 (by decide))))) (congrArg Int32.toInt (((hF61.1 59 9 (by decide)).trans (hF7.1 59 9 (by decide))))) (eA_ti (j := 3) (((hF61.2.1 234 (by decide)).trans (hF7.2.1 234 (by decide))))), IM1.cong hR_11 (eA_ti (j := 1) (((hF61.2.1 173 (by decide)).trans (hF7.2.1 173 (by decide))))) (congrArg Int32.toInt (((hF61.1 116 0 (by decide)).trans (hF7.1 116 0 (by decide))))) (eA_ti (j := 5510) (((hF61.2.1 234 (by decide)).trans (hF7.2.1 234 (by decide))))) (congrArg Int32.toInt (((hF61.1 116 12 (by decide)).trans (hF7.1 116 12 (by decide))))) (eA_ti (j := 5514) (((hF61.2.1 234 (by decide)).trans (hF7.2.1 234 (by decide))))) (congrArg Int32.toInt (((hF61.1 116 10 (by decide)).trans (hF7.1 116 10 (by decide))))) (eA_ti (j := 5515) (((hF61.2.1 234 (by decide)).trans (hF7.2.1 234 (by decide))))) (congrArg Int32.toInt (((hF61.1 116 11 (by decide)).trans (hF7.1 116 11 (by decide))))) (eA_ti (j := 5516) (((hF61.2.1 234 (by decide)).trans (hF7.2.1 234 (by decide))))) (congrArg Int32.toInt (((hF61.1 116 6 (by decide)).trans (hF7.1 116 6 (by decide))))) (eA_ti (j := 5512) (((hF61.2.1 234 (by decide)).trans (hF7.2.1 234 (by decide))))) (congrArg Int32.toInt (((hF61.1 116 9 (by decide)).trans (hF7.1 116 9 (by decide))))) (eA_ti (j := 5513) (((hF61.2.1 234 (by decide)).trans (hF7.2.1 234 (by decide))))), (show RT _ from fun i i0 i1 => (eA_ti (((hF61.2.1 175 (by decide)).trans (hF7.2.1 175 (by decide))))).trans ((hR_12 i i0 (by omega)).trans (eA_ti (((hF61.2.1 236 (by decide)).trans (hF7.2.1 236 (by decide))))).symm)), (show BYX _ from fun i i0 i1 => by rw [TX.c (((hF61.2.1 175 (by decide)).trans (hF7.2.1 175 (by decide))))]; exact hR_13 i i0 (by have i2 : i < (gI _ 174 1).toInt := i1; show i < (gI g0 174 1).toInt; omega))⟩)
