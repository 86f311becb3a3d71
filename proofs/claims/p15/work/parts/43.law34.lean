set_option maxRecDepth 100000 in
set_option maxHeartbeats 8000000 in
theorem lq_c37 (d : Nat) {N : Nat} {g0 : List en_E} (hI0 : HI g0) (hR0 : LwR g0) {ys : List Int32} {L : Nat} (hL : ys.length = L) (hL2 : L ≤ 3584) {l : en_L} {i : Int32} (e0 : en_get 0 l = some (.float 0)) (e1 : en_get 1 l = some (.ref 0)) (e2 : en_get 2 l = some (.ref 231)) (e3 : en_get 3 l = some (.int i)) (hi : 0 ≤ i.toInt ∧ i.toInt + 7 ≤ L) {Ph : Option Value → en_H → Prop} (K : ∀ g1 : List en_E, HI g1 → LwR g1 → At (d + 423) (some ys) (some .boolean) bs_L_law (1330, l, [], (g1, N)) Ph) : At (d + 423) (some ys) (some .boolean) bs_L_law (1271, l, [], (g0, N)) Ph := by
  have hF0 : Fr F_law A_law g0 g0 := Fr.rf
  have hx_1 : -2147483648 ≤ i.toInt + 1 ∧ i.toInt + 1 ≤ 2147483647 := by omega
  have hx_2 : -2147483648 ≤ i.toInt + 2 ∧ i.toInt + 2 ≤ 2147483647 := by omega
  have hx_3 : -2147483648 ≤ i.toInt + 3 ∧ i.toInt + 3 ≤ 2147483647 := by omega
  have hx_4 : -2147483648 ≤ i.toInt + 4 ∧ i.toInt + 4 ≤ 2147483647 := by omega
  have hx_5 : -2147483648 ≤ i.toInt + 5 ∧ i.toInt + 5 ≤ 2147483647 := by omega
  have hx_6 : -2147483648 ≤ i.toInt + 6 ∧ i.toInt + 6 ≤ 2147483647 := by omega
  have hy_0 : 0 ≤ i.toInt ∧ i.toInt < (L : Int) := by omega
  have hy_1 : 0 ≤ i.toInt + 1 ∧ i.toInt + 1 < (L : Int) := by omega
  have hy_2 : 0 ≤ i.toInt + 2 ∧ i.toInt + 2 < (L : Int) := by omega
  have hy_3 : 0 ≤ i.toInt + 3 ∧ i.toInt + 3 < (L : Int) := by omega
  have hy_4 : 0 ≤ i.toInt + 4 ∧ i.toInt + 4 < (L : Int) := by omega
  have hy_5 : 0 ≤ i.toInt + 5 ∧ i.toInt + 5 < (L : Int) := by omega
  have hy_6 : 0 ≤ i.toInt + 6 ∧ i.toInt + 6 < (L : Int) := by omega
  unfold LwR at hR0
  obtain ⟨hR_0, hR_1, hR_2, hR_3, hR_4, hR_5, hR_6, hR_7, hR_8, hR_9, hR_10, hR_11, hR_12, hR_13⟩ := hR0
  refine At.enter rfl ?_
  refine r_aload_n e1 ?_
  refine r_sload_n e0 ?_
  refine r_iload_n e3 ?_
  refine r_iconst 1 rfl ?_
  refine q_iadd (i.toInt + 1) rfl hx_1 (fun v1 hv1 => ?_)
  refine q_scald (m := L) hL (i.toInt + 1) hv1 hy_1 (fun v2 hv2 => ?_)
  rcases (show (v2.toInt = 0 ∧ ¬ (eA g0 173 0).toInt = 0) ∨ (v2.toInt = 0 ∧ (eA g0 173 0).toInt = 0) ∨ (v2.toInt = 1 ∧ ¬ (eA g0 173 1).toInt = 0) ∨ (v2.toInt = 1 ∧ (eA g0 173 1).toInt = 0) ∨ (v2.toInt < 0 ∨ 1 < v2.toInt) by omega) with u3 | u3 | u3 | u3 | u3
  · have n5_e : v2.toInt = 0 := by omega
    have n5_1 : v2.toInt ≠ 1 := by omega
    have n5_k : (eA g0 173 0).toInt ≠ 0 := by omega
    have n5_i := hR_10 (by omega)
    refine r_callV 1280 rfl [.ref 0, .int v2] [] (Nat.le_of_ble_eq_true rfl) rfl (T_X10_back_0 _ hI0 v2) ?_
    rintro _ _ ⟨g6, rfl, hI7, hF8, v9, rfl, hr10⟩
    refine At.sti ?_
    have hF11 := Fr.tr hF0 hF8 rfl rfl
    obtain ⟨p12, p13, p14, p15, p16, p17⟩ := hr10
    have w18 := p13 ⟨n5_e, n5_k⟩
    clear p13 p14 p15 p16 p17
    have f27 := congrArg Int32.toInt (hF8.1 59 0 rfl)
    have f28 := congrArg Int32.toInt (hF8.1 59 12 rfl)
    have f29 := congrArg Int32.toInt (hF8.1 59 10 rfl)
    have f30 := congrArg Int32.toInt (hF8.1 59 11 rfl)
    have f31 := congrArg Int32.toInt (hF8.1 59 6 rfl)
    have f32 := congrArg Int32.toInt (hF8.1 59 9 rfl)
    have f33 := congrArg Int32.toInt (hF8.1 116 0 rfl)
    have f34 := congrArg Int32.toInt (hF8.1 116 12 rfl)
    have f35 := congrArg Int32.toInt (hF8.1 116 10 rfl)
    have f36 := congrArg Int32.toInt (hF8.1 116 11 rfl)
    have f37 := congrArg Int32.toInt (hF8.1 116 6 rfl)
    have f38 := congrArg Int32.toInt (hF8.1 116 9 rfl)
    have f39 := congrArg Int32.toInt (eA_c (j := 0) (hF8.2.1 173 rfl))
    have f40 := congrArg Int32.toInt (eA_c (j := 1) (hF8.2.1 173 rfl))
    have f41 := congrArg Int32.toInt (hF8.1 174 1 rfl)
    have f42 := congrArg Int32.toInt (hF8.1 176 2 rfl)
    have f43 := congrArg Int32.toInt (eA_c (j := 0) (hF8.2.1 233 rfl))
    have f44 := congrArg Int32.toInt (eA_c (j := 4) (hF8.2.1 233 rfl))
    have f45 := congrArg Int32.toInt (eA_c (j := 5) (hF8.2.1 233 rfl))
    have f46 := congrArg Int32.toInt (eA_c (j := 6) (hF8.2.1 233 rfl))
    have f47 := congrArg Int32.toInt (eA_c (j := 2) (hF8.2.1 233 rfl))
    have f48 := congrArg Int32.toInt (eA_c (j := 3) (hF8.2.1 233 rfl))
    have f49 := congrArg Int32.toInt (eA_c (j := 0) (hF8.2.1 234 rfl))
    have f50 := congrArg Int32.toInt (eA_c (j := 4) (hF8.2.1 234 rfl))
    have f51 := congrArg Int32.toInt (eA_c (j := 5) (hF8.2.1 234 rfl))
    have f52 := congrArg Int32.toInt (eA_c (j := 6) (hF8.2.1 234 rfl))
    have f53 := congrArg Int32.toInt (eA_c (j := 2) (hF8.2.1 234 rfl))
    have f54 := congrArg Int32.toInt (eA_c (j := 3) (hF8.2.1 234 rfl))
    have f55 := congrArg Int32.toInt (eA_c (j := 5510) (hF8.2.1 234 rfl))
    have f56 := congrArg Int32.toInt (eA_c (j := 5514) (hF8.2.1 234 rfl))
    have f57 := congrArg Int32.toInt (eA_c (j := 5515) (hF8.2.1 234 rfl))
    have f58 := congrArg Int32.toInt (eA_c (j := 5516) (hF8.2.1 234 rfl))
    have f59 := congrArg Int32.toInt (eA_c (j := 5512) (hF8.2.1 234 rfl))
    have f60 := congrArg Int32.toInt (eA_c (j := 5513) (hF8.2.1 234 rfl))
    have f61 := congrArg Int32.toInt (eA_c (j := 0) (hF8.2.1 235 rfl))
    have f62 := congrArg Int32.toInt (eA_c (j := 1) (hF8.2.1 235 rfl))
    have f63 := congrArg Int32.toInt (hF8.1 231 8 rfl)
    have f64 := congrArg Int32.toInt (hF8.1 231 13 rfl)
    refine At.enter rfl ?_
    refine r_pop rfl ?_
    refine r_aload_n e2 ?_
    refine r_sload_n e0 ?_
    refine r_iload_n e3 ?_
    refine r_iconst 1 rfl ?_
    refine q_iadd (i.toInt + 1) rfl hx_1 (fun v65 hv65 => ?_)
    refine q_scald (m := L) hL (i.toInt + 1) hv65 hy_1 (fun v66 hv66 => ?_)
    have sv66 := hv2.symm.trans hv66
    subst sv66
    have n67_e : v2.toInt = 0 := by omega
    have n67_1 : v2.toInt ≠ 1 := by omega
    have n67_k : (eA g6 235 0).toInt ≠ 0 := by omega
    refine r_callV 1290 rfl [.ref 231, .int v2] [] (Nat.le_of_ble_eq_true rfl) rfl (T_X11_back_231 _ hI7 v2) ?_
    rintro _ _ ⟨g68, rfl, hI69, hF70, v71, rfl, hr72⟩
    refine At.sti ?_
    have hF73 := Fr.tr hF11 hF70 rfl rfl
    obtain ⟨p74, p75, p76, p77, p78, p79⟩ := hr72
    have w80 := p75 ⟨n67_e, n67_k⟩
    clear p75 p76 p77 p78 p79
    have f83 := congrArg Int32.toInt (hF70.1 1 0 rfl)
    have f84 := congrArg Int32.toInt (hF70.1 1 12 rfl)
    have f85 := congrArg Int32.toInt (hF70.1 1 10 rfl)
    have f86 := congrArg Int32.toInt (hF70.1 1 11 rfl)
    have f87 := congrArg Int32.toInt (hF70.1 1 6 rfl)
    have f88 := congrArg Int32.toInt (hF70.1 1 9 rfl)
    have f89 := congrArg Int32.toInt (hF70.1 59 0 rfl)
    have f90 := congrArg Int32.toInt (hF70.1 59 12 rfl)
    have f91 := congrArg Int32.toInt (hF70.1 59 10 rfl)
    have f92 := congrArg Int32.toInt (hF70.1 59 11 rfl)
    have f93 := congrArg Int32.toInt (hF70.1 59 6 rfl)
    have f94 := congrArg Int32.toInt (hF70.1 59 9 rfl)
    have f95 := congrArg Int32.toInt (hF70.1 116 0 rfl)
    have f96 := congrArg Int32.toInt (hF70.1 116 12 rfl)
    have f97 := congrArg Int32.toInt (hF70.1 116 10 rfl)
    have f98 := congrArg Int32.toInt (hF70.1 116 11 rfl)
    have f99 := congrArg Int32.toInt (hF70.1 116 6 rfl)
    have f100 := congrArg Int32.toInt (hF70.1 116 9 rfl)
    have f101 := congrArg Int32.toInt (eA_c (j := 0) (hF70.2.1 173 rfl))
    have f102 := congrArg Int32.toInt (eA_c (j := 1) (hF70.2.1 173 rfl))
    have f103 := congrArg Int32.toInt (hF70.1 174 1 rfl)
    have f104 := congrArg Int32.toInt (hF70.1 176 2 rfl)
    have f111 := congrArg Int32.toInt (eA_c (j := 0) (hF70.2.1 234 rfl))
    have f112 := congrArg Int32.toInt (eA_c (j := 4) (hF70.2.1 234 rfl))
    have f113 := congrArg Int32.toInt (eA_c (j := 5) (hF70.2.1 234 rfl))
    have f114 := congrArg Int32.toInt (eA_c (j := 6) (hF70.2.1 234 rfl))
    have f115 := congrArg Int32.toInt (eA_c (j := 2) (hF70.2.1 234 rfl))
    have f116 := congrArg Int32.toInt (eA_c (j := 3) (hF70.2.1 234 rfl))
    have f117 := congrArg Int32.toInt (eA_c (j := 5510) (hF70.2.1 234 rfl))
    have f118 := congrArg Int32.toInt (eA_c (j := 5514) (hF70.2.1 234 rfl))
    have f119 := congrArg Int32.toInt (eA_c (j := 5515) (hF70.2.1 234 rfl))
    have f120 := congrArg Int32.toInt (eA_c (j := 5516) (hF70.2.1 234 rfl))
    have f121 := congrArg Int32.toInt (eA_c (j := 5512) (hF70.2.1 234 rfl))
    have f122 := congrArg Int32.toInt (eA_c (j := 5513) (hF70.2.1 234 rfl))
    have f123 := congrArg Int32.toInt (eA_c (j := 0) (hF70.2.1 235 rfl))
    have f124 := congrArg Int32.toInt (eA_c (j := 1) (hF70.2.1 235 rfl))
    have f125 := congrArg Int32.toInt (hF70.1 231 8 rfl)
    have f126 := congrArg Int32.toInt (hF70.1 231 13 rfl)
    refine At.enter rfl ?_
    refine r_pop rfl ?_
    refine r_goto ?_
    exact K _ hI69 (show LwR _ from ⟨by first | (clear f27 f28 f29 f30 f31 f32 f33 f34 f35 f36 f37 f38 f39 f40 f41 f42 f44 f45 f46 f47 f48 f49 f50 f51 f52 f53 f54 f55 f56 f57 f58 f59 f60 f61 f62 f63 f64 f84 f85 f86 f87 f88 f89 f90 f91 f92 f93 f94 f95 f96 f97 f98 f99 f100 f101 f102 f103 f104 f111 f112 f113 f114 f115 f116 f117 f118 f119 f120 f121 f122 f123 f124 f125 f126; omega) | omega, by first | (clear f27 f28 f29 f30 f31 f32 f33 f34 f35 f36 f37 f38 f39 f40 f41 f42 f43 f45 f46 f47 f48 f49 f50 f51 f52 f53 f54 f55 f56 f57 f58 f59 f60 f61 f62 f63 f64 f83 f85 f86 f87 f88 f89 f90 f91 f92 f93 f94 f95 f96 f97 f98 f99 f100 f101 f102 f103 f104 f111 f112 f113 f114 f115 f116 f117 f118 f119 f120 f121 f122 f123 f124 f125 f126; omega) | omega, by first | (clear f27 f28 f29 f30 f31 f32 f33 f34 f35 f36 f37 f38 f39 f40 f41 f42 f43 f44 f46 f47 f48 f49 f50 f51 f52 f53 f54 f55 f56 f57 f58 f59 f60 f61 f62 f63 f64 f83 f84 f86 f87 f88 f89 f90 f91 f92 f93 f94 f95 f96 f97 f98 f99 f100 f101 f102 f103 f104 f111 f112 f113 f114 f115 f116 f117 f118 f119 f120 f121 f122 f123 f124 f125 f126; omega) | omega, by first | (clear f27 f28 f29 f30 f31 f32 f33 f34 f35 f36 f37 f38 f39 f40 f41 f42 f43 f44 f45 f47 f48 f49 f50 f51 f52 f53 f54 f55 f56 f57 f58 f59 f60 f61 f62 f63 f64 f83 f84 f85 f87 f88 f89 f90 f91 f92 f93 f94 f95 f96 f97 f98 f99 f100 f101 f102 f103 f104 f111 f112 f113 f114 f115 f116 f117 f118 f119 f120 f121 f122 f123 f124 f125 f126; omega) | omega, by first | (clear f27 f28 f29 f30 f31 f32 f33 f34 f35 f36 f37 f38 f39 f40 f41 f42 f43 f44 f45 f46 f48 f49 f50 f51 f52 f53 f54 f55 f56 f57 f58 f59 f60 f61 f62 f63 f64 f83 f84 f85 f86 f88 f89 f90 f91 f92 f93 f94 f95 f96 f97 f98 f99 f100 f101 f102 f103 f104 f111 f112 f113 f114 f115 f116 f117 f118 f119 f120 f121 f122 f123 f124 f125 f126; omega) | omega, by first | (clear f27 f28 f29 f30 f31 f32 f33 f34 f35 f36 f37 f38 f39 f40 f41 f42 f43 f44 f45 f46 f47 f49 f50 f51 f52 f53 f54 f55 f56 f57 f58 f59 f60 f61 f62 f63 f64 f83 f84 f85 f86 f87 f89 f90 f91 f92 f93 f94 f95 f96 f97 f98 f99 f100 f101 f102 f103 f104 f111 f112 f113 f114 f115 f116 f117 f118 f119 f120 f121 f122 f123 f124 f125 f126; omega) | omega, (eA_ti (j := 0) (((hF70.2.1 173 (by decide)).trans (hF8.2.1 173 (by decide))))).trans (hR_6.trans (eA_ti (j := 0) (((hF70.2.1 235 (by decide)).trans (hF8.2.1 235 (by decide))))).symm), (eA_ti (j := 1) (((hF70.2.1 173 (by decide)).trans (hF8.2.1 173 (by decide))))).trans (hR_7.trans (eA_ti (j := 1) (((hF70.2.1 235 (by decide)).trans (hF8.2.1 235 (by decide))))).symm), (congrArg Int32.toInt (((hF70.1 174 1 (by decide)).trans (hF8.1 174 1 (by decide))))).trans (hR_8.trans (congrArg Int32.toInt (((hF70.1 231 8 (by decide)).trans (hF8.1 231 8 (by decide))))).symm), (congrArg Int32.toInt (((hF70.1 176 2 (by decide)).trans (hF8.1 176 2 (by decide))))).trans (hR_9.trans (congrArg Int32.toInt (((hF70.1 231 13 (by decide)).trans (hF8.1 231 13 (by decide))))).symm), IM0.cong hR_10 (eA_ti (j := 0) (((hF70.2.1 173 (by decide)).trans (hF8.2.1 173 (by decide))))) (congrArg Int32.toInt (((hF70.1 59 0 (by decide)).trans (hF8.1 59 0 (by decide))))) (eA_ti (j := 0) (((hF70.2.1 234 (by decide)).trans (hF8.2.1 234 (by decide))))) (congrArg Int32.toInt (((hF70.1 59 12 (by decide)).trans (hF8.1 59 12 (by decide))))) (eA_ti (j := 4) (((hF70.2.1 234 (by decide)).trans (hF8.2.1 234 (by decide))))) (congrArg Int32.toInt (((hF70.1 59 10 (by decide)).trans (hF8.1 59 10 (by decide))))) (eA_ti (j := 5) (((hF70.2.1 234 (by decide)).trans (hF8.2.1 234 (by decide))))) (congrArg Int32.toInt (((hF70.1 59 11 (by decide)).trans (hF8.1 59 11 (by decide))))) (eA_ti (j := 6) (((hF70.2.1 234 (by decide)).trans (hF8.2.1 234 (by decide))))) (congrArg Int32.toInt (((hF70.1 59 6 (by decide)).trans (hF8.1 59 6 (by decide))))) (eA_ti (j := 2) (((hF70.2.1 234 (by decide)).trans (hF8.2.1 234 (by decide))))) (congrArg Int32.toInt (((hF70.1 59 9 (by decide)).trans (hF8.1 59 9 (by decide))))) (eA_ti (j := 3) (((hF70.2.1 234 (by decide)).trans (hF8.2.1 234 (by decide))))), IM1.cong hR_11 (eA_ti (j := 1) (((hF70.2.1 173 (by decide)).trans (hF8.2.1 173 (by decide))))) (congrArg Int32.toInt (((hF70.1 116 0 (by decide)).trans (hF8.1 116 0 (by decide))))) (eA_ti (j := 5510) (((hF70.2.1 234 (by decide)).trans (hF8.2.1 234 (by decide))))) (congrArg Int32.toInt (((hF70.1 116 12 (by decide)).trans (hF8.1 116 12 (by decide))))) (eA_ti (j := 5514) (((hF70.2.1 234 (by decide)).trans (hF8.2.1 234 (by decide))))) (congrArg Int32.toInt (((hF70.1 116 10 (by decide)).trans (hF8.1 116 10 (by decide))))) (eA_ti (j := 5515) (((hF70.2.1 234 (by decide)).trans (hF8.2.1 234 (by decide))))) (congrArg Int32.toInt (((hF70.1 116 11 (by decide)).trans (hF8.1 116 11 (by decide))))) (eA_ti (j := 5516) (((hF70.2.1 234 (by decide)).trans (hF8.2.1 234 (by decide))))) (congrArg Int32.toInt (((hF70.1 116 6 (by decide)).trans (hF8.1 116 6 (by decide))))) (eA_ti (j := 5512) (((hF70.2.1 234 (by decide)).trans (hF8.2.1 234 (by decide))))) (congrArg Int32.toInt (((hF70.1 116 9 (by decide)).trans (hF8.1 116 9 (by decide))))) (eA_ti (j := 5513) (((hF70.2.1 234 (by decide)).trans (hF8.2.1 234 (by decide))))), (show RT _ from fun i i0 i1 => (eA_ti (((hF70.2.1 175 (by decide)).trans (hF8.2.1 175 (by decide))))).trans ((hR_12 i i0 (by omega)).trans (eA_ti (((hF70.2.1 236 (by decide)).trans (hF8.2.1 236 (by decide))))).symm)), (show BYX _ from fun i i0 i1 => by rw [TX.c (((hF70.2.1 175 (by decide)).trans (hF8.2.1 175 (by decide))))]; exact hR_13 i i0 (by have i2 : i < (gI _ 174 1).toInt := i1; show i < (gI g0 174 1).toInt; omega))⟩)
  · have n127_e : v2.toInt = 0 := by omega
    have n127_1 : v2.toInt ≠ 1 := by omega
    have n127_k : (eA g0 173 0).toInt = 0 := by omega
    refine r_callV 1280 rfl [.ref 0, .int v2] [] (Nat.le_of_ble_eq_true rfl) rfl (T_X10_back_0 _ hI0 v2) ?_
    rintro _ _ ⟨g128, rfl, hI129, hF130, v131, rfl, hr132⟩
    refine At.sti ?_
    have hF133 := Fr.tr hF0 hF130 rfl rfl
    obtain ⟨p134, p135, p136, p137, p138, p139⟩ := hr132
    have w140 := p137 ⟨fun h => h.2 n127_k, fun h => n127_1 h.1⟩
    have w141 := p139 ⟨by omega, by omega, fun h => h.2 n127_k, fun h => n127_1 h.1⟩
    clear p135 p136 p137 p138 p139
    have f149 := congrArg Int32.toInt (hF130.1 59 0 rfl)
    have f150 := congrArg Int32.toInt (hF130.1 59 12 rfl)
    have f151 := congrArg Int32.toInt (hF130.1 59 10 rfl)
    have f152 := congrArg Int32.toInt (hF130.1 59 11 rfl)
    have f153 := congrArg Int32.toInt (hF130.1 59 6 rfl)
    have f154 := congrArg Int32.toInt (hF130.1 59 9 rfl)
    have f155 := congrArg Int32.toInt (hF130.1 116 0 rfl)
    have f156 := congrArg Int32.toInt (hF130.1 116 12 rfl)
    have f157 := congrArg Int32.toInt (hF130.1 116 10 rfl)
    have f158 := congrArg Int32.toInt (hF130.1 116 11 rfl)
    have f159 := congrArg Int32.toInt (hF130.1 116 6 rfl)
    have f160 := congrArg Int32.toInt (hF130.1 116 9 rfl)
    have f161 := congrArg Int32.toInt (eA_c (j := 0) (hF130.2.1 173 rfl))
    have f162 := congrArg Int32.toInt (eA_c (j := 1) (hF130.2.1 173 rfl))
    have f163 := congrArg Int32.toInt (hF130.1 174 1 rfl)
    have f164 := congrArg Int32.toInt (hF130.1 176 2 rfl)
    have f165 := congrArg Int32.toInt (eA_c (j := 0) (hF130.2.1 233 rfl))
    have f166 := congrArg Int32.toInt (eA_c (j := 4) (hF130.2.1 233 rfl))
    have f167 := congrArg Int32.toInt (eA_c (j := 5) (hF130.2.1 233 rfl))
    have f168 := congrArg Int32.toInt (eA_c (j := 6) (hF130.2.1 233 rfl))
    have f169 := congrArg Int32.toInt (eA_c (j := 2) (hF130.2.1 233 rfl))
    have f170 := congrArg Int32.toInt (eA_c (j := 3) (hF130.2.1 233 rfl))
    have f171 := congrArg Int32.toInt (eA_c (j := 0) (hF130.2.1 234 rfl))
    have f172 := congrArg Int32.toInt (eA_c (j := 4) (hF130.2.1 234 rfl))
    have f173 := congrArg Int32.toInt (eA_c (j := 5) (hF130.2.1 234 rfl))
    have f174 := congrArg Int32.toInt (eA_c (j := 6) (hF130.2.1 234 rfl))
    have f175 := congrArg Int32.toInt (eA_c (j := 2) (hF130.2.1 234 rfl))
    have f176 := congrArg Int32.toInt (eA_c (j := 3) (hF130.2.1 234 rfl))
    have f177 := congrArg Int32.toInt (eA_c (j := 5510) (hF130.2.1 234 rfl))
    have f178 := congrArg Int32.toInt (eA_c (j := 5514) (hF130.2.1 234 rfl))
    have f179 := congrArg Int32.toInt (eA_c (j := 5515) (hF130.2.1 234 rfl))
    have f180 := congrArg Int32.toInt (eA_c (j := 5516) (hF130.2.1 234 rfl))
    have f181 := congrArg Int32.toInt (eA_c (j := 5512) (hF130.2.1 234 rfl))
    have f182 := congrArg Int32.toInt (eA_c (j := 5513) (hF130.2.1 234 rfl))
    have f183 := congrArg Int32.toInt (eA_c (j := 0) (hF130.2.1 235 rfl))
    have f184 := congrArg Int32.toInt (eA_c (j := 1) (hF130.2.1 235 rfl))
    have f185 := congrArg Int32.toInt (hF130.1 231 8 rfl)
    have f186 := congrArg Int32.toInt (hF130.1 231 13 rfl)
    refine At.enter rfl ?_
    refine r_pop rfl ?_
    refine r_aload_n e2 ?_
    refine r_sload_n e0 ?_
    refine r_iload_n e3 ?_
    refine r_iconst 1 rfl ?_
    refine q_iadd (i.toInt + 1) rfl hx_1 (fun v187 hv187 => ?_)
    refine q_scald (m := L) hL (i.toInt + 1) hv187 hy_1 (fun v188 hv188 => ?_)
    have sv188 := hv2.symm.trans hv188
    subst sv188
    have n189_e : v2.toInt = 0 := by omega
    have n189_1 : v2.toInt ≠ 1 := by omega
    have n189_k : (eA g128 235 0).toInt = 0 := by omega
    refine r_callV 1290 rfl [.ref 231, .int v2] [] (Nat.le_of_ble_eq_true rfl) rfl (T_X11_back_231 _ hI129 v2) ?_
    rintro _ _ ⟨g190, rfl, hI191, hF192, v193, rfl, hr194⟩
    refine At.sti ?_
    have hF195 := Fr.tr hF133 hF192 rfl rfl
    obtain ⟨p196, p197, p198, p199, p200, p201⟩ := hr194
    have w202 := p199 ⟨fun h => h.2 n189_k, fun h => n189_1 h.1⟩
    have w203 := p201 ⟨by omega, by omega, fun h => h.2 n189_k, fun h => n189_1 h.1⟩
    clear p197 p198 p199 p200 p201
    have f205 := congrArg Int32.toInt (hF192.1 1 0 rfl)
    have f206 := congrArg Int32.toInt (hF192.1 1 12 rfl)
    have f207 := congrArg Int32.toInt (hF192.1 1 10 rfl)
    have f208 := congrArg Int32.toInt (hF192.1 1 11 rfl)
    have f209 := congrArg Int32.toInt (hF192.1 1 6 rfl)
    have f210 := congrArg Int32.toInt (hF192.1 1 9 rfl)
    have f211 := congrArg Int32.toInt (hF192.1 59 0 rfl)
    have f212 := congrArg Int32.toInt (hF192.1 59 12 rfl)
    have f213 := congrArg Int32.toInt (hF192.1 59 10 rfl)
    have f214 := congrArg Int32.toInt (hF192.1 59 11 rfl)
    have f215 := congrArg Int32.toInt (hF192.1 59 6 rfl)
    have f216 := congrArg Int32.toInt (hF192.1 59 9 rfl)
    have f217 := congrArg Int32.toInt (hF192.1 116 0 rfl)
    have f218 := congrArg Int32.toInt (hF192.1 116 12 rfl)
    have f219 := congrArg Int32.toInt (hF192.1 116 10 rfl)
    have f220 := congrArg Int32.toInt (hF192.1 116 11 rfl)
    have f221 := congrArg Int32.toInt (hF192.1 116 6 rfl)
    have f222 := congrArg Int32.toInt (hF192.1 116 9 rfl)
    have f223 := congrArg Int32.toInt (eA_c (j := 0) (hF192.2.1 173 rfl))
    have f224 := congrArg Int32.toInt (eA_c (j := 1) (hF192.2.1 173 rfl))
    have f225 := congrArg Int32.toInt (hF192.1 174 1 rfl)
    have f226 := congrArg Int32.toInt (hF192.1 176 2 rfl)
    have f233 := congrArg Int32.toInt (eA_c (j := 0) (hF192.2.1 234 rfl))
    have f234 := congrArg Int32.toInt (eA_c (j := 4) (hF192.2.1 234 rfl))
    have f235 := congrArg Int32.toInt (eA_c (j := 5) (hF192.2.1 234 rfl))
    have f236 := congrArg Int32.toInt (eA_c (j := 6) (hF192.2.1 234 rfl))
    have f237 := congrArg Int32.toInt (eA_c (j := 2) (hF192.2.1 234 rfl))
    have f238 := congrArg Int32.toInt (eA_c (j := 3) (hF192.2.1 234 rfl))
    have f239 := congrArg Int32.toInt (eA_c (j := 5510) (hF192.2.1 234 rfl))
    have f240 := congrArg Int32.toInt (eA_c (j := 5514) (hF192.2.1 234 rfl))
    have f241 := congrArg Int32.toInt (eA_c (j := 5515) (hF192.2.1 234 rfl))
    have f242 := congrArg Int32.toInt (eA_c (j := 5516) (hF192.2.1 234 rfl))
    have f243 := congrArg Int32.toInt (eA_c (j := 5512) (hF192.2.1 234 rfl))
    have f244 := congrArg Int32.toInt (eA_c (j := 5513) (hF192.2.1 234 rfl))
    have f245 := congrArg Int32.toInt (eA_c (j := 0) (hF192.2.1 235 rfl))
    have f246 := congrArg Int32.toInt (eA_c (j := 1) (hF192.2.1 235 rfl))
    have f247 := congrArg Int32.toInt (hF192.1 231 8 rfl)
    have f248 := congrArg Int32.toInt (hF192.1 231 13 rfl)
    refine At.enter rfl ?_
    refine r_pop rfl ?_
    refine r_goto ?_
    exact K _ hI191 (show LwR _ from ⟨by first | (clear f149 f150 f151 f152 f153 f154 f155 f156 f157 f158 f159 f160 f161 f162 f163 f164 f166 f167 f168 f169 f170 f171 f172 f173 f174 f175 f176 f177 f178 f179 f180 f181 f182 f183 f184 f185 f186 f206 f207 f208 f209 f210 f211 f212 f213 f214 f215 f216 f217 f218 f219 f220 f221 f222 f223 f224 f225 f226 f233 f234 f235 f236 f237 f238 f239 f240 f241 f242 f243 f244 f245 f246 f247 f248; omega) | omega, by first | (clear f149 f150 f151 f152 f153 f154 f155 f156 f157 f158 f159 f160 f161 f162 f163 f164 f165 f167 f168 f169 f170 f171 f172 f173 f174 f175 f176 f177 f178 f179 f180 f181 f182 f183 f184 f185 f186 f205 f207 f208 f209 f210 f211 f212 f213 f214 f215 f216 f217 f218 f219 f220 f221 f222 f223 f224 f225 f226 f233 f234 f235 f236 f237 f238 f239 f240 f241 f242 f243 f244 f245 f246 f247 f248; omega) | omega, by first | (clear f149 f150 f151 f152 f153 f154 f155 f156 f157 f158 f159 f160 f161 f162 f163 f164 f165 f166 f168 f169 f170 f171 f172 f173 f174 f175 f176 f177 f178 f179 f180 f181 f182 f183 f184 f185 f186 f205 f206 f208 f209 f210 f211 f212 f213 f214 f215 f216 f217 f218 f219 f220 f221 f222 f223 f224 f225 f226 f233 f234 f235 f236 f237 f238 f239 f240 f241 f242 f243 f244 f245 f246 f247 f248; omega) | omega, by first | (clear f149 f150 f151 f152 f153 f154 f155 f156 f157 f158 f159 f160 f161 f162 f163 f164 f165 f166 f167 f169 f170 f171 f172 f173 f174 f175 f176 f177 f178 f179 f180 f181 f182 f183 f184 f185 f186 f205 f206 f207 f209 f210 f211 f212 f213 f214 f215 f216 f217 f218 f219 f220 f221 f222 f223 f224 f225 f226 f233 f234 f235 f236 f237 f238 f239 f240 f241 f242 f243 f244 f245 f246 f247 f248; omega) | omega, by first | (clear f149 f150 f151 f152 f153 f154 f155 f156 f157 f158 f159 f160 f161 f162 f163 f164 f165 f166 f167 f168 f170 f171 f172 f173 f174 f175 f176 f177 f178 f179 f180 f181 f182 f183 f184 f185 f186 f205 f206 f207 f208 f210 f211 f212 f213 f214 f215 f216 f217 f218 f219 f220 f221 f222 f223 f224 f225 f226 f233 f234 f235 f236 f237 f238 f239 f240 f241 f242 f243 f244 f245 f246 f247 f248; omega) | omega, by first | (clear f149 f150 f151 f152 f153 f154 f155 f156 f157 f158 f159 f160 f161 f162 f163 f164 f165 f166 f167 f168 f169 f171 f172 f173 f174 f175 f176 f177 f178 f179 f180 f181 f182 f183 f184 f185 f186 f205 f206 f207 f208 f209 f211 f212 f213 f214 f215 f216 f217 f218 f219 f220 f221 f222 f223 f224 f225 f226 f233 f234 f235 f236 f237 f238 f239 f240 f241 f242 f243 f244 f245 f246 f247 f248; omega) | omega, (eA_ti (j := 0) (((hF192.2.1 173 (by decide)).trans (hF130.2.1 173 (by decide))))).trans (hR_6.trans (eA_ti (j := 0) (((hF192.2.1 235 (by decide)).trans (hF130.2.1 235 (by decide))))).symm), (eA_ti (j := 1) (((hF192.2.1 173 (by decide)).trans (hF130.2.1 173 (by decide))))).trans (hR_7.trans (eA_ti (j := 1) (((hF192.2.1 235 (by decide)).trans (hF130.2.1 235 (by decide))))).symm), (congrArg Int32.toInt (((hF192.1 174 1 (by decide)).trans (hF130.1 174 1 (by decide))))).trans (hR_8.trans (congrArg Int32.toInt (((hF192.1 231 8 (by decide)).trans (hF130.1 231 8 (by decide))))).symm), (congrArg Int32.toInt (((hF192.1 176 2 (by decide)).trans (hF130.1 176 2 (by decide))))).trans (hR_9.trans (congrArg Int32.toInt (((hF192.1 231 13 (by decide)).trans (hF130.1 231 13 (by decide))))).symm), IM0.cong hR_10 (eA_ti (j := 0) (((hF192.2.1 173 (by decide)).trans (hF130.2.1 173 (by decide))))) (congrArg Int32.toInt (((hF192.1 59 0 (by decide)).trans (hF130.1 59 0 (by decide))))) (eA_ti (j := 0) (((hF192.2.1 234 (by decide)).trans (hF130.2.1 234 (by decide))))) (congrArg Int32.toInt (((hF192.1 59 12 (by decide)).trans (hF130.1 59 12 (by decide))))) (eA_ti (j := 4) (((hF192.2.1 234 (by decide)).trans (hF130.2.1 234 (by decide))))) (congrArg Int32.toInt (((hF192.1 59 10 (by decide)).trans (hF130.1 59 10 (by decide))))) (eA_ti (j := 5) (((hF192.2.1 234 (by decide)).trans (hF130.2.1 234 (by decide))))) (congrArg Int32.toInt (((hF192.1 59 11 (by decide)).trans (hF130.1 59 11 (by decide))))) (eA_ti (j := 6) (((hF192.2.1 234 (by decide)).trans (hF130.2.1 234 (by decide))))) (congrArg Int32.toInt (((hF192.1 59 6 (by decide)).trans (hF130.1 59 6 (by decide))))) (eA_ti (j := 2) (((hF192.2.1 234 (by decide)).trans (hF130.2.1 234 (by decide))))) (congrArg Int32.toInt (((hF192.1 59 9 (by decide)).trans (hF130.1 59 9 (by decide))))) (eA_ti (j := 3) (((hF192.2.1 234 (by decide)).trans (hF130.2.1 234 (by decide))))), IM1.cong hR_11 (eA_ti (j := 1) (((hF192.2.1 173 (by decide)).trans (hF130.2.1 173 (by decide))))) (congrArg Int32.toInt (((hF192.1 116 0 (by decide)).trans (hF130.1 116 0 (by decide))))) (eA_ti (j := 5510) (((hF192.2.1 234 (by decide)).trans (hF130.2.1 234 (by decide))))) (congrArg Int32.toInt (((hF192.1 116 12 (by decide)).trans (hF130.1 116 12 (by decide))))) (eA_ti (j := 5514) (((hF192.2.1 234 (by decide)).trans (hF130.2.1 234 (by decide))))) (congrArg Int32.toInt (((hF192.1 116 10 (by decide)).trans (hF130.1 116 10 (by decide))))) (eA_ti (j := 5515) (((hF192.2.1 234 (by decide)).trans (hF130.2.1 234 (by decide))))) (congrArg Int32.toInt (((hF192.1 116 11 (by decide)).trans (hF130.1 116 11 (by decide))))) (eA_ti (j := 5516) (((hF192.2.1 234 (by decide)).trans (hF130.2.1 234 (by decide))))) (congrArg Int32.toInt (((hF192.1 116 6 (by decide)).trans (hF130.1 116 6 (by decide))))) (eA_ti (j := 5512) (((hF192.2.1 234 (by decide)).trans (hF130.2.1 234 (by decide))))) (congrArg Int32.toInt (((hF192.1 116 9 (by decide)).trans (hF130.1 116 9 (by decide))))) (eA_ti (j := 5513) (((hF192.2.1 234 (by decide)).trans (hF130.2.1 234 (by decide))))), (show RT _ from fun i i0 i1 => (eA_ti (((hF192.2.1 175 (by decide)).trans (hF130.2.1 175 (by decide))))).trans ((hR_12 i i0 (by omega)).trans (eA_ti (((hF192.2.1 236 (by decide)).trans (hF130.2.1 236 (by decide))))).symm)), (show BYX _ from fun i i0 i1 => by rw [TX.c (((hF192.2.1 175 (by decide)).trans (hF130.2.1 175 (by decide))))]; exact hR_13 i i0 (by have i2 : i < (gI _ 174 1).toInt := i1; show i < (gI g0 174 1).toInt; omega))⟩)
  · have n249_e : v2.toInt = 1 := by omega
    have n249_0 : v2.toInt ≠ 0 := by omega
    have n249_k : (eA g0 173 1).toInt ≠ 0 := by omega
    have n249_i := hR_11 (by omega)
    refine r_callV 1280 rfl [.ref 0, .int v2] [] (Nat.le_of_ble_eq_true rfl) rfl (T_X10_back_0 _ hI0 v2) ?_
    rintro _ _ ⟨g250, rfl, hI251, hF252, v253, rfl, hr254⟩
    refine At.sti ?_
    have hF255 := Fr.tr hF0 hF252 rfl rfl
    obtain ⟨p256, p257, p258, p259, p260, p261⟩ := hr254
    have w262 := p258 ⟨n249_e, n249_k⟩
    clear p257 p258 p259 p260 p261
    have f271 := congrArg Int32.toInt (hF252.1 59 0 rfl)
    have f272 := congrArg Int32.toInt (hF252.1 59 12 rfl)
    have f273 := congrArg Int32.toInt (hF252.1 59 10 rfl)
    have f274 := congrArg Int32.toInt (hF252.1 59 11 rfl)
    have f275 := congrArg Int32.toInt (hF252.1 59 6 rfl)
    have f276 := congrArg Int32.toInt (hF252.1 59 9 rfl)
    have f277 := congrArg Int32.toInt (hF252.1 116 0 rfl)
    have f278 := congrArg Int32.toInt (hF252.1 116 12 rfl)
    have f279 := congrArg Int32.toInt (hF252.1 116 10 rfl)
    have f280 := congrArg Int32.toInt (hF252.1 116 11 rfl)
    have f281 := congrArg Int32.toInt (hF252.1 116 6 rfl)
    have f282 := congrArg Int32.toInt (hF252.1 116 9 rfl)
    have f283 := congrArg Int32.toInt (eA_c (j := 0) (hF252.2.1 173 rfl))
    have f284 := congrArg Int32.toInt (eA_c (j := 1) (hF252.2.1 173 rfl))
    have f285 := congrArg Int32.toInt (hF252.1 174 1 rfl)
    have f286 := congrArg Int32.toInt (hF252.1 176 2 rfl)
    have f287 := congrArg Int32.toInt (eA_c (j := 0) (hF252.2.1 233 rfl))
    have f288 := congrArg Int32.toInt (eA_c (j := 4) (hF252.2.1 233 rfl))
    have f289 := congrArg Int32.toInt (eA_c (j := 5) (hF252.2.1 233 rfl))
    have f290 := congrArg Int32.toInt (eA_c (j := 6) (hF252.2.1 233 rfl))
    have f291 := congrArg Int32.toInt (eA_c (j := 2) (hF252.2.1 233 rfl))
    have f292 := congrArg Int32.toInt (eA_c (j := 3) (hF252.2.1 233 rfl))
    have f293 := congrArg Int32.toInt (eA_c (j := 0) (hF252.2.1 234 rfl))
    have f294 := congrArg Int32.toInt (eA_c (j := 4) (hF252.2.1 234 rfl))
    have f295 := congrArg Int32.toInt (eA_c (j := 5) (hF252.2.1 234 rfl))
    have f296 := congrArg Int32.toInt (eA_c (j := 6) (hF252.2.1 234 rfl))
    have f297 := congrArg Int32.toInt (eA_c (j := 2) (hF252.2.1 234 rfl))
    have f298 := congrArg Int32.toInt (eA_c (j := 3) (hF252.2.1 234 rfl))
    have f299 := congrArg Int32.toInt (eA_c (j := 5510) (hF252.2.1 234 rfl))
    have f300 := congrArg Int32.toInt (eA_c (j := 5514) (hF252.2.1 234 rfl))
    have f301 := congrArg Int32.toInt (eA_c (j := 5515) (hF252.2.1 234 rfl))
    have f302 := congrArg Int32.toInt (eA_c (j := 5516) (hF252.2.1 234 rfl))
    have f303 := congrArg Int32.toInt (eA_c (j := 5512) (hF252.2.1 234 rfl))
    have f304 := congrArg Int32.toInt (eA_c (j := 5513) (hF252.2.1 234 rfl))
    have f305 := congrArg Int32.toInt (eA_c (j := 0) (hF252.2.1 235 rfl))
    have f306 := congrArg Int32.toInt (eA_c (j := 1) (hF252.2.1 235 rfl))
    have f307 := congrArg Int32.toInt (hF252.1 231 8 rfl)
    have f308 := congrArg Int32.toInt (hF252.1 231 13 rfl)
    refine At.enter rfl ?_
    refine r_pop rfl ?_
    refine r_aload_n e2 ?_
    refine r_sload_n e0 ?_
    refine r_iload_n e3 ?_
    refine r_iconst 1 rfl ?_
    refine q_iadd (i.toInt + 1) rfl hx_1 (fun v309 hv309 => ?_)
    refine q_scald (m := L) hL (i.toInt + 1) hv309 hy_1 (fun v310 hv310 => ?_)
    have sv310 := hv2.symm.trans hv310
    subst sv310
    have n311_e : v2.toInt = 1 := by omega
    have n311_0 : v2.toInt ≠ 0 := by omega
    have n311_k : (eA g250 235 1).toInt ≠ 0 := by omega
    refine r_callV 1290 rfl [.ref 231, .int v2] [] (Nat.le_of_ble_eq_true rfl) rfl (T_X11_back_231 _ hI251 v2) ?_
    rintro _ _ ⟨g312, rfl, hI313, hF314, v315, rfl, hr316⟩
    refine At.sti ?_
    have hF317 := Fr.tr hF255 hF314 rfl rfl
    obtain ⟨p318, p319, p320, p321, p322, p323⟩ := hr316
    have w324 := p320 ⟨n311_e, n311_k⟩
    clear p319 p320 p321 p322 p323
    have f327 := congrArg Int32.toInt (hF314.1 1 0 rfl)
    have f328 := congrArg Int32.toInt (hF314.1 1 12 rfl)
    have f329 := congrArg Int32.toInt (hF314.1 1 10 rfl)
    have f330 := congrArg Int32.toInt (hF314.1 1 11 rfl)
    have f331 := congrArg Int32.toInt (hF314.1 1 6 rfl)
    have f332 := congrArg Int32.toInt (hF314.1 1 9 rfl)
    have f333 := congrArg Int32.toInt (hF314.1 59 0 rfl)
    have f334 := congrArg Int32.toInt (hF314.1 59 12 rfl)
    have f335 := congrArg Int32.toInt (hF314.1 59 10 rfl)
    have f336 := congrArg Int32.toInt (hF314.1 59 11 rfl)
    have f337 := congrArg Int32.toInt (hF314.1 59 6 rfl)
    have f338 := congrArg Int32.toInt (hF314.1 59 9 rfl)
    have f339 := congrArg Int32.toInt (hF314.1 116 0 rfl)
    have f340 := congrArg Int32.toInt (hF314.1 116 12 rfl)
    have f341 := congrArg Int32.toInt (hF314.1 116 10 rfl)
    have f342 := congrArg Int32.toInt (hF314.1 116 11 rfl)
    have f343 := congrArg Int32.toInt (hF314.1 116 6 rfl)
    have f344 := congrArg Int32.toInt (hF314.1 116 9 rfl)
    have f345 := congrArg Int32.toInt (eA_c (j := 0) (hF314.2.1 173 rfl))
    have f346 := congrArg Int32.toInt (eA_c (j := 1) (hF314.2.1 173 rfl))
    have f347 := congrArg Int32.toInt (hF314.1 174 1 rfl)
    have f348 := congrArg Int32.toInt (hF314.1 176 2 rfl)
    have f355 := congrArg Int32.toInt (eA_c (j := 0) (hF314.2.1 234 rfl))
    have f356 := congrArg Int32.toInt (eA_c (j := 4) (hF314.2.1 234 rfl))
    have f357 := congrArg Int32.toInt (eA_c (j := 5) (hF314.2.1 234 rfl))
    have f358 := congrArg Int32.toInt (eA_c (j := 6) (hF314.2.1 234 rfl))
    have f359 := congrArg Int32.toInt (eA_c (j := 2) (hF314.2.1 234 rfl))
    have f360 := congrArg Int32.toInt (eA_c (j := 3) (hF314.2.1 234 rfl))
    have f361 := congrArg Int32.toInt (eA_c (j := 5510) (hF314.2.1 234 rfl))
    have f362 := congrArg Int32.toInt (eA_c (j := 5514) (hF314.2.1 234 rfl))
    have f363 := congrArg Int32.toInt (eA_c (j := 5515) (hF314.2.1 234 rfl))
    have f364 := congrArg Int32.toInt (eA_c (j := 5516) (hF314.2.1 234 rfl))
    have f365 := congrArg Int32.toInt (eA_c (j := 5512) (hF314.2.1 234 rfl))
    have f366 := congrArg Int32.toInt (eA_c (j := 5513) (hF314.2.1 234 rfl))
    have f367 := congrArg Int32.toInt (eA_c (j := 0) (hF314.2.1 235 rfl))
    have f368 := congrArg Int32.toInt (eA_c (j := 1) (hF314.2.1 235 rfl))
    have f369 := congrArg Int32.toInt (hF314.1 231 8 rfl)
    have f370 := congrArg Int32.toInt (hF314.1 231 13 rfl)
    refine At.enter rfl ?_
    refine r_pop rfl ?_
    refine r_goto ?_
    exact K _ hI313 (show LwR _ from ⟨by first | (clear f271 f272 f273 f274 f275 f276 f277 f278 f279 f280 f281 f282 f283 f284 f285 f286 f288 f289 f290 f291 f292 f293 f294 f295 f296 f297 f298 f299 f300 f301 f302 f303 f304 f305 f306 f307 f308 f328 f329 f330 f331 f332 f333 f334 f335 f336 f337 f338 f339 f340 f341 f342 f343 f344 f345 f346 f347 f348 f355 f356 f357 f358 f359 f360 f361 f362 f363 f364 f365 f366 f367 f368 f369 f370; omega) | omega, by first | (clear f271 f272 f273 f274 f275 f276 f277 f278 f279 f280 f281 f282 f283 f284 f285 f286 f287 f289 f290 f291 f292 f293 f294 f295 f296 f297 f298 f299 f300 f301 f302 f303 f304 f305 f306 f307 f308 f327 f329 f330 f331 f332 f333 f334 f335 f336 f337 f338 f339 f340 f341 f342 f343 f344 f345 f346 f347 f348 f355 f356 f357 f358 f359 f360 f361 f362 f363 f364 f365 f366 f367 f368 f369 f370; omega) | omega, by first | (clear f271 f272 f273 f274 f275 f276 f277 f278 f279 f280 f281 f282 f283 f284 f285 f286 f287 f288 f290 f291 f292 f293 f294 f295 f296 f297 f298 f299 f300 f301 f302 f303 f304 f305 f306 f307 f308 f327 f328 f330 f331 f332 f333 f334 f335 f336 f337 f338 f339 f340 f341 f342 f343 f344 f345 f346 f347 f348 f355 f356 f357 f358 f359 f360 f361 f362 f363 f364 f365 f366 f367 f368 f369 f370; omega) | omega, by first | (clear f271 f272 f273 f274 f275 f276 f277 f278 f279 f280 f281 f282 f283 f284 f285 f286 f287 f288 f289 f291 f292 f293 f294 f295 f296 f297 f298 f299 f300 f301 f302 f303 f304 f305 f306 f307 f308 f327 f328 f329 f331 f332 f333 f334 f335 f336 f337 f338 f339 f340 f341 f342 f343 f344 f345 f346 f347 f348 f355 f356 f357 f358 f359 f360 f361 f362 f363 f364 f365 f366 f367 f368 f369 f370; omega) | omega, by first | (clear f271 f272 f273 f274 f275 f276 f277 f278 f279 f280 f281 f282 f283 f284 f285 f286 f287 f288 f289 f290 f292 f293 f294 f295 f296 f297 f298 f299 f300 f301 f302 f303 f304 f305 f306 f307 f308 f327 f328 f329 f330 f332 f333 f334 f335 f336 f337 f338 f339 f340 f341 f342 f343 f344 f345 f346 f347 f348 f355 f356 f357 f358 f359 f360 f361 f362 f363 f364 f365 f366 f367 f368 f369 f370; omega) | omega, by first | (clear f271 f272 f273 f274 f275 f276 f277 f278 f279 f280 f281 f282 f283 f284 f285 f286 f287 f288 f289 f290 f291 f293 f294 f295 f296 f297 f298 f299 f300 f301 f302 f303 f304 f305 f306 f307 f308 f327 f328 f329 f330 f331 f333 f334 f335 f336 f337 f338 f339 f340 f341 f342 f343 f344 f345 f346 f347 f348 f355 f356 f357 f358 f359 f360 f361 f362 f363 f364 f365 f366 f367 f368 f369 f370; omega) | omega, (eA_ti (j := 0) (((hF314.2.1 173 (by decide)).trans (hF252.2.1 173 (by decide))))).trans (hR_6.trans (eA_ti (j := 0) (((hF314.2.1 235 (by decide)).trans (hF252.2.1 235 (by decide))))).symm), (eA_ti (j := 1) (((hF314.2.1 173 (by decide)).trans (hF252.2.1 173 (by decide))))).trans (hR_7.trans (eA_ti (j := 1) (((hF314.2.1 235 (by decide)).trans (hF252.2.1 235 (by decide))))).symm), (congrArg Int32.toInt (((hF314.1 174 1 (by decide)).trans (hF252.1 174 1 (by decide))))).trans (hR_8.trans (congrArg Int32.toInt (((hF314.1 231 8 (by decide)).trans (hF252.1 231 8 (by decide))))).symm), (congrArg Int32.toInt (((hF314.1 176 2 (by decide)).trans (hF252.1 176 2 (by decide))))).trans (hR_9.trans (congrArg Int32.toInt (((hF314.1 231 13 (by decide)).trans (hF252.1 231 13 (by decide))))).symm), IM0.cong hR_10 (eA_ti (j := 0) (((hF314.2.1 173 (by decide)).trans (hF252.2.1 173 (by decide))))) (congrArg Int32.toInt (((hF314.1 59 0 (by decide)).trans (hF252.1 59 0 (by decide))))) (eA_ti (j := 0) (((hF314.2.1 234 (by decide)).trans (hF252.2.1 234 (by decide))))) (congrArg Int32.toInt (((hF314.1 59 12 (by decide)).trans (hF252.1 59 12 (by decide))))) (eA_ti (j := 4) (((hF314.2.1 234 (by decide)).trans (hF252.2.1 234 (by decide))))) (congrArg Int32.toInt (((hF314.1 59 10 (by decide)).trans (hF252.1 59 10 (by decide))))) (eA_ti (j := 5) (((hF314.2.1 234 (by decide)).trans (hF252.2.1 234 (by decide))))) (congrArg Int32.toInt (((hF314.1 59 11 (by decide)).trans (hF252.1 59 11 (by decide))))) (eA_ti (j := 6) (((hF314.2.1 234 (by decide)).trans (hF252.2.1 234 (by decide))))) (congrArg Int32.toInt (((hF314.1 59 6 (by decide)).trans (hF252.1 59 6 (by decide))))) (eA_ti (j := 2) (((hF314.2.1 234 (by decide)).trans (hF252.2.1 234 (by decide))))) (congrArg Int32.toInt (((hF314.1 59 9 (by decide)).trans (hF252.1 59 9 (by decide))))) (eA_ti (j := 3) (((hF314.2.1 234 (by decide)).trans (hF252.2.1 234 (by decide))))), IM1.cong hR_11 (eA_ti (j := 1) (((hF314.2.1 173 (by decide)).trans (hF252.2.1 173 (by decide))))) (congrArg Int32.toInt (((hF314.1 116 0 (by decide)).trans (hF252.1 116 0 (by decide))))) (eA_ti (j := 5510) (((hF314.2.1 234 (by decide)).trans (hF252.2.1 234 (by decide))))) (congrArg Int32.toInt (((hF314.1 116 12 (by decide)).trans (hF252.1 116 12 (by decide))))) (eA_ti (j := 5514) (((hF314.2.1 234 (by decide)).trans (hF252.2.1 234 (by decide))))) (congrArg Int32.toInt (((hF314.1 116 10 (by decide)).trans (hF252.1 116 10 (by decide))))) (eA_ti (j := 5515) (((hF314.2.1 234 (by decide)).trans (hF252.2.1 234 (by decide))))) (congrArg Int32.toInt (((hF314.1 116 11 (by decide)).trans (hF252.1 116 11 (by decide))))) (eA_ti (j := 5516) (((hF314.2.1 234 (by decide)).trans (hF252.2.1 234 (by decide))))) (congrArg Int32.toInt (((hF314.1 116 6 (by decide)).trans (hF252.1 116 6 (by decide))))) (eA_ti (j := 5512) (((hF314.2.1 234 (by decide)).trans (hF252.2.1 234 (by decide))))) (congrArg Int32.toInt (((hF314.1 116 9 (by decide)).trans (hF252.1 116 9 (by decide))))) (eA_ti (j := 5513) (((hF314.2.1 234 (by decide)).trans (hF252.2.1 234 (by decide))))), (show RT _ from fun i i0 i1 => (eA_ti (((hF314.2.1 175 (by decide)).trans (hF252.2.1 175 (by decide))))).trans ((hR_12 i i0 (by omega)).trans (eA_ti (((hF314.2.1 236 (by decide)).trans (hF252.2.1 236 (by decide))))).symm)), (show BYX _ from fun i i0 i1 => by rw [TX.c (((hF314.2.1 175 (by decide)).trans (hF252.2.1 175 (by decide))))]; exact hR_13 i i0 (by have i2 : i < (gI _ 174 1).toInt := i1; show i < (gI g0 174 1).toInt; omega))⟩)
  · have n371_e : v2.toInt = 1 := by omega
    have n371_0 : v2.toInt ≠ 0 := by omega
    have n371_k : (eA g0 173 1).toInt = 0 := by omega
    refine r_callV 1280 rfl [.ref 0, .int v2] [] (Nat.le_of_ble_eq_true rfl) rfl (T_X10_back_0 _ hI0 v2) ?_
    rintro _ _ ⟨g372, rfl, hI373, hF374, v375, rfl, hr376⟩
    refine At.sti ?_
    have hF377 := Fr.tr hF0 hF374 rfl rfl
    obtain ⟨p378, p379, p380, p381, p382, p383⟩ := hr376
    have w384 := p381 ⟨fun h => n371_0 h.1, fun h => h.2 n371_k⟩
    have w385 := p383 ⟨by omega, by omega, fun h => n371_0 h.1, fun h => h.2 n371_k⟩
    clear p379 p380 p381 p382 p383
    have f393 := congrArg Int32.toInt (hF374.1 59 0 rfl)
    have f394 := congrArg Int32.toInt (hF374.1 59 12 rfl)
    have f395 := congrArg Int32.toInt (hF374.1 59 10 rfl)
    have f396 := congrArg Int32.toInt (hF374.1 59 11 rfl)
    have f397 := congrArg Int32.toInt (hF374.1 59 6 rfl)
    have f398 := congrArg Int32.toInt (hF374.1 59 9 rfl)
    have f399 := congrArg Int32.toInt (hF374.1 116 0 rfl)
    have f400 := congrArg Int32.toInt (hF374.1 116 12 rfl)
    have f401 := congrArg Int32.toInt (hF374.1 116 10 rfl)
    have f402 := congrArg Int32.toInt (hF374.1 116 11 rfl)
    have f403 := congrArg Int32.toInt (hF374.1 116 6 rfl)
    have f404 := congrArg Int32.toInt (hF374.1 116 9 rfl)
    have f405 := congrArg Int32.toInt (eA_c (j := 0) (hF374.2.1 173 rfl))
    have f406 := congrArg Int32.toInt (eA_c (j := 1) (hF374.2.1 173 rfl))
    have f407 := congrArg Int32.toInt (hF374.1 174 1 rfl)
    have f408 := congrArg Int32.toInt (hF374.1 176 2 rfl)
    have f409 := congrArg Int32.toInt (eA_c (j := 0) (hF374.2.1 233 rfl))
    have f410 := congrArg Int32.toInt (eA_c (j := 4) (hF374.2.1 233 rfl))
    have f411 := congrArg Int32.toInt (eA_c (j := 5) (hF374.2.1 233 rfl))
    have f412 := congrArg Int32.toInt (eA_c (j := 6) (hF374.2.1 233 rfl))
    have f413 := congrArg Int32.toInt (eA_c (j := 2) (hF374.2.1 233 rfl))
    have f414 := congrArg Int32.toInt (eA_c (j := 3) (hF374.2.1 233 rfl))
    have f415 := congrArg Int32.toInt (eA_c (j := 0) (hF374.2.1 234 rfl))
    have f416 := congrArg Int32.toInt (eA_c (j := 4) (hF374.2.1 234 rfl))
    have f417 := congrArg Int32.toInt (eA_c (j := 5) (hF374.2.1 234 rfl))
    have f418 := congrArg Int32.toInt (eA_c (j := 6) (hF374.2.1 234 rfl))
    have f419 := congrArg Int32.toInt (eA_c (j := 2) (hF374.2.1 234 rfl))
    have f420 := congrArg Int32.toInt (eA_c (j := 3) (hF374.2.1 234 rfl))
    have f421 := congrArg Int32.toInt (eA_c (j := 5510) (hF374.2.1 234 rfl))
    have f422 := congrArg Int32.toInt (eA_c (j := 5514) (hF374.2.1 234 rfl))
    have f423 := congrArg Int32.toInt (eA_c (j := 5515) (hF374.2.1 234 rfl))
    have f424 := congrArg Int32.toInt (eA_c (j := 5516) (hF374.2.1 234 rfl))
    have f425 := congrArg Int32.toInt (eA_c (j := 5512) (hF374.2.1 234 rfl))
    have f426 := congrArg Int32.toInt (eA_c (j := 5513) (hF374.2.1 234 rfl))
    have f427 := congrArg Int32.toInt (eA_c (j := 0) (hF374.2.1 235 rfl))
    have f428 := congrArg Int32.toInt (eA_c (j := 1) (hF374.2.1 235 rfl))
    have f429 := congrArg Int32.toInt (hF374.1 231 8 rfl)
    have f430 := congrArg Int32.toInt (hF374.1 231 13 rfl)
    refine At.enter rfl ?_
    refine r_pop rfl ?_
    refine r_aload_n e2 ?_
    refine r_sload_n e0 ?_
    refine r_iload_n e3 ?_
    refine r_iconst 1 rfl ?_
    refine q_iadd (i.toInt + 1) rfl hx_1 (fun v431 hv431 => ?_)
    refine q_scald (m := L) hL (i.toInt + 1) hv431 hy_1 (fun v432 hv432 => ?_)
    have sv432 := hv2.symm.trans hv432
    subst sv432
    have n433_e : v2.toInt = 1 := by omega
    have n433_0 : v2.toInt ≠ 0 := by omega
    have n433_k : (eA g372 235 1).toInt = 0 := by omega
    refine r_callV 1290 rfl [.ref 231, .int v2] [] (Nat.le_of_ble_eq_true rfl) rfl (T_X11_back_231 _ hI373 v2) ?_
    rintro _ _ ⟨g434, rfl, hI435, hF436, v437, rfl, hr438⟩
    refine At.sti ?_
    have hF439 := Fr.tr hF377 hF436 rfl rfl
    obtain ⟨p440, p441, p442, p443, p444, p445⟩ := hr438
    have w446 := p443 ⟨fun h => n433_0 h.1, fun h => h.2 n433_k⟩
    have w447 := p445 ⟨by omega, by omega, fun h => n433_0 h.1, fun h => h.2 n433_k⟩
    clear p441 p442 p443 p444 p445
    have f449 := congrArg Int32.toInt (hF436.1 1 0 rfl)
    have f450 := congrArg Int32.toInt (hF436.1 1 12 rfl)
    have f451 := congrArg Int32.toInt (hF436.1 1 10 rfl)
    have f452 := congrArg Int32.toInt (hF436.1 1 11 rfl)
    have f453 := congrArg Int32.toInt (hF436.1 1 6 rfl)
    have f454 := congrArg Int32.toInt (hF436.1 1 9 rfl)
    have f455 := congrArg Int32.toInt (hF436.1 59 0 rfl)
    have f456 := congrArg Int32.toInt (hF436.1 59 12 rfl)
    have f457 := congrArg Int32.toInt (hF436.1 59 10 rfl)
    have f458 := congrArg Int32.toInt (hF436.1 59 11 rfl)
    have f459 := congrArg Int32.toInt (hF436.1 59 6 rfl)
    have f460 := congrArg Int32.toInt (hF436.1 59 9 rfl)
    have f461 := congrArg Int32.toInt (hF436.1 116 0 rfl)
    have f462 := congrArg Int32.toInt (hF436.1 116 12 rfl)
    have f463 := congrArg Int32.toInt (hF436.1 116 10 rfl)
    have f464 := congrArg Int32.toInt (hF436.1 116 11 rfl)
    have f465 := congrArg Int32.toInt (hF436.1 116 6 rfl)
    have f466 := congrArg Int32.toInt (hF436.1 116 9 rfl)
    have f467 := congrArg Int32.toInt (eA_c (j := 0) (hF436.2.1 173 rfl))
    have f468 := congrArg Int32.toInt (eA_c (j := 1) (hF436.2.1 173 rfl))
    have f469 := congrArg Int32.toInt (hF436.1 174 1 rfl)
    have f470 := congrArg Int32.toInt (hF436.1 176 2 rfl)
    have f477 := congrArg Int32.toInt (eA_c (j := 0) (hF436.2.1 234 rfl))
    have f478 := congrArg Int32.toInt (eA_c (j := 4) (hF436.2.1 234 rfl))
    have f479 := congrArg Int32.toInt (eA_c (j := 5) (hF436.2.1 234 rfl))
    have f480 := congrArg Int32.toInt (eA_c (j := 6) (hF436.2.1 234 rfl))
    have f481 := congrArg Int32.toInt (eA_c (j := 2) (hF436.2.1 234 rfl))
    have f482 := congrArg Int32.toInt (eA_c (j := 3) (hF436.2.1 234 rfl))
    have f483 := congrArg Int32.toInt (eA_c (j := 5510) (hF436.2.1 234 rfl))
    have f484 := congrArg Int32.toInt (eA_c (j := 5514) (hF436.2.1 234 rfl))
    have f485 := congrArg Int32.toInt (eA_c (j := 5515) (hF436.2.1 234 rfl))
    have f486 := congrArg Int32.toInt (eA_c (j := 5516) (hF436.2.1 234 rfl))
    have f487 := congrArg Int32.toInt (eA_c (j := 5512) (hF436.2.1 234 rfl))
    have f488 := congrArg Int32.toInt (eA_c (j := 5513) (hF436.2.1 234 rfl))
    have f489 := congrArg Int32.toInt (eA_c (j := 0) (hF436.2.1 235 rfl))
    have f490 := congrArg Int32.toInt (eA_c (j := 1) (hF436.2.1 235 rfl))
    have f491 := congrArg Int32.toInt (hF436.1 231 8 rfl)
    have f492 := congrArg Int32.toInt (hF436.1 231 13 rfl)
    refine At.enter rfl ?_
    refine r_pop rfl ?_
    refine r_goto ?_
    exact K _ hI435 (show LwR _ from ⟨by first | (clear f393 f394 f395 f396 f397 f398 f399 f400 f401 f402 f403 f404 f405 f406 f407 f408 f410 f411 f412 f413 f414 f415 f416 f417 f418 f419 f420 f421 f422 f423 f424 f425 f426 f427 f428 f429 f430 f450 f451 f452 f453 f454 f455 f456 f457 f458 f459 f460 f461 f462 f463 f464 f465 f466 f467 f468 f469 f470 f477 f478 f479 f480 f481 f482 f483 f484 f485 f486 f487 f488 f489 f490 f491 f492; omega) | omega, by first | (clear f393 f394 f395 f396 f397 f398 f399 f400 f401 f402 f403 f404 f405 f406 f407 f408 f409 f411 f412 f413 f414 f415 f416 f417 f418 f419 f420 f421 f422 f423 f424 f425 f426 f427 f428 f429 f430 f449 f451 f452 f453 f454 f455 f456 f457 f458 f459 f460 f461 f462 f463 f464 f465 f466 f467 f468 f469 f470 f477 f478 f479 f480 f481 f482 f483 f484 f485 f486 f487 f488 f489 f490 f491 f492; omega) | omega, by first | (clear f393 f394 f395 f396 f397 f398 f399 f400 f401 f402 f403 f404 f405 f406 f407 f408 f409 f410 f412 f413 f414 f415 f416 f417 f418 f419 f420 f421 f422 f423 f424 f425 f426 f427 f428 f429 f430 f449 f450 f452 f453 f454 f455 f456 f457 f458 f459 f460 f461 f462 f463 f464 f465 f466 f467 f468 f469 f470 f477 f478 f479 f480 f481 f482 f483 f484 f485 f486 f487 f488 f489 f490 f491 f492; omega) | omega, by first | (clear f393 f394 f395 f396 f397 f398 f399 f400 f401 f402 f403 f404 f405 f406 f407 f408 f409 f410 f411 f413 f414 f415 f416 f417 f418 f419 f420 f421 f422 f423 f424 f425 f426 f427 f428 f429 f430 f449 f450 f451 f453 f454 f455 f456 f457 f458 f459 f460 f461 f462 f463 f464 f465 f466 f467 f468 f469 f470 f477 f478 f479 f480 f481 f482 f483 f484 f485 f486 f487 f488 f489 f490 f491 f492; omega) | omega, by first | (clear f393 f394 f395 f396 f397 f398 f399 f400 f401 f402 f403 f404 f405 f406 f407 f408 f409 f410 f411 f412 f414 f415 f416 f417 f418 f419 f420 f421 f422 f423 f424 f425 f426 f427 f428 f429 f430 f449 f450 f451 f452 f454 f455 f456 f457 f458 f459 f460 f461 f462 f463 f464 f465 f466 f467 f468 f469 f470 f477 f478 f479 f480 f481 f482 f483 f484 f485 f486 f487 f488 f489 f490 f491 f492; omega) | omega, by first | (clear f393 f394 f395 f396 f397 f398 f399 f400 f401 f402 f403 f404 f405 f406 f407 f408 f409 f410 f411 f412 f413 f415 f416 f417 f418 f419 f420 f421 f422 f423 f424 f425 f426 f427 f428 f429 f430 f449 f450 f451 f452 f453 f455 f456 f457 f458 f459 f460 f461 f462 f463 f464 f465 f466 f467 f468 f469 f470 f477 f478 f479 f480 f481 f482 f483 f484 f485 f486 f487 f488 f489 f490 f491 f492; omega) | omega, (eA_ti (j := 0) (((hF436.2.1 173 (by decide)).trans (hF374.2.1 173 (by decide))))).trans (hR_6.trans (eA_ti (j := 0) (((hF436.2.1 235 (by decide)).trans (hF374.2.1 235 (by decide))))).symm), (eA_ti (j := 1) (((hF436.2.1 173 (by decide)).trans (hF374.2.1 173 (by decide))))).trans (hR_7.trans (eA_ti (j := 1) (((hF436.2.1 235 (by decide)).trans (hF374.2.1 235 (by decide))))).symm), (congrArg Int32.toInt (((hF436.1 174 1 (by decide)).trans (hF374.1 174 1 (by decide))))).trans (hR_8.trans (congrArg Int32.toInt (((hF436.1 231 8 (by decide)).trans (hF374.1 231 8 (by decide))))).symm), (congrArg Int32.toInt (((hF436.1 176 2 (by decide)).trans (hF374.1 176 2 (by decide))))).trans (hR_9.trans (congrArg Int32.toInt (((hF436.1 231 13 (by decide)).trans (hF374.1 231 13 (by decide))))).symm), IM0.cong hR_10 (eA_ti (j := 0) (((hF436.2.1 173 (by decide)).trans (hF374.2.1 173 (by decide))))) (congrArg Int32.toInt (((hF436.1 59 0 (by decide)).trans (hF374.1 59 0 (by decide))))) (eA_ti (j := 0) (((hF436.2.1 234 (by decide)).trans (hF374.2.1 234 (by decide))))) (congrArg Int32.toInt (((hF436.1 59 12 (by decide)).trans (hF374.1 59 12 (by decide))))) (eA_ti (j := 4) (((hF436.2.1 234 (by decide)).trans (hF374.2.1 234 (by decide))))) (congrArg Int32.toInt (((hF436.1 59 10 (by decide)).trans (hF374.1 59 10 (by decide))))) (eA_ti (j := 5) (((hF436.2.1 234 (by decide)).trans (hF374.2.1 234 (by decide))))) (congrArg Int32.toInt (((hF436.1 59 11 (by decide)).trans (hF374.1 59 11 (by decide))))) (eA_ti (j := 6) (((hF436.2.1 234 (by decide)).trans (hF374.2.1 234 (by decide))))) (congrArg Int32.toInt (((hF436.1 59 6 (by decide)).trans (hF374.1 59 6 (by decide))))) (eA_ti (j := 2) (((hF436.2.1 234 (by decide)).trans (hF374.2.1 234 (by decide))))) (congrArg Int32.toInt (((hF436.1 59 9 (by decide)).trans (hF374.1 59 9 (by decide))))) (eA_ti (j := 3) (((hF436.2.1 234 (by decide)).trans (hF374.2.1 234 (by decide))))), IM1.cong hR_11 (eA_ti (j := 1) (((hF436.2.1 173 (by decide)).trans (hF374.2.1 173 (by decide))))) (congrArg Int32.toInt (((hF436.1 116 0 (by decide)).trans (hF374.1 116 0 (by decide))))) (eA_ti (j := 5510) (((hF436.2.1 234 (by decide)).trans (hF374.2.1 234 (by decide))))) (congrArg Int32.toInt (((hF436.1 116 12 (by decide)).trans (hF374.1 116 12 (by decide))))) (eA_ti (j := 5514) (((hF436.2.1 234 (by decide)).trans (hF374.2.1 234 (by decide))))) (congrArg Int32.toInt (((hF436.1 116 10 (by decide)).trans (hF374.1 116 10 (by decide))))) (eA_ti (j := 5515) (((hF436.2.1 234 (by decide)).trans (hF374.2.1 234 (by decide))))) (congrArg Int32.toInt (((hF436.1 116 11 (by decide)).trans (hF374.1 116 11 (by decide))))) (eA_ti (j := 5516) (((hF436.2.1 234 (by decide)).trans (hF374.2.1 234 (by decide))))) (congrArg Int32.toInt (((hF436.1 116 6 (by decide)).trans (hF374.1 116 6 (by decide))))) (eA_ti (j := 5512) (((hF436.2.1 234 (by decide)).trans (hF374.2.1 234 (by decide))))) (congrArg Int32.toInt (((hF436.1 116 9 (by decide)).trans (hF374.1 116 9 (by decide))))) (eA_ti (j := 5513) (((hF436.2.1 234 (by decide)).trans (hF374.2.1 234 (by decide))))), (show RT _ from fun i i0 i1 => (eA_ti (((hF436.2.1 175 (by decide)).trans (hF374.2.1 175 (by decide))))).trans ((hR_12 i i0 (by omega)).trans (eA_ti (((hF436.2.1 236 (by decide)).trans (hF374.2.1 236 (by decide))))).symm)), (show BYX _ from fun i i0 i1 => by rw [TX.c (((hF436.2.1 175 (by decide)).trans (hF374.2.1 175 (by decide))))]; exact hR_13 i i0 (by have i2 : i < (gI _ 174 1).toInt := i1; show i < (gI g0 174 1).toInt; omega))⟩)
  · have n493_e : (v2.toInt < 0 ∨ 1 < v2.toInt) := by omega
    have n493_0 : v2.toInt ≠ 0 := by omega
    have n493_1 : v2.toInt ≠ 1 := by omega
    refine r_callV 1280 rfl [.ref 0, .int v2] [] (Nat.le_of_ble_eq_true rfl) rfl (T_X10_back_0 _ hI0 v2) ?_
    rintro _ _ ⟨g494, rfl, hI495, hF496, v497, rfl, hr498⟩
    refine At.sti ?_
    have hF499 := Fr.tr hF0 hF496 rfl rfl
    obtain ⟨p500, p501, p502, p503, p504, p505⟩ := hr498
    have w506 := p504 n493_e
    have w507 := p503 ⟨fun h => n493_0 h.1, fun h => n493_1 h.1⟩
    clear p501 p502 p503 p504 p505
    have f515 := congrArg Int32.toInt (hF496.1 59 0 rfl)
    have f516 := congrArg Int32.toInt (hF496.1 59 12 rfl)
    have f517 := congrArg Int32.toInt (hF496.1 59 10 rfl)
    have f518 := congrArg Int32.toInt (hF496.1 59 11 rfl)
    have f519 := congrArg Int32.toInt (hF496.1 59 6 rfl)
    have f520 := congrArg Int32.toInt (hF496.1 59 9 rfl)
    have f521 := congrArg Int32.toInt (hF496.1 116 0 rfl)
    have f522 := congrArg Int32.toInt (hF496.1 116 12 rfl)
    have f523 := congrArg Int32.toInt (hF496.1 116 10 rfl)
    have f524 := congrArg Int32.toInt (hF496.1 116 11 rfl)
    have f525 := congrArg Int32.toInt (hF496.1 116 6 rfl)
    have f526 := congrArg Int32.toInt (hF496.1 116 9 rfl)
    have f527 := congrArg Int32.toInt (eA_c (j := 0) (hF496.2.1 173 rfl))
    have f528 := congrArg Int32.toInt (eA_c (j := 1) (hF496.2.1 173 rfl))
    have f529 := congrArg Int32.toInt (hF496.1 174 1 rfl)
    have f530 := congrArg Int32.toInt (hF496.1 176 2 rfl)
    have f531 := congrArg Int32.toInt (eA_c (j := 0) (hF496.2.1 233 rfl))
    have f532 := congrArg Int32.toInt (eA_c (j := 4) (hF496.2.1 233 rfl))
    have f533 := congrArg Int32.toInt (eA_c (j := 5) (hF496.2.1 233 rfl))
    have f534 := congrArg Int32.toInt (eA_c (j := 6) (hF496.2.1 233 rfl))
    have f535 := congrArg Int32.toInt (eA_c (j := 2) (hF496.2.1 233 rfl))
    have f536 := congrArg Int32.toInt (eA_c (j := 3) (hF496.2.1 233 rfl))
    have f537 := congrArg Int32.toInt (eA_c (j := 0) (hF496.2.1 234 rfl))
    have f538 := congrArg Int32.toInt (eA_c (j := 4) (hF496.2.1 234 rfl))
    have f539 := congrArg Int32.toInt (eA_c (j := 5) (hF496.2.1 234 rfl))
    have f540 := congrArg Int32.toInt (eA_c (j := 6) (hF496.2.1 234 rfl))
    have f541 := congrArg Int32.toInt (eA_c (j := 2) (hF496.2.1 234 rfl))
    have f542 := congrArg Int32.toInt (eA_c (j := 3) (hF496.2.1 234 rfl))
    have f543 := congrArg Int32.toInt (eA_c (j := 5510) (hF496.2.1 234 rfl))
    have f544 := congrArg Int32.toInt (eA_c (j := 5514) (hF496.2.1 234 rfl))
    have f545 := congrArg Int32.toInt (eA_c (j := 5515) (hF496.2.1 234 rfl))
    have f546 := congrArg Int32.toInt (eA_c (j := 5516) (hF496.2.1 234 rfl))
    have f547 := congrArg Int32.toInt (eA_c (j := 5512) (hF496.2.1 234 rfl))
    have f548 := congrArg Int32.toInt (eA_c (j := 5513) (hF496.2.1 234 rfl))
    have f549 := congrArg Int32.toInt (eA_c (j := 0) (hF496.2.1 235 rfl))
    have f550 := congrArg Int32.toInt (eA_c (j := 1) (hF496.2.1 235 rfl))
    have f551 := congrArg Int32.toInt (hF496.1 231 8 rfl)
    have f552 := congrArg Int32.toInt (hF496.1 231 13 rfl)
    refine At.enter rfl ?_
    refine r_pop rfl ?_
    refine r_aload_n e2 ?_
    refine r_sload_n e0 ?_
    refine r_iload_n e3 ?_
    refine r_iconst 1 rfl ?_
    refine q_iadd (i.toInt + 1) rfl hx_1 (fun v553 hv553 => ?_)
    refine q_scald (m := L) hL (i.toInt + 1) hv553 hy_1 (fun v554 hv554 => ?_)
    have sv554 := hv2.symm.trans hv554
    subst sv554
    have n555_e : (v2.toInt < 0 ∨ 1 < v2.toInt) := by omega
    have n555_0 : v2.toInt ≠ 0 := by omega
    have n555_1 : v2.toInt ≠ 1 := by omega
    refine r_callV 1290 rfl [.ref 231, .int v2] [] (Nat.le_of_ble_eq_true rfl) rfl (T_X11_back_231 _ hI495 v2) ?_
    rintro _ _ ⟨g556, rfl, hI557, hF558, v559, rfl, hr560⟩
    refine At.sti ?_
    have hF561 := Fr.tr hF499 hF558 rfl rfl
    obtain ⟨p562, p563, p564, p565, p566, p567⟩ := hr560
    have w568 := p566 n555_e
    have w569 := p565 ⟨fun h => n555_0 h.1, fun h => n555_1 h.1⟩
    clear p563 p564 p565 p566 p567
    have f571 := congrArg Int32.toInt (hF558.1 1 0 rfl)
    have f572 := congrArg Int32.toInt (hF558.1 1 12 rfl)
    have f573 := congrArg Int32.toInt (hF558.1 1 10 rfl)
    have f574 := congrArg Int32.toInt (hF558.1 1 11 rfl)
    have f575 := congrArg Int32.toInt (hF558.1 1 6 rfl)
    have f576 := congrArg Int32.toInt (hF558.1 1 9 rfl)
    have f577 := congrArg Int32.toInt (hF558.1 59 0 rfl)
    have f578 := congrArg Int32.toInt (hF558.1 59 12 rfl)
    have f579 := congrArg Int32.toInt (hF558.1 59 10 rfl)
    have f580 := congrArg Int32.toInt (hF558.1 59 11 rfl)
    have f581 := congrArg Int32.toInt (hF558.1 59 6 rfl)
    have f582 := congrArg Int32.toInt (hF558.1 59 9 rfl)
    have f583 := congrArg Int32.toInt (hF558.1 116 0 rfl)
    have f584 := congrArg Int32.toInt (hF558.1 116 12 rfl)
    have f585 := congrArg Int32.toInt (hF558.1 116 10 rfl)
    have f586 := congrArg Int32.toInt (hF558.1 116 11 rfl)
    have f587 := congrArg Int32.toInt (hF558.1 116 6 rfl)
    have f588 := congrArg Int32.toInt (hF558.1 116 9 rfl)
    have f589 := congrArg Int32.toInt (eA_c (j := 0) (hF558.2.1 173 rfl))
    have f590 := congrArg Int32.toInt (eA_c (j := 1) (hF558.2.1 173 rfl))
    have f591 := congrArg Int32.toInt (hF558.1 174 1 rfl)
    have f592 := congrArg Int32.toInt (hF558.1 176 2 rfl)
    have f599 := congrArg Int32.toInt (eA_c (j := 0) (hF558.2.1 234 rfl))
    have f600 := congrArg Int32.toInt (eA_c (j := 4) (hF558.2.1 234 rfl))
    have f601 := congrArg Int32.toInt (eA_c (j := 5) (hF558.2.1 234 rfl))
    have f602 := congrArg Int32.toInt (eA_c (j := 6) (hF558.2.1 234 rfl))
    have f603 := congrArg Int32.toInt (eA_c (j := 2) (hF558.2.1 234 rfl))
    have f604 := congrArg Int32.toInt (eA_c (j := 3) (hF558.2.1 234 rfl))
    have f605 := congrArg Int32.toInt (eA_c (j := 5510) (hF558.2.1 234 rfl))
    have f606 := congrArg Int32.toInt (eA_c (j := 5514) (hF558.2.1 234 rfl))
    have f607 := congrArg Int32.toInt (eA_c (j := 5515) (hF558.2.1 234 rfl))
    have f608 := congrArg Int32.toInt (eA_c (j := 5516) (hF558.2.1 234 rfl))
    have f609 := congrArg Int32.toInt (eA_c (j := 5512) (hF558.2.1 234 rfl))
    have f610 := congrArg Int32.toInt (eA_c (j := 5513) (hF558.2.1 234 rfl))
    have f611 := congrArg Int32.toInt (eA_c (j := 0) (hF558.2.1 235 rfl))
    have f612 := congrArg Int32.toInt (eA_c (j := 1) (hF558.2.1 235 rfl))
    have f613 := congrArg Int32.toInt (hF558.1 231 8 rfl)
    have f614 := congrArg Int32.toInt (hF558.1 231 13 rfl)
    refine At.enter rfl ?_
    refine r_pop rfl ?_
    refine r_goto ?_
    exact K _ hI557 (show LwR _ from ⟨by first | (clear f515 f516 f517 f518 f519 f520 f521 f522 f523 f524 f525 f526 f527 f528 f529 f530 f532 f533 f534 f535 f536 f537 f538 f539 f540 f541 f542 f543 f544 f545 f546 f547 f548 f549 f550 f551 f552 f572 f573 f574 f575 f576 f577 f578 f579 f580 f581 f582 f583 f584 f585 f586 f587 f588 f589 f590 f591 f592 f599 f600 f601 f602 f603 f604 f605 f606 f607 f608 f609 f610 f611 f612 f613 f614; omega) | omega, by first | (clear f515 f516 f517 f518 f519 f520 f521 f522 f523 f524 f525 f526 f527 f528 f529 f530 f531 f533 f534 f535 f536 f537 f538 f539 f540 f541 f542 f543 f544 f545 f546 f547 f548 f549 f550 f551 f552 f571 f573 f574 f575 f576 f577 f578 f579 f580 f581 f582 f583 f584 f585 f586 f587 f588 f589 f590 f591 f592 f599 f600 f601 f602 f603 f604 f605 f606 f607 f608 f609 f610 f611 f612 f613 f614; omega) | omega, by first | (clear f515 f516 f517 f518 f519 f520 f521 f522 f523 f524 f525 f526 f527 f528 f529 f530 f531 f532 f534 f535 f536 f537 f538 f539 f540 f541 f542 f543 f544 f545 f546 f547 f548 f549 f550 f551 f552 f571 f572 f574 f575 f576 f577 f578 f579 f580 f581 f582 f583 f584 f585 f586 f587 f588 f589 f590 f591 f592 f599 f600 f601 f602 f603 f604 f605 f606 f607 f608 f609 f610 f611 f612 f613 f614; omega) | omega, by first | (clear f515 f516 f517 f518 f519 f520 f521 f522 f523 f524 f525 f526 f527 f528 f529 f530 f531 f532 f533 f535 f536 f537 f538 f539 f540 f541 f542 f543 f544 f545 f546 f547 f548 f549 f550 f551 f552 f571 f572 f573 f575 f576 f577 f578 f579 f580 f581 f582 f583 f584 f585 f586 f587 f588 f589 f590 f591 f592 f599 f600 f601 f602 f603 f604 f605 f606 f607 f608 f609 f610 f611 f612 f613 f614; omega) | omega, by first | (clear f515 f516 f517 f518 f519 f520 f521 f522 f523 f524 f525 f526 f527 f528 f529 f530 f531 f532 f533 f534 f536 f537 f538 f539 f540 f541 f542 f543 f544 f545 f546 f547 f548 f549 f550 f551 f552 f571 f572 f573 f574 f576 f577 f578 f579 f580 f581 f582 f583 f584 f585 f586 f587 f588 f589 f590 f591 f592 f599 f600 f601 f602 f603 f604 f605 f606 f607 f608 f609 f610 f611 f612 f613 f614; omega) | omega, by first | (clear f515 f516 f517 f518 f519 f520 f521 f522 f523 f524 f525 f526 f527 f528 f529 f530 f531 f532 f533 f534 f535 f537 f538 f539 f540 f541 f542 f543 f544 f545 f546 f547 f548 f549 f550 f551 f552 f571 f572 f573 f574 f575 f577 f578 f579 f580 f581 f582 f583 f584 f585 f586 f587 f588 f589 f590 f591 f592 f599 f600 f601 f602 f603 f604 f605 f606 f607 f608 f609 f610 f611 f612 f613 f614; omega) | omega, (eA_ti (j := 0) (((hF558.2.1 173 (by decide)).trans (hF496.2.1 173 (by decide))))).trans (hR_6.trans (eA_ti (j := 0) (((hF558.2.1 235 (by decide)).trans (hF496.2.1 235 (by decide))))).symm), (eA_ti (j := 1) (((hF558.2.1 173 (by decide)).trans (hF496.2.1 173 (by decide))))).trans (hR_7.trans (eA_ti (j := 1) (((hF558.2.1 235 (by decide)).trans (hF496.2.1 235 (by decide))))).symm), (congrArg Int32.toInt (((hF558.1 174 1 (by decide)).trans (hF496.1 174 1 (by decide))))).trans (hR_8.trans (congrArg Int32.toInt (((hF558.1 231 8 (by decide)).trans (hF496.1 231 8 (by decide))))).symm), (congrArg Int32.toInt (((hF558.1 176 2 (by decide)).trans (hF496.1 176 2 (by decide))))).trans (hR_9.trans (congrArg Int32.toInt (((hF558.1 231 13 (by decide)).trans (hF496.1 231 13 (by decide))))).symm), IM0.cong hR_10 (eA_ti (j := 0) (((hF558.2.1 173 (by decide)).trans (hF496.2.1 173 (by decide))))) (congrArg Int32.toInt (((hF558.1 59 0 (by decide)).trans (hF496.1 59 0 (by decide))))) (eA_ti (j := 0) (((hF558.2.1 234 (by decide)).trans (hF496.2.1 234 (by decide))))) (congrArg Int32.toInt (((hF558.1 59 12 (by decide)).trans (hF496.1 59 12 (by decide))))) (eA_ti (j := 4) (((hF558.2.1 234 (by decide)).trans (hF496.2.1 234 (by decide))))) (congrArg Int32.toInt (((hF558.1 59 10 (by decide)).trans (hF496.1 59 10 (by decide))))) (eA_ti (j := 5) (((hF558.2.1 234 (by decide)).trans (hF496.2.1 234 (by decide))))) (congrArg Int32.toInt (((hF558.1 59 11 (by decide)).trans (hF496.1 59 11 (by decide))))) (eA_ti (j := 6) (((hF558.2.1 234 (by decide)).trans (hF496.2.1 234 (by decide))))) (congrArg Int32.toInt (((hF558.1 59 6 (by decide)).trans (hF496.1 59 6 (by decide))))) (eA_ti (j := 2) (((hF558.2.1 234 (by decide)).trans (hF496.2.1 234 (by decide))))) (congrArg Int32.toInt (((hF558.1 59 9 (by decide)).trans (hF496.1 59 9 (by decide))))) (eA_ti (j := 3) (((hF558.2.1 234 (by decide)).trans (hF496.2.1 234 (by decide))))), IM1.cong hR_11 (eA_ti (j := 1) (((hF558.2.1 173 (by decide)).trans (hF496.2.1 173 (by decide))))) (congrArg Int32.toInt (((hF558.1 116 0 (by decide)).trans (hF496.1 116 0 (by decide))))) (eA_ti (j := 5510) (((hF558.2.1 234 (by decide)).trans (hF496.2.1 234 (by decide))))) (congrArg Int32.toInt (((hF558.1 116 12 (by decide)).trans (hF496.1 116 12 (by decide))))) (eA_ti (j := 5514) (((hF558.2.1 234 (by decide)).trans (hF496.2.1 234 (by decide))))) (congrArg Int32.toInt (((hF558.1 116 10 (by decide)).trans (hF496.1 116 10 (by decide))))) (eA_ti (j := 5515) (((hF558.2.1 234 (by decide)).trans (hF496.2.1 234 (by decide))))) (congrArg Int32.toInt (((hF558.1 116 11 (by decide)).trans (hF496.1 116 11 (by decide))))) (eA_ti (j := 5516) (((hF558.2.1 234 (by decide)).trans (hF496.2.1 234 (by decide))))) (congrArg Int32.toInt (((hF558.1 116 6 (by decide)).trans (hF496.1 116 6 (by decide))))) (eA_ti (j := 5512) (((hF558.2.1 234 (by decide)).trans (hF496.2.1 234 (by decide))))) (congrArg Int32.toInt (((hF558.1 116 9 (by decide)).trans (hF496.1 116 9 (by decide))))) (eA_ti (j := 5513) (((hF558.2.1 234 (by decide)).trans (hF496.2.1 234 (by decide))))), (show RT _ from fun i i0 i1 => (eA_ti (((hF558.2.1 175 (by decide)).trans (hF496.2.1 175 (by decide))))).trans ((hR_12 i i0 (by omega)).trans (eA_ti (((hF558.2.1 236 (by decide)).trans (hF496.2.1 236 (by decide))))).symm)), (show BYX _ from fun i i0 i1 => by rw [TX.c (((hF558.2.1 175 (by decide)).trans (hF496.2.1 175 (by decide))))]; exact hR_13 i i0 (by have i2 : i < (gI _ 174 1).toInt := i1; show i < (gI g0 174 1).toInt; omega))⟩)
