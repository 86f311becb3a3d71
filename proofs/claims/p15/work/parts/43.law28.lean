set_option maxRecDepth 100000 in
set_option maxHeartbeats 8000000 in
theorem lq_c30 (d : Nat) {N : Nat} {g0 : List en_E} (hI0 : HI g0) (hR0 : LwR g0) {ys : List Int32} {L : Nat} (hL : ys.length = L) (hL2 : L ≤ 3584) {l : en_L} {i : Int32} (e0 : en_get 0 l = some (.float 0)) (e1 : en_get 1 l = some (.ref 0)) (e2 : en_get 2 l = some (.ref 231)) (e3 : en_get 3 l = some (.int i)) (hi : 0 ≤ i.toInt ∧ i.toInt + 7 ≤ L) {Ph : Option Value → en_H → Prop} (K : ∀ g1 : List en_E, HI g1 → LwR g1 → At (d + 423) (some ys) (some .boolean) bs_L_law (1330, l, [], (g1, N)) Ph) : At (d + 423) (some ys) (some .boolean) bs_L_law (1090, l, [], (g0, N)) Ph := by
  have hF0 : Fr F_law A_law g0 g0 := Fr.rf
  have hx_1 : -2147483648 ≤ i.toInt + 1 ∧ i.toInt + 1 ≤ 2147483647 := by omega
  have hx_2 : -2147483648 ≤ i.toInt + 2 ∧ i.toInt + 2 ≤ 2147483647 := by omega
  have hx_3 : -2147483648 ≤ i.toInt + 3 ∧ i.toInt + 3 ≤ 2147483647 := by omega
  have hx_4 : -2147483648 ≤ i.toInt + 4 ∧ i.toInt + 4 ≤ 2147483647 := by omega
  have hx_5 : -2147483648 ≤ i.toInt + 5 ∧ i.toInt + 5 ≤ 2147483647 := by omega
  have hx_6 : -2147483648 ≤ i.toInt + 6 ∧ i.toInt + 6 ≤ 2147483647 := by omega
  have hy_0 : 0 ≤ i.toInt ∧ i.toInt < (L : Int) := by omega
  have hy_1 : 0 ≤ i.toInt + 1 ∧ i.toInt + 1 < (L : Int) := by omega
  have hy_2 : 0 ≤ i.toInt + 2 ∧ i.toInt + 2 < (L : Int) := by omega
  have hy_3 : 0 ≤ i.toInt + 3 ∧ i.toInt + 3 < (L : Int) := by omega
  have hy_4 : 0 ≤ i.toInt + 4 ∧ i.toInt + 4 < (L : Int) := by omega
  have hy_5 : 0 ≤ i.toInt + 5 ∧ i.toInt + 5 < (L : Int) := by omega
  have hy_6 : 0 ≤ i.toInt + 6 ∧ i.toInt + 6 < (L : Int) := by omega
  unfold LwR at hR0
  obtain ⟨hR_0, hR_1, hR_2, hR_3, hR_4, hR_5, hR_6, hR_7, hR_8, hR_9, hR_10, hR_11, hR_12, hR_13⟩ := hR0
  refine At.enter rfl ?_
  refine r_aload_n e1 ?_
  refine r_sload_n e0 ?_
  refine r_iload_n e3 ?_
  refine r_iconst 1 rfl ?_
  refine q_iadd (i.toInt + 1) rfl hx_1 (fun v1 hv1 => ?_)
  refine q_scald (m := L) hL (i.toInt + 1) hv1 hy_1 (fun v2 hv2 => ?_)
  refine r_sload_n e0 ?_
  refine r_iload_n e3 ?_
  refine r_iconst 2 rfl ?_
  refine q_iadd (i.toInt + 2) rfl hx_2 (fun v3 hv3 => ?_)
  refine q_scald (m := L) hL (i.toInt + 2) hv3 hy_2 (fun v4 hv4 => ?_)
  rcases cs4 (0 ≤ v4.toInt ∧ v4.toInt ≤ 99) (0 ≤ v2.toInt ∧ v2.toInt < (gI g0 1 0).toInt) (8 ≤ (gI g0 1 12).toInt) with pk5 | pk5 | pk5 | pk5
  · refine r_callV 1104 rfl [.ref 0, .int v2, .int v4] [] (Nat.le_of_ble_eq_true rfl) rfl (T_X10_sign_0 _ hI0 v2 v4) ?_
    rintro _ _ ⟨g6, rfl, hI7, hF8, v9, rfl, hr10⟩
    refine At.sti ?_
    have hF11 := Fr.tr hF0 hF8 rfl rfl
    obtain ⟨q12, q13⟩ := hr10
    obtain ⟨i15, i16, i17, i18⟩ := q13
    have w14 := i15 pk5
    clear i15 i16 i17 i18
    have f19 := congrArg Int32.toInt (hF8.1 1 0 rfl)
    have f21 := congrArg Int32.toInt (hF8.1 1 10 rfl)
    have f22 := congrArg Int32.toInt (hF8.1 1 11 rfl)
    have f23 := congrArg Int32.toInt (hF8.1 1 6 rfl)
    have f24 := congrArg Int32.toInt (hF8.1 1 9 rfl)
    have f25 := congrArg Int32.toInt (hF8.1 59 0 rfl)
    have f26 := congrArg Int32.toInt (hF8.1 59 12 rfl)
    have f27 := congrArg Int32.toInt (hF8.1 59 10 rfl)
    have f28 := congrArg Int32.toInt (hF8.1 59 11 rfl)
    have f29 := congrArg Int32.toInt (hF8.1 59 6 rfl)
    have f30 := congrArg Int32.toInt (hF8.1 59 9 rfl)
    have f31 := congrArg Int32.toInt (hF8.1 116 0 rfl)
    have f32 := congrArg Int32.toInt (hF8.1 116 12 rfl)
    have f33 := congrArg Int32.toInt (hF8.1 116 10 rfl)
    have f34 := congrArg Int32.toInt (hF8.1 116 11 rfl)
    have f35 := congrArg Int32.toInt (hF8.1 116 6 rfl)
    have f36 := congrArg Int32.toInt (hF8.1 116 9 rfl)
    have f37 := congrArg Int32.toInt (eA_c (j := 0) (hF8.2.1 173 rfl))
    have f38 := congrArg Int32.toInt (eA_c (j := 1) (hF8.2.1 173 rfl))
    have f39 := congrArg Int32.toInt (hF8.1 174 1 rfl)
    have f40 := congrArg Int32.toInt (hF8.1 176 2 rfl)
    have f41 := congrArg Int32.toInt (eA_c (j := 0) (hF8.2.1 233 rfl))
    have f42 := congrArg Int32.toInt (eA_c (j := 4) (hF8.2.1 233 rfl))
    have f43 := congrArg Int32.toInt (eA_c (j := 5) (hF8.2.1 233 rfl))
    have f44 := congrArg Int32.toInt (eA_c (j := 6) (hF8.2.1 233 rfl))
    have f45 := congrArg Int32.toInt (eA_c (j := 2) (hF8.2.1 233 rfl))
    have f46 := congrArg Int32.toInt (eA_c (j := 3) (hF8.2.1 233 rfl))
    have f47 := congrArg Int32.toInt (eA_c (j := 0) (hF8.2.1 234 rfl))
    have f48 := congrArg Int32.toInt (eA_c (j := 4) (hF8.2.1 234 rfl))
    have f49 := congrArg Int32.toInt (eA_c (j := 5) (hF8.2.1 234 rfl))
    have f50 := congrArg Int32.toInt (eA_c (j := 6) (hF8.2.1 234 rfl))
    have f51 := congrArg Int32.toInt (eA_c (j := 2) (hF8.2.1 234 rfl))
    have f52 := congrArg Int32.toInt (eA_c (j := 3) (hF8.2.1 234 rfl))
    have f53 := congrArg Int32.toInt (eA_c (j := 5510) (hF8.2.1 234 rfl))
    have f54 := congrArg Int32.toInt (eA_c (j := 5514) (hF8.2.1 234 rfl))
    have f55 := congrArg Int32.toInt (eA_c (j := 5515) (hF8.2.1 234 rfl))
    have f56 := congrArg Int32.toInt (eA_c (j := 5516) (hF8.2.1 234 rfl))
    have f57 := congrArg Int32.toInt (eA_c (j := 5512) (hF8.2.1 234 rfl))
    have f58 := congrArg Int32.toInt (eA_c (j := 5513) (hF8.2.1 234 rfl))
    have f59 := congrArg Int32.toInt (eA_c (j := 0) (hF8.2.1 235 rfl))
    have f60 := congrArg Int32.toInt (eA_c (j := 1) (hF8.2.1 235 rfl))
    have f61 := congrArg Int32.toInt (hF8.1 231 8 rfl)
    have f62 := congrArg Int32.toInt (hF8.1 231 13 rfl)
    refine At.enter rfl ?_
    refine r_pop rfl ?_
    refine r_aload_n e2 ?_
    refine r_sload_n e0 ?_
    refine r_iload_n e3 ?_
    refine r_iconst 1 rfl ?_
    refine q_iadd (i.toInt + 1) rfl hx_1 (fun v63 hv63 => ?_)
    refine q_scald (m := L) hL (i.toInt + 1) hv63 hy_1 (fun v64 hv64 => ?_)
    have sv64 := hv2.symm.trans hv64
    subst sv64
    refine r_sload_n e0 ?_
    refine r_iload_n e3 ?_
    refine r_iconst 2 rfl ?_
    refine q_iadd (i.toInt + 2) rfl hx_2 (fun v65 hv65 => ?_)
    refine q_scald (m := L) hL (i.toInt + 2) hv65 hy_2 (fun v66 hv66 => ?_)
    have sv66 := hv4.symm.trans hv66
    subst sv66
    refine r_callV 1119 rfl [.ref 231, .int v2, .int v4] [] (Nat.le_of_ble_eq_true rfl) rfl (T_X11_sign_231 _ hI7 v2 v4) ?_
    rintro _ _ ⟨g67, rfl, hI68, hF69, v70, rfl, hr71⟩
    refine At.sti ?_
    have hF72 := Fr.tr hF11 hF69 rfl rfl
    obtain ⟨q73, q74⟩ := hr71
    have ek80 : (eA g6 233 0).toInt = (gI g0 1 0).toInt := (eA_ti (j := 0) (hF8.2.1 233 (by decide))).trans hR_0.symm
    have ek81 : (eA g6 233 4).toInt = (gI g0 1 12).toInt := (eA_ti (j := 4) (hF8.2.1 233 (by decide))).trans hR_1.symm
    obtain ⟨⟨i76, i77, i78, i79⟩, sm82, sm83, sm84, sm85, sm86⟩ := q74
    have w75 := i76 pk5
    clear i76 i77 i78 i79
    have f87 := congrArg Int32.toInt (hF69.1 1 0 rfl)
    have f88 := congrArg Int32.toInt (hF69.1 1 12 rfl)
    have f89 := congrArg Int32.toInt (hF69.1 1 10 rfl)
    have f90 := congrArg Int32.toInt (hF69.1 1 11 rfl)
    have f91 := congrArg Int32.toInt (hF69.1 1 6 rfl)
    have f92 := congrArg Int32.toInt (hF69.1 1 9 rfl)
    have f93 := congrArg Int32.toInt (hF69.1 59 0 rfl)
    have f94 := congrArg Int32.toInt (hF69.1 59 12 rfl)
    have f95 := congrArg Int32.toInt (hF69.1 59 10 rfl)
    have f96 := congrArg Int32.toInt (hF69.1 59 11 rfl)
    have f97 := congrArg Int32.toInt (hF69.1 59 6 rfl)
    have f98 := congrArg Int32.toInt (hF69.1 59 9 rfl)
    have f99 := congrArg Int32.toInt (hF69.1 116 0 rfl)
    have f100 := congrArg Int32.toInt (hF69.1 116 12 rfl)
    have f101 := congrArg Int32.toInt (hF69.1 116 10 rfl)
    have f102 := congrArg Int32.toInt (hF69.1 116 11 rfl)
    have f103 := congrArg Int32.toInt (hF69.1 116 6 rfl)
    have f104 := congrArg Int32.toInt (hF69.1 116 9 rfl)
    have f105 := congrArg Int32.toInt (eA_c (j := 0) (hF69.2.1 173 rfl))
    have f106 := congrArg Int32.toInt (eA_c (j := 1) (hF69.2.1 173 rfl))
    have f107 := congrArg Int32.toInt (hF69.1 174 1 rfl)
    have f108 := congrArg Int32.toInt (hF69.1 176 2 rfl)
    have f115 := congrArg Int32.toInt (eA_c (j := 0) (hF69.2.1 234 rfl))
    have f116 := congrArg Int32.toInt (eA_c (j := 4) (hF69.2.1 234 rfl))
    have f117 := congrArg Int32.toInt (eA_c (j := 5) (hF69.2.1 234 rfl))
    have f118 := congrArg Int32.toInt (eA_c (j := 6) (hF69.2.1 234 rfl))
    have f119 := congrArg Int32.toInt (eA_c (j := 2) (hF69.2.1 234 rfl))
    have f120 := congrArg Int32.toInt (eA_c (j := 3) (hF69.2.1 234 rfl))
    have f121 := congrArg Int32.toInt (eA_c (j := 5510) (hF69.2.1 234 rfl))
    have f122 := congrArg Int32.toInt (eA_c (j := 5514) (hF69.2.1 234 rfl))
    have f123 := congrArg Int32.toInt (eA_c (j := 5515) (hF69.2.1 234 rfl))
    have f124 := congrArg Int32.toInt (eA_c (j := 5516) (hF69.2.1 234 rfl))
    have f125 := congrArg Int32.toInt (eA_c (j := 5512) (hF69.2.1 234 rfl))
    have f126 := congrArg Int32.toInt (eA_c (j := 5513) (hF69.2.1 234 rfl))
    have f127 := congrArg Int32.toInt (eA_c (j := 0) (hF69.2.1 235 rfl))
    have f128 := congrArg Int32.toInt (eA_c (j := 1) (hF69.2.1 235 rfl))
    have f129 := congrArg Int32.toInt (hF69.1 231 8 rfl)
    have f130 := congrArg Int32.toInt (hF69.1 231 13 rfl)
    refine At.enter rfl ?_
    refine r_pop rfl ?_
    refine r_goto ?_
    exact K _ hI68 (show LwR _ from ⟨by first | (clear f21 f22 f23 f24 f25 f26 f27 f28 f29 f30 f31 f32 f33 f34 f35 f36 f37 f38 f39 f40 f42 f43 f44 f45 f46 f47 f48 f49 f50 f51 f52 f53 f54 f55 f56 f57 f58 f59 f60 f61 f62 f88 f89 f90 f91 f92 f93 f94 f95 f96 f97 f98 f99 f100 f101 f102 f103 f104 f105 f106 f107 f108 f115 f116 f117 f118 f119 f120 f121 f122 f123 f124 f125 f126 f127 f128 f129 f130; omega) | omega, by first | (clear f19 f21 f22 f23 f24 f25 f26 f27 f28 f29 f30 f31 f32 f33 f34 f35 f36 f37 f38 f39 f40 f41 f43 f44 f45 f46 f47 f48 f49 f50 f51 f52 f53 f54 f55 f56 f57 f58 f59 f60 f61 f62 f87 f89 f90 f91 f92 f93 f94 f95 f96 f97 f98 f99 f100 f101 f102 f103 f104 f105 f106 f107 f108 f115 f116 f117 f118 f119 f120 f121 f122 f123 f124 f125 f126 f127 f128 f129 f130; omega) | omega, by first | (clear f19 f22 f23 f24 f25 f26 f27 f28 f29 f30 f31 f32 f33 f34 f35 f36 f37 f38 f39 f40 f41 f42 f44 f45 f46 f47 f48 f49 f50 f51 f52 f53 f54 f55 f56 f57 f58 f59 f60 f61 f62 f87 f88 f90 f91 f92 f93 f94 f95 f96 f97 f98 f99 f100 f101 f102 f103 f104 f105 f106 f107 f108 f115 f116 f117 f118 f119 f120 f121 f122 f123 f124 f125 f126 f127 f128 f129 f130; omega) | omega, by first | (clear f19 f21 f23 f24 f25 f26 f27 f28 f29 f30 f31 f32 f33 f34 f35 f36 f37 f38 f39 f40 f41 f42 f43 f45 f46 f47 f48 f49 f50 f51 f52 f53 f54 f55 f56 f57 f58 f59 f60 f61 f62 f87 f88 f89 f91 f92 f93 f94 f95 f96 f97 f98 f99 f100 f101 f102 f103 f104 f105 f106 f107 f108 f115 f116 f117 f118 f119 f120 f121 f122 f123 f124 f125 f126 f127 f128 f129 f130; omega) | omega, by first | (clear f19 f21 f22 f24 f25 f26 f27 f28 f29 f30 f31 f32 f33 f34 f35 f36 f37 f38 f39 f40 f41 f42 f43 f44 f46 f47 f48 f49 f50 f51 f52 f53 f54 f55 f56 f57 f58 f59 f60 f61 f62 f87 f88 f89 f90 f92 f93 f94 f95 f96 f97 f98 f99 f100 f101 f102 f103 f104 f105 f106 f107 f108 f115 f116 f117 f118 f119 f120 f121 f122 f123 f124 f125 f126 f127 f128 f129 f130; omega) | omega, by first | (clear f19 f21 f22 f23 f25 f26 f27 f28 f29 f30 f31 f32 f33 f34 f35 f36 f37 f38 f39 f40 f41 f42 f43 f44 f45 f47 f48 f49 f50 f51 f52 f53 f54 f55 f56 f57 f58 f59 f60 f61 f62 f87 f88 f89 f90 f91 f93 f94 f95 f96 f97 f98 f99 f100 f101 f102 f103 f104 f105 f106 f107 f108 f115 f116 f117 f118 f119 f120 f121 f122 f123 f124 f125 f126 f127 f128 f129 f130; omega) | omega, (eA_ti (j := 0) (((hF69.2.1 173 (by decide)).trans (hF8.2.1 173 (by decide))))).trans (hR_6.trans (eA_ti (j := 0) (((hF69.2.1 235 (by decide)).trans (hF8.2.1 235 (by decide))))).symm), (eA_ti (j := 1) (((hF69.2.1 173 (by decide)).trans (hF8.2.1 173 (by decide))))).trans (hR_7.trans (eA_ti (j := 1) (((hF69.2.1 235 (by decide)).trans (hF8.2.1 235 (by decide))))).symm), (congrArg Int32.toInt (((hF69.1 174 1 (by decide)).trans (hF8.1 174 1 (by decide))))).trans (hR_8.trans (congrArg Int32.toInt (((hF69.1 231 8 (by decide)).trans (hF8.1 231 8 (by decide))))).symm), (congrArg Int32.toInt (((hF69.1 176 2 (by decide)).trans (hF8.1 176 2 (by decide))))).trans (hR_9.trans (congrArg Int32.toInt (((hF69.1 231 13 (by decide)).trans (hF8.1 231 13 (by decide))))).symm), IM0.cong hR_10 (eA_ti (j := 0) (((hF69.2.1 173 (by decide)).trans (hF8.2.1 173 (by decide))))) (congrArg Int32.toInt (((hF69.1 59 0 (by decide)).trans (hF8.1 59 0 (by decide))))) (eA_ti (j := 0) (((hF69.2.1 234 (by decide)).trans (hF8.2.1 234 (by decide))))) (congrArg Int32.toInt (((hF69.1 59 12 (by decide)).trans (hF8.1 59 12 (by decide))))) (eA_ti (j := 4) (((hF69.2.1 234 (by decide)).trans (hF8.2.1 234 (by decide))))) (congrArg Int32.toInt (((hF69.1 59 10 (by decide)).trans (hF8.1 59 10 (by decide))))) (eA_ti (j := 5) (((hF69.2.1 234 (by decide)).trans (hF8.2.1 234 (by decide))))) (congrArg Int32.toInt (((hF69.1 59 11 (by decide)).trans (hF8.1 59 11 (by decide))))) (eA_ti (j := 6) (((hF69.2.1 234 (by decide)).trans (hF8.2.1 234 (by decide))))) (congrArg Int32.toInt (((hF69.1 59 6 (by decide)).trans (hF8.1 59 6 (by decide))))) (eA_ti (j := 2) (((hF69.2.1 234 (by decide)).trans (hF8.2.1 234 (by decide))))) (congrArg Int32.toInt (((hF69.1 59 9 (by decide)).trans (hF8.1 59 9 (by decide))))) (eA_ti (j := 3) (((hF69.2.1 234 (by decide)).trans (hF8.2.1 234 (by decide))))), IM1.cong hR_11 (eA_ti (j := 1) (((hF69.2.1 173 (by decide)).trans (hF8.2.1 173 (by decide))))) (congrArg Int32.toInt (((hF69.1 116 0 (by decide)).trans (hF8.1 116 0 (by decide))))) (eA_ti (j := 5510) (((hF69.2.1 234 (by decide)).trans (hF8.2.1 234 (by decide))))) (congrArg Int32.toInt (((hF69.1 116 12 (by decide)).trans (hF8.1 116 12 (by decide))))) (eA_ti (j := 5514) (((hF69.2.1 234 (by decide)).trans (hF8.2.1 234 (by decide))))) (congrArg Int32.toInt (((hF69.1 116 10 (by decide)).trans (hF8.1 116 10 (by decide))))) (eA_ti (j := 5515) (((hF69.2.1 234 (by decide)).trans (hF8.2.1 234 (by decide))))) (congrArg Int32.toInt (((hF69.1 116 11 (by decide)).trans (hF8.1 116 11 (by decide))))) (eA_ti (j := 5516) (((hF69.2.1 234 (by decide)).trans (hF8.2.1 234 (by decide))))) (congrArg Int32.toInt (((hF69.1 116 6 (by decide)).trans (hF8.1 116 6 (by decide))))) (eA_ti (j := 5512) (((hF69.2.1 234 (by decide)).trans (hF8.2.1 234 (by decide))))) (congrArg Int32.toInt (((hF69.1 116 9 (by decide)).trans (hF8.1 116 9 (by decide))))) (eA_ti (j := 5513) (((hF69.2.1 234 (by decide)).trans (hF8.2.1 234 (by decide))))), (show RT _ from fun i i0 i1 => (eA_ti (((hF69.2.1 175 (by decide)).trans (hF8.2.1 175 (by decide))))).trans ((hR_12 i i0 (by omega)).trans (eA_ti (((hF69.2.1 236 (by decide)).trans (hF8.2.1 236 (by decide))))).symm)), (show BYX _ from fun i i0 i1 => by rw [TX.c (((hF69.2.1 175 (by decide)).trans (hF8.2.1 175 (by decide))))]; exact hR_13 i i0 (by have i2 : i < (gI _ 174 1).toInt := i1; show i < (gI g0 174 1).toInt; omega))⟩)
  · refine r_callV 1104 rfl [.ref 0, .int v2, .int v4] [] (Nat.le_of_ble_eq_true rfl) rfl (T_X10_sign_0 _ hI0 v2 v4) ?_
    rintro _ _ ⟨g131, rfl, hI132, hF133, v134, rfl, hr135⟩
    refine At.sti ?_
    have hF136 := Fr.tr hF0 hF133 rfl rfl
    obtain ⟨q137, q138⟩ := hr135
    obtain ⟨i140, i141, i142, i143⟩ := q138
    have w139 := i141 ⟨pk5.1, pk5.2⟩
    clear i140 i141 i142 i143
    have f144 := congrArg Int32.toInt (hF133.1 1 0 rfl)
    have f146 := congrArg Int32.toInt (hF133.1 1 10 rfl)
    have f147 := congrArg Int32.toInt (hF133.1 1 11 rfl)
    have f148 := congrArg Int32.toInt (hF133.1 1 6 rfl)
    have f149 := congrArg Int32.toInt (hF133.1 1 9 rfl)
    have f150 := congrArg Int32.toInt (hF133.1 59 0 rfl)
    have f151 := congrArg Int32.toInt (hF133.1 59 12 rfl)
    have f152 := congrArg Int32.toInt (hF133.1 59 10 rfl)
    have f153 := congrArg Int32.toInt (hF133.1 59 11 rfl)
    have f154 := congrArg Int32.toInt (hF133.1 59 6 rfl)
    have f155 := congrArg Int32.toInt (hF133.1 59 9 rfl)
    have f156 := congrArg Int32.toInt (hF133.1 116 0 rfl)
    have f157 := congrArg Int32.toInt (hF133.1 116 12 rfl)
    have f158 := congrArg Int32.toInt (hF133.1 116 10 rfl)
    have f159 := congrArg Int32.toInt (hF133.1 116 11 rfl)
    have f160 := congrArg Int32.toInt (hF133.1 116 6 rfl)
    have f161 := congrArg Int32.toInt (hF133.1 116 9 rfl)
    have f162 := congrArg Int32.toInt (eA_c (j := 0) (hF133.2.1 173 rfl))
    have f163 := congrArg Int32.toInt (eA_c (j := 1) (hF133.2.1 173 rfl))
    have f164 := congrArg Int32.toInt (hF133.1 174 1 rfl)
    have f165 := congrArg Int32.toInt (hF133.1 176 2 rfl)
    have f166 := congrArg Int32.toInt (eA_c (j := 0) (hF133.2.1 233 rfl))
    have f167 := congrArg Int32.toInt (eA_c (j := 4) (hF133.2.1 233 rfl))
    have f168 := congrArg Int32.toInt (eA_c (j := 5) (hF133.2.1 233 rfl))
    have f169 := congrArg Int32.toInt (eA_c (j := 6) (hF133.2.1 233 rfl))
    have f170 := congrArg Int32.toInt (eA_c (j := 2) (hF133.2.1 233 rfl))
    have f171 := congrArg Int32.toInt (eA_c (j := 3) (hF133.2.1 233 rfl))
    have f172 := congrArg Int32.toInt (eA_c (j := 0) (hF133.2.1 234 rfl))
    have f173 := congrArg Int32.toInt (eA_c (j := 4) (hF133.2.1 234 rfl))
    have f174 := congrArg Int32.toInt (eA_c (j := 5) (hF133.2.1 234 rfl))
    have f175 := congrArg Int32.toInt (eA_c (j := 6) (hF133.2.1 234 rfl))
    have f176 := congrArg Int32.toInt (eA_c (j := 2) (hF133.2.1 234 rfl))
    have f177 := congrArg Int32.toInt (eA_c (j := 3) (hF133.2.1 234 rfl))
    have f178 := congrArg Int32.toInt (eA_c (j := 5510) (hF133.2.1 234 rfl))
    have f179 := congrArg Int32.toInt (eA_c (j := 5514) (hF133.2.1 234 rfl))
    have f180 := congrArg Int32.toInt (eA_c (j := 5515) (hF133.2.1 234 rfl))
    have f181 := congrArg Int32.toInt (eA_c (j := 5516) (hF133.2.1 234 rfl))
    have f182 := congrArg Int32.toInt (eA_c (j := 5512) (hF133.2.1 234 rfl))
    have f183 := congrArg Int32.toInt (eA_c (j := 5513) (hF133.2.1 234 rfl))
    have f184 := congrArg Int32.toInt (eA_c (j := 0) (hF133.2.1 235 rfl))
    have f185 := congrArg Int32.toInt (eA_c (j := 1) (hF133.2.1 235 rfl))
    have f186 := congrArg Int32.toInt (hF133.1 231 8 rfl)
    have f187 := congrArg Int32.toInt (hF133.1 231 13 rfl)
    refine At.enter rfl ?_
    refine r_pop rfl ?_
    refine r_aload_n e2 ?_
    refine r_sload_n e0 ?_
    refine r_iload_n e3 ?_
    refine r_iconst 1 rfl ?_
    refine q_iadd (i.toInt + 1) rfl hx_1 (fun v188 hv188 => ?_)
    refine q_scald (m := L) hL (i.toInt + 1) hv188 hy_1 (fun v189 hv189 => ?_)
    have sv189 := hv2.symm.trans hv189
    subst sv189
    refine r_sload_n e0 ?_
    refine r_iload_n e3 ?_
    refine r_iconst 2 rfl ?_
    refine q_iadd (i.toInt + 2) rfl hx_2 (fun v190 hv190 => ?_)
    refine q_scald (m := L) hL (i.toInt + 2) hv190 hy_2 (fun v191 hv191 => ?_)
    have sv191 := hv4.symm.trans hv191
    subst sv191
    refine r_callV 1119 rfl [.ref 231, .int v2, .int v4] [] (Nat.le_of_ble_eq_true rfl) rfl (T_X11_sign_231 _ hI132 v2 v4) ?_
    rintro _ _ ⟨g192, rfl, hI193, hF194, v195, rfl, hr196⟩
    refine At.sti ?_
    have hF197 := Fr.tr hF136 hF194 rfl rfl
    obtain ⟨q198, q199⟩ := hr196
    have ek205 : (eA g131 233 0).toInt = (gI g0 1 0).toInt := (eA_ti (j := 0) (hF133.2.1 233 (by decide))).trans hR_0.symm
    have ek206 : (eA g131 233 4).toInt = (gI g0 1 12).toInt := (eA_ti (j := 4) (hF133.2.1 233 (by decide))).trans hR_1.symm
    obtain ⟨⟨i201, i202, i203, i204⟩, sm207, sm208, sm209, sm210, sm211⟩ := q199
    have w200 := i202 ⟨pk5.1, (by rw [ek205]; exact pk5.2)⟩
    clear i201 i202 i203 i204
    have f212 := congrArg Int32.toInt (hF194.1 1 0 rfl)
    have f213 := congrArg Int32.toInt (hF194.1 1 12 rfl)
    have f214 := congrArg Int32.toInt (hF194.1 1 10 rfl)
    have f215 := congrArg Int32.toInt (hF194.1 1 11 rfl)
    have f216 := congrArg Int32.toInt (hF194.1 1 6 rfl)
    have f217 := congrArg Int32.toInt (hF194.1 1 9 rfl)
    have f218 := congrArg Int32.toInt (hF194.1 59 0 rfl)
    have f219 := congrArg Int32.toInt (hF194.1 59 12 rfl)
    have f220 := congrArg Int32.toInt (hF194.1 59 10 rfl)
    have f221 := congrArg Int32.toInt (hF194.1 59 11 rfl)
    have f222 := congrArg Int32.toInt (hF194.1 59 6 rfl)
    have f223 := congrArg Int32.toInt (hF194.1 59 9 rfl)
    have f224 := congrArg Int32.toInt (hF194.1 116 0 rfl)
    have f225 := congrArg Int32.toInt (hF194.1 116 12 rfl)
    have f226 := congrArg Int32.toInt (hF194.1 116 10 rfl)
    have f227 := congrArg Int32.toInt (hF194.1 116 11 rfl)
    have f228 := congrArg Int32.toInt (hF194.1 116 6 rfl)
    have f229 := congrArg Int32.toInt (hF194.1 116 9 rfl)
    have f230 := congrArg Int32.toInt (eA_c (j := 0) (hF194.2.1 173 rfl))
    have f231 := congrArg Int32.toInt (eA_c (j := 1) (hF194.2.1 173 rfl))
    have f232 := congrArg Int32.toInt (hF194.1 174 1 rfl)
    have f233 := congrArg Int32.toInt (hF194.1 176 2 rfl)
    have f240 := congrArg Int32.toInt (eA_c (j := 0) (hF194.2.1 234 rfl))
    have f241 := congrArg Int32.toInt (eA_c (j := 4) (hF194.2.1 234 rfl))
    have f242 := congrArg Int32.toInt (eA_c (j := 5) (hF194.2.1 234 rfl))
    have f243 := congrArg Int32.toInt (eA_c (j := 6) (hF194.2.1 234 rfl))
    have f244 := congrArg Int32.toInt (eA_c (j := 2) (hF194.2.1 234 rfl))
    have f245 := congrArg Int32.toInt (eA_c (j := 3) (hF194.2.1 234 rfl))
    have f246 := congrArg Int32.toInt (eA_c (j := 5510) (hF194.2.1 234 rfl))
    have f247 := congrArg Int32.toInt (eA_c (j := 5514) (hF194.2.1 234 rfl))
    have f248 := congrArg Int32.toInt (eA_c (j := 5515) (hF194.2.1 234 rfl))
    have f249 := congrArg Int32.toInt (eA_c (j := 5516) (hF194.2.1 234 rfl))
    have f250 := congrArg Int32.toInt (eA_c (j := 5512) (hF194.2.1 234 rfl))
    have f251 := congrArg Int32.toInt (eA_c (j := 5513) (hF194.2.1 234 rfl))
    have f252 := congrArg Int32.toInt (eA_c (j := 0) (hF194.2.1 235 rfl))
    have f253 := congrArg Int32.toInt (eA_c (j := 1) (hF194.2.1 235 rfl))
    have f254 := congrArg Int32.toInt (hF194.1 231 8 rfl)
    have f255 := congrArg Int32.toInt (hF194.1 231 13 rfl)
    refine At.enter rfl ?_
    refine r_pop rfl ?_
    refine r_goto ?_
    exact K _ hI193 (show LwR _ from ⟨by first | (clear f146 f147 f148 f149 f150 f151 f152 f153 f154 f155 f156 f157 f158 f159 f160 f161 f162 f163 f164 f165 f167 f168 f169 f170 f171 f172 f173 f174 f175 f176 f177 f178 f179 f180 f181 f182 f183 f184 f185 f186 f187 f213 f214 f215 f216 f217 f218 f219 f220 f221 f222 f223 f224 f225 f226 f227 f228 f229 f230 f231 f232 f233 f240 f241 f242 f243 f244 f245 f246 f247 f248 f249 f250 f251 f252 f253 f254 f255; omega) | omega, by first | (clear f144 f146 f147 f148 f149 f150 f151 f152 f153 f154 f155 f156 f157 f158 f159 f160 f161 f162 f163 f164 f165 f166 f168 f169 f170 f171 f172 f173 f174 f175 f176 f177 f178 f179 f180 f181 f182 f183 f184 f185 f186 f187 f212 f214 f215 f216 f217 f218 f219 f220 f221 f222 f223 f224 f225 f226 f227 f228 f229 f230 f231 f232 f233 f240 f241 f242 f243 f244 f245 f246 f247 f248 f249 f250 f251 f252 f253 f254 f255; omega) | omega, by first | (clear f144 f147 f148 f149 f150 f151 f152 f153 f154 f155 f156 f157 f158 f159 f160 f161 f162 f163 f164 f165 f166 f167 f169 f170 f171 f172 f173 f174 f175 f176 f177 f178 f179 f180 f181 f182 f183 f184 f185 f186 f187 f212 f213 f215 f216 f217 f218 f219 f220 f221 f222 f223 f224 f225 f226 f227 f228 f229 f230 f231 f232 f233 f240 f241 f242 f243 f244 f245 f246 f247 f248 f249 f250 f251 f252 f253 f254 f255; omega) | omega, by first | (clear f144 f146 f148 f149 f150 f151 f152 f153 f154 f155 f156 f157 f158 f159 f160 f161 f162 f163 f164 f165 f166 f167 f168 f170 f171 f172 f173 f174 f175 f176 f177 f178 f179 f180 f181 f182 f183 f184 f185 f186 f187 f212 f213 f214 f216 f217 f218 f219 f220 f221 f222 f223 f224 f225 f226 f227 f228 f229 f230 f231 f232 f233 f240 f241 f242 f243 f244 f245 f246 f247 f248 f249 f250 f251 f252 f253 f254 f255; omega) | omega, by first | (clear f144 f146 f147 f149 f150 f151 f152 f153 f154 f155 f156 f157 f158 f159 f160 f161 f162 f163 f164 f165 f166 f167 f168 f169 f171 f172 f173 f174 f175 f176 f177 f178 f179 f180 f181 f182 f183 f184 f185 f186 f187 f212 f213 f214 f215 f217 f218 f219 f220 f221 f222 f223 f224 f225 f226 f227 f228 f229 f230 f231 f232 f233 f240 f241 f242 f243 f244 f245 f246 f247 f248 f249 f250 f251 f252 f253 f254 f255; omega) | omega, by first | (clear f144 f146 f147 f148 f150 f151 f152 f153 f154 f155 f156 f157 f158 f159 f160 f161 f162 f163 f164 f165 f166 f167 f168 f169 f170 f172 f173 f174 f175 f176 f177 f178 f179 f180 f181 f182 f183 f184 f185 f186 f187 f212 f213 f214 f215 f216 f218 f219 f220 f221 f222 f223 f224 f225 f226 f227 f228 f229 f230 f231 f232 f233 f240 f241 f242 f243 f244 f245 f246 f247 f248 f249 f250 f251 f252 f253 f254 f255; omega) | omega, (eA_ti (j := 0) (((hF194.2.1 173 (by decide)).trans (hF133.2.1 173 (by decide))))).trans (hR_6.trans (eA_ti (j := 0) (((hF194.2.1 235 (by decide)).trans (hF133.2.1 235 (by decide))))).symm), (eA_ti (j := 1) (((hF194.2.1 173 (by decide)).trans (hF133.2.1 173 (by decide))))).trans (hR_7.trans (eA_ti (j := 1) (((hF194.2.1 235 (by decide)).trans (hF133.2.1 235 (by decide))))).symm), (congrArg Int32.toInt (((hF194.1 174 1 (by decide)).trans (hF133.1 174 1 (by decide))))).trans (hR_8.trans (congrArg Int32.toInt (((hF194.1 231 8 (by decide)).trans (hF133.1 231 8 (by decide))))).symm), (congrArg Int32.toInt (((hF194.1 176 2 (by decide)).trans (hF133.1 176 2 (by decide))))).trans (hR_9.trans (congrArg Int32.toInt (((hF194.1 231 13 (by decide)).trans (hF133.1 231 13 (by decide))))).symm), IM0.cong hR_10 (eA_ti (j := 0) (((hF194.2.1 173 (by decide)).trans (hF133.2.1 173 (by decide))))) (congrArg Int32.toInt (((hF194.1 59 0 (by decide)).trans (hF133.1 59 0 (by decide))))) (eA_ti (j := 0) (((hF194.2.1 234 (by decide)).trans (hF133.2.1 234 (by decide))))) (congrArg Int32.toInt (((hF194.1 59 12 (by decide)).trans (hF133.1 59 12 (by decide))))) (eA_ti (j := 4) (((hF194.2.1 234 (by decide)).trans (hF133.2.1 234 (by decide))))) (congrArg Int32.toInt (((hF194.1 59 10 (by decide)).trans (hF133.1 59 10 (by decide))))) (eA_ti (j := 5) (((hF194.2.1 234 (by decide)).trans (hF133.2.1 234 (by decide))))) (congrArg Int32.toInt (((hF194.1 59 11 (by decide)).trans (hF133.1 59 11 (by decide))))) (eA_ti (j := 6) (((hF194.2.1 234 (by decide)).trans (hF133.2.1 234 (by decide))))) (congrArg Int32.toInt (((hF194.1 59 6 (by decide)).trans (hF133.1 59 6 (by decide))))) (eA_ti (j := 2) (((hF194.2.1 234 (by decide)).trans (hF133.2.1 234 (by decide))))) (congrArg Int32.toInt (((hF194.1 59 9 (by decide)).trans (hF133.1 59 9 (by decide))))) (eA_ti (j := 3) (((hF194.2.1 234 (by decide)).trans (hF133.2.1 234 (by decide))))), IM1.cong hR_11 (eA_ti (j := 1) (((hF194.2.1 173 (by decide)).trans (hF133.2.1 173 (by decide))))) (congrArg Int32.toInt (((hF194.1 116 0 (by decide)).trans (hF133.1 116 0 (by decide))))) (eA_ti (j := 5510) (((hF194.2.1 234 (by decide)).trans (hF133.2.1 234 (by decide))))) (congrArg Int32.toInt (((hF194.1 116 12 (by decide)).trans (hF133.1 116 12 (by decide))))) (eA_ti (j := 5514) (((hF194.2.1 234 (by decide)).trans (hF133.2.1 234 (by decide))))) (congrArg Int32.toInt (((hF194.1 116 10 (by decide)).trans (hF133.1 116 10 (by decide))))) (eA_ti (j := 5515) (((hF194.2.1 234 (by decide)).trans (hF133.2.1 234 (by decide))))) (congrArg Int32.toInt (((hF194.1 116 11 (by decide)).trans (hF133.1 116 11 (by decide))))) (eA_ti (j := 5516) (((hF194.2.1 234 (by decide)).trans (hF133.2.1 234 (by decide))))) (congrArg Int32.toInt (((hF194.1 116 6 (by decide)).trans (hF133.1 116 6 (by decide))))) (eA_ti (j := 5512) (((hF194.2.1 234 (by decide)).trans (hF133.2.1 234 (by decide))))) (congrArg Int32.toInt (((hF194.1 116 9 (by decide)).trans (hF133.1 116 9 (by decide))))) (eA_ti (j := 5513) (((hF194.2.1 234 (by decide)).trans (hF133.2.1 234 (by decide))))), (show RT _ from fun i i0 i1 => (eA_ti (((hF194.2.1 175 (by decide)).trans (hF133.2.1 175 (by decide))))).trans ((hR_12 i i0 (by omega)).trans (eA_ti (((hF194.2.1 236 (by decide)).trans (hF133.2.1 236 (by decide))))).symm)), (show BYX _ from fun i i0 i1 => by rw [TX.c (((hF194.2.1 175 (by decide)).trans (hF133.2.1 175 (by decide))))]; exact hR_13 i i0 (by have i2 : i < (gI _ 174 1).toInt := i1; show i < (gI g0 174 1).toInt; omega))⟩)
  · refine r_callV 1104 rfl [.ref 0, .int v2, .int v4] [] (Nat.le_of_ble_eq_true rfl) rfl (T_X10_sign_0 _ hI0 v2 v4) ?_
    rintro _ _ ⟨g256, rfl, hI257, hF258, v259, rfl, hr260⟩
    refine At.sti ?_
    have hF261 := Fr.tr hF0 hF258 rfl rfl
    obtain ⟨q262, q263⟩ := hr260
    obtain ⟨i265, i266, i267, i268⟩ := q263
    have w264 := i267 ⟨pk5.1, pk5.2.1, pk5.2.2⟩
    clear i265 i266 i267 i268
    have f269 := congrArg Int32.toInt (hF258.1 1 0 rfl)
    have f271 := congrArg Int32.toInt (hF258.1 1 10 rfl)
    have f272 := congrArg Int32.toInt (hF258.1 1 11 rfl)
    have f273 := congrArg Int32.toInt (hF258.1 1 6 rfl)
    have f274 := congrArg Int32.toInt (hF258.1 1 9 rfl)
    have f275 := congrArg Int32.toInt (hF258.1 59 0 rfl)
    have f276 := congrArg Int32.toInt (hF258.1 59 12 rfl)
    have f277 := congrArg Int32.toInt (hF258.1 59 10 rfl)
    have f278 := congrArg Int32.toInt (hF258.1 59 11 rfl)
    have f279 := congrArg Int32.toInt (hF258.1 59 6 rfl)
    have f280 := congrArg Int32.toInt (hF258.1 59 9 rfl)
    have f281 := congrArg Int32.toInt (hF258.1 116 0 rfl)
    have f282 := congrArg Int32.toInt (hF258.1 116 12 rfl)
    have f283 := congrArg Int32.toInt (hF258.1 116 10 rfl)
    have f284 := congrArg Int32.toInt (hF258.1 116 11 rfl)
    have f285 := congrArg Int32.toInt (hF258.1 116 6 rfl)
    have f286 := congrArg Int32.toInt (hF258.1 116 9 rfl)
    have f287 := congrArg Int32.toInt (eA_c (j := 0) (hF258.2.1 173 rfl))
    have f288 := congrArg Int32.toInt (eA_c (j := 1) (hF258.2.1 173 rfl))
    have f289 := congrArg Int32.toInt (hF258.1 174 1 rfl)
    have f290 := congrArg Int32.toInt (hF258.1 176 2 rfl)
    have f291 := congrArg Int32.toInt (eA_c (j := 0) (hF258.2.1 233 rfl))
    have f292 := congrArg Int32.toInt (eA_c (j := 4) (hF258.2.1 233 rfl))
    have f293 := congrArg Int32.toInt (eA_c (j := 5) (hF258.2.1 233 rfl))
    have f294 := congrArg Int32.toInt (eA_c (j := 6) (hF258.2.1 233 rfl))
    have f295 := congrArg Int32.toInt (eA_c (j := 2) (hF258.2.1 233 rfl))
    have f296 := congrArg Int32.toInt (eA_c (j := 3) (hF258.2.1 233 rfl))
    have f297 := congrArg Int32.toInt (eA_c (j := 0) (hF258.2.1 234 rfl))
    have f298 := congrArg Int32.toInt (eA_c (j := 4) (hF258.2.1 234 rfl))
    have f299 := congrArg Int32.toInt (eA_c (j := 5) (hF258.2.1 234 rfl))
    have f300 := congrArg Int32.toInt (eA_c (j := 6) (hF258.2.1 234 rfl))
    have f301 := congrArg Int32.toInt (eA_c (j := 2) (hF258.2.1 234 rfl))
    have f302 := congrArg Int32.toInt (eA_c (j := 3) (hF258.2.1 234 rfl))
    have f303 := congrArg Int32.toInt (eA_c (j := 5510) (hF258.2.1 234 rfl))
    have f304 := congrArg Int32.toInt (eA_c (j := 5514) (hF258.2.1 234 rfl))
    have f305 := congrArg Int32.toInt (eA_c (j := 5515) (hF258.2.1 234 rfl))
    have f306 := congrArg Int32.toInt (eA_c (j := 5516) (hF258.2.1 234 rfl))
    have f307 := congrArg Int32.toInt (eA_c (j := 5512) (hF258.2.1 234 rfl))
    have f308 := congrArg Int32.toInt (eA_c (j := 5513) (hF258.2.1 234 rfl))
    have f309 := congrArg Int32.toInt (eA_c (j := 0) (hF258.2.1 235 rfl))
    have f310 := congrArg Int32.toInt (eA_c (j := 1) (hF258.2.1 235 rfl))
    have f311 := congrArg Int32.toInt (hF258.1 231 8 rfl)
    have f312 := congrArg Int32.toInt (hF258.1 231 13 rfl)
    refine At.enter rfl ?_
    refine r_pop rfl ?_
    refine r_aload_n e2 ?_
    refine r_sload_n e0 ?_
    refine r_iload_n e3 ?_
    refine r_iconst 1 rfl ?_
    refine q_iadd (i.toInt + 1) rfl hx_1 (fun v313 hv313 => ?_)
    refine q_scald (m := L) hL (i.toInt + 1) hv313 hy_1 (fun v314 hv314 => ?_)
    have sv314 := hv2.symm.trans hv314
    subst sv314
    refine r_sload_n e0 ?_
    refine r_iload_n e3 ?_
    refine r_iconst 2 rfl ?_
    refine q_iadd (i.toInt + 2) rfl hx_2 (fun v315 hv315 => ?_)
    refine q_scald (m := L) hL (i.toInt + 2) hv315 hy_2 (fun v316 hv316 => ?_)
    have sv316 := hv4.symm.trans hv316
    subst sv316
    refine r_callV 1119 rfl [.ref 231, .int v2, .int v4] [] (Nat.le_of_ble_eq_true rfl) rfl (T_X11_sign_231 _ hI257 v2 v4) ?_
    rintro _ _ ⟨g317, rfl, hI318, hF319, v320, rfl, hr321⟩
    refine At.sti ?_
    have hF322 := Fr.tr hF261 hF319 rfl rfl
    obtain ⟨q323, q324⟩ := hr321
    have ek330 : (eA g256 233 0).toInt = (gI g0 1 0).toInt := (eA_ti (j := 0) (hF258.2.1 233 (by decide))).trans hR_0.symm
    have ek331 : (eA g256 233 4).toInt = (gI g0 1 12).toInt := (eA_ti (j := 4) (hF258.2.1 233 (by decide))).trans hR_1.symm
    obtain ⟨⟨i326, i327, i328, i329⟩, sm332, sm333, sm334, sm335, sm336⟩ := q324
    have w325 := i328 ⟨pk5.1, (by rw [ek330]; exact pk5.2.1), (by rw [ek331]; exact pk5.2.2)⟩
    clear i326 i327 i328 i329
    have f337 := congrArg Int32.toInt (hF319.1 1 0 rfl)
    have f338 := congrArg Int32.toInt (hF319.1 1 12 rfl)
    have f339 := congrArg Int32.toInt (hF319.1 1 10 rfl)
    have f340 := congrArg Int32.toInt (hF319.1 1 11 rfl)
    have f341 := congrArg Int32.toInt (hF319.1 1 6 rfl)
    have f342 := congrArg Int32.toInt (hF319.1 1 9 rfl)
    have f343 := congrArg Int32.toInt (hF319.1 59 0 rfl)
    have f344 := congrArg Int32.toInt (hF319.1 59 12 rfl)
    have f345 := congrArg Int32.toInt (hF319.1 59 10 rfl)
    have f346 := congrArg Int32.toInt (hF319.1 59 11 rfl)
    have f347 := congrArg Int32.toInt (hF319.1 59 6 rfl)
    have f348 := congrArg Int32.toInt (hF319.1 59 9 rfl)
    have f349 := congrArg Int32.toInt (hF319.1 116 0 rfl)
    have f350 := congrArg Int32.toInt (hF319.1 116 12 rfl)
    have f351 := congrArg Int32.toInt (hF319.1 116 10 rfl)
    have f352 := congrArg Int32.toInt (hF319.1 116 11 rfl)
    have f353 := congrArg Int32.toInt (hF319.1 116 6 rfl)
    have f354 := congrArg Int32.toInt (hF319.1 116 9 rfl)
    have f355 := congrArg Int32.toInt (eA_c (j := 0) (hF319.2.1 173 rfl))
    have f356 := congrArg Int32.toInt (eA_c (j := 1) (hF319.2.1 173 rfl))
    have f357 := congrArg Int32.toInt (hF319.1 174 1 rfl)
    have f358 := congrArg Int32.toInt (hF319.1 176 2 rfl)
    have f365 := congrArg Int32.toInt (eA_c (j := 0) (hF319.2.1 234 rfl))
    have f366 := congrArg Int32.toInt (eA_c (j := 4) (hF319.2.1 234 rfl))
    have f367 := congrArg Int32.toInt (eA_c (j := 5) (hF319.2.1 234 rfl))
    have f368 := congrArg Int32.toInt (eA_c (j := 6) (hF319.2.1 234 rfl))
    have f369 := congrArg Int32.toInt (eA_c (j := 2) (hF319.2.1 234 rfl))
    have f370 := congrArg Int32.toInt (eA_c (j := 3) (hF319.2.1 234 rfl))
    have f371 := congrArg Int32.toInt (eA_c (j := 5510) (hF319.2.1 234 rfl))
    have f372 := congrArg Int32.toInt (eA_c (j := 5514) (hF319.2.1 234 rfl))
    have f373 := congrArg Int32.toInt (eA_c (j := 5515) (hF319.2.1 234 rfl))
    have f374 := congrArg Int32.toInt (eA_c (j := 5516) (hF319.2.1 234 rfl))
    have f375 := congrArg Int32.toInt (eA_c (j := 5512) (hF319.2.1 234 rfl))
    have f376 := congrArg Int32.toInt (eA_c (j := 5513) (hF319.2.1 234 rfl))
    have f377 := congrArg Int32.toInt (eA_c (j := 0) (hF319.2.1 235 rfl))
    have f378 := congrArg Int32.toInt (eA_c (j := 1) (hF319.2.1 235 rfl))
    have f379 := congrArg Int32.toInt (hF319.1 231 8 rfl)
    have f380 := congrArg Int32.toInt (hF319.1 231 13 rfl)
    refine At.enter rfl ?_
    refine r_pop rfl ?_
    refine r_goto ?_
    exact K _ hI318 (show LwR _ from ⟨by first | (clear f271 f272 f273 f274 f275 f276 f277 f278 f279 f280 f281 f282 f283 f284 f285 f286 f287 f288 f289 f290 f292 f293 f294 f295 f296 f297 f298 f299 f300 f301 f302 f303 f304 f305 f306 f307 f308 f309 f310 f311 f312 f338 f339 f340 f341 f342 f343 f344 f345 f346 f347 f348 f349 f350 f351 f352 f353 f354 f355 f356 f357 f358 f365 f366 f367 f368 f369 f370 f371 f372 f373 f374 f375 f376 f377 f378 f379 f380; omega) | omega, by first | (clear f269 f271 f272 f273 f274 f275 f276 f277 f278 f279 f280 f281 f282 f283 f284 f285 f286 f287 f288 f289 f290 f291 f293 f294 f295 f296 f297 f298 f299 f300 f301 f302 f303 f304 f305 f306 f307 f308 f309 f310 f311 f312 f337 f339 f340 f341 f342 f343 f344 f345 f346 f347 f348 f349 f350 f351 f352 f353 f354 f355 f356 f357 f358 f365 f366 f367 f368 f369 f370 f371 f372 f373 f374 f375 f376 f377 f378 f379 f380; omega) | omega, by first | (clear f269 f272 f273 f274 f275 f276 f277 f278 f279 f280 f281 f282 f283 f284 f285 f286 f287 f288 f289 f290 f291 f292 f294 f295 f296 f297 f298 f299 f300 f301 f302 f303 f304 f305 f306 f307 f308 f309 f310 f311 f312 f337 f338 f340 f341 f342 f343 f344 f345 f346 f347 f348 f349 f350 f351 f352 f353 f354 f355 f356 f357 f358 f365 f366 f367 f368 f369 f370 f371 f372 f373 f374 f375 f376 f377 f378 f379 f380; omega) | omega, by first | (clear f269 f271 f273 f274 f275 f276 f277 f278 f279 f280 f281 f282 f283 f284 f285 f286 f287 f288 f289 f290 f291 f292 f293 f295 f296 f297 f298 f299 f300 f301 f302 f303 f304 f305 f306 f307 f308 f309 f310 f311 f312 f337 f338 f339 f341 f342 f343 f344 f345 f346 f347 f348 f349 f350 f351 f352 f353 f354 f355 f356 f357 f358 f365 f366 f367 f368 f369 f370 f371 f372 f373 f374 f375 f376 f377 f378 f379 f380; omega) | omega, by first | (clear f269 f271 f272 f274 f275 f276 f277 f278 f279 f280 f281 f282 f283 f284 f285 f286 f287 f288 f289 f290 f291 f292 f293 f294 f296 f297 f298 f299 f300 f301 f302 f303 f304 f305 f306 f307 f308 f309 f310 f311 f312 f337 f338 f339 f340 f342 f343 f344 f345 f346 f347 f348 f349 f350 f351 f352 f353 f354 f355 f356 f357 f358 f365 f366 f367 f368 f369 f370 f371 f372 f373 f374 f375 f376 f377 f378 f379 f380; omega) | omega, by first | (clear f269 f271 f272 f273 f275 f276 f277 f278 f279 f280 f281 f282 f283 f284 f285 f286 f287 f288 f289 f290 f291 f292 f293 f294 f295 f297 f298 f299 f300 f301 f302 f303 f304 f305 f306 f307 f308 f309 f310 f311 f312 f337 f338 f339 f340 f341 f343 f344 f345 f346 f347 f348 f349 f350 f351 f352 f353 f354 f355 f356 f357 f358 f365 f366 f367 f368 f369 f370 f371 f372 f373 f374 f375 f376 f377 f378 f379 f380; omega) | omega, (eA_ti (j := 0) (((hF319.2.1 173 (by decide)).trans (hF258.2.1 173 (by decide))))).trans (hR_6.trans (eA_ti (j := 0) (((hF319.2.1 235 (by decide)).trans (hF258.2.1 235 (by decide))))).symm), (eA_ti (j := 1) (((hF319.2.1 173 (by decide)).trans (hF258.2.1 173 (by decide))))).trans (hR_7.trans (eA_ti (j := 1) (((hF319.2.1 235 (by decide)).trans (hF258.2.1 235 (by decide))))).symm), (congrArg Int32.toInt (((hF319.1 174 1 (by decide)).trans (hF258.1 174 1 (by decide))))).trans (hR_8.trans (congrArg Int32.toInt (((hF319.1 231 8 (by decide)).trans (hF258.1 231 8 (by decide))))).symm), (congrArg Int32.toInt (((hF319.1 176 2 (by decide)).trans (hF258.1 176 2 (by decide))))).trans (hR_9.trans (congrArg Int32.toInt (((hF319.1 231 13 (by decide)).trans (hF258.1 231 13 (by decide))))).symm), IM0.cong hR_10 (eA_ti (j := 0) (((hF319.2.1 173 (by decide)).trans (hF258.2.1 173 (by decide))))) (congrArg Int32.toInt (((hF319.1 59 0 (by decide)).trans (hF258.1 59 0 (by decide))))) (eA_ti (j := 0) (((hF319.2.1 234 (by decide)).trans (hF258.2.1 234 (by decide))))) (congrArg Int32.toInt (((hF319.1 59 12 (by decide)).trans (hF258.1 59 12 (by decide))))) (eA_ti (j := 4) (((hF319.2.1 234 (by decide)).trans (hF258.2.1 234 (by decide))))) (congrArg Int32.toInt (((hF319.1 59 10 (by decide)).trans (hF258.1 59 10 (by decide))))) (eA_ti (j := 5) (((hF319.2.1 234 (by decide)).trans (hF258.2.1 234 (by decide))))) (congrArg Int32.toInt (((hF319.1 59 11 (by decide)).trans (hF258.1 59 11 (by decide))))) (eA_ti (j := 6) (((hF319.2.1 234 (by decide)).trans (hF258.2.1 234 (by decide))))) (congrArg Int32.toInt (((hF319.1 59 6 (by decide)).trans (hF258.1 59 6 (by decide))))) (eA_ti (j := 2) (((hF319.2.1 234 (by decide)).trans (hF258.2.1 234 (by decide))))) (congrArg Int32.toInt (((hF319.1 59 9 (by decide)).trans (hF258.1 59 9 (by decide))))) (eA_ti (j := 3) (((hF319.2.1 234 (by decide)).trans (hF258.2.1 234 (by decide))))), IM1.cong hR_11 (eA_ti (j := 1) (((hF319.2.1 173 (by decide)).trans (hF258.2.1 173 (by decide))))) (congrArg Int32.toInt (((hF319.1 116 0 (by decide)).trans (hF258.1 116 0 (by decide))))) (eA_ti (j := 5510) (((hF319.2.1 234 (by decide)).trans (hF258.2.1 234 (by decide))))) (congrArg Int32.toInt (((hF319.1 116 12 (by decide)).trans (hF258.1 116 12 (by decide))))) (eA_ti (j := 5514) (((hF319.2.1 234 (by decide)).trans (hF258.2.1 234 (by decide))))) (congrArg Int32.toInt (((hF319.1 116 10 (by decide)).trans (hF258.1 116 10 (by decide))))) (eA_ti (j := 5515) (((hF319.2.1 234 (by decide)).trans (hF258.2.1 234 (by decide))))) (congrArg Int32.toInt (((hF319.1 116 11 (by decide)).trans (hF258.1 116 11 (by decide))))) (eA_ti (j := 5516) (((hF319.2.1 234 (by decide)).trans (hF258.2.1 234 (by decide))))) (congrArg Int32.toInt (((hF319.1 116 6 (by decide)).trans (hF258.1 116 6 (by decide))))) (eA_ti (j := 5512) (((hF319.2.1 234 (by decide)).trans (hF258.2.1 234 (by decide))))) (congrArg Int32.toInt (((hF319.1 116 9 (by decide)).trans (hF258.1 116 9 (by decide))))) (eA_ti (j := 5513) (((hF319.2.1 234 (by decide)).trans (hF258.2.1 234 (by decide))))), (show RT _ from fun i i0 i1 => (eA_ti (((hF319.2.1 175 (by decide)).trans (hF258.2.1 175 (by decide))))).trans ((hR_12 i i0 (by omega)).trans (eA_ti (((hF319.2.1 236 (by decide)).trans (hF258.2.1 236 (by decide))))).symm)), (show BYX _ from fun i i0 i1 => by rw [TX.c (((hF319.2.1 175 (by decide)).trans (hF258.2.1 175 (by decide))))]; exact hR_13 i i0 (by have i2 : i < (gI _ 174 1).toInt := i1; show i < (gI g0 174 1).toInt; omega))⟩)
  · refine r_callV 1104 rfl [.ref 0, .int v2, .int v4] [] (Nat.le_of_ble_eq_true rfl) rfl (T_X10_sign_0 _ hI0 v2 v4) ?_
    rintro _ _ ⟨g381, rfl, hI382, hF383, v384, rfl, hr385⟩
    refine At.sti ?_
    have hF386 := Fr.tr hF0 hF383 rfl rfl
    obtain ⟨q387, q388⟩ := hr385
    obtain ⟨i390, i391, i392, i393⟩ := q388
    have w389 := i393 ⟨pk5.1, pk5.2.1, Int.not_le.mp pk5.2.2⟩
    clear i390 i391 i392 i393
    have f394 := congrArg Int32.toInt (hF383.1 1 0 rfl)
    have f396 := congrArg Int32.toInt (hF383.1 1 10 rfl)
    have f397 := congrArg Int32.toInt (hF383.1 1 11 rfl)
    have f398 := congrArg Int32.toInt (hF383.1 1 6 rfl)
    have f399 := congrArg Int32.toInt (hF383.1 1 9 rfl)
    have f400 := congrArg Int32.toInt (hF383.1 59 0 rfl)
    have f401 := congrArg Int32.toInt (hF383.1 59 12 rfl)
    have f402 := congrArg Int32.toInt (hF383.1 59 10 rfl)
    have f403 := congrArg Int32.toInt (hF383.1 59 11 rfl)
    have f404 := congrArg Int32.toInt (hF383.1 59 6 rfl)
    have f405 := congrArg Int32.toInt (hF383.1 59 9 rfl)
    have f406 := congrArg Int32.toInt (hF383.1 116 0 rfl)
    have f407 := congrArg Int32.toInt (hF383.1 116 12 rfl)
    have f408 := congrArg Int32.toInt (hF383.1 116 10 rfl)
    have f409 := congrArg Int32.toInt (hF383.1 116 11 rfl)
    have f410 := congrArg Int32.toInt (hF383.1 116 6 rfl)
    have f411 := congrArg Int32.toInt (hF383.1 116 9 rfl)
    have f412 := congrArg Int32.toInt (eA_c (j := 0) (hF383.2.1 173 rfl))
    have f413 := congrArg Int32.toInt (eA_c (j := 1) (hF383.2.1 173 rfl))
    have f414 := congrArg Int32.toInt (hF383.1 174 1 rfl)
    have f415 := congrArg Int32.toInt (hF383.1 176 2 rfl)
    have f416 := congrArg Int32.toInt (eA_c (j := 0) (hF383.2.1 233 rfl))
    have f417 := congrArg Int32.toInt (eA_c (j := 4) (hF383.2.1 233 rfl))
    have f418 := congrArg Int32.toInt (eA_c (j := 5) (hF383.2.1 233 rfl))
    have f419 := congrArg Int32.toInt (eA_c (j := 6) (hF383.2.1 233 rfl))
    have f420 := congrArg Int32.toInt (eA_c (j := 2) (hF383.2.1 233 rfl))
    have f421 := congrArg Int32.toInt (eA_c (j := 3) (hF383.2.1 233 rfl))
    have f422 := congrArg Int32.toInt (eA_c (j := 0) (hF383.2.1 234 rfl))
    have f423 := congrArg Int32.toInt (eA_c (j := 4) (hF383.2.1 234 rfl))
    have f424 := congrArg Int32.toInt (eA_c (j := 5) (hF383.2.1 234 rfl))
    have f425 := congrArg Int32.toInt (eA_c (j := 6) (hF383.2.1 234 rfl))
    have f426 := congrArg Int32.toInt (eA_c (j := 2) (hF383.2.1 234 rfl))
    have f427 := congrArg Int32.toInt (eA_c (j := 3) (hF383.2.1 234 rfl))
    have f428 := congrArg Int32.toInt (eA_c (j := 5510) (hF383.2.1 234 rfl))
    have f429 := congrArg Int32.toInt (eA_c (j := 5514) (hF383.2.1 234 rfl))
    have f430 := congrArg Int32.toInt (eA_c (j := 5515) (hF383.2.1 234 rfl))
    have f431 := congrArg Int32.toInt (eA_c (j := 5516) (hF383.2.1 234 rfl))
    have f432 := congrArg Int32.toInt (eA_c (j := 5512) (hF383.2.1 234 rfl))
    have f433 := congrArg Int32.toInt (eA_c (j := 5513) (hF383.2.1 234 rfl))
    have f434 := congrArg Int32.toInt (eA_c (j := 0) (hF383.2.1 235 rfl))
    have f435 := congrArg Int32.toInt (eA_c (j := 1) (hF383.2.1 235 rfl))
    have f436 := congrArg Int32.toInt (hF383.1 231 8 rfl)
    have f437 := congrArg Int32.toInt (hF383.1 231 13 rfl)
    refine At.enter rfl ?_
    refine r_pop rfl ?_
    refine r_aload_n e2 ?_
    refine r_sload_n e0 ?_
    refine r_iload_n e3 ?_
    refine r_iconst 1 rfl ?_
    refine q_iadd (i.toInt + 1) rfl hx_1 (fun v438 hv438 => ?_)
    refine q_scald (m := L) hL (i.toInt + 1) hv438 hy_1 (fun v439 hv439 => ?_)
    have sv439 := hv2.symm.trans hv439
    subst sv439
    refine r_sload_n e0 ?_
    refine r_iload_n e3 ?_
    refine r_iconst 2 rfl ?_
    refine q_iadd (i.toInt + 2) rfl hx_2 (fun v440 hv440 => ?_)
    refine q_scald (m := L) hL (i.toInt + 2) hv440 hy_2 (fun v441 hv441 => ?_)
    have sv441 := hv4.symm.trans hv441
    subst sv441
    refine r_callV 1119 rfl [.ref 231, .int v2, .int v4] [] (Nat.le_of_ble_eq_true rfl) rfl (T_X11_sign_231 _ hI382 v2 v4) ?_
    rintro _ _ ⟨g442, rfl, hI443, hF444, v445, rfl, hr446⟩
    refine At.sti ?_
    have hF447 := Fr.tr hF386 hF444 rfl rfl
    obtain ⟨q448, q449⟩ := hr446
    have ek455 : (eA g381 233 0).toInt = (gI g0 1 0).toInt := (eA_ti (j := 0) (hF383.2.1 233 (by decide))).trans hR_0.symm
    have ek456 : (eA g381 233 4).toInt = (gI g0 1 12).toInt := (eA_ti (j := 4) (hF383.2.1 233 (by decide))).trans hR_1.symm
    obtain ⟨⟨i451, i452, i453, i454⟩, sm457, sm458, sm459, sm460, sm461⟩ := q449
    have w450 := i454 ⟨pk5.1, (by rw [ek455]; exact pk5.2.1), (by rw [ek456]; exact Int.not_le.mp pk5.2.2)⟩
    clear i451 i452 i453 i454
    have f462 := congrArg Int32.toInt (hF444.1 1 0 rfl)
    have f463 := congrArg Int32.toInt (hF444.1 1 12 rfl)
    have f464 := congrArg Int32.toInt (hF444.1 1 10 rfl)
    have f465 := congrArg Int32.toInt (hF444.1 1 11 rfl)
    have f466 := congrArg Int32.toInt (hF444.1 1 6 rfl)
    have f467 := congrArg Int32.toInt (hF444.1 1 9 rfl)
    have f468 := congrArg Int32.toInt (hF444.1 59 0 rfl)
    have f469 := congrArg Int32.toInt (hF444.1 59 12 rfl)
    have f470 := congrArg Int32.toInt (hF444.1 59 10 rfl)
    have f471 := congrArg Int32.toInt (hF444.1 59 11 rfl)
    have f472 := congrArg Int32.toInt (hF444.1 59 6 rfl)
    have f473 := congrArg Int32.toInt (hF444.1 59 9 rfl)
    have f474 := congrArg Int32.toInt (hF444.1 116 0 rfl)
    have f475 := congrArg Int32.toInt (hF444.1 116 12 rfl)
    have f476 := congrArg Int32.toInt (hF444.1 116 10 rfl)
    have f477 := congrArg Int32.toInt (hF444.1 116 11 rfl)
    have f478 := congrArg Int32.toInt (hF444.1 116 6 rfl)
    have f479 := congrArg Int32.toInt (hF444.1 116 9 rfl)
    have f480 := congrArg Int32.toInt (eA_c (j := 0) (hF444.2.1 173 rfl))
    have f481 := congrArg Int32.toInt (eA_c (j := 1) (hF444.2.1 173 rfl))
    have f482 := congrArg Int32.toInt (hF444.1 174 1 rfl)
    have f483 := congrArg Int32.toInt (hF444.1 176 2 rfl)
    have f490 := congrArg Int32.toInt (eA_c (j := 0) (hF444.2.1 234 rfl))
    have f491 := congrArg Int32.toInt (eA_c (j := 4) (hF444.2.1 234 rfl))
    have f492 := congrArg Int32.toInt (eA_c (j := 5) (hF444.2.1 234 rfl))
    have f493 := congrArg Int32.toInt (eA_c (j := 6) (hF444.2.1 234 rfl))
    have f494 := congrArg Int32.toInt (eA_c (j := 2) (hF444.2.1 234 rfl))
    have f495 := congrArg Int32.toInt (eA_c (j := 3) (hF444.2.1 234 rfl))
    have f496 := congrArg Int32.toInt (eA_c (j := 5510) (hF444.2.1 234 rfl))
    have f497 := congrArg Int32.toInt (eA_c (j := 5514) (hF444.2.1 234 rfl))
    have f498 := congrArg Int32.toInt (eA_c (j := 5515) (hF444.2.1 234 rfl))
    have f499 := congrArg Int32.toInt (eA_c (j := 5516) (hF444.2.1 234 rfl))
    have f500 := congrArg Int32.toInt (eA_c (j := 5512) (hF444.2.1 234 rfl))
    have f501 := congrArg Int32.toInt (eA_c (j := 5513) (hF444.2.1 234 rfl))
    have f502 := congrArg Int32.toInt (eA_c (j := 0) (hF444.2.1 235 rfl))
    have f503 := congrArg Int32.toInt (eA_c (j := 1) (hF444.2.1 235 rfl))
    have f504 := congrArg Int32.toInt (hF444.1 231 8 rfl)
    have f505 := congrArg Int32.toInt (hF444.1 231 13 rfl)
    refine At.enter rfl ?_
    refine r_pop rfl ?_
    refine r_goto ?_
    exact K _ hI443 (show LwR _ from ⟨by first | (clear f396 f397 f398 f399 f400 f401 f402 f403 f404 f405 f406 f407 f408 f409 f410 f411 f412 f413 f414 f415 f417 f418 f419 f420 f421 f422 f423 f424 f425 f426 f427 f428 f429 f430 f431 f432 f433 f434 f435 f436 f437 f463 f464 f465 f466 f467 f468 f469 f470 f471 f472 f473 f474 f475 f476 f477 f478 f479 f480 f481 f482 f483 f490 f491 f492 f493 f494 f495 f496 f497 f498 f499 f500 f501 f502 f503 f504 f505; omega) | omega, by first | (clear f394 f396 f397 f398 f399 f400 f401 f402 f403 f404 f405 f406 f407 f408 f409 f410 f411 f412 f413 f414 f415 f416 f418 f419 f420 f421 f422 f423 f424 f425 f426 f427 f428 f429 f430 f431 f432 f433 f434 f435 f436 f437 f462 f464 f465 f466 f467 f468 f469 f470 f471 f472 f473 f474 f475 f476 f477 f478 f479 f480 f481 f482 f483 f490 f491 f492 f493 f494 f495 f496 f497 f498 f499 f500 f501 f502 f503 f504 f505; omega) | omega, by first | (clear f394 f397 f398 f399 f400 f401 f402 f403 f404 f405 f406 f407 f408 f409 f410 f411 f412 f413 f414 f415 f416 f417 f419 f420 f421 f422 f423 f424 f425 f426 f427 f428 f429 f430 f431 f432 f433 f434 f435 f436 f437 f462 f463 f465 f466 f467 f468 f469 f470 f471 f472 f473 f474 f475 f476 f477 f478 f479 f480 f481 f482 f483 f490 f491 f492 f493 f494 f495 f496 f497 f498 f499 f500 f501 f502 f503 f504 f505; omega) | omega, by first | (clear f394 f396 f398 f399 f400 f401 f402 f403 f404 f405 f406 f407 f408 f409 f410 f411 f412 f413 f414 f415 f416 f417 f418 f420 f421 f422 f423 f424 f425 f426 f427 f428 f429 f430 f431 f432 f433 f434 f435 f436 f437 f462 f463 f464 f466 f467 f468 f469 f470 f471 f472 f473 f474 f475 f476 f477 f478 f479 f480 f481 f482 f483 f490 f491 f492 f493 f494 f495 f496 f497 f498 f499 f500 f501 f502 f503 f504 f505; omega) | omega, by first | (clear f394 f396 f397 f399 f400 f401 f402 f403 f404 f405 f406 f407 f408 f409 f410 f411 f412 f413 f414 f415 f416 f417 f418 f419 f421 f422 f423 f424 f425 f426 f427 f428 f429 f430 f431 f432 f433 f434 f435 f436 f437 f462 f463 f464 f465 f467 f468 f469 f470 f471 f472 f473 f474 f475 f476 f477 f478 f479 f480 f481 f482 f483 f490 f491 f492 f493 f494 f495 f496 f497 f498 f499 f500 f501 f502 f503 f504 f505; omega) | omega, by first | (clear f394 f396 f397 f398 f400 f401 f402 f403 f404 f405 f406 f407 f408 f409 f410 f411 f412 f413 f414 f415 f416 f417 f418 f419 f420 f422 f423 f424 f425 f426 f427 f428 f429 f430 f431 f432 f433 f434 f435 f436 f437 f462 f463 f464 f465 f466 f468 f469 f470 f471 f472 f473 f474 f475 f476 f477 f478 f479 f480 f481 f482 f483 f490 f491 f492 f493 f494 f495 f496 f497 f498 f499 f500 f501 f502 f503 f504 f505; omega) | omega, (eA_ti (j := 0) (((hF444.2.1 173 (by decide)).trans (hF383.2.1 173 (by decide))))).trans (hR_6.trans (eA_ti (j := 0) (((hF444.2.1 235 (by decide)).trans (hF383.2.1 235 (by decide))))).symm), (eA_ti (j := 1) (((hF444.2.1 173 (by decide)).trans (hF383.2.1 173 (by decide))))).trans (hR_7.trans (eA_ti (j := 1) (((hF444.2.1 235 (by decide)).trans (hF383.2.1 235 (by decide))))).symm), (congrArg Int32.toInt (((hF444.1 174 1 (by decide)).trans (hF383.1 174 1 (by decide))))).trans (hR_8.trans (congrArg Int32.toInt (((hF444.1 231 8 (by decide)).trans (hF383.1 231 8 (by decide))))).symm), (congrArg Int32.toInt (((hF444.1 176 2 (by decide)).trans (hF383.1 176 2 (by decide))))).trans (hR_9.trans (congrArg Int32.toInt (((hF444.1 231 13 (by decide)).trans (hF383.1 231 13 (by decide))))).symm), IM0.cong hR_10 (eA_ti (j := 0) (((hF444.2.1 173 (by decide)).trans (hF383.2.1 173 (by decide))))) (congrArg Int32.toInt (((hF444.1 59 0 (by decide)).trans (hF383.1 59 0 (by decide))))) (eA_ti (j := 0) (((hF444.2.1 234 (by decide)).trans (hF383.2.1 234 (by decide))))) (congrArg Int32.toInt (((hF444.1 59 12 (by decide)).trans (hF383.1 59 12 (by decide))))) (eA_ti (j := 4) (((hF444.2.1 234 (by decide)).trans (hF383.2.1 234 (by decide))))) (congrArg Int32.toInt (((hF444.1 59 10 (by decide)).trans (hF383.1 59 10 (by decide))))) (eA_ti (j := 5) (((hF444.2.1 234 (by decide)).trans (hF383.2.1 234 (by decide))))) (congrArg Int32.toInt (((hF444.1 59 11 (by decide)).trans (hF383.1 59 11 (by decide))))) (eA_ti (j := 6) (((hF444.2.1 234 (by decide)).trans (hF383.2.1 234 (by decide))))) (congrArg Int32.toInt (((hF444.1 59 6 (by decide)).trans (hF383.1 59 6 (by decide))))) (eA_ti (j := 2) (((hF444.2.1 234 (by decide)).trans (hF383.2.1 234 (by decide))))) (congrArg Int32.toInt (((hF444.1 59 9 (by decide)).trans (hF383.1 59 9 (by decide))))) (eA_ti (j := 3) (((hF444.2.1 234 (by decide)).trans (hF383.2.1 234 (by decide))))), IM1.cong hR_11 (eA_ti (j := 1) (((hF444.2.1 173 (by decide)).trans (hF383.2.1 173 (by decide))))) (congrArg Int32.toInt (((hF444.1 116 0 (by decide)).trans (hF383.1 116 0 (by decide))))) (eA_ti (j := 5510) (((hF444.2.1 234 (by decide)).trans (hF383.2.1 234 (by decide))))) (congrArg Int32.toInt (((hF444.1 116 12 (by decide)).trans (hF383.1 116 12 (by decide))))) (eA_ti (j := 5514) (((hF444.2.1 234 (by decide)).trans (hF383.2.1 234 (by decide))))) (congrArg Int32.toInt (((hF444.1 116 10 (by decide)).trans (hF383.1 116 10 (by decide))))) (eA_ti (j := 5515) (((hF444.2.1 234 (by decide)).trans (hF383.2.1 234 (by decide))))) (congrArg Int32.toInt (((hF444.1 116 11 (by decide)).trans (hF383.1 116 11 (by decide))))) (eA_ti (j := 5516) (((hF444.2.1 234 (by decide)).trans (hF383.2.1 234 (by decide))))) (congrArg Int32.toInt (((hF444.1 116 6 (by decide)).trans (hF383.1 116 6 (by decide))))) (eA_ti (j := 5512) (((hF444.2.1 234 (by decide)).trans (hF383.2.1 234 (by decide))))) (congrArg Int32.toInt (((hF444.1 116 9 (by decide)).trans (hF383.1 116 9 (by decide))))) (eA_ti (j := 5513) (((hF444.2.1 234 (by decide)).trans (hF383.2.1 234 (by decide))))), (show RT _ from fun i i0 i1 => (eA_ti (((hF444.2.1 175 (by decide)).trans (hF383.2.1 175 (by decide))))).trans ((hR_12 i i0 (by omega)).trans (eA_ti (((hF444.2.1 236 (by decide)).trans (hF383.2.1 236 (by decide))))).symm)), (show BYX _ from fun i i0 i1 => by rw [TX.c (((hF444.2.1 175 (by decide)).trans (hF383.2.1 175 (by decide))))]; exact hR_13 i i0 (by have i2 : i < (gI _ 174 1).toInt := i1; show i < (gI g0 174 1).toInt; omega))⟩)
