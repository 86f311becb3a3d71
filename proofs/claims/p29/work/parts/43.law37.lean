set_option maxRecDepth 100000 in
set_option maxHeartbeats 8000000 in
theorem lq_c37 (d : Nat) {N : Nat} {g0 : List en_E} (hI0 : HI g0) (hR0 : LwR g0) {ys : List Int32} {L : Nat} (hL : ys.length = L) (hL2 : L ≤ 3584) {l : en_L} {i : Int32} (e0 : en_get 0 l = some (.float 0)) (e1 : en_get 1 l = some (.ref 0)) (e2 : en_get 2 l = some (.ref 231)) (e3 : en_get 3 l = some (.int i)) (hi : 0 ≤ i.toInt ∧ i.toInt + 7 ≤ L) {Ph : Option Value → en_H → Prop} (K : ∀ g1 : List en_E, HI g1 → LwR g1 → At (d + 423) (some ys) (some .boolean) bs_L_law (1330, l, [], (g1, N)) Ph) : At (d + 423) (some ys) (some .boolean) bs_L_law (1271, l, [], (g0, N)) Ph := by
  have hF0 : Fr F_law A_law g0 g0 := Fr.rf
  have hx_1 : -2147483648 ≤ i.toInt + 1 ∧ i.toInt + 1 ≤ 2147483647 := by omega
  have hx_2 : -2147483648 ≤ i.toInt + 2 ∧ i.toInt + 2 ≤ 2147483647 := by omega
  have hx_3 : -2147483648 ≤ i.toInt + 3 ∧ i.toInt + 3 ≤ 2147483647 := by omega
  have hx_4 : -2147483648 ≤ i.toInt + 4 ∧ i.toInt + 4 ≤ 2147483647 := by omega
  have hx_5 : -2147483648 ≤ i.toInt + 5 ∧ i.toInt + 5 ≤ 2147483647 := by omega
  have hx_6 : -2147483648 ≤ i.toInt + 6 ∧ i.toInt + 6 ≤ 2147483647 := by omega
  have hy_0 : 0 ≤ i.toInt ∧ i.toInt < (L : Int) := by omega
  have hy_1 : 0 ≤ i.toInt + 1 ∧ i.toInt + 1 < (L : Int) := by omega
  have hy_2 : 0 ≤ i.toInt + 2 ∧ i.toInt + 2 < (L : Int) := by omega
  have hy_3 : 0 ≤ i.toInt + 3 ∧ i.toInt + 3 < (L : Int) := by omega
  have hy_4 : 0 ≤ i.toInt + 4 ∧ i.toInt + 4 < (L : Int) := by omega
  have hy_5 : 0 ≤ i.toInt + 5 ∧ i.toInt + 5 < (L : Int) := by omega
  have hy_6 : 0 ≤ i.toInt + 6 ∧ i.toInt + 6 < (L : Int) := by omega
  unfold LwR at hR0
  obtain ⟨hR_0, hR_1, hR_2, hR_3, hR_4, hR_5, hR_6, hR_7, hR_8, hR_9, hR_10, hR_11, hR_12, hR_13, hR_14, hR_15, hR_16, hR_17, hR_18, hR_19, hR_20⟩ := hR0
  refine At.enter rfl ?_
  refine r_aload_n e1 ?_
  refine r_sload_n e0 ?_
  refine r_iload_n e3 ?_
  refine r_iconst 1 rfl ?_
  refine q_iadd (i.toInt + 1) rfl hx_1 (fun v1 hv1 => ?_)
  refine q_scald (m := L) hL (i.toInt + 1) hv1 hy_1 (fun v2 hv2 => ?_)
  rcases (show (v2.toInt = 0 ∧ ¬ (eA g0 173 0).toInt = 0) ∨ (v2.toInt = 0 ∧ (eA g0 173 0).toInt = 0) ∨ (v2.toInt = 1 ∧ ¬ (eA g0 173 1).toInt = 0) ∨ (v2.toInt = 1 ∧ (eA g0 173 1).toInt = 0) ∨ (v2.toInt < 0 ∨ 1 < v2.toInt) by omega) with u3 | u3 | u3 | u3 | u3
  · have n5_e : v2.toInt = 0 := by omega
    have n5_1 : v2.toInt ≠ 1 := by omega
    have n5_k : (eA g0 173 0).toInt ≠ 0 := by omega
    have n5_i := hR_12 (by omega)
    refine r_callV 1280 rfl [.ref 0, .int v2] [] (Nat.le_of_ble_eq_true rfl) rfl (T_X10_back_0 _ hI0 v2) ?_
    rintro _ _ ⟨g6, rfl, hI7, hF8, v9, rfl, hr10⟩
    refine At.sti ?_
    have hF11 := Fr.tr hF0 hF8 rfl rfl
    have fe12 : PH _ := hr10.2.2
    replace hr10 := And.intro hr10.1 hr10.2.1
    have fe13 : PH _ := hr10.2.2
    replace hr10 := And.intro hr10.1 hr10.2.1
    obtain ⟨q14, q15, q16, q17, q18, q19, q20, q21⟩ := hr10
    obtain ⟨p22, p23, p24, p25, p26, p27⟩ := (And.intro q14 q15)
    have w28 := p23 ⟨n5_e, n5_k⟩
    clear p23 p24 p25 p26 p27
    clear q15
    have f38 := congrArg Int32.toInt (hF8.1 59 0 rfl)
    have f39 := congrArg Int32.toInt (hF8.1 59 12 rfl)
    have f40 := congrArg Int32.toInt (hF8.1 59 10 rfl)
    have f41 := congrArg Int32.toInt (hF8.1 59 11 rfl)
    have f42 := congrArg Int32.toInt (hF8.1 59 4 rfl)
    have f43 := congrArg Int32.toInt (hF8.1 59 6 rfl)
    have f44 := congrArg Int32.toInt (hF8.1 59 9 rfl)
    have f45 := congrArg Int32.toInt (hF8.1 116 0 rfl)
    have f46 := congrArg Int32.toInt (hF8.1 116 12 rfl)
    have f47 := congrArg Int32.toInt (hF8.1 116 10 rfl)
    have f48 := congrArg Int32.toInt (hF8.1 116 11 rfl)
    have f49 := congrArg Int32.toInt (hF8.1 116 4 rfl)
    have f50 := congrArg Int32.toInt (hF8.1 116 6 rfl)
    have f51 := congrArg Int32.toInt (hF8.1 116 9 rfl)
    have f52 := congrArg Int32.toInt (eA_c (j := 0) (hF8.2.1 173 rfl))
    have f53 := congrArg Int32.toInt (eA_c (j := 1) (hF8.2.1 173 rfl))
    have f54 := congrArg Int32.toInt (hF8.1 174 1 rfl)
    have f55 := congrArg Int32.toInt (hF8.1 0 16 rfl)
    have f56 := congrArg Int32.toInt (hF8.1 176 2 rfl)
    have f57 := congrArg Int32.toInt (eA_c (j := 0) (hF8.2.1 233 rfl))
    have f58 := congrArg Int32.toInt (eA_c (j := 4) (hF8.2.1 233 rfl))
    have f59 := congrArg Int32.toInt (eA_c (j := 5) (hF8.2.1 233 rfl))
    have f60 := congrArg Int32.toInt (eA_c (j := 6) (hF8.2.1 233 rfl))
    have f61 := congrArg Int32.toInt (eA_c (j := 1) (hF8.2.1 233 rfl))
    have f62 := congrArg Int32.toInt (eA_c (j := 2) (hF8.2.1 233 rfl))
    have f63 := congrArg Int32.toInt (eA_c (j := 3) (hF8.2.1 233 rfl))
    have f64 := congrArg Int32.toInt (eA_c (j := 0) (hF8.2.1 234 rfl))
    have f65 := congrArg Int32.toInt (eA_c (j := 4) (hF8.2.1 234 rfl))
    have f66 := congrArg Int32.toInt (eA_c (j := 5) (hF8.2.1 234 rfl))
    have f67 := congrArg Int32.toInt (eA_c (j := 6) (hF8.2.1 234 rfl))
    have f68 := congrArg Int32.toInt (eA_c (j := 1) (hF8.2.1 234 rfl))
    have f69 := congrArg Int32.toInt (eA_c (j := 2) (hF8.2.1 234 rfl))
    have f70 := congrArg Int32.toInt (eA_c (j := 3) (hF8.2.1 234 rfl))
    have f71 := congrArg Int32.toInt (eA_c (j := 5510) (hF8.2.1 234 rfl))
    have f72 := congrArg Int32.toInt (eA_c (j := 5514) (hF8.2.1 234 rfl))
    have f73 := congrArg Int32.toInt (eA_c (j := 5515) (hF8.2.1 234 rfl))
    have f74 := congrArg Int32.toInt (eA_c (j := 5516) (hF8.2.1 234 rfl))
    have f75 := congrArg Int32.toInt (eA_c (j := 5511) (hF8.2.1 234 rfl))
    have f76 := congrArg Int32.toInt (eA_c (j := 5512) (hF8.2.1 234 rfl))
    have f77 := congrArg Int32.toInt (eA_c (j := 5513) (hF8.2.1 234 rfl))
    have f78 := congrArg Int32.toInt (eA_c (j := 0) (hF8.2.1 235 rfl))
    have f79 := congrArg Int32.toInt (eA_c (j := 1) (hF8.2.1 235 rfl))
    have f80 := congrArg Int32.toInt (hF8.1 231 8 rfl)
    have f81 := congrArg Int32.toInt (hF8.1 231 6 rfl)
    have f82 := congrArg Int32.toInt (hF8.1 231 13 rfl)
    refine At.enter rfl ?_
    refine r_pop rfl ?_
    refine r_aload_n e2 ?_
    refine r_sload_n e0 ?_
    refine r_iload_n e3 ?_
    refine r_iconst 1 rfl ?_
    refine q_iadd (i.toInt + 1) rfl hx_1 (fun v83 hv83 => ?_)
    refine q_scald (m := L) hL (i.toInt + 1) hv83 hy_1 (fun v84 hv84 => ?_)
    have sv84 := hv2.symm.trans hv84
    subst sv84
    have n85_e : v2.toInt = 0 := by omega
    have n85_1 : v2.toInt ≠ 1 := by omega
    have n85_k : (eA g6 235 0).toInt ≠ 0 := by omega
    refine r_callV 1290 rfl [.ref 231, .int v2] [] (Nat.le_of_ble_eq_true rfl) rfl (T_X11_back_231 _ hI7 v2) ?_
    rintro _ _ ⟨g86, rfl, hI87, hF88, v89, rfl, hr90⟩
    refine At.sti ?_
    have hF91 := Fr.tr hF11 hF88 rfl rfl
    obtain ⟨q93, q94, q95⟩ := hr90
    obtain ⟨p96, p97, p98, p99, p100, p101⟩ := (And.intro q93 q94)
    have w102 := p97 ⟨n85_e, n85_k⟩
    clear p97 p98 p99 p100 p101
    clear q94
    have f105 := congrArg Int32.toInt (hF88.1 1 0 rfl)
    have f106 := congrArg Int32.toInt (hF88.1 1 12 rfl)
    have f107 := congrArg Int32.toInt (hF88.1 1 10 rfl)
    have f108 := congrArg Int32.toInt (hF88.1 1 11 rfl)
    have f109 := congrArg Int32.toInt (hF88.1 1 4 rfl)
    have f110 := congrArg Int32.toInt (hF88.1 1 6 rfl)
    have f111 := congrArg Int32.toInt (hF88.1 1 9 rfl)
    have f112 := congrArg Int32.toInt (hF88.1 59 0 rfl)
    have f113 := congrArg Int32.toInt (hF88.1 59 12 rfl)
    have f114 := congrArg Int32.toInt (hF88.1 59 10 rfl)
    have f115 := congrArg Int32.toInt (hF88.1 59 11 rfl)
    have f116 := congrArg Int32.toInt (hF88.1 59 4 rfl)
    have f117 := congrArg Int32.toInt (hF88.1 59 6 rfl)
    have f118 := congrArg Int32.toInt (hF88.1 59 9 rfl)
    have f119 := congrArg Int32.toInt (hF88.1 116 0 rfl)
    have f120 := congrArg Int32.toInt (hF88.1 116 12 rfl)
    have f121 := congrArg Int32.toInt (hF88.1 116 10 rfl)
    have f122 := congrArg Int32.toInt (hF88.1 116 11 rfl)
    have f123 := congrArg Int32.toInt (hF88.1 116 4 rfl)
    have f124 := congrArg Int32.toInt (hF88.1 116 6 rfl)
    have f125 := congrArg Int32.toInt (hF88.1 116 9 rfl)
    have f126 := congrArg Int32.toInt (eA_c (j := 0) (hF88.2.1 173 rfl))
    have f127 := congrArg Int32.toInt (eA_c (j := 1) (hF88.2.1 173 rfl))
    have f128 := congrArg Int32.toInt (hF88.1 174 1 rfl)
    have f129 := congrArg Int32.toInt (hF88.1 0 16 rfl)
    have f130 := congrArg Int32.toInt (hF88.1 176 2 rfl)
    have f138 := congrArg Int32.toInt (eA_c (j := 0) (hF88.2.1 234 rfl))
    have f139 := congrArg Int32.toInt (eA_c (j := 4) (hF88.2.1 234 rfl))
    have f140 := congrArg Int32.toInt (eA_c (j := 5) (hF88.2.1 234 rfl))
    have f141 := congrArg Int32.toInt (eA_c (j := 6) (hF88.2.1 234 rfl))
    have f142 := congrArg Int32.toInt (eA_c (j := 1) (hF88.2.1 234 rfl))
    have f143 := congrArg Int32.toInt (eA_c (j := 2) (hF88.2.1 234 rfl))
    have f144 := congrArg Int32.toInt (eA_c (j := 3) (hF88.2.1 234 rfl))
    have f145 := congrArg Int32.toInt (eA_c (j := 5510) (hF88.2.1 234 rfl))
    have f146 := congrArg Int32.toInt (eA_c (j := 5514) (hF88.2.1 234 rfl))
    have f147 := congrArg Int32.toInt (eA_c (j := 5515) (hF88.2.1 234 rfl))
    have f148 := congrArg Int32.toInt (eA_c (j := 5516) (hF88.2.1 234 rfl))
    have f149 := congrArg Int32.toInt (eA_c (j := 5511) (hF88.2.1 234 rfl))
    have f150 := congrArg Int32.toInt (eA_c (j := 5512) (hF88.2.1 234 rfl))
    have f151 := congrArg Int32.toInt (eA_c (j := 5513) (hF88.2.1 234 rfl))
    have f152 := congrArg Int32.toInt (eA_c (j := 0) (hF88.2.1 235 rfl))
    have f153 := congrArg Int32.toInt (eA_c (j := 1) (hF88.2.1 235 rfl))
    have f154 := congrArg Int32.toInt (hF88.1 231 8 rfl)
    have f155 := congrArg Int32.toInt (hF88.1 231 6 rfl)
    have f156 := congrArg Int32.toInt (hF88.1 231 13 rfl)
    refine At.enter rfl ?_
    refine r_pop rfl ?_
    refine r_goto ?_
    exact K _ hI87 (show LwR _ from ⟨by first | (clear f38 f39 f40 f41 f42 f43 f44 f45 f46 f47 f48 f49 f50 f51 f52 f53 f54 f55 f56 f58 f59 f60 f61 f62 f63 f64 f65 f66 f67 f68 f69 f70 f71 f72 f73 f74 f75 f76 f77 f78 f79 f80 f81 f82 f106 f107 f108 f109 f110 f111 f112 f113 f114 f115 f116 f117 f118 f119 f120 f121 f122 f123 f124 f125 f126 f127 f128 f129 f130 f138 f139 f140 f141 f142 f143 f144 f145 f146 f147 f148 f149 f150 f151 f152 f153 f154 f155 f156; omega) | omega, by first | (clear f38 f39 f40 f41 f42 f43 f44 f45 f46 f47 f48 f49 f50 f51 f52 f53 f54 f55 f56 f57 f59 f60 f61 f62 f63 f64 f65 f66 f67 f68 f69 f70 f71 f72 f73 f74 f75 f76 f77 f78 f79 f80 f81 f82 f105 f107 f108 f109 f110 f111 f112 f113 f114 f115 f116 f117 f118 f119 f120 f121 f122 f123 f124 f125 f126 f127 f128 f129 f130 f138 f139 f140 f141 f142 f143 f144 f145 f146 f147 f148 f149 f150 f151 f152 f153 f154 f155 f156; omega) | omega, by first | (clear f38 f39 f40 f41 f42 f43 f44 f45 f46 f47 f48 f49 f50 f51 f52 f53 f54 f55 f56 f57 f58 f60 f61 f62 f63 f64 f65 f66 f67 f68 f69 f70 f71 f72 f73 f74 f75 f76 f77 f78 f79 f80 f81 f82 f105 f106 f108 f109 f110 f111 f112 f113 f114 f115 f116 f117 f118 f119 f120 f121 f122 f123 f124 f125 f126 f127 f128 f129 f130 f138 f139 f140 f141 f142 f143 f144 f145 f146 f147 f148 f149 f150 f151 f152 f153 f154 f155 f156; omega) | omega, by first | (clear f38 f39 f40 f41 f42 f43 f44 f45 f46 f47 f48 f49 f50 f51 f52 f53 f54 f55 f56 f57 f58 f59 f61 f62 f63 f64 f65 f66 f67 f68 f69 f70 f71 f72 f73 f74 f75 f76 f77 f78 f79 f80 f81 f82 f105 f106 f107 f109 f110 f111 f112 f113 f114 f115 f116 f117 f118 f119 f120 f121 f122 f123 f124 f125 f126 f127 f128 f129 f130 f138 f139 f140 f141 f142 f143 f144 f145 f146 f147 f148 f149 f150 f151 f152 f153 f154 f155 f156; omega) | omega, by first | (clear f38 f39 f40 f41 f42 f43 f44 f45 f46 f47 f48 f49 f50 f51 f52 f53 f54 f55 f56 f57 f58 f59 f60 f62 f63 f64 f65 f66 f67 f68 f69 f70 f71 f72 f73 f74 f75 f76 f77 f78 f79 f80 f81 f82 f105 f106 f107 f108 f110 f111 f112 f113 f114 f115 f116 f117 f118 f119 f120 f121 f122 f123 f124 f125 f126 f127 f128 f129 f130 f138 f139 f140 f141 f142 f143 f144 f145 f146 f147 f148 f149 f150 f151 f152 f153 f154 f155 f156; omega) | omega, by first | (clear f38 f39 f40 f41 f42 f43 f44 f45 f46 f47 f48 f49 f50 f51 f52 f53 f54 f55 f56 f57 f58 f59 f60 f61 f63 f64 f65 f66 f67 f68 f69 f70 f71 f72 f73 f74 f75 f76 f77 f78 f79 f80 f81 f82 f105 f106 f107 f108 f109 f111 f112 f113 f114 f115 f116 f117 f118 f119 f120 f121 f122 f123 f124 f125 f126 f127 f128 f129 f130 f138 f139 f140 f141 f142 f143 f144 f145 f146 f147 f148 f149 f150 f151 f152 f153 f154 f155 f156; omega) | omega, by first | (clear f38 f39 f40 f41 f42 f43 f44 f45 f46 f47 f48 f49 f50 f51 f52 f53 f54 f55 f56 f57 f58 f59 f60 f61 f62 f64 f65 f66 f67 f68 f69 f70 f71 f72 f73 f74 f75 f76 f77 f78 f79 f80 f81 f82 f105 f106 f107 f108 f109 f110 f112 f113 f114 f115 f116 f117 f118 f119 f120 f121 f122 f123 f124 f125 f126 f127 f128 f129 f130 f138 f139 f140 f141 f142 f143 f144 f145 f146 f147 f148 f149 f150 f151 f152 f153 f154 f155 f156; omega) | omega, (eA_ti (j := 0) (((hF88.2.1 173 (by decide)).trans (hF8.2.1 173 (by decide))))).trans (hR_7.trans (eA_ti (j := 0) (((hF88.2.1 235 (by decide)).trans (hF8.2.1 235 (by decide))))).symm), (eA_ti (j := 1) (((hF88.2.1 173 (by decide)).trans (hF8.2.1 173 (by decide))))).trans (hR_8.trans (eA_ti (j := 1) (((hF88.2.1 235 (by decide)).trans (hF8.2.1 235 (by decide))))).symm), (congrArg Int32.toInt (((hF88.1 174 1 (by decide)).trans (hF8.1 174 1 (by decide))))).trans (hR_9.trans (congrArg Int32.toInt (((hF88.1 231 8 (by decide)).trans (hF8.1 231 8 (by decide))))).symm), (congrArg Int32.toInt (((hF88.1 0 16 (by decide)).trans (hF8.1 0 16 (by decide))))).trans (hR_10.trans (congrArg Int32.toInt (((hF88.1 231 6 (by decide)).trans (hF8.1 231 6 (by decide))))).symm), (congrArg Int32.toInt (((hF88.1 176 2 (by decide)).trans (hF8.1 176 2 (by decide))))).trans (hR_11.trans (congrArg Int32.toInt (((hF88.1 231 13 (by decide)).trans (hF8.1 231 13 (by decide))))).symm), IM0.cong hR_12 (eA_ti (j := 0) (((hF88.2.1 173 (by decide)).trans (hF8.2.1 173 (by decide))))) (congrArg Int32.toInt (((hF88.1 59 0 (by decide)).trans (hF8.1 59 0 (by decide))))) (eA_ti (j := 0) (((hF88.2.1 234 (by decide)).trans (hF8.2.1 234 (by decide))))) (congrArg Int32.toInt (((hF88.1 59 12 (by decide)).trans (hF8.1 59 12 (by decide))))) (eA_ti (j := 4) (((hF88.2.1 234 (by decide)).trans (hF8.2.1 234 (by decide))))) (congrArg Int32.toInt (((hF88.1 59 10 (by decide)).trans (hF8.1 59 10 (by decide))))) (eA_ti (j := 5) (((hF88.2.1 234 (by decide)).trans (hF8.2.1 234 (by decide))))) (congrArg Int32.toInt (((hF88.1 59 11 (by decide)).trans (hF8.1 59 11 (by decide))))) (eA_ti (j := 6) (((hF88.2.1 234 (by decide)).trans (hF8.2.1 234 (by decide))))) (congrArg Int32.toInt (((hF88.1 59 4 (by decide)).trans (hF8.1 59 4 (by decide))))) (eA_ti (j := 1) (((hF88.2.1 234 (by decide)).trans (hF8.2.1 234 (by decide))))) (congrArg Int32.toInt (((hF88.1 59 6 (by decide)).trans (hF8.1 59 6 (by decide))))) (eA_ti (j := 2) (((hF88.2.1 234 (by decide)).trans (hF8.2.1 234 (by decide))))) (congrArg Int32.toInt (((hF88.1 59 9 (by decide)).trans (hF8.1 59 9 (by decide))))) (eA_ti (j := 3) (((hF88.2.1 234 (by decide)).trans (hF8.2.1 234 (by decide))))), IM1.cong hR_13 (eA_ti (j := 1) (((hF88.2.1 173 (by decide)).trans (hF8.2.1 173 (by decide))))) (congrArg Int32.toInt (((hF88.1 116 0 (by decide)).trans (hF8.1 116 0 (by decide))))) (eA_ti (j := 5510) (((hF88.2.1 234 (by decide)).trans (hF8.2.1 234 (by decide))))) (congrArg Int32.toInt (((hF88.1 116 12 (by decide)).trans (hF8.1 116 12 (by decide))))) (eA_ti (j := 5514) (((hF88.2.1 234 (by decide)).trans (hF8.2.1 234 (by decide))))) (congrArg Int32.toInt (((hF88.1 116 10 (by decide)).trans (hF8.1 116 10 (by decide))))) (eA_ti (j := 5515) (((hF88.2.1 234 (by decide)).trans (hF8.2.1 234 (by decide))))) (congrArg Int32.toInt (((hF88.1 116 11 (by decide)).trans (hF8.1 116 11 (by decide))))) (eA_ti (j := 5516) (((hF88.2.1 234 (by decide)).trans (hF8.2.1 234 (by decide))))) (congrArg Int32.toInt (((hF88.1 116 4 (by decide)).trans (hF8.1 116 4 (by decide))))) (eA_ti (j := 5511) (((hF88.2.1 234 (by decide)).trans (hF8.2.1 234 (by decide))))) (congrArg Int32.toInt (((hF88.1 116 6 (by decide)).trans (hF8.1 116 6 (by decide))))) (eA_ti (j := 5512) (((hF88.2.1 234 (by decide)).trans (hF8.2.1 234 (by decide))))) (congrArg Int32.toInt (((hF88.1 116 9 (by decide)).trans (hF8.1 116 9 (by decide))))) (eA_ti (j := 5513) (((hF88.2.1 234 (by decide)).trans (hF8.2.1 234 (by decide))))), (show CT _ from ⟨fun i i0 i1 => ⟨(by first | (clear f38 f39 f40 f41 f42 f43 f44 f45 f46 f47 f48 f49 f50 f51 f54 f55 f56 f64 f65 f66 f67 f68 f69 f70 f71 f72 f73 f74 f75 f76 f77 f80 f81 f82 f112 f113 f114 f115 f116 f117 f118 f119 f120 f121 f122 f123 f124 f125 f128 f129 f130 f138 f139 f140 f141 f142 f143 f144 f145 f146 f147 f148 f149 f150 f151 f154 f155 f156; have t0_ := hI0.t0; have t1_ := hI0.t1; have o := (hR_14.1 i i0 i1).1; have o0 := (hR_15.1 i i0 i1).1; have o1 := (hR_16.1 i i0 i1).1; have x := (eA_ti (j := i) (hF88.2.1 2 (by decide))).trans (q16 i i0 i1); have m := q95 (10 + 3 * i) (by omega) (by omega); have y1 := eA_ti (j := ((10 + 3 * i))) (hF8.2.1 234 (by decide)); have y2 := eA_ti (j := (5510 + ((10 + 3 * i)))) (hF8.2.1 234 (by decide)); have y3 := eA_ti (j := ((10 + 3 * i))) (hF8.2.1 233 (by decide)); (try split at x) <;> (try split at x) <;> (try split at m) <;> (try split at m) <;> omega) | (have t0_ := hI0.t0; have t1_ := hI0.t1; have o := (hR_14.1 i i0 i1).1; have o0 := (hR_15.1 i i0 i1).1; have o1 := (hR_16.1 i i0 i1).1; have x := (eA_ti (j := i) (hF88.2.1 2 (by decide))).trans (q16 i i0 i1); have m := q95 (10 + 3 * i) (by omega) (by omega); have y1 := eA_ti (j := ((10 + 3 * i))) (hF8.2.1 234 (by decide)); have y2 := eA_ti (j := (5510 + ((10 + 3 * i)))) (hF8.2.1 234 (by decide)); have y3 := eA_ti (j := ((10 + 3 * i))) (hF8.2.1 233 (by decide)); (try split at x) <;> (try split at x) <;> (try split at m) <;> (try split at m) <;> omega)), (by first | (clear f38 f39 f40 f41 f42 f43 f44 f45 f46 f47 f48 f49 f50 f51 f54 f55 f56 f64 f65 f66 f67 f68 f69 f70 f71 f72 f73 f74 f75 f76 f77 f80 f81 f82 f112 f113 f114 f115 f116 f117 f118 f119 f120 f121 f122 f123 f124 f125 f128 f129 f130 f138 f139 f140 f141 f142 f143 f144 f145 f146 f147 f148 f149 f150 f151 f154 f155 f156; have t0_ := hI0.t0; have t1_ := hI0.t1; have o := (hR_14.1 i i0 i1).2.1; have o0 := (hR_15.1 i i0 i1).2.1; have o1 := (hR_16.1 i i0 i1).2.1; have x := (eA_ti (j := i) (hF88.2.1 3 (by decide))).trans (q17 i i0 i1); have m := q95 (10 + 3 * i + 1) (by omega) (by omega); have y1 := eA_ti (j := ((10 + 3 * i + 1))) (hF8.2.1 234 (by decide)); have y2 := eA_ti (j := (5510 + ((10 + 3 * i + 1)))) (hF8.2.1 234 (by decide)); have y3 := eA_ti (j := ((10 + 3 * i + 1))) (hF8.2.1 233 (by decide)); (try split at x) <;> (try split at x) <;> (try split at m) <;> (try split at m) <;> omega) | (have t0_ := hI0.t0; have t1_ := hI0.t1; have o := (hR_14.1 i i0 i1).2.1; have o0 := (hR_15.1 i i0 i1).2.1; have o1 := (hR_16.1 i i0 i1).2.1; have x := (eA_ti (j := i) (hF88.2.1 3 (by decide))).trans (q17 i i0 i1); have m := q95 (10 + 3 * i + 1) (by omega) (by omega); have y1 := eA_ti (j := ((10 + 3 * i + 1))) (hF8.2.1 234 (by decide)); have y2 := eA_ti (j := (5510 + ((10 + 3 * i + 1)))) (hF8.2.1 234 (by decide)); have y3 := eA_ti (j := ((10 + 3 * i + 1))) (hF8.2.1 233 (by decide)); (try split at x) <;> (try split at x) <;> (try split at m) <;> (try split at m) <;> omega)), (by first | (clear f38 f39 f40 f41 f42 f43 f44 f45 f46 f47 f48 f49 f50 f51 f54 f55 f56 f64 f65 f66 f67 f68 f69 f70 f71 f72 f73 f74 f75 f76 f77 f80 f81 f82 f112 f113 f114 f115 f116 f117 f118 f119 f120 f121 f122 f123 f124 f125 f128 f129 f130 f138 f139 f140 f141 f142 f143 f144 f145 f146 f147 f148 f149 f150 f151 f154 f155 f156; have t0_ := hI0.t0; have t1_ := hI0.t1; have o := (hR_14.1 i i0 i1).2.2; have o0 := (hR_15.1 i i0 i1).2.2; have o1 := (hR_16.1 i i0 i1).2.2; have x := (eA_ti (j := i) (hF88.2.1 4 (by decide))).trans (q18 i i0 i1); have m := q95 (10 + 3 * i + 2) (by omega) (by omega); have y1 := eA_ti (j := ((10 + 3 * i + 2))) (hF8.2.1 234 (by decide)); have y2 := eA_ti (j := (5510 + ((10 + 3 * i + 2)))) (hF8.2.1 234 (by decide)); have y3 := eA_ti (j := ((10 + 3 * i + 2))) (hF8.2.1 233 (by decide)); (try split at x) <;> (try split at x) <;> (try split at m) <;> (try split at m) <;> omega) | (have t0_ := hI0.t0; have t1_ := hI0.t1; have o := (hR_14.1 i i0 i1).2.2; have o0 := (hR_15.1 i i0 i1).2.2; have o1 := (hR_16.1 i i0 i1).2.2; have x := (eA_ti (j := i) (hF88.2.1 4 (by decide))).trans (q18 i i0 i1); have m := q95 (10 + 3 * i + 2) (by omega) (by omega); have y1 := eA_ti (j := ((10 + 3 * i + 2))) (hF8.2.1 234 (by decide)); have y2 := eA_ti (j := (5510 + ((10 + 3 * i + 2)))) (hF8.2.1 234 (by decide)); have y3 := eA_ti (j := ((10 + 3 * i + 2))) (hF8.2.1 233 (by decide)); (try split at x) <;> (try split at x) <;> (try split at m) <;> (try split at m) <;> omega))⟩, fun i i0 i1 => ⟨(by first | (clear f38 f39 f40 f41 f42 f43 f44 f45 f46 f47 f48 f49 f50 f51 f54 f55 f56 f64 f65 f66 f67 f68 f69 f70 f71 f72 f73 f74 f75 f76 f77 f80 f81 f82 f112 f113 f114 f115 f116 f117 f118 f119 f120 f121 f122 f123 f124 f125 f128 f129 f130 f138 f139 f140 f141 f142 f143 f144 f145 f146 f147 f148 f149 f150 f151 f154 f155 f156; have t0_ := hI0.t0; have t1_ := hI0.t1; have o := (hR_14.2.1 i i0 i1).1; have o0 := (hR_15.2.1 i i0 i1).1; have o1 := (hR_16.2.1 i i0 i1).1; have x := (eA_ti (j := i) (hF88.2.1 14 (by decide))).trans (q19 i i0 i1); have m := q95 (94 + 2 * i) (by omega) (by omega); have y1 := eA_ti (j := ((94 + 2 * i))) (hF8.2.1 234 (by decide)); have y2 := eA_ti (j := (5510 + ((94 + 2 * i)))) (hF8.2.1 234 (by decide)); have y3 := eA_ti (j := ((94 + 2 * i))) (hF8.2.1 233 (by decide)); (try split at x) <;> (try split at x) <;> (try split at m) <;> (try split at m) <;> omega) | (have t0_ := hI0.t0; have t1_ := hI0.t1; have o := (hR_14.2.1 i i0 i1).1; have o0 := (hR_15.2.1 i i0 i1).1; have o1 := (hR_16.2.1 i i0 i1).1; have x := (eA_ti (j := i) (hF88.2.1 14 (by decide))).trans (q19 i i0 i1); have m := q95 (94 + 2 * i) (by omega) (by omega); have y1 := eA_ti (j := ((94 + 2 * i))) (hF8.2.1 234 (by decide)); have y2 := eA_ti (j := (5510 + ((94 + 2 * i)))) (hF8.2.1 234 (by decide)); have y3 := eA_ti (j := ((94 + 2 * i))) (hF8.2.1 233 (by decide)); (try split at x) <;> (try split at x) <;> (try split at m) <;> (try split at m) <;> omega)), (by first | (clear f38 f39 f40 f41 f42 f43 f44 f45 f46 f47 f48 f49 f50 f51 f54 f55 f56 f64 f65 f66 f67 f68 f69 f70 f71 f72 f73 f74 f75 f76 f77 f80 f81 f82 f112 f113 f114 f115 f116 f117 f118 f119 f120 f121 f122 f123 f124 f125 f128 f129 f130 f138 f139 f140 f141 f142 f143 f144 f145 f146 f147 f148 f149 f150 f151 f154 f155 f156; have t0_ := hI0.t0; have t1_ := hI0.t1; have o := (hR_14.2.1 i i0 i1).2; have o0 := (hR_15.2.1 i i0 i1).2; have o1 := (hR_16.2.1 i i0 i1).2; have x := (eA_ti (j := i) (hF88.2.1 15 (by decide))).trans (q20 i i0 i1); have m := q95 (94 + 2 * i + 1) (by omega) (by omega); have y1 := eA_ti (j := ((94 + 2 * i + 1))) (hF8.2.1 234 (by decide)); have y2 := eA_ti (j := (5510 + ((94 + 2 * i + 1)))) (hF8.2.1 234 (by decide)); have y3 := eA_ti (j := ((94 + 2 * i + 1))) (hF8.2.1 233 (by decide)); (try split at x) <;> (try split at x) <;> (try split at m) <;> (try split at m) <;> omega) | (have t0_ := hI0.t0; have t1_ := hI0.t1; have o := (hR_14.2.1 i i0 i1).2; have o0 := (hR_15.2.1 i i0 i1).2; have o1 := (hR_16.2.1 i i0 i1).2; have x := (eA_ti (j := i) (hF88.2.1 15 (by decide))).trans (q20 i i0 i1); have m := q95 (94 + 2 * i + 1) (by omega) (by omega); have y1 := eA_ti (j := ((94 + 2 * i + 1))) (hF8.2.1 234 (by decide)); have y2 := eA_ti (j := (5510 + ((94 + 2 * i + 1)))) (hF8.2.1 234 (by decide)); have y3 := eA_ti (j := ((94 + 2 * i + 1))) (hF8.2.1 233 (by decide)); (try split at x) <;> (try split at x) <;> (try split at m) <;> (try split at m) <;> omega))⟩, fun i i0 i1 => (by first | (clear f38 f39 f40 f41 f42 f43 f44 f45 f46 f47 f48 f49 f50 f51 f54 f55 f56 f64 f65 f66 f67 f68 f69 f70 f71 f72 f73 f74 f75 f76 f77 f80 f81 f82 f112 f113 f114 f115 f116 f117 f118 f119 f120 f121 f122 f123 f124 f125 f128 f129 f130 f138 f139 f140 f141 f142 f143 f144 f145 f146 f147 f148 f149 f150 f151 f154 f155 f156; have t0_ := hI0.t0; have t1_ := hI0.t1; have o : i < 6 * (gI g0 1 4).toInt → _ := fun hz => hR_14.2.2 i i0 hz; have o0 : i < 6 * (gI g0 59 4).toInt → _ := fun hz => hR_15.2.2 i i0 hz; have o1 : i < 6 * (gI g0 116 4).toInt → _ := fun hz => hR_16.2.2 i i0 hz; have t9_ := RgF.at hI87.2.1 (p := 1) (b := 4) rfl; dsimp only at t9_; have i9_ : i < 48 := (by omega); have x := (eA_ti (j := i) (hF88.2.1 5 (by decide))).trans (q21 i i0 i9_); have m := q95 (46 + i) (by omega) (by omega); have y1 := eA_ti (j := ((46 + i))) (hF8.2.1 234 (by decide)); have y2 := eA_ti (j := (5510 + ((46 + i)))) (hF8.2.1 234 (by decide)); have y3 := eA_ti (j := ((46 + i))) (hF8.2.1 233 (by decide)); (try split at x) <;> (try split at x) <;> (try split at m) <;> (try split at m) <;> omega) | (have t0_ := hI0.t0; have t1_ := hI0.t1; have o : i < 6 * (gI g0 1 4).toInt → _ := fun hz => hR_14.2.2 i i0 hz; have o0 : i < 6 * (gI g0 59 4).toInt → _ := fun hz => hR_15.2.2 i i0 hz; have o1 : i < 6 * (gI g0 116 4).toInt → _ := fun hz => hR_16.2.2 i i0 hz; have t9_ := RgF.at hI87.2.1 (p := 1) (b := 4) rfl; dsimp only at t9_; have i9_ : i < 48 := (by omega); have x := (eA_ti (j := i) (hF88.2.1 5 (by decide))).trans (q21 i i0 i9_); have m := q95 (46 + i) (by omega) (by omega); have y1 := eA_ti (j := ((46 + i))) (hF8.2.1 234 (by decide)); have y2 := eA_ti (j := (5510 + ((46 + i)))) (hF8.2.1 234 (by decide)); have y3 := eA_ti (j := ((46 + i))) (hF8.2.1 233 (by decide)); (try split at x) <;> (try split at x) <;> (try split at m) <;> (try split at m) <;> omega))⟩), CI0.cong hR_15 (((hF88.2.1 60 (by decide)).trans (hF8.2.1 60 (by decide)))) (((hF88.2.1 61 (by decide)).trans (hF8.2.1 61 (by decide)))) (((hF88.2.1 62 (by decide)).trans (hF8.2.1 62 (by decide)))) (((hF88.2.1 72 (by decide)).trans (hF8.2.1 72 (by decide)))) (((hF88.2.1 73 (by decide)).trans (hF8.2.1 73 (by decide)))) (((hF88.2.1 63 (by decide)).trans (hF8.2.1 63 (by decide)))) (((hF88.2.1 234 (by decide)).trans (hF8.2.1 234 (by decide)))) (congrArg Int32.toInt (((hF88.1 59 4 (by decide)).trans (hF8.1 59 4 (by decide))))), CI1.cong hR_16 (((hF88.2.1 117 (by decide)).trans (hF8.2.1 117 (by decide)))) (((hF88.2.1 118 (by decide)).trans (hF8.2.1 118 (by decide)))) (((hF88.2.1 119 (by decide)).trans (hF8.2.1 119 (by decide)))) (((hF88.2.1 129 (by decide)).trans (hF8.2.1 129 (by decide)))) (((hF88.2.1 130 (by decide)).trans (hF8.2.1 130 (by decide)))) (((hF88.2.1 120 (by decide)).trans (hF8.2.1 120 (by decide)))) (((hF88.2.1 234 (by decide)).trans (hF8.2.1 234 (by decide)))) (congrArg Int32.toInt (((hF88.1 116 4 (by decide)).trans (hF8.1 116 4 (by decide))))), (show RT _ from fun i i0 i1 => (eA_ti (((hF88.2.1 175 (by decide)).trans (hF8.2.1 175 (by decide))))).trans ((hR_17 i i0 (by omega)).trans (eA_ti (((hF88.2.1 236 (by decide)).trans (hF8.2.1 236 (by decide))))).symm)), (show BYX _ from fun i i0 i1 => by rw [TX.c (((hF88.2.1 175 (by decide)).trans (hF8.2.1 175 (by decide))))]; exact hR_18 i i0 (by have i2 : i < (gI _ 174 1).toInt := i1; show i < (gI g0 174 1).toInt; omega)), (LAWR_back (c := 0) hR_19 (TOLDX_fr hF88 rfl rfl rfl rfl (fe12.1 hR_19.2.2.2.2)) (((hF88.2.1 173 (by decide)).trans (hF8.2.1 173 (by decide)))) (((hF88.1 59 6 (by decide)).trans (hF8.1 59 6 (by decide)))) (((hF88.1 116 6 (by decide)).trans (hF8.1 116 6 (by decide)))) (((hF88.2.1 234 (by decide)).trans (hF8.2.1 234 (by decide)))) (Or.inl ⟨rfl, n5_k, (BCI_c (fe13.1 ⟨n5_e, n5_k⟩) (LSA_fr hF88 rfl) (Or.inl rfl)), i32e (by first | (clear f38 f39 f40 f41 f42 f44 f45 f46 f47 f48 f49 f51 f52 f53 f54 f55 f56 f57 f58 f59 f60 f61 f62 f63 f64 f65 f66 f67 f68 f69 f70 f71 f72 f73 f74 f75 f76 f77 f78 f79 f80 f81 f82 f105 f106 f107 f108 f109 f111 f112 f113 f114 f115 f116 f118 f119 f120 f121 f122 f123 f125 f126 f127 f128 f129 f130 f138 f139 f140 f141 f142 f143 f144 f145 f146 f147 f148 f149 f150 f151 f152 f153 f154 f155 f156; omega) | omega), (fun i i0 i1 => ((RW_p q95 ⟨n85_e, n85_k⟩) i i0 i1).trans (eA_ti (hF8.2.1 234 (by decide))))⟩)), (SETX_fr hF88 rfl rfl rfl rfl rfl (fe12.2 hR_20))⟩)
  · have n157_e : v2.toInt = 0 := by omega
    have n157_1 : v2.toInt ≠ 1 := by omega
    have n157_k : (eA g0 173 0).toInt = 0 := by omega
    refine r_callV 1280 rfl [.ref 0, .int v2] [] (Nat.le_of_ble_eq_true rfl) rfl (T_X10_back_0 _ hI0 v2) ?_
    rintro _ _ ⟨g158, rfl, hI159, hF160, v161, rfl, hr162⟩
    refine At.sti ?_
    have hF163 := Fr.tr hF0 hF160 rfl rfl
    have fe164 : PH _ := hr162.2.2
    replace hr162 := And.intro hr162.1 hr162.2.1
    have fe165 : PH _ := hr162.2.2
    replace hr162 := And.intro hr162.1 hr162.2.1
    obtain ⟨q166, q167, q168, q169, q170, q171, q172, q173⟩ := hr162
    obtain ⟨p174, p175, p176, p177, p178, p179⟩ := (And.intro q166 q167)
    have w180 := p177 ⟨fun h => h.2 n157_k, fun h => n157_1 h.1⟩
    have w181 := p179 ⟨by omega, by omega, fun h => h.2 n157_k, fun h => n157_1 h.1⟩
    clear p175 p176 p177 p178 p179
    clear q167
    have f190 := congrArg Int32.toInt (hF160.1 59 0 rfl)
    have f191 := congrArg Int32.toInt (hF160.1 59 12 rfl)
    have f192 := congrArg Int32.toInt (hF160.1 59 10 rfl)
    have f193 := congrArg Int32.toInt (hF160.1 59 11 rfl)
    have f194 := congrArg Int32.toInt (hF160.1 59 4 rfl)
    have f195 := congrArg Int32.toInt (hF160.1 59 6 rfl)
    have f196 := congrArg Int32.toInt (hF160.1 59 9 rfl)
    have f197 := congrArg Int32.toInt (hF160.1 116 0 rfl)
    have f198 := congrArg Int32.toInt (hF160.1 116 12 rfl)
    have f199 := congrArg Int32.toInt (hF160.1 116 10 rfl)
    have f200 := congrArg Int32.toInt (hF160.1 116 11 rfl)
    have f201 := congrArg Int32.toInt (hF160.1 116 4 rfl)
    have f202 := congrArg Int32.toInt (hF160.1 116 6 rfl)
    have f203 := congrArg Int32.toInt (hF160.1 116 9 rfl)
    have f204 := congrArg Int32.toInt (eA_c (j := 0) (hF160.2.1 173 rfl))
    have f205 := congrArg Int32.toInt (eA_c (j := 1) (hF160.2.1 173 rfl))
    have f206 := congrArg Int32.toInt (hF160.1 174 1 rfl)
    have f207 := congrArg Int32.toInt (hF160.1 0 16 rfl)
    have f208 := congrArg Int32.toInt (hF160.1 176 2 rfl)
    have f209 := congrArg Int32.toInt (eA_c (j := 0) (hF160.2.1 233 rfl))
    have f210 := congrArg Int32.toInt (eA_c (j := 4) (hF160.2.1 233 rfl))
    have f211 := congrArg Int32.toInt (eA_c (j := 5) (hF160.2.1 233 rfl))
    have f212 := congrArg Int32.toInt (eA_c (j := 6) (hF160.2.1 233 rfl))
    have f213 := congrArg Int32.toInt (eA_c (j := 1) (hF160.2.1 233 rfl))
    have f214 := congrArg Int32.toInt (eA_c (j := 2) (hF160.2.1 233 rfl))
    have f215 := congrArg Int32.toInt (eA_c (j := 3) (hF160.2.1 233 rfl))
    have f216 := congrArg Int32.toInt (eA_c (j := 0) (hF160.2.1 234 rfl))
    have f217 := congrArg Int32.toInt (eA_c (j := 4) (hF160.2.1 234 rfl))
    have f218 := congrArg Int32.toInt (eA_c (j := 5) (hF160.2.1 234 rfl))
    have f219 := congrArg Int32.toInt (eA_c (j := 6) (hF160.2.1 234 rfl))
    have f220 := congrArg Int32.toInt (eA_c (j := 1) (hF160.2.1 234 rfl))
    have f221 := congrArg Int32.toInt (eA_c (j := 2) (hF160.2.1 234 rfl))
    have f222 := congrArg Int32.toInt (eA_c (j := 3) (hF160.2.1 234 rfl))
    have f223 := congrArg Int32.toInt (eA_c (j := 5510) (hF160.2.1 234 rfl))
    have f224 := congrArg Int32.toInt (eA_c (j := 5514) (hF160.2.1 234 rfl))
    have f225 := congrArg Int32.toInt (eA_c (j := 5515) (hF160.2.1 234 rfl))
    have f226 := congrArg Int32.toInt (eA_c (j := 5516) (hF160.2.1 234 rfl))
    have f227 := congrArg Int32.toInt (eA_c (j := 5511) (hF160.2.1 234 rfl))
    have f228 := congrArg Int32.toInt (eA_c (j := 5512) (hF160.2.1 234 rfl))
    have f229 := congrArg Int32.toInt (eA_c (j := 5513) (hF160.2.1 234 rfl))
    have f230 := congrArg Int32.toInt (eA_c (j := 0) (hF160.2.1 235 rfl))
    have f231 := congrArg Int32.toInt (eA_c (j := 1) (hF160.2.1 235 rfl))
    have f232 := congrArg Int32.toInt (hF160.1 231 8 rfl)
    have f233 := congrArg Int32.toInt (hF160.1 231 6 rfl)
    have f234 := congrArg Int32.toInt (hF160.1 231 13 rfl)
    refine At.enter rfl ?_
    refine r_pop rfl ?_
    refine r_aload_n e2 ?_
    refine r_sload_n e0 ?_
    refine r_iload_n e3 ?_
    refine r_iconst 1 rfl ?_
    refine q_iadd (i.toInt + 1) rfl hx_1 (fun v235 hv235 => ?_)
    refine q_scald (m := L) hL (i.toInt + 1) hv235 hy_1 (fun v236 hv236 => ?_)
    have sv236 := hv2.symm.trans hv236
    subst sv236
    have n237_e : v2.toInt = 0 := by omega
    have n237_1 : v2.toInt ≠ 1 := by omega
    have n237_k : (eA g158 235 0).toInt = 0 := by omega
    refine r_callV 1290 rfl [.ref 231, .int v2] [] (Nat.le_of_ble_eq_true rfl) rfl (T_X11_back_231 _ hI159 v2) ?_
    rintro _ _ ⟨g238, rfl, hI239, hF240, v241, rfl, hr242⟩
    refine At.sti ?_
    have hF243 := Fr.tr hF163 hF240 rfl rfl
    obtain ⟨q245, q246, q247⟩ := hr242
    obtain ⟨p248, p249, p250, p251, p252, p253⟩ := (And.intro q245 q246)
    have w254 := p251 ⟨fun h => h.2 n237_k, fun h => n237_1 h.1⟩
    have w255 := p253 ⟨by omega, by omega, fun h => h.2 n237_k, fun h => n237_1 h.1⟩
    clear p249 p250 p251 p252 p253
    clear q246
    have f257 := congrArg Int32.toInt (hF240.1 1 0 rfl)
    have f258 := congrArg Int32.toInt (hF240.1 1 12 rfl)
    have f259 := congrArg Int32.toInt (hF240.1 1 10 rfl)
    have f260 := congrArg Int32.toInt (hF240.1 1 11 rfl)
    have f261 := congrArg Int32.toInt (hF240.1 1 4 rfl)
    have f262 := congrArg Int32.toInt (hF240.1 1 6 rfl)
    have f263 := congrArg Int32.toInt (hF240.1 1 9 rfl)
    have f264 := congrArg Int32.toInt (hF240.1 59 0 rfl)
    have f265 := congrArg Int32.toInt (hF240.1 59 12 rfl)
    have f266 := congrArg Int32.toInt (hF240.1 59 10 rfl)
    have f267 := congrArg Int32.toInt (hF240.1 59 11 rfl)
    have f268 := congrArg Int32.toInt (hF240.1 59 4 rfl)
    have f269 := congrArg Int32.toInt (hF240.1 59 6 rfl)
    have f270 := congrArg Int32.toInt (hF240.1 59 9 rfl)
    have f271 := congrArg Int32.toInt (hF240.1 116 0 rfl)
    have f272 := congrArg Int32.toInt (hF240.1 116 12 rfl)
    have f273 := congrArg Int32.toInt (hF240.1 116 10 rfl)
    have f274 := congrArg Int32.toInt (hF240.1 116 11 rfl)
    have f275 := congrArg Int32.toInt (hF240.1 116 4 rfl)
    have f276 := congrArg Int32.toInt (hF240.1 116 6 rfl)
    have f277 := congrArg Int32.toInt (hF240.1 116 9 rfl)
    have f278 := congrArg Int32.toInt (eA_c (j := 0) (hF240.2.1 173 rfl))
    have f279 := congrArg Int32.toInt (eA_c (j := 1) (hF240.2.1 173 rfl))
    have f280 := congrArg Int32.toInt (hF240.1 174 1 rfl)
    have f281 := congrArg Int32.toInt (hF240.1 0 16 rfl)
    have f282 := congrArg Int32.toInt (hF240.1 176 2 rfl)
    have f290 := congrArg Int32.toInt (eA_c (j := 0) (hF240.2.1 234 rfl))
    have f291 := congrArg Int32.toInt (eA_c (j := 4) (hF240.2.1 234 rfl))
    have f292 := congrArg Int32.toInt (eA_c (j := 5) (hF240.2.1 234 rfl))
    have f293 := congrArg Int32.toInt (eA_c (j := 6) (hF240.2.1 234 rfl))
    have f294 := congrArg Int32.toInt (eA_c (j := 1) (hF240.2.1 234 rfl))
    have f295 := congrArg Int32.toInt (eA_c (j := 2) (hF240.2.1 234 rfl))
    have f296 := congrArg Int32.toInt (eA_c (j := 3) (hF240.2.1 234 rfl))
    have f297 := congrArg Int32.toInt (eA_c (j := 5510) (hF240.2.1 234 rfl))
    have f298 := congrArg Int32.toInt (eA_c (j := 5514) (hF240.2.1 234 rfl))
    have f299 := congrArg Int32.toInt (eA_c (j := 5515) (hF240.2.1 234 rfl))
    have f300 := congrArg Int32.toInt (eA_c (j := 5516) (hF240.2.1 234 rfl))
    have f301 := congrArg Int32.toInt (eA_c (j := 5511) (hF240.2.1 234 rfl))
    have f302 := congrArg Int32.toInt (eA_c (j := 5512) (hF240.2.1 234 rfl))
    have f303 := congrArg Int32.toInt (eA_c (j := 5513) (hF240.2.1 234 rfl))
    have f304 := congrArg Int32.toInt (eA_c (j := 0) (hF240.2.1 235 rfl))
    have f305 := congrArg Int32.toInt (eA_c (j := 1) (hF240.2.1 235 rfl))
    have f306 := congrArg Int32.toInt (hF240.1 231 8 rfl)
    have f307 := congrArg Int32.toInt (hF240.1 231 6 rfl)
    have f308 := congrArg Int32.toInt (hF240.1 231 13 rfl)
    refine At.enter rfl ?_
    refine r_pop rfl ?_
    refine r_goto ?_
    exact K _ hI239 (show LwR _ from ⟨by first | (clear f190 f191 f192 f193 f194 f195 f196 f197 f198 f199 f200 f201 f202 f203 f204 f205 f206 f207 f208 f210 f211 f212 f213 f214 f215 f216 f217 f218 f219 f220 f221 f222 f223 f224 f225 f226 f227 f228 f229 f230 f231 f232 f233 f234 f258 f259 f260 f261 f262 f263 f264 f265 f266 f267 f268 f269 f270 f271 f272 f273 f274 f275 f276 f277 f278 f279 f280 f281 f282 f290 f291 f292 f293 f294 f295 f296 f297 f298 f299 f300 f301 f302 f303 f304 f305 f306 f307 f308; omega) | omega, by first | (clear f190 f191 f192 f193 f194 f195 f196 f197 f198 f199 f200 f201 f202 f203 f204 f205 f206 f207 f208 f209 f211 f212 f213 f214 f215 f216 f217 f218 f219 f220 f221 f222 f223 f224 f225 f226 f227 f228 f229 f230 f231 f232 f233 f234 f257 f259 f260 f261 f262 f263 f264 f265 f266 f267 f268 f269 f270 f271 f272 f273 f274 f275 f276 f277 f278 f279 f280 f281 f282 f290 f291 f292 f293 f294 f295 f296 f297 f298 f299 f300 f301 f302 f303 f304 f305 f306 f307 f308; omega) | omega, by first | (clear f190 f191 f192 f193 f194 f195 f196 f197 f198 f199 f200 f201 f202 f203 f204 f205 f206 f207 f208 f209 f210 f212 f213 f214 f215 f216 f217 f218 f219 f220 f221 f222 f223 f224 f225 f226 f227 f228 f229 f230 f231 f232 f233 f234 f257 f258 f260 f261 f262 f263 f264 f265 f266 f267 f268 f269 f270 f271 f272 f273 f274 f275 f276 f277 f278 f279 f280 f281 f282 f290 f291 f292 f293 f294 f295 f296 f297 f298 f299 f300 f301 f302 f303 f304 f305 f306 f307 f308; omega) | omega, by first | (clear f190 f191 f192 f193 f194 f195 f196 f197 f198 f199 f200 f201 f202 f203 f204 f205 f206 f207 f208 f209 f210 f211 f213 f214 f215 f216 f217 f218 f219 f220 f221 f222 f223 f224 f225 f226 f227 f228 f229 f230 f231 f232 f233 f234 f257 f258 f259 f261 f262 f263 f264 f265 f266 f267 f268 f269 f270 f271 f272 f273 f274 f275 f276 f277 f278 f279 f280 f281 f282 f290 f291 f292 f293 f294 f295 f296 f297 f298 f299 f300 f301 f302 f303 f304 f305 f306 f307 f308; omega) | omega, by first | (clear f190 f191 f192 f193 f194 f195 f196 f197 f198 f199 f200 f201 f202 f203 f204 f205 f206 f207 f208 f209 f210 f211 f212 f214 f215 f216 f217 f218 f219 f220 f221 f222 f223 f224 f225 f226 f227 f228 f229 f230 f231 f232 f233 f234 f257 f258 f259 f260 f262 f263 f264 f265 f266 f267 f268 f269 f270 f271 f272 f273 f274 f275 f276 f277 f278 f279 f280 f281 f282 f290 f291 f292 f293 f294 f295 f296 f297 f298 f299 f300 f301 f302 f303 f304 f305 f306 f307 f308; omega) | omega, by first | (clear f190 f191 f192 f193 f194 f195 f196 f197 f198 f199 f200 f201 f202 f203 f204 f205 f206 f207 f208 f209 f210 f211 f212 f213 f215 f216 f217 f218 f219 f220 f221 f222 f223 f224 f225 f226 f227 f228 f229 f230 f231 f232 f233 f234 f257 f258 f259 f260 f261 f263 f264 f265 f266 f267 f268 f269 f270 f271 f272 f273 f274 f275 f276 f277 f278 f279 f280 f281 f282 f290 f291 f292 f293 f294 f295 f296 f297 f298 f299 f300 f301 f302 f303 f304 f305 f306 f307 f308; omega) | omega, by first | (clear f190 f191 f192 f193 f194 f195 f196 f197 f198 f199 f200 f201 f202 f203 f204 f205 f206 f207 f208 f209 f210 f211 f212 f213 f214 f216 f217 f218 f219 f220 f221 f222 f223 f224 f225 f226 f227 f228 f229 f230 f231 f232 f233 f234 f257 f258 f259 f260 f261 f262 f264 f265 f266 f267 f268 f269 f270 f271 f272 f273 f274 f275 f276 f277 f278 f279 f280 f281 f282 f290 f291 f292 f293 f294 f295 f296 f297 f298 f299 f300 f301 f302 f303 f304 f305 f306 f307 f308; omega) | omega, (eA_ti (j := 0) (((hF240.2.1 173 (by decide)).trans (hF160.2.1 173 (by decide))))).trans (hR_7.trans (eA_ti (j := 0) (((hF240.2.1 235 (by decide)).trans (hF160.2.1 235 (by decide))))).symm), (eA_ti (j := 1) (((hF240.2.1 173 (by decide)).trans (hF160.2.1 173 (by decide))))).trans (hR_8.trans (eA_ti (j := 1) (((hF240.2.1 235 (by decide)).trans (hF160.2.1 235 (by decide))))).symm), (congrArg Int32.toInt (((hF240.1 174 1 (by decide)).trans (hF160.1 174 1 (by decide))))).trans (hR_9.trans (congrArg Int32.toInt (((hF240.1 231 8 (by decide)).trans (hF160.1 231 8 (by decide))))).symm), (congrArg Int32.toInt (((hF240.1 0 16 (by decide)).trans (hF160.1 0 16 (by decide))))).trans (hR_10.trans (congrArg Int32.toInt (((hF240.1 231 6 (by decide)).trans (hF160.1 231 6 (by decide))))).symm), (congrArg Int32.toInt (((hF240.1 176 2 (by decide)).trans (hF160.1 176 2 (by decide))))).trans (hR_11.trans (congrArg Int32.toInt (((hF240.1 231 13 (by decide)).trans (hF160.1 231 13 (by decide))))).symm), IM0.cong hR_12 (eA_ti (j := 0) (((hF240.2.1 173 (by decide)).trans (hF160.2.1 173 (by decide))))) (congrArg Int32.toInt (((hF240.1 59 0 (by decide)).trans (hF160.1 59 0 (by decide))))) (eA_ti (j := 0) (((hF240.2.1 234 (by decide)).trans (hF160.2.1 234 (by decide))))) (congrArg Int32.toInt (((hF240.1 59 12 (by decide)).trans (hF160.1 59 12 (by decide))))) (eA_ti (j := 4) (((hF240.2.1 234 (by decide)).trans (hF160.2.1 234 (by decide))))) (congrArg Int32.toInt (((hF240.1 59 10 (by decide)).trans (hF160.1 59 10 (by decide))))) (eA_ti (j := 5) (((hF240.2.1 234 (by decide)).trans (hF160.2.1 234 (by decide))))) (congrArg Int32.toInt (((hF240.1 59 11 (by decide)).trans (hF160.1 59 11 (by decide))))) (eA_ti (j := 6) (((hF240.2.1 234 (by decide)).trans (hF160.2.1 234 (by decide))))) (congrArg Int32.toInt (((hF240.1 59 4 (by decide)).trans (hF160.1 59 4 (by decide))))) (eA_ti (j := 1) (((hF240.2.1 234 (by decide)).trans (hF160.2.1 234 (by decide))))) (congrArg Int32.toInt (((hF240.1 59 6 (by decide)).trans (hF160.1 59 6 (by decide))))) (eA_ti (j := 2) (((hF240.2.1 234 (by decide)).trans (hF160.2.1 234 (by decide))))) (congrArg Int32.toInt (((hF240.1 59 9 (by decide)).trans (hF160.1 59 9 (by decide))))) (eA_ti (j := 3) (((hF240.2.1 234 (by decide)).trans (hF160.2.1 234 (by decide))))), IM1.cong hR_13 (eA_ti (j := 1) (((hF240.2.1 173 (by decide)).trans (hF160.2.1 173 (by decide))))) (congrArg Int32.toInt (((hF240.1 116 0 (by decide)).trans (hF160.1 116 0 (by decide))))) (eA_ti (j := 5510) (((hF240.2.1 234 (by decide)).trans (hF160.2.1 234 (by decide))))) (congrArg Int32.toInt (((hF240.1 116 12 (by decide)).trans (hF160.1 116 12 (by decide))))) (eA_ti (j := 5514) (((hF240.2.1 234 (by decide)).trans (hF160.2.1 234 (by decide))))) (congrArg Int32.toInt (((hF240.1 116 10 (by decide)).trans (hF160.1 116 10 (by decide))))) (eA_ti (j := 5515) (((hF240.2.1 234 (by decide)).trans (hF160.2.1 234 (by decide))))) (congrArg Int32.toInt (((hF240.1 116 11 (by decide)).trans (hF160.1 116 11 (by decide))))) (eA_ti (j := 5516) (((hF240.2.1 234 (by decide)).trans (hF160.2.1 234 (by decide))))) (congrArg Int32.toInt (((hF240.1 116 4 (by decide)).trans (hF160.1 116 4 (by decide))))) (eA_ti (j := 5511) (((hF240.2.1 234 (by decide)).trans (hF160.2.1 234 (by decide))))) (congrArg Int32.toInt (((hF240.1 116 6 (by decide)).trans (hF160.1 116 6 (by decide))))) (eA_ti (j := 5512) (((hF240.2.1 234 (by decide)).trans (hF160.2.1 234 (by decide))))) (congrArg Int32.toInt (((hF240.1 116 9 (by decide)).trans (hF160.1 116 9 (by decide))))) (eA_ti (j := 5513) (((hF240.2.1 234 (by decide)).trans (hF160.2.1 234 (by decide))))), (show CT _ from ⟨fun i i0 i1 => ⟨(by first | (clear f190 f191 f192 f193 f194 f195 f196 f197 f198 f199 f200 f201 f202 f203 f206 f207 f208 f216 f217 f218 f219 f220 f221 f222 f223 f224 f225 f226 f227 f228 f229 f232 f233 f234 f264 f265 f266 f267 f268 f269 f270 f271 f272 f273 f274 f275 f276 f277 f280 f281 f282 f290 f291 f292 f293 f294 f295 f296 f297 f298 f299 f300 f301 f302 f303 f306 f307 f308; have t0_ := hI0.t0; have t1_ := hI0.t1; have o := (hR_14.1 i i0 i1).1; have o0 := (hR_15.1 i i0 i1).1; have o1 := (hR_16.1 i i0 i1).1; have x := (eA_ti (j := i) (hF240.2.1 2 (by decide))).trans (q168 i i0 i1); have m := q247 (10 + 3 * i) (by omega) (by omega); have y1 := eA_ti (j := ((10 + 3 * i))) (hF160.2.1 234 (by decide)); have y2 := eA_ti (j := (5510 + ((10 + 3 * i)))) (hF160.2.1 234 (by decide)); have y3 := eA_ti (j := ((10 + 3 * i))) (hF160.2.1 233 (by decide)); (try split at x) <;> (try split at x) <;> (try split at m) <;> (try split at m) <;> omega) | (have t0_ := hI0.t0; have t1_ := hI0.t1; have o := (hR_14.1 i i0 i1).1; have o0 := (hR_15.1 i i0 i1).1; have o1 := (hR_16.1 i i0 i1).1; have x := (eA_ti (j := i) (hF240.2.1 2 (by decide))).trans (q168 i i0 i1); have m := q247 (10 + 3 * i) (by omega) (by omega); have y1 := eA_ti (j := ((10 + 3 * i))) (hF160.2.1 234 (by decide)); have y2 := eA_ti (j := (5510 + ((10 + 3 * i)))) (hF160.2.1 234 (by decide)); have y3 := eA_ti (j := ((10 + 3 * i))) (hF160.2.1 233 (by decide)); (try split at x) <;> (try split at x) <;> (try split at m) <;> (try split at m) <;> omega)), (by first | (clear f190 f191 f192 f193 f194 f195 f196 f197 f198 f199 f200 f201 f202 f203 f206 f207 f208 f216 f217 f218 f219 f220 f221 f222 f223 f224 f225 f226 f227 f228 f229 f232 f233 f234 f264 f265 f266 f267 f268 f269 f270 f271 f272 f273 f274 f275 f276 f277 f280 f281 f282 f290 f291 f292 f293 f294 f295 f296 f297 f298 f299 f300 f301 f302 f303 f306 f307 f308; have t0_ := hI0.t0; have t1_ := hI0.t1; have o := (hR_14.1 i i0 i1).2.1; have o0 := (hR_15.1 i i0 i1).2.1; have o1 := (hR_16.1 i i0 i1).2.1; have x := (eA_ti (j := i) (hF240.2.1 3 (by decide))).trans (q169 i i0 i1); have m := q247 (10 + 3 * i + 1) (by omega) (by omega); have y1 := eA_ti (j := ((10 + 3 * i + 1))) (hF160.2.1 234 (by decide)); have y2 := eA_ti (j := (5510 + ((10 + 3 * i + 1)))) (hF160.2.1 234 (by decide)); have y3 := eA_ti (j := ((10 + 3 * i + 1))) (hF160.2.1 233 (by decide)); (try split at x) <;> (try split at x) <;> (try split at m) <;> (try split at m) <;> omega) | (have t0_ := hI0.t0; have t1_ := hI0.t1; have o := (hR_14.1 i i0 i1).2.1; have o0 := (hR_15.1 i i0 i1).2.1; have o1 := (hR_16.1 i i0 i1).2.1; have x := (eA_ti (j := i) (hF240.2.1 3 (by decide))).trans (q169 i i0 i1); have m := q247 (10 + 3 * i + 1) (by omega) (by omega); have y1 := eA_ti (j := ((10 + 3 * i + 1))) (hF160.2.1 234 (by decide)); have y2 := eA_ti (j := (5510 + ((10 + 3 * i + 1)))) (hF160.2.1 234 (by decide)); have y3 := eA_ti (j := ((10 + 3 * i + 1))) (hF160.2.1 233 (by decide)); (try split at x) <;> (try split at x) <;> (try split at m) <;> (try split at m) <;> omega)), (by first | (clear f190 f191 f192 f193 f194 f195 f196 f197 f198 f199 f200 f201 f202 f203 f206 f207 f208 f216 f217 f218 f219 f220 f221 f222 f223 f224 f225 f226 f227 f228 f229 f232 f233 f234 f264 f265 f266 f267 f268 f269 f270 f271 f272 f273 f274 f275 f276 f277 f280 f281 f282 f290 f291 f292 f293 f294 f295 f296 f297 f298 f299 f300 f301 f302 f303 f306 f307 f308; have t0_ := hI0.t0; have t1_ := hI0.t1; have o := (hR_14.1 i i0 i1).2.2; have o0 := (hR_15.1 i i0 i1).2.2; have o1 := (hR_16.1 i i0 i1).2.2; have x := (eA_ti (j := i) (hF240.2.1 4 (by decide))).trans (q170 i i0 i1); have m := q247 (10 + 3 * i + 2) (by omega) (by omega); have y1 := eA_ti (j := ((10 + 3 * i + 2))) (hF160.2.1 234 (by decide)); have y2 := eA_ti (j := (5510 + ((10 + 3 * i + 2)))) (hF160.2.1 234 (by decide)); have y3 := eA_ti (j := ((10 + 3 * i + 2))) (hF160.2.1 233 (by decide)); (try split at x) <;> (try split at x) <;> (try split at m) <;> (try split at m) <;> omega) | (have t0_ := hI0.t0; have t1_ := hI0.t1; have o := (hR_14.1 i i0 i1).2.2; have o0 := (hR_15.1 i i0 i1).2.2; have o1 := (hR_16.1 i i0 i1).2.2; have x := (eA_ti (j := i) (hF240.2.1 4 (by decide))).trans (q170 i i0 i1); have m := q247 (10 + 3 * i + 2) (by omega) (by omega); have y1 := eA_ti (j := ((10 + 3 * i + 2))) (hF160.2.1 234 (by decide)); have y2 := eA_ti (j := (5510 + ((10 + 3 * i + 2)))) (hF160.2.1 234 (by decide)); have y3 := eA_ti (j := ((10 + 3 * i + 2))) (hF160.2.1 233 (by decide)); (try split at x) <;> (try split at x) <;> (try split at m) <;> (try split at m) <;> omega))⟩, fun i i0 i1 => ⟨(by first | (clear f190 f191 f192 f193 f194 f195 f196 f197 f198 f199 f200 f201 f202 f203 f206 f207 f208 f216 f217 f218 f219 f220 f221 f222 f223 f224 f225 f226 f227 f228 f229 f232 f233 f234 f264 f265 f266 f267 f268 f269 f270 f271 f272 f273 f274 f275 f276 f277 f280 f281 f282 f290 f291 f292 f293 f294 f295 f296 f297 f298 f299 f300 f301 f302 f303 f306 f307 f308; have t0_ := hI0.t0; have t1_ := hI0.t1; have o := (hR_14.2.1 i i0 i1).1; have o0 := (hR_15.2.1 i i0 i1).1; have o1 := (hR_16.2.1 i i0 i1).1; have x := (eA_ti (j := i) (hF240.2.1 14 (by decide))).trans (q171 i i0 i1); have m := q247 (94 + 2 * i) (by omega) (by omega); have y1 := eA_ti (j := ((94 + 2 * i))) (hF160.2.1 234 (by decide)); have y2 := eA_ti (j := (5510 + ((94 + 2 * i)))) (hF160.2.1 234 (by decide)); have y3 := eA_ti (j := ((94 + 2 * i))) (hF160.2.1 233 (by decide)); (try split at x) <;> (try split at x) <;> (try split at m) <;> (try split at m) <;> omega) | (have t0_ := hI0.t0; have t1_ := hI0.t1; have o := (hR_14.2.1 i i0 i1).1; have o0 := (hR_15.2.1 i i0 i1).1; have o1 := (hR_16.2.1 i i0 i1).1; have x := (eA_ti (j := i) (hF240.2.1 14 (by decide))).trans (q171 i i0 i1); have m := q247 (94 + 2 * i) (by omega) (by omega); have y1 := eA_ti (j := ((94 + 2 * i))) (hF160.2.1 234 (by decide)); have y2 := eA_ti (j := (5510 + ((94 + 2 * i)))) (hF160.2.1 234 (by decide)); have y3 := eA_ti (j := ((94 + 2 * i))) (hF160.2.1 233 (by decide)); (try split at x) <;> (try split at x) <;> (try split at m) <;> (try split at m) <;> omega)), (by first | (clear f190 f191 f192 f193 f194 f195 f196 f197 f198 f199 f200 f201 f202 f203 f206 f207 f208 f216 f217 f218 f219 f220 f221 f222 f223 f224 f225 f226 f227 f228 f229 f232 f233 f234 f264 f265 f266 f267 f268 f269 f270 f271 f272 f273 f274 f275 f276 f277 f280 f281 f282 f290 f291 f292 f293 f294 f295 f296 f297 f298 f299 f300 f301 f302 f303 f306 f307 f308; have t0_ := hI0.t0; have t1_ := hI0.t1; have o := (hR_14.2.1 i i0 i1).2; have o0 := (hR_15.2.1 i i0 i1).2; have o1 := (hR_16.2.1 i i0 i1).2; have x := (eA_ti (j := i) (hF240.2.1 15 (by decide))).trans (q172 i i0 i1); have m := q247 (94 + 2 * i + 1) (by omega) (by omega); have y1 := eA_ti (j := ((94 + 2 * i + 1))) (hF160.2.1 234 (by decide)); have y2 := eA_ti (j := (5510 + ((94 + 2 * i + 1)))) (hF160.2.1 234 (by decide)); have y3 := eA_ti (j := ((94 + 2 * i + 1))) (hF160.2.1 233 (by decide)); (try split at x) <;> (try split at x) <;> (try split at m) <;> (try split at m) <;> omega) | (have t0_ := hI0.t0; have t1_ := hI0.t1; have o := (hR_14.2.1 i i0 i1).2; have o0 := (hR_15.2.1 i i0 i1).2; have o1 := (hR_16.2.1 i i0 i1).2; have x := (eA_ti (j := i) (hF240.2.1 15 (by decide))).trans (q172 i i0 i1); have m := q247 (94 + 2 * i + 1) (by omega) (by omega); have y1 := eA_ti (j := ((94 + 2 * i + 1))) (hF160.2.1 234 (by decide)); have y2 := eA_ti (j := (5510 + ((94 + 2 * i + 1)))) (hF160.2.1 234 (by decide)); have y3 := eA_ti (j := ((94 + 2 * i + 1))) (hF160.2.1 233 (by decide)); (try split at x) <;> (try split at x) <;> (try split at m) <;> (try split at m) <;> omega))⟩, fun i i0 i1 => (by first | (clear f190 f191 f192 f193 f194 f195 f196 f197 f198 f199 f200 f201 f202 f203 f206 f207 f208 f216 f217 f218 f219 f220 f221 f222 f223 f224 f225 f226 f227 f228 f229 f232 f233 f234 f264 f265 f266 f267 f268 f269 f270 f271 f272 f273 f274 f275 f276 f277 f280 f281 f282 f290 f291 f292 f293 f294 f295 f296 f297 f298 f299 f300 f301 f302 f303 f306 f307 f308; have t0_ := hI0.t0; have t1_ := hI0.t1; have o : i < 6 * (gI g0 1 4).toInt → _ := fun hz => hR_14.2.2 i i0 hz; have o0 : i < 6 * (gI g0 59 4).toInt → _ := fun hz => hR_15.2.2 i i0 hz; have o1 : i < 6 * (gI g0 116 4).toInt → _ := fun hz => hR_16.2.2 i i0 hz; have t9_ := RgF.at hI239.2.1 (p := 1) (b := 4) rfl; dsimp only at t9_; have i9_ : i < 48 := (by omega); have x := (eA_ti (j := i) (hF240.2.1 5 (by decide))).trans (q173 i i0 i9_); have m := q247 (46 + i) (by omega) (by omega); have y1 := eA_ti (j := ((46 + i))) (hF160.2.1 234 (by decide)); have y2 := eA_ti (j := (5510 + ((46 + i)))) (hF160.2.1 234 (by decide)); have y3 := eA_ti (j := ((46 + i))) (hF160.2.1 233 (by decide)); (try split at x) <;> (try split at x) <;> (try split at m) <;> (try split at m) <;> omega) | (have t0_ := hI0.t0; have t1_ := hI0.t1; have o : i < 6 * (gI g0 1 4).toInt → _ := fun hz => hR_14.2.2 i i0 hz; have o0 : i < 6 * (gI g0 59 4).toInt → _ := fun hz => hR_15.2.2 i i0 hz; have o1 : i < 6 * (gI g0 116 4).toInt → _ := fun hz => hR_16.2.2 i i0 hz; have t9_ := RgF.at hI239.2.1 (p := 1) (b := 4) rfl; dsimp only at t9_; have i9_ : i < 48 := (by omega); have x := (eA_ti (j := i) (hF240.2.1 5 (by decide))).trans (q173 i i0 i9_); have m := q247 (46 + i) (by omega) (by omega); have y1 := eA_ti (j := ((46 + i))) (hF160.2.1 234 (by decide)); have y2 := eA_ti (j := (5510 + ((46 + i)))) (hF160.2.1 234 (by decide)); have y3 := eA_ti (j := ((46 + i))) (hF160.2.1 233 (by decide)); (try split at x) <;> (try split at x) <;> (try split at m) <;> (try split at m) <;> omega))⟩), CI0.cong hR_15 (((hF240.2.1 60 (by decide)).trans (hF160.2.1 60 (by decide)))) (((hF240.2.1 61 (by decide)).trans (hF160.2.1 61 (by decide)))) (((hF240.2.1 62 (by decide)).trans (hF160.2.1 62 (by decide)))) (((hF240.2.1 72 (by decide)).trans (hF160.2.1 72 (by decide)))) (((hF240.2.1 73 (by decide)).trans (hF160.2.1 73 (by decide)))) (((hF240.2.1 63 (by decide)).trans (hF160.2.1 63 (by decide)))) (((hF240.2.1 234 (by decide)).trans (hF160.2.1 234 (by decide)))) (congrArg Int32.toInt (((hF240.1 59 4 (by decide)).trans (hF160.1 59 4 (by decide))))), CI1.cong hR_16 (((hF240.2.1 117 (by decide)).trans (hF160.2.1 117 (by decide)))) (((hF240.2.1 118 (by decide)).trans (hF160.2.1 118 (by decide)))) (((hF240.2.1 119 (by decide)).trans (hF160.2.1 119 (by decide)))) (((hF240.2.1 129 (by decide)).trans (hF160.2.1 129 (by decide)))) (((hF240.2.1 130 (by decide)).trans (hF160.2.1 130 (by decide)))) (((hF240.2.1 120 (by decide)).trans (hF160.2.1 120 (by decide)))) (((hF240.2.1 234 (by decide)).trans (hF160.2.1 234 (by decide)))) (congrArg Int32.toInt (((hF240.1 116 4 (by decide)).trans (hF160.1 116 4 (by decide))))), (show RT _ from fun i i0 i1 => (eA_ti (((hF240.2.1 175 (by decide)).trans (hF160.2.1 175 (by decide))))).trans ((hR_17 i i0 (by omega)).trans (eA_ti (((hF240.2.1 236 (by decide)).trans (hF160.2.1 236 (by decide))))).symm)), (show BYX _ from fun i i0 i1 => by rw [TX.c (((hF240.2.1 175 (by decide)).trans (hF160.2.1 175 (by decide))))]; exact hR_18 i i0 (by have i2 : i < (gI _ 174 1).toInt := i1; show i < (gI g0 174 1).toInt; omega)), (LAWR_n hR_19 (LSA_tr (fe165.2.2 ⟨(fun h => h.2 n157_k), (fun h => n157_1 h.1)⟩) (LSA_fr hF240 rfl)) (by omega) (by omega) (by omega) (by omega) (by omega) (fun i i0 i1 => ((RW_n (fun i i0 i1 => (q247 i i0 i1).trans (if_neg (fun h => h.2 n237_k))) (fun h => n237_1 h.1)) i i0 i1).trans (eA_ti (hF160.2.1 233 (by decide)))) (fun i i0 i1 => ⟨eA_ti (((hF240.2.1 234 (by decide)).trans (hF160.2.1 234 (by decide)))), eA_ti (((hF240.2.1 234 (by decide)).trans (hF160.2.1 234 (by decide))))⟩) (TOLDX_fr hF240 rfl rfl rfl rfl (fe164.1 hR_19.2.2.2.2))), (SETX_fr hF240 rfl rfl rfl rfl rfl (fe164.2 hR_20))⟩)
  · have n309_e : v2.toInt = 1 := by omega
    have n309_0 : v2.toInt ≠ 0 := by omega
    have n309_k : (eA g0 173 1).toInt ≠ 0 := by omega
    have n309_i := hR_13 (by omega)
    refine r_callV 1280 rfl [.ref 0, .int v2] [] (Nat.le_of_ble_eq_true rfl) rfl (T_X10_back_0 _ hI0 v2) ?_
    rintro _ _ ⟨g310, rfl, hI311, hF312, v313, rfl, hr314⟩
    refine At.sti ?_
    have hF315 := Fr.tr hF0 hF312 rfl rfl
    have fe316 : PH _ := hr314.2.2
    replace hr314 := And.intro hr314.1 hr314.2.1
    have fe317 : PH _ := hr314.2.2
    replace hr314 := And.intro hr314.1 hr314.2.1
    obtain ⟨q318, q319, q320, q321, q322, q323, q324, q325⟩ := hr314
    obtain ⟨p326, p327, p328, p329, p330, p331⟩ := (And.intro q318 q319)
    have w332 := p328 ⟨n309_e, n309_k⟩
    clear p327 p328 p329 p330 p331
    clear q319
    have f342 := congrArg Int32.toInt (hF312.1 59 0 rfl)
    have f343 := congrArg Int32.toInt (hF312.1 59 12 rfl)
    have f344 := congrArg Int32.toInt (hF312.1 59 10 rfl)
    have f345 := congrArg Int32.toInt (hF312.1 59 11 rfl)
    have f346 := congrArg Int32.toInt (hF312.1 59 4 rfl)
    have f347 := congrArg Int32.toInt (hF312.1 59 6 rfl)
    have f348 := congrArg Int32.toInt (hF312.1 59 9 rfl)
    have f349 := congrArg Int32.toInt (hF312.1 116 0 rfl)
    have f350 := congrArg Int32.toInt (hF312.1 116 12 rfl)
    have f351 := congrArg Int32.toInt (hF312.1 116 10 rfl)
    have f352 := congrArg Int32.toInt (hF312.1 116 11 rfl)
    have f353 := congrArg Int32.toInt (hF312.1 116 4 rfl)
    have f354 := congrArg Int32.toInt (hF312.1 116 6 rfl)
    have f355 := congrArg Int32.toInt (hF312.1 116 9 rfl)
    have f356 := congrArg Int32.toInt (eA_c (j := 0) (hF312.2.1 173 rfl))
    have f357 := congrArg Int32.toInt (eA_c (j := 1) (hF312.2.1 173 rfl))
    have f358 := congrArg Int32.toInt (hF312.1 174 1 rfl)
    have f359 := congrArg Int32.toInt (hF312.1 0 16 rfl)
    have f360 := congrArg Int32.toInt (hF312.1 176 2 rfl)
    have f361 := congrArg Int32.toInt (eA_c (j := 0) (hF312.2.1 233 rfl))
    have f362 := congrArg Int32.toInt (eA_c (j := 4) (hF312.2.1 233 rfl))
    have f363 := congrArg Int32.toInt (eA_c (j := 5) (hF312.2.1 233 rfl))
    have f364 := congrArg Int32.toInt (eA_c (j := 6) (hF312.2.1 233 rfl))
    have f365 := congrArg Int32.toInt (eA_c (j := 1) (hF312.2.1 233 rfl))
    have f366 := congrArg Int32.toInt (eA_c (j := 2) (hF312.2.1 233 rfl))
    have f367 := congrArg Int32.toInt (eA_c (j := 3) (hF312.2.1 233 rfl))
    have f368 := congrArg Int32.toInt (eA_c (j := 0) (hF312.2.1 234 rfl))
    have f369 := congrArg Int32.toInt (eA_c (j := 4) (hF312.2.1 234 rfl))
    have f370 := congrArg Int32.toInt (eA_c (j := 5) (hF312.2.1 234 rfl))
    have f371 := congrArg Int32.toInt (eA_c (j := 6) (hF312.2.1 234 rfl))
    have f372 := congrArg Int32.toInt (eA_c (j := 1) (hF312.2.1 234 rfl))
    have f373 := congrArg Int32.toInt (eA_c (j := 2) (hF312.2.1 234 rfl))
    have f374 := congrArg Int32.toInt (eA_c (j := 3) (hF312.2.1 234 rfl))
    have f375 := congrArg Int32.toInt (eA_c (j := 5510) (hF312.2.1 234 rfl))
    have f376 := congrArg Int32.toInt (eA_c (j := 5514) (hF312.2.1 234 rfl))
    have f377 := congrArg Int32.toInt (eA_c (j := 5515) (hF312.2.1 234 rfl))
    have f378 := congrArg Int32.toInt (eA_c (j := 5516) (hF312.2.1 234 rfl))
    have f379 := congrArg Int32.toInt (eA_c (j := 5511) (hF312.2.1 234 rfl))
    have f380 := congrArg Int32.toInt (eA_c (j := 5512) (hF312.2.1 234 rfl))
    have f381 := congrArg Int32.toInt (eA_c (j := 5513) (hF312.2.1 234 rfl))
    have f382 := congrArg Int32.toInt (eA_c (j := 0) (hF312.2.1 235 rfl))
    have f383 := congrArg Int32.toInt (eA_c (j := 1) (hF312.2.1 235 rfl))
    have f384 := congrArg Int32.toInt (hF312.1 231 8 rfl)
    have f385 := congrArg Int32.toInt (hF312.1 231 6 rfl)
    have f386 := congrArg Int32.toInt (hF312.1 231 13 rfl)
    refine At.enter rfl ?_
    refine r_pop rfl ?_
    refine r_aload_n e2 ?_
    refine r_sload_n e0 ?_
    refine r_iload_n e3 ?_
    refine r_iconst 1 rfl ?_
    refine q_iadd (i.toInt + 1) rfl hx_1 (fun v387 hv387 => ?_)
    refine q_scald (m := L) hL (i.toInt + 1) hv387 hy_1 (fun v388 hv388 => ?_)
    have sv388 := hv2.symm.trans hv388
    subst sv388
    have n389_e : v2.toInt = 1 := by omega
    have n389_0 : v2.toInt ≠ 0 := by omega
    have n389_k : (eA g310 235 1).toInt ≠ 0 := by omega
    refine r_callV 1290 rfl [.ref 231, .int v2] [] (Nat.le_of_ble_eq_true rfl) rfl (T_X11_back_231 _ hI311 v2) ?_
    rintro _ _ ⟨g390, rfl, hI391, hF392, v393, rfl, hr394⟩
    refine At.sti ?_
    have hF395 := Fr.tr hF315 hF392 rfl rfl
    obtain ⟨q397, q398, q399⟩ := hr394
    obtain ⟨p400, p401, p402, p403, p404, p405⟩ := (And.intro q397 q398)
    have w406 := p402 ⟨n389_e, n389_k⟩
    clear p401 p402 p403 p404 p405
    clear q398
    have f409 := congrArg Int32.toInt (hF392.1 1 0 rfl)
    have f410 := congrArg Int32.toInt (hF392.1 1 12 rfl)
    have f411 := congrArg Int32.toInt (hF392.1 1 10 rfl)
    have f412 := congrArg Int32.toInt (hF392.1 1 11 rfl)
    have f413 := congrArg Int32.toInt (hF392.1 1 4 rfl)
    have f414 := congrArg Int32.toInt (hF392.1 1 6 rfl)
    have f415 := congrArg Int32.toInt (hF392.1 1 9 rfl)
    have f416 := congrArg Int32.toInt (hF392.1 59 0 rfl)
    have f417 := congrArg Int32.toInt (hF392.1 59 12 rfl)
    have f418 := congrArg Int32.toInt (hF392.1 59 10 rfl)
    have f419 := congrArg Int32.toInt (hF392.1 59 11 rfl)
    have f420 := congrArg Int32.toInt (hF392.1 59 4 rfl)
    have f421 := congrArg Int32.toInt (hF392.1 59 6 rfl)
    have f422 := congrArg Int32.toInt (hF392.1 59 9 rfl)
    have f423 := congrArg Int32.toInt (hF392.1 116 0 rfl)
    have f424 := congrArg Int32.toInt (hF392.1 116 12 rfl)
    have f425 := congrArg Int32.toInt (hF392.1 116 10 rfl)
    have f426 := congrArg Int32.toInt (hF392.1 116 11 rfl)
    have f427 := congrArg Int32.toInt (hF392.1 116 4 rfl)
    have f428 := congrArg Int32.toInt (hF392.1 116 6 rfl)
    have f429 := congrArg Int32.toInt (hF392.1 116 9 rfl)
    have f430 := congrArg Int32.toInt (eA_c (j := 0) (hF392.2.1 173 rfl))
    have f431 := congrArg Int32.toInt (eA_c (j := 1) (hF392.2.1 173 rfl))
    have f432 := congrArg Int32.toInt (hF392.1 174 1 rfl)
    have f433 := congrArg Int32.toInt (hF392.1 0 16 rfl)
    have f434 := congrArg Int32.toInt (hF392.1 176 2 rfl)
    have f442 := congrArg Int32.toInt (eA_c (j := 0) (hF392.2.1 234 rfl))
    have f443 := congrArg Int32.toInt (eA_c (j := 4) (hF392.2.1 234 rfl))
    have f444 := congrArg Int32.toInt (eA_c (j := 5) (hF392.2.1 234 rfl))
    have f445 := congrArg Int32.toInt (eA_c (j := 6) (hF392.2.1 234 rfl))
    have f446 := congrArg Int32.toInt (eA_c (j := 1) (hF392.2.1 234 rfl))
    have f447 := congrArg Int32.toInt (eA_c (j := 2) (hF392.2.1 234 rfl))
    have f448 := congrArg Int32.toInt (eA_c (j := 3) (hF392.2.1 234 rfl))
    have f449 := congrArg Int32.toInt (eA_c (j := 5510) (hF392.2.1 234 rfl))
    have f450 := congrArg Int32.toInt (eA_c (j := 5514) (hF392.2.1 234 rfl))
    have f451 := congrArg Int32.toInt (eA_c (j := 5515) (hF392.2.1 234 rfl))
    have f452 := congrArg Int32.toInt (eA_c (j := 5516) (hF392.2.1 234 rfl))
    have f453 := congrArg Int32.toInt (eA_c (j := 5511) (hF392.2.1 234 rfl))
    have f454 := congrArg Int32.toInt (eA_c (j := 5512) (hF392.2.1 234 rfl))
    have f455 := congrArg Int32.toInt (eA_c (j := 5513) (hF392.2.1 234 rfl))
    have f456 := congrArg Int32.toInt (eA_c (j := 0) (hF392.2.1 235 rfl))
    have f457 := congrArg Int32.toInt (eA_c (j := 1) (hF392.2.1 235 rfl))
    have f458 := congrArg Int32.toInt (hF392.1 231 8 rfl)
    have f459 := congrArg Int32.toInt (hF392.1 231 6 rfl)
    have f460 := congrArg Int32.toInt (hF392.1 231 13 rfl)
    refine At.enter rfl ?_
    refine r_pop rfl ?_
    refine r_goto ?_
    exact K _ hI391 (show LwR _ from ⟨by first | (clear f342 f343 f344 f345 f346 f347 f348 f349 f350 f351 f352 f353 f354 f355 f356 f357 f358 f359 f360 f362 f363 f364 f365 f366 f367 f368 f369 f370 f371 f372 f373 f374 f375 f376 f377 f378 f379 f380 f381 f382 f383 f384 f385 f386 f410 f411 f412 f413 f414 f415 f416 f417 f418 f419 f420 f421 f422 f423 f424 f425 f426 f427 f428 f429 f430 f431 f432 f433 f434 f442 f443 f444 f445 f446 f447 f448 f449 f450 f451 f452 f453 f454 f455 f456 f457 f458 f459 f460; omega) | omega, by first | (clear f342 f343 f344 f345 f346 f347 f348 f349 f350 f351 f352 f353 f354 f355 f356 f357 f358 f359 f360 f361 f363 f364 f365 f366 f367 f368 f369 f370 f371 f372 f373 f374 f375 f376 f377 f378 f379 f380 f381 f382 f383 f384 f385 f386 f409 f411 f412 f413 f414 f415 f416 f417 f418 f419 f420 f421 f422 f423 f424 f425 f426 f427 f428 f429 f430 f431 f432 f433 f434 f442 f443 f444 f445 f446 f447 f448 f449 f450 f451 f452 f453 f454 f455 f456 f457 f458 f459 f460; omega) | omega, by first | (clear f342 f343 f344 f345 f346 f347 f348 f349 f350 f351 f352 f353 f354 f355 f356 f357 f358 f359 f360 f361 f362 f364 f365 f366 f367 f368 f369 f370 f371 f372 f373 f374 f375 f376 f377 f378 f379 f380 f381 f382 f383 f384 f385 f386 f409 f410 f412 f413 f414 f415 f416 f417 f418 f419 f420 f421 f422 f423 f424 f425 f426 f427 f428 f429 f430 f431 f432 f433 f434 f442 f443 f444 f445 f446 f447 f448 f449 f450 f451 f452 f453 f454 f455 f456 f457 f458 f459 f460; omega) | omega, by first | (clear f342 f343 f344 f345 f346 f347 f348 f349 f350 f351 f352 f353 f354 f355 f356 f357 f358 f359 f360 f361 f362 f363 f365 f366 f367 f368 f369 f370 f371 f372 f373 f374 f375 f376 f377 f378 f379 f380 f381 f382 f383 f384 f385 f386 f409 f410 f411 f413 f414 f415 f416 f417 f418 f419 f420 f421 f422 f423 f424 f425 f426 f427 f428 f429 f430 f431 f432 f433 f434 f442 f443 f444 f445 f446 f447 f448 f449 f450 f451 f452 f453 f454 f455 f456 f457 f458 f459 f460; omega) | omega, by first | (clear f342 f343 f344 f345 f346 f347 f348 f349 f350 f351 f352 f353 f354 f355 f356 f357 f358 f359 f360 f361 f362 f363 f364 f366 f367 f368 f369 f370 f371 f372 f373 f374 f375 f376 f377 f378 f379 f380 f381 f382 f383 f384 f385 f386 f409 f410 f411 f412 f414 f415 f416 f417 f418 f419 f420 f421 f422 f423 f424 f425 f426 f427 f428 f429 f430 f431 f432 f433 f434 f442 f443 f444 f445 f446 f447 f448 f449 f450 f451 f452 f453 f454 f455 f456 f457 f458 f459 f460; omega) | omega, by first | (clear f342 f343 f344 f345 f346 f347 f348 f349 f350 f351 f352 f353 f354 f355 f356 f357 f358 f359 f360 f361 f362 f363 f364 f365 f367 f368 f369 f370 f371 f372 f373 f374 f375 f376 f377 f378 f379 f380 f381 f382 f383 f384 f385 f386 f409 f410 f411 f412 f413 f415 f416 f417 f418 f419 f420 f421 f422 f423 f424 f425 f426 f427 f428 f429 f430 f431 f432 f433 f434 f442 f443 f444 f445 f446 f447 f448 f449 f450 f451 f452 f453 f454 f455 f456 f457 f458 f459 f460; omega) | omega, by first | (clear f342 f343 f344 f345 f346 f347 f348 f349 f350 f351 f352 f353 f354 f355 f356 f357 f358 f359 f360 f361 f362 f363 f364 f365 f366 f368 f369 f370 f371 f372 f373 f374 f375 f376 f377 f378 f379 f380 f381 f382 f383 f384 f385 f386 f409 f410 f411 f412 f413 f414 f416 f417 f418 f419 f420 f421 f422 f423 f424 f425 f426 f427 f428 f429 f430 f431 f432 f433 f434 f442 f443 f444 f445 f446 f447 f448 f449 f450 f451 f452 f453 f454 f455 f456 f457 f458 f459 f460; omega) | omega, (eA_ti (j := 0) (((hF392.2.1 173 (by decide)).trans (hF312.2.1 173 (by decide))))).trans (hR_7.trans (eA_ti (j := 0) (((hF392.2.1 235 (by decide)).trans (hF312.2.1 235 (by decide))))).symm), (eA_ti (j := 1) (((hF392.2.1 173 (by decide)).trans (hF312.2.1 173 (by decide))))).trans (hR_8.trans (eA_ti (j := 1) (((hF392.2.1 235 (by decide)).trans (hF312.2.1 235 (by decide))))).symm), (congrArg Int32.toInt (((hF392.1 174 1 (by decide)).trans (hF312.1 174 1 (by decide))))).trans (hR_9.trans (congrArg Int32.toInt (((hF392.1 231 8 (by decide)).trans (hF312.1 231 8 (by decide))))).symm), (congrArg Int32.toInt (((hF392.1 0 16 (by decide)).trans (hF312.1 0 16 (by decide))))).trans (hR_10.trans (congrArg Int32.toInt (((hF392.1 231 6 (by decide)).trans (hF312.1 231 6 (by decide))))).symm), (congrArg Int32.toInt (((hF392.1 176 2 (by decide)).trans (hF312.1 176 2 (by decide))))).trans (hR_11.trans (congrArg Int32.toInt (((hF392.1 231 13 (by decide)).trans (hF312.1 231 13 (by decide))))).symm), IM0.cong hR_12 (eA_ti (j := 0) (((hF392.2.1 173 (by decide)).trans (hF312.2.1 173 (by decide))))) (congrArg Int32.toInt (((hF392.1 59 0 (by decide)).trans (hF312.1 59 0 (by decide))))) (eA_ti (j := 0) (((hF392.2.1 234 (by decide)).trans (hF312.2.1 234 (by decide))))) (congrArg Int32.toInt (((hF392.1 59 12 (by decide)).trans (hF312.1 59 12 (by decide))))) (eA_ti (j := 4) (((hF392.2.1 234 (by decide)).trans (hF312.2.1 234 (by decide))))) (congrArg Int32.toInt (((hF392.1 59 10 (by decide)).trans (hF312.1 59 10 (by decide))))) (eA_ti (j := 5) (((hF392.2.1 234 (by decide)).trans (hF312.2.1 234 (by decide))))) (congrArg Int32.toInt (((hF392.1 59 11 (by decide)).trans (hF312.1 59 11 (by decide))))) (eA_ti (j := 6) (((hF392.2.1 234 (by decide)).trans (hF312.2.1 234 (by decide))))) (congrArg Int32.toInt (((hF392.1 59 4 (by decide)).trans (hF312.1 59 4 (by decide))))) (eA_ti (j := 1) (((hF392.2.1 234 (by decide)).trans (hF312.2.1 234 (by decide))))) (congrArg Int32.toInt (((hF392.1 59 6 (by decide)).trans (hF312.1 59 6 (by decide))))) (eA_ti (j := 2) (((hF392.2.1 234 (by decide)).trans (hF312.2.1 234 (by decide))))) (congrArg Int32.toInt (((hF392.1 59 9 (by decide)).trans (hF312.1 59 9 (by decide))))) (eA_ti (j := 3) (((hF392.2.1 234 (by decide)).trans (hF312.2.1 234 (by decide))))), IM1.cong hR_13 (eA_ti (j := 1) (((hF392.2.1 173 (by decide)).trans (hF312.2.1 173 (by decide))))) (congrArg Int32.toInt (((hF392.1 116 0 (by decide)).trans (hF312.1 116 0 (by decide))))) (eA_ti (j := 5510) (((hF392.2.1 234 (by decide)).trans (hF312.2.1 234 (by decide))))) (congrArg Int32.toInt (((hF392.1 116 12 (by decide)).trans (hF312.1 116 12 (by decide))))) (eA_ti (j := 5514) (((hF392.2.1 234 (by decide)).trans (hF312.2.1 234 (by decide))))) (congrArg Int32.toInt (((hF392.1 116 10 (by decide)).trans (hF312.1 116 10 (by decide))))) (eA_ti (j := 5515) (((hF392.2.1 234 (by decide)).trans (hF312.2.1 234 (by decide))))) (congrArg Int32.toInt (((hF392.1 116 11 (by decide)).trans (hF312.1 116 11 (by decide))))) (eA_ti (j := 5516) (((hF392.2.1 234 (by decide)).trans (hF312.2.1 234 (by decide))))) (congrArg Int32.toInt (((hF392.1 116 4 (by decide)).trans (hF312.1 116 4 (by decide))))) (eA_ti (j := 5511) (((hF392.2.1 234 (by decide)).trans (hF312.2.1 234 (by decide))))) (congrArg Int32.toInt (((hF392.1 116 6 (by decide)).trans (hF312.1 116 6 (by decide))))) (eA_ti (j := 5512) (((hF392.2.1 234 (by decide)).trans (hF312.2.1 234 (by decide))))) (congrArg Int32.toInt (((hF392.1 116 9 (by decide)).trans (hF312.1 116 9 (by decide))))) (eA_ti (j := 5513) (((hF392.2.1 234 (by decide)).trans (hF312.2.1 234 (by decide))))), (show CT _ from ⟨fun i i0 i1 => ⟨(by first | (clear f342 f343 f344 f345 f346 f347 f348 f349 f350 f351 f352 f353 f354 f355 f358 f359 f360 f368 f369 f370 f371 f372 f373 f374 f375 f376 f377 f378 f379 f380 f381 f384 f385 f386 f416 f417 f418 f419 f420 f421 f422 f423 f424 f425 f426 f427 f428 f429 f432 f433 f434 f442 f443 f444 f445 f446 f447 f448 f449 f450 f451 f452 f453 f454 f455 f458 f459 f460; have t0_ := hI0.t0; have t1_ := hI0.t1; have o := (hR_14.1 i i0 i1).1; have o0 := (hR_15.1 i i0 i1).1; have o1 := (hR_16.1 i i0 i1).1; have x := (eA_ti (j := i) (hF392.2.1 2 (by decide))).trans (q320 i i0 i1); have m := q399 (10 + 3 * i) (by omega) (by omega); have y1 := eA_ti (j := ((10 + 3 * i))) (hF312.2.1 234 (by decide)); have y2 := eA_ti (j := (5510 + ((10 + 3 * i)))) (hF312.2.1 234 (by decide)); have y3 := eA_ti (j := ((10 + 3 * i))) (hF312.2.1 233 (by decide)); (try split at x) <;> (try split at x) <;> (try split at m) <;> (try split at m) <;> omega) | (have t0_ := hI0.t0; have t1_ := hI0.t1; have o := (hR_14.1 i i0 i1).1; have o0 := (hR_15.1 i i0 i1).1; have o1 := (hR_16.1 i i0 i1).1; have x := (eA_ti (j := i) (hF392.2.1 2 (by decide))).trans (q320 i i0 i1); have m := q399 (10 + 3 * i) (by omega) (by omega); have y1 := eA_ti (j := ((10 + 3 * i))) (hF312.2.1 234 (by decide)); have y2 := eA_ti (j := (5510 + ((10 + 3 * i)))) (hF312.2.1 234 (by decide)); have y3 := eA_ti (j := ((10 + 3 * i))) (hF312.2.1 233 (by decide)); (try split at x) <;> (try split at x) <;> (try split at m) <;> (try split at m) <;> omega)), (by first | (clear f342 f343 f344 f345 f346 f347 f348 f349 f350 f351 f352 f353 f354 f355 f358 f359 f360 f368 f369 f370 f371 f372 f373 f374 f375 f376 f377 f378 f379 f380 f381 f384 f385 f386 f416 f417 f418 f419 f420 f421 f422 f423 f424 f425 f426 f427 f428 f429 f432 f433 f434 f442 f443 f444 f445 f446 f447 f448 f449 f450 f451 f452 f453 f454 f455 f458 f459 f460; have t0_ := hI0.t0; have t1_ := hI0.t1; have o := (hR_14.1 i i0 i1).2.1; have o0 := (hR_15.1 i i0 i1).2.1; have o1 := (hR_16.1 i i0 i1).2.1; have x := (eA_ti (j := i) (hF392.2.1 3 (by decide))).trans (q321 i i0 i1); have m := q399 (10 + 3 * i + 1) (by omega) (by omega); have y1 := eA_ti (j := ((10 + 3 * i + 1))) (hF312.2.1 234 (by decide)); have y2 := eA_ti (j := (5510 + ((10 + 3 * i + 1)))) (hF312.2.1 234 (by decide)); have y3 := eA_ti (j := ((10 + 3 * i + 1))) (hF312.2.1 233 (by decide)); (try split at x) <;> (try split at x) <;> (try split at m) <;> (try split at m) <;> omega) | (have t0_ := hI0.t0; have t1_ := hI0.t1; have o := (hR_14.1 i i0 i1).2.1; have o0 := (hR_15.1 i i0 i1).2.1; have o1 := (hR_16.1 i i0 i1).2.1; have x := (eA_ti (j := i) (hF392.2.1 3 (by decide))).trans (q321 i i0 i1); have m := q399 (10 + 3 * i + 1) (by omega) (by omega); have y1 := eA_ti (j := ((10 + 3 * i + 1))) (hF312.2.1 234 (by decide)); have y2 := eA_ti (j := (5510 + ((10 + 3 * i + 1)))) (hF312.2.1 234 (by decide)); have y3 := eA_ti (j := ((10 + 3 * i + 1))) (hF312.2.1 233 (by decide)); (try split at x) <;> (try split at x) <;> (try split at m) <;> (try split at m) <;> omega)), (by first | (clear f342 f343 f344 f345 f346 f347 f348 f349 f350 f351 f352 f353 f354 f355 f358 f359 f360 f368 f369 f370 f371 f372 f373 f374 f375 f376 f377 f378 f379 f380 f381 f384 f385 f386 f416 f417 f418 f419 f420 f421 f422 f423 f424 f425 f426 f427 f428 f429 f432 f433 f434 f442 f443 f444 f445 f446 f447 f448 f449 f450 f451 f452 f453 f454 f455 f458 f459 f460; have t0_ := hI0.t0; have t1_ := hI0.t1; have o := (hR_14.1 i i0 i1).2.2; have o0 := (hR_15.1 i i0 i1).2.2; have o1 := (hR_16.1 i i0 i1).2.2; have x := (eA_ti (j := i) (hF392.2.1 4 (by decide))).trans (q322 i i0 i1); have m := q399 (10 + 3 * i + 2) (by omega) (by omega); have y1 := eA_ti (j := ((10 + 3 * i + 2))) (hF312.2.1 234 (by decide)); have y2 := eA_ti (j := (5510 + ((10 + 3 * i + 2)))) (hF312.2.1 234 (by decide)); have y3 := eA_ti (j := ((10 + 3 * i + 2))) (hF312.2.1 233 (by decide)); (try split at x) <;> (try split at x) <;> (try split at m) <;> (try split at m) <;> omega) | (have t0_ := hI0.t0; have t1_ := hI0.t1; have o := (hR_14.1 i i0 i1).2.2; have o0 := (hR_15.1 i i0 i1).2.2; have o1 := (hR_16.1 i i0 i1).2.2; have x := (eA_ti (j := i) (hF392.2.1 4 (by decide))).trans (q322 i i0 i1); have m := q399 (10 + 3 * i + 2) (by omega) (by omega); have y1 := eA_ti (j := ((10 + 3 * i + 2))) (hF312.2.1 234 (by decide)); have y2 := eA_ti (j := (5510 + ((10 + 3 * i + 2)))) (hF312.2.1 234 (by decide)); have y3 := eA_ti (j := ((10 + 3 * i + 2))) (hF312.2.1 233 (by decide)); (try split at x) <;> (try split at x) <;> (try split at m) <;> (try split at m) <;> omega))⟩, fun i i0 i1 => ⟨(by first | (clear f342 f343 f344 f345 f346 f347 f348 f349 f350 f351 f352 f353 f354 f355 f358 f359 f360 f368 f369 f370 f371 f372 f373 f374 f375 f376 f377 f378 f379 f380 f381 f384 f385 f386 f416 f417 f418 f419 f420 f421 f422 f423 f424 f425 f426 f427 f428 f429 f432 f433 f434 f442 f443 f444 f445 f446 f447 f448 f449 f450 f451 f452 f453 f454 f455 f458 f459 f460; have t0_ := hI0.t0; have t1_ := hI0.t1; have o := (hR_14.2.1 i i0 i1).1; have o0 := (hR_15.2.1 i i0 i1).1; have o1 := (hR_16.2.1 i i0 i1).1; have x := (eA_ti (j := i) (hF392.2.1 14 (by decide))).trans (q323 i i0 i1); have m := q399 (94 + 2 * i) (by omega) (by omega); have y1 := eA_ti (j := ((94 + 2 * i))) (hF312.2.1 234 (by decide)); have y2 := eA_ti (j := (5510 + ((94 + 2 * i)))) (hF312.2.1 234 (by decide)); have y3 := eA_ti (j := ((94 + 2 * i))) (hF312.2.1 233 (by decide)); (try split at x) <;> (try split at x) <;> (try split at m) <;> (try split at m) <;> omega) | (have t0_ := hI0.t0; have t1_ := hI0.t1; have o := (hR_14.2.1 i i0 i1).1; have o0 := (hR_15.2.1 i i0 i1).1; have o1 := (hR_16.2.1 i i0 i1).1; have x := (eA_ti (j := i) (hF392.2.1 14 (by decide))).trans (q323 i i0 i1); have m := q399 (94 + 2 * i) (by omega) (by omega); have y1 := eA_ti (j := ((94 + 2 * i))) (hF312.2.1 234 (by decide)); have y2 := eA_ti (j := (5510 + ((94 + 2 * i)))) (hF312.2.1 234 (by decide)); have y3 := eA_ti (j := ((94 + 2 * i))) (hF312.2.1 233 (by decide)); (try split at x) <;> (try split at x) <;> (try split at m) <;> (try split at m) <;> omega)), (by first | (clear f342 f343 f344 f345 f346 f347 f348 f349 f350 f351 f352 f353 f354 f355 f358 f359 f360 f368 f369 f370 f371 f372 f373 f374 f375 f376 f377 f378 f379 f380 f381 f384 f385 f386 f416 f417 f418 f419 f420 f421 f422 f423 f424 f425 f426 f427 f428 f429 f432 f433 f434 f442 f443 f444 f445 f446 f447 f448 f449 f450 f451 f452 f453 f454 f455 f458 f459 f460; have t0_ := hI0.t0; have t1_ := hI0.t1; have o := (hR_14.2.1 i i0 i1).2; have o0 := (hR_15.2.1 i i0 i1).2; have o1 := (hR_16.2.1 i i0 i1).2; have x := (eA_ti (j := i) (hF392.2.1 15 (by decide))).trans (q324 i i0 i1); have m := q399 (94 + 2 * i + 1) (by omega) (by omega); have y1 := eA_ti (j := ((94 + 2 * i + 1))) (hF312.2.1 234 (by decide)); have y2 := eA_ti (j := (5510 + ((94 + 2 * i + 1)))) (hF312.2.1 234 (by decide)); have y3 := eA_ti (j := ((94 + 2 * i + 1))) (hF312.2.1 233 (by decide)); (try split at x) <;> (try split at x) <;> (try split at m) <;> (try split at m) <;> omega) | (have t0_ := hI0.t0; have t1_ := hI0.t1; have o := (hR_14.2.1 i i0 i1).2; have o0 := (hR_15.2.1 i i0 i1).2; have o1 := (hR_16.2.1 i i0 i1).2; have x := (eA_ti (j := i) (hF392.2.1 15 (by decide))).trans (q324 i i0 i1); have m := q399 (94 + 2 * i + 1) (by omega) (by omega); have y1 := eA_ti (j := ((94 + 2 * i + 1))) (hF312.2.1 234 (by decide)); have y2 := eA_ti (j := (5510 + ((94 + 2 * i + 1)))) (hF312.2.1 234 (by decide)); have y3 := eA_ti (j := ((94 + 2 * i + 1))) (hF312.2.1 233 (by decide)); (try split at x) <;> (try split at x) <;> (try split at m) <;> (try split at m) <;> omega))⟩, fun i i0 i1 => (by first | (clear f342 f343 f344 f345 f346 f347 f348 f349 f350 f351 f352 f353 f354 f355 f358 f359 f360 f368 f369 f370 f371 f372 f373 f374 f375 f376 f377 f378 f379 f380 f381 f384 f385 f386 f416 f417 f418 f419 f420 f421 f422 f423 f424 f425 f426 f427 f428 f429 f432 f433 f434 f442 f443 f444 f445 f446 f447 f448 f449 f450 f451 f452 f453 f454 f455 f458 f459 f460; have t0_ := hI0.t0; have t1_ := hI0.t1; have o : i < 6 * (gI g0 1 4).toInt → _ := fun hz => hR_14.2.2 i i0 hz; have o0 : i < 6 * (gI g0 59 4).toInt → _ := fun hz => hR_15.2.2 i i0 hz; have o1 : i < 6 * (gI g0 116 4).toInt → _ := fun hz => hR_16.2.2 i i0 hz; have t9_ := RgF.at hI391.2.1 (p := 1) (b := 4) rfl; dsimp only at t9_; have i9_ : i < 48 := (by omega); have x := (eA_ti (j := i) (hF392.2.1 5 (by decide))).trans (q325 i i0 i9_); have m := q399 (46 + i) (by omega) (by omega); have y1 := eA_ti (j := ((46 + i))) (hF312.2.1 234 (by decide)); have y2 := eA_ti (j := (5510 + ((46 + i)))) (hF312.2.1 234 (by decide)); have y3 := eA_ti (j := ((46 + i))) (hF312.2.1 233 (by decide)); (try split at x) <;> (try split at x) <;> (try split at m) <;> (try split at m) <;> omega) | (have t0_ := hI0.t0; have t1_ := hI0.t1; have o : i < 6 * (gI g0 1 4).toInt → _ := fun hz => hR_14.2.2 i i0 hz; have o0 : i < 6 * (gI g0 59 4).toInt → _ := fun hz => hR_15.2.2 i i0 hz; have o1 : i < 6 * (gI g0 116 4).toInt → _ := fun hz => hR_16.2.2 i i0 hz; have t9_ := RgF.at hI391.2.1 (p := 1) (b := 4) rfl; dsimp only at t9_; have i9_ : i < 48 := (by omega); have x := (eA_ti (j := i) (hF392.2.1 5 (by decide))).trans (q325 i i0 i9_); have m := q399 (46 + i) (by omega) (by omega); have y1 := eA_ti (j := ((46 + i))) (hF312.2.1 234 (by decide)); have y2 := eA_ti (j := (5510 + ((46 + i)))) (hF312.2.1 234 (by decide)); have y3 := eA_ti (j := ((46 + i))) (hF312.2.1 233 (by decide)); (try split at x) <;> (try split at x) <;> (try split at m) <;> (try split at m) <;> omega))⟩), CI0.cong hR_15 (((hF392.2.1 60 (by decide)).trans (hF312.2.1 60 (by decide)))) (((hF392.2.1 61 (by decide)).trans (hF312.2.1 61 (by decide)))) (((hF392.2.1 62 (by decide)).trans (hF312.2.1 62 (by decide)))) (((hF392.2.1 72 (by decide)).trans (hF312.2.1 72 (by decide)))) (((hF392.2.1 73 (by decide)).trans (hF312.2.1 73 (by decide)))) (((hF392.2.1 63 (by decide)).trans (hF312.2.1 63 (by decide)))) (((hF392.2.1 234 (by decide)).trans (hF312.2.1 234 (by decide)))) (congrArg Int32.toInt (((hF392.1 59 4 (by decide)).trans (hF312.1 59 4 (by decide))))), CI1.cong hR_16 (((hF392.2.1 117 (by decide)).trans (hF312.2.1 117 (by decide)))) (((hF392.2.1 118 (by decide)).trans (hF312.2.1 118 (by decide)))) (((hF392.2.1 119 (by decide)).trans (hF312.2.1 119 (by decide)))) (((hF392.2.1 129 (by decide)).trans (hF312.2.1 129 (by decide)))) (((hF392.2.1 130 (by decide)).trans (hF312.2.1 130 (by decide)))) (((hF392.2.1 120 (by decide)).trans (hF312.2.1 120 (by decide)))) (((hF392.2.1 234 (by decide)).trans (hF312.2.1 234 (by decide)))) (congrArg Int32.toInt (((hF392.1 116 4 (by decide)).trans (hF312.1 116 4 (by decide))))), (show RT _ from fun i i0 i1 => (eA_ti (((hF392.2.1 175 (by decide)).trans (hF312.2.1 175 (by decide))))).trans ((hR_17 i i0 (by omega)).trans (eA_ti (((hF392.2.1 236 (by decide)).trans (hF312.2.1 236 (by decide))))).symm)), (show BYX _ from fun i i0 i1 => by rw [TX.c (((hF392.2.1 175 (by decide)).trans (hF312.2.1 175 (by decide))))]; exact hR_18 i i0 (by have i2 : i < (gI _ 174 1).toInt := i1; show i < (gI g0 174 1).toInt; omega)), (LAWR_back (c := 1) hR_19 (TOLDX_fr hF392 rfl rfl rfl rfl (fe316.1 hR_19.2.2.2.2)) (((hF392.2.1 173 (by decide)).trans (hF312.2.1 173 (by decide)))) (((hF392.1 59 6 (by decide)).trans (hF312.1 59 6 (by decide)))) (((hF392.1 116 6 (by decide)).trans (hF312.1 116 6 (by decide)))) (((hF392.2.1 234 (by decide)).trans (hF312.2.1 234 (by decide)))) (Or.inr ⟨rfl, n309_k, (BCI_c (fe317.2.1 ⟨n309_e, n309_k⟩) (LSA_fr hF392 rfl) (Or.inl rfl)), i32e (by first | (clear f342 f343 f344 f345 f346 f348 f349 f350 f351 f352 f353 f355 f356 f357 f358 f359 f360 f361 f362 f363 f364 f365 f366 f367 f368 f369 f370 f371 f372 f373 f374 f375 f376 f377 f378 f379 f380 f381 f382 f383 f384 f385 f386 f409 f410 f411 f412 f413 f415 f416 f417 f418 f419 f420 f422 f423 f424 f425 f426 f427 f429 f430 f431 f432 f433 f434 f442 f443 f444 f445 f446 f447 f448 f449 f450 f451 f452 f453 f454 f455 f456 f457 f458 f459 f460; omega) | omega), (fun i i0 i1 => ((RW_p (fun i i0 i1 => (q399 i i0 i1).trans (if_neg (fun h => n389_0 h.1))) ⟨n389_e, n389_k⟩) i i0 i1).trans (eA_ti (hF312.2.1 234 (by decide))))⟩)), (SETX_fr hF392 rfl rfl rfl rfl rfl (fe316.2 hR_20))⟩)
  · have n461_e : v2.toInt = 1 := by omega
    have n461_0 : v2.toInt ≠ 0 := by omega
    have n461_k : (eA g0 173 1).toInt = 0 := by omega
    refine r_callV 1280 rfl [.ref 0, .int v2] [] (Nat.le_of_ble_eq_true rfl) rfl (T_X10_back_0 _ hI0 v2) ?_
    rintro _ _ ⟨g462, rfl, hI463, hF464, v465, rfl, hr466⟩
    refine At.sti ?_
    have hF467 := Fr.tr hF0 hF464 rfl rfl
    have fe468 : PH _ := hr466.2.2
    replace hr466 := And.intro hr466.1 hr466.2.1
    have fe469 : PH _ := hr466.2.2
    replace hr466 := And.intro hr466.1 hr466.2.1
    obtain ⟨q470, q471, q472, q473, q474, q475, q476, q477⟩ := hr466
    obtain ⟨p478, p479, p480, p481, p482, p483⟩ := (And.intro q470 q471)
    have w484 := p481 ⟨fun h => n461_0 h.1, fun h => h.2 n461_k⟩
    have w485 := p483 ⟨by omega, by omega, fun h => n461_0 h.1, fun h => h.2 n461_k⟩
    clear p479 p480 p481 p482 p483
    clear q471
    have f494 := congrArg Int32.toInt (hF464.1 59 0 rfl)
    have f495 := congrArg Int32.toInt (hF464.1 59 12 rfl)
    have f496 := congrArg Int32.toInt (hF464.1 59 10 rfl)
    have f497 := congrArg Int32.toInt (hF464.1 59 11 rfl)
    have f498 := congrArg Int32.toInt (hF464.1 59 4 rfl)
    have f499 := congrArg Int32.toInt (hF464.1 59 6 rfl)
    have f500 := congrArg Int32.toInt (hF464.1 59 9 rfl)
    have f501 := congrArg Int32.toInt (hF464.1 116 0 rfl)
    have f502 := congrArg Int32.toInt (hF464.1 116 12 rfl)
    have f503 := congrArg Int32.toInt (hF464.1 116 10 rfl)
    have f504 := congrArg Int32.toInt (hF464.1 116 11 rfl)
    have f505 := congrArg Int32.toInt (hF464.1 116 4 rfl)
    have f506 := congrArg Int32.toInt (hF464.1 116 6 rfl)
    have f507 := congrArg Int32.toInt (hF464.1 116 9 rfl)
    have f508 := congrArg Int32.toInt (eA_c (j := 0) (hF464.2.1 173 rfl))
    have f509 := congrArg Int32.toInt (eA_c (j := 1) (hF464.2.1 173 rfl))
    have f510 := congrArg Int32.toInt (hF464.1 174 1 rfl)
    have f511 := congrArg Int32.toInt (hF464.1 0 16 rfl)
    have f512 := congrArg Int32.toInt (hF464.1 176 2 rfl)
    have f513 := congrArg Int32.toInt (eA_c (j := 0) (hF464.2.1 233 rfl))
    have f514 := congrArg Int32.toInt (eA_c (j := 4) (hF464.2.1 233 rfl))
    have f515 := congrArg Int32.toInt (eA_c (j := 5) (hF464.2.1 233 rfl))
    have f516 := congrArg Int32.toInt (eA_c (j := 6) (hF464.2.1 233 rfl))
    have f517 := congrArg Int32.toInt (eA_c (j := 1) (hF464.2.1 233 rfl))
    have f518 := congrArg Int32.toInt (eA_c (j := 2) (hF464.2.1 233 rfl))
    have f519 := congrArg Int32.toInt (eA_c (j := 3) (hF464.2.1 233 rfl))
    have f520 := congrArg Int32.toInt (eA_c (j := 0) (hF464.2.1 234 rfl))
    have f521 := congrArg Int32.toInt (eA_c (j := 4) (hF464.2.1 234 rfl))
    have f522 := congrArg Int32.toInt (eA_c (j := 5) (hF464.2.1 234 rfl))
    have f523 := congrArg Int32.toInt (eA_c (j := 6) (hF464.2.1 234 rfl))
    have f524 := congrArg Int32.toInt (eA_c (j := 1) (hF464.2.1 234 rfl))
    have f525 := congrArg Int32.toInt (eA_c (j := 2) (hF464.2.1 234 rfl))
    have f526 := congrArg Int32.toInt (eA_c (j := 3) (hF464.2.1 234 rfl))
    have f527 := congrArg Int32.toInt (eA_c (j := 5510) (hF464.2.1 234 rfl))
    have f528 := congrArg Int32.toInt (eA_c (j := 5514) (hF464.2.1 234 rfl))
    have f529 := congrArg Int32.toInt (eA_c (j := 5515) (hF464.2.1 234 rfl))
    have f530 := congrArg Int32.toInt (eA_c (j := 5516) (hF464.2.1 234 rfl))
    have f531 := congrArg Int32.toInt (eA_c (j := 5511) (hF464.2.1 234 rfl))
    have f532 := congrArg Int32.toInt (eA_c (j := 5512) (hF464.2.1 234 rfl))
    have f533 := congrArg Int32.toInt (eA_c (j := 5513) (hF464.2.1 234 rfl))
    have f534 := congrArg Int32.toInt (eA_c (j := 0) (hF464.2.1 235 rfl))
    have f535 := congrArg Int32.toInt (eA_c (j := 1) (hF464.2.1 235 rfl))
    have f536 := congrArg Int32.toInt (hF464.1 231 8 rfl)
    have f537 := congrArg Int32.toInt (hF464.1 231 6 rfl)
    have f538 := congrArg Int32.toInt (hF464.1 231 13 rfl)
    refine At.enter rfl ?_
    refine r_pop rfl ?_
    refine r_aload_n e2 ?_
    refine r_sload_n e0 ?_
    refine r_iload_n e3 ?_
    refine r_iconst 1 rfl ?_
    refine q_iadd (i.toInt + 1) rfl hx_1 (fun v539 hv539 => ?_)
    refine q_scald (m := L) hL (i.toInt + 1) hv539 hy_1 (fun v540 hv540 => ?_)
    have sv540 := hv2.symm.trans hv540
    subst sv540
    have n541_e : v2.toInt = 1 := by omega
    have n541_0 : v2.toInt ≠ 0 := by omega
    have n541_k : (eA g462 235 1).toInt = 0 := by omega
    refine r_callV 1290 rfl [.ref 231, .int v2] [] (Nat.le_of_ble_eq_true rfl) rfl (T_X11_back_231 _ hI463 v2) ?_
    rintro _ _ ⟨g542, rfl, hI543, hF544, v545, rfl, hr546⟩
    refine At.sti ?_
    have hF547 := Fr.tr hF467 hF544 rfl rfl
    obtain ⟨q549, q550, q551⟩ := hr546
    obtain ⟨p552, p553, p554, p555, p556, p557⟩ := (And.intro q549 q550)
    have w558 := p555 ⟨fun h => n541_0 h.1, fun h => h.2 n541_k⟩
    have w559 := p557 ⟨by omega, by omega, fun h => n541_0 h.1, fun h => h.2 n541_k⟩
    clear p553 p554 p555 p556 p557
    clear q550
    have f561 := congrArg Int32.toInt (hF544.1 1 0 rfl)
    have f562 := congrArg Int32.toInt (hF544.1 1 12 rfl)
    have f563 := congrArg Int32.toInt (hF544.1 1 10 rfl)
    have f564 := congrArg Int32.toInt (hF544.1 1 11 rfl)
    have f565 := congrArg Int32.toInt (hF544.1 1 4 rfl)
    have f566 := congrArg Int32.toInt (hF544.1 1 6 rfl)
    have f567 := congrArg Int32.toInt (hF544.1 1 9 rfl)
    have f568 := congrArg Int32.toInt (hF544.1 59 0 rfl)
    have f569 := congrArg Int32.toInt (hF544.1 59 12 rfl)
    have f570 := congrArg Int32.toInt (hF544.1 59 10 rfl)
    have f571 := congrArg Int32.toInt (hF544.1 59 11 rfl)
    have f572 := congrArg Int32.toInt (hF544.1 59 4 rfl)
    have f573 := congrArg Int32.toInt (hF544.1 59 6 rfl)
    have f574 := congrArg Int32.toInt (hF544.1 59 9 rfl)
    have f575 := congrArg Int32.toInt (hF544.1 116 0 rfl)
    have f576 := congrArg Int32.toInt (hF544.1 116 12 rfl)
    have f577 := congrArg Int32.toInt (hF544.1 116 10 rfl)
    have f578 := congrArg Int32.toInt (hF544.1 116 11 rfl)
    have f579 := congrArg Int32.toInt (hF544.1 116 4 rfl)
    have f580 := congrArg Int32.toInt (hF544.1 116 6 rfl)
    have f581 := congrArg Int32.toInt (hF544.1 116 9 rfl)
    have f582 := congrArg Int32.toInt (eA_c (j := 0) (hF544.2.1 173 rfl))
    have f583 := congrArg Int32.toInt (eA_c (j := 1) (hF544.2.1 173 rfl))
    have f584 := congrArg Int32.toInt (hF544.1 174 1 rfl)
    have f585 := congrArg Int32.toInt (hF544.1 0 16 rfl)
    have f586 := congrArg Int32.toInt (hF544.1 176 2 rfl)
    have f594 := congrArg Int32.toInt (eA_c (j := 0) (hF544.2.1 234 rfl))
    have f595 := congrArg Int32.toInt (eA_c (j := 4) (hF544.2.1 234 rfl))
    have f596 := congrArg Int32.toInt (eA_c (j := 5) (hF544.2.1 234 rfl))
    have f597 := congrArg Int32.toInt (eA_c (j := 6) (hF544.2.1 234 rfl))
    have f598 := congrArg Int32.toInt (eA_c (j := 1) (hF544.2.1 234 rfl))
    have f599 := congrArg Int32.toInt (eA_c (j := 2) (hF544.2.1 234 rfl))
    have f600 := congrArg Int32.toInt (eA_c (j := 3) (hF544.2.1 234 rfl))
    have f601 := congrArg Int32.toInt (eA_c (j := 5510) (hF544.2.1 234 rfl))
    have f602 := congrArg Int32.toInt (eA_c (j := 5514) (hF544.2.1 234 rfl))
    have f603 := congrArg Int32.toInt (eA_c (j := 5515) (hF544.2.1 234 rfl))
    have f604 := congrArg Int32.toInt (eA_c (j := 5516) (hF544.2.1 234 rfl))
    have f605 := congrArg Int32.toInt (eA_c (j := 5511) (hF544.2.1 234 rfl))
    have f606 := congrArg Int32.toInt (eA_c (j := 5512) (hF544.2.1 234 rfl))
    have f607 := congrArg Int32.toInt (eA_c (j := 5513) (hF544.2.1 234 rfl))
    have f608 := congrArg Int32.toInt (eA_c (j := 0) (hF544.2.1 235 rfl))
    have f609 := congrArg Int32.toInt (eA_c (j := 1) (hF544.2.1 235 rfl))
    have f610 := congrArg Int32.toInt (hF544.1 231 8 rfl)
    have f611 := congrArg Int32.toInt (hF544.1 231 6 rfl)
    have f612 := congrArg Int32.toInt (hF544.1 231 13 rfl)
    refine At.enter rfl ?_
    refine r_pop rfl ?_
    refine r_goto ?_
    exact K _ hI543 (show LwR _ from ⟨by first | (clear f494 f495 f496 f497 f498 f499 f500 f501 f502 f503 f504 f505 f506 f507 f508 f509 f510 f511 f512 f514 f515 f516 f517 f518 f519 f520 f521 f522 f523 f524 f525 f526 f527 f528 f529 f530 f531 f532 f533 f534 f535 f536 f537 f538 f562 f563 f564 f565 f566 f567 f568 f569 f570 f571 f572 f573 f574 f575 f576 f577 f578 f579 f580 f581 f582 f583 f584 f585 f586 f594 f595 f596 f597 f598 f599 f600 f601 f602 f603 f604 f605 f606 f607 f608 f609 f610 f611 f612; omega) | omega, by first | (clear f494 f495 f496 f497 f498 f499 f500 f501 f502 f503 f504 f505 f506 f507 f508 f509 f510 f511 f512 f513 f515 f516 f517 f518 f519 f520 f521 f522 f523 f524 f525 f526 f527 f528 f529 f530 f531 f532 f533 f534 f535 f536 f537 f538 f561 f563 f564 f565 f566 f567 f568 f569 f570 f571 f572 f573 f574 f575 f576 f577 f578 f579 f580 f581 f582 f583 f584 f585 f586 f594 f595 f596 f597 f598 f599 f600 f601 f602 f603 f604 f605 f606 f607 f608 f609 f610 f611 f612; omega) | omega, by first | (clear f494 f495 f496 f497 f498 f499 f500 f501 f502 f503 f504 f505 f506 f507 f508 f509 f510 f511 f512 f513 f514 f516 f517 f518 f519 f520 f521 f522 f523 f524 f525 f526 f527 f528 f529 f530 f531 f532 f533 f534 f535 f536 f537 f538 f561 f562 f564 f565 f566 f567 f568 f569 f570 f571 f572 f573 f574 f575 f576 f577 f578 f579 f580 f581 f582 f583 f584 f585 f586 f594 f595 f596 f597 f598 f599 f600 f601 f602 f603 f604 f605 f606 f607 f608 f609 f610 f611 f612; omega) | omega, by first | (clear f494 f495 f496 f497 f498 f499 f500 f501 f502 f503 f504 f505 f506 f507 f508 f509 f510 f511 f512 f513 f514 f515 f517 f518 f519 f520 f521 f522 f523 f524 f525 f526 f527 f528 f529 f530 f531 f532 f533 f534 f535 f536 f537 f538 f561 f562 f563 f565 f566 f567 f568 f569 f570 f571 f572 f573 f574 f575 f576 f577 f578 f579 f580 f581 f582 f583 f584 f585 f586 f594 f595 f596 f597 f598 f599 f600 f601 f602 f603 f604 f605 f606 f607 f608 f609 f610 f611 f612; omega) | omega, by first | (clear f494 f495 f496 f497 f498 f499 f500 f501 f502 f503 f504 f505 f506 f507 f508 f509 f510 f511 f512 f513 f514 f515 f516 f518 f519 f520 f521 f522 f523 f524 f525 f526 f527 f528 f529 f530 f531 f532 f533 f534 f535 f536 f537 f538 f561 f562 f563 f564 f566 f567 f568 f569 f570 f571 f572 f573 f574 f575 f576 f577 f578 f579 f580 f581 f582 f583 f584 f585 f586 f594 f595 f596 f597 f598 f599 f600 f601 f602 f603 f604 f605 f606 f607 f608 f609 f610 f611 f612; omega) | omega, by first | (clear f494 f495 f496 f497 f498 f499 f500 f501 f502 f503 f504 f505 f506 f507 f508 f509 f510 f511 f512 f513 f514 f515 f516 f517 f519 f520 f521 f522 f523 f524 f525 f526 f527 f528 f529 f530 f531 f532 f533 f534 f535 f536 f537 f538 f561 f562 f563 f564 f565 f567 f568 f569 f570 f571 f572 f573 f574 f575 f576 f577 f578 f579 f580 f581 f582 f583 f584 f585 f586 f594 f595 f596 f597 f598 f599 f600 f601 f602 f603 f604 f605 f606 f607 f608 f609 f610 f611 f612; omega) | omega, by first | (clear f494 f495 f496 f497 f498 f499 f500 f501 f502 f503 f504 f505 f506 f507 f508 f509 f510 f511 f512 f513 f514 f515 f516 f517 f518 f520 f521 f522 f523 f524 f525 f526 f527 f528 f529 f530 f531 f532 f533 f534 f535 f536 f537 f538 f561 f562 f563 f564 f565 f566 f568 f569 f570 f571 f572 f573 f574 f575 f576 f577 f578 f579 f580 f581 f582 f583 f584 f585 f586 f594 f595 f596 f597 f598 f599 f600 f601 f602 f603 f604 f605 f606 f607 f608 f609 f610 f611 f612; omega) | omega, (eA_ti (j := 0) (((hF544.2.1 173 (by decide)).trans (hF464.2.1 173 (by decide))))).trans (hR_7.trans (eA_ti (j := 0) (((hF544.2.1 235 (by decide)).trans (hF464.2.1 235 (by decide))))).symm), (eA_ti (j := 1) (((hF544.2.1 173 (by decide)).trans (hF464.2.1 173 (by decide))))).trans (hR_8.trans (eA_ti (j := 1) (((hF544.2.1 235 (by decide)).trans (hF464.2.1 235 (by decide))))).symm), (congrArg Int32.toInt (((hF544.1 174 1 (by decide)).trans (hF464.1 174 1 (by decide))))).trans (hR_9.trans (congrArg Int32.toInt (((hF544.1 231 8 (by decide)).trans (hF464.1 231 8 (by decide))))).symm), (congrArg Int32.toInt (((hF544.1 0 16 (by decide)).trans (hF464.1 0 16 (by decide))))).trans (hR_10.trans (congrArg Int32.toInt (((hF544.1 231 6 (by decide)).trans (hF464.1 231 6 (by decide))))).symm), (congrArg Int32.toInt (((hF544.1 176 2 (by decide)).trans (hF464.1 176 2 (by decide))))).trans (hR_11.trans (congrArg Int32.toInt (((hF544.1 231 13 (by decide)).trans (hF464.1 231 13 (by decide))))).symm), IM0.cong hR_12 (eA_ti (j := 0) (((hF544.2.1 173 (by decide)).trans (hF464.2.1 173 (by decide))))) (congrArg Int32.toInt (((hF544.1 59 0 (by decide)).trans (hF464.1 59 0 (by decide))))) (eA_ti (j := 0) (((hF544.2.1 234 (by decide)).trans (hF464.2.1 234 (by decide))))) (congrArg Int32.toInt (((hF544.1 59 12 (by decide)).trans (hF464.1 59 12 (by decide))))) (eA_ti (j := 4) (((hF544.2.1 234 (by decide)).trans (hF464.2.1 234 (by decide))))) (congrArg Int32.toInt (((hF544.1 59 10 (by decide)).trans (hF464.1 59 10 (by decide))))) (eA_ti (j := 5) (((hF544.2.1 234 (by decide)).trans (hF464.2.1 234 (by decide))))) (congrArg Int32.toInt (((hF544.1 59 11 (by decide)).trans (hF464.1 59 11 (by decide))))) (eA_ti (j := 6) (((hF544.2.1 234 (by decide)).trans (hF464.2.1 234 (by decide))))) (congrArg Int32.toInt (((hF544.1 59 4 (by decide)).trans (hF464.1 59 4 (by decide))))) (eA_ti (j := 1) (((hF544.2.1 234 (by decide)).trans (hF464.2.1 234 (by decide))))) (congrArg Int32.toInt (((hF544.1 59 6 (by decide)).trans (hF464.1 59 6 (by decide))))) (eA_ti (j := 2) (((hF544.2.1 234 (by decide)).trans (hF464.2.1 234 (by decide))))) (congrArg Int32.toInt (((hF544.1 59 9 (by decide)).trans (hF464.1 59 9 (by decide))))) (eA_ti (j := 3) (((hF544.2.1 234 (by decide)).trans (hF464.2.1 234 (by decide))))), IM1.cong hR_13 (eA_ti (j := 1) (((hF544.2.1 173 (by decide)).trans (hF464.2.1 173 (by decide))))) (congrArg Int32.toInt (((hF544.1 116 0 (by decide)).trans (hF464.1 116 0 (by decide))))) (eA_ti (j := 5510) (((hF544.2.1 234 (by decide)).trans (hF464.2.1 234 (by decide))))) (congrArg Int32.toInt (((hF544.1 116 12 (by decide)).trans (hF464.1 116 12 (by decide))))) (eA_ti (j := 5514) (((hF544.2.1 234 (by decide)).trans (hF464.2.1 234 (by decide))))) (congrArg Int32.toInt (((hF544.1 116 10 (by decide)).trans (hF464.1 116 10 (by decide))))) (eA_ti (j := 5515) (((hF544.2.1 234 (by decide)).trans (hF464.2.1 234 (by decide))))) (congrArg Int32.toInt (((hF544.1 116 11 (by decide)).trans (hF464.1 116 11 (by decide))))) (eA_ti (j := 5516) (((hF544.2.1 234 (by decide)).trans (hF464.2.1 234 (by decide))))) (congrArg Int32.toInt (((hF544.1 116 4 (by decide)).trans (hF464.1 116 4 (by decide))))) (eA_ti (j := 5511) (((hF544.2.1 234 (by decide)).trans (hF464.2.1 234 (by decide))))) (congrArg Int32.toInt (((hF544.1 116 6 (by decide)).trans (hF464.1 116 6 (by decide))))) (eA_ti (j := 5512) (((hF544.2.1 234 (by decide)).trans (hF464.2.1 234 (by decide))))) (congrArg Int32.toInt (((hF544.1 116 9 (by decide)).trans (hF464.1 116 9 (by decide))))) (eA_ti (j := 5513) (((hF544.2.1 234 (by decide)).trans (hF464.2.1 234 (by decide))))), (show CT _ from ⟨fun i i0 i1 => ⟨(by first | (clear f494 f495 f496 f497 f498 f499 f500 f501 f502 f503 f504 f505 f506 f507 f510 f511 f512 f520 f521 f522 f523 f524 f525 f526 f527 f528 f529 f530 f531 f532 f533 f536 f537 f538 f568 f569 f570 f571 f572 f573 f574 f575 f576 f577 f578 f579 f580 f581 f584 f585 f586 f594 f595 f596 f597 f598 f599 f600 f601 f602 f603 f604 f605 f606 f607 f610 f611 f612; have t0_ := hI0.t0; have t1_ := hI0.t1; have o := (hR_14.1 i i0 i1).1; have o0 := (hR_15.1 i i0 i1).1; have o1 := (hR_16.1 i i0 i1).1; have x := (eA_ti (j := i) (hF544.2.1 2 (by decide))).trans (q472 i i0 i1); have m := q551 (10 + 3 * i) (by omega) (by omega); have y1 := eA_ti (j := ((10 + 3 * i))) (hF464.2.1 234 (by decide)); have y2 := eA_ti (j := (5510 + ((10 + 3 * i)))) (hF464.2.1 234 (by decide)); have y3 := eA_ti (j := ((10 + 3 * i))) (hF464.2.1 233 (by decide)); (try split at x) <;> (try split at x) <;> (try split at m) <;> (try split at m) <;> omega) | (have t0_ := hI0.t0; have t1_ := hI0.t1; have o := (hR_14.1 i i0 i1).1; have o0 := (hR_15.1 i i0 i1).1; have o1 := (hR_16.1 i i0 i1).1; have x := (eA_ti (j := i) (hF544.2.1 2 (by decide))).trans (q472 i i0 i1); have m := q551 (10 + 3 * i) (by omega) (by omega); have y1 := eA_ti (j := ((10 + 3 * i))) (hF464.2.1 234 (by decide)); have y2 := eA_ti (j := (5510 + ((10 + 3 * i)))) (hF464.2.1 234 (by decide)); have y3 := eA_ti (j := ((10 + 3 * i))) (hF464.2.1 233 (by decide)); (try split at x) <;> (try split at x) <;> (try split at m) <;> (try split at m) <;> omega)), (by first | (clear f494 f495 f496 f497 f498 f499 f500 f501 f502 f503 f504 f505 f506 f507 f510 f511 f512 f520 f521 f522 f523 f524 f525 f526 f527 f528 f529 f530 f531 f532 f533 f536 f537 f538 f568 f569 f570 f571 f572 f573 f574 f575 f576 f577 f578 f579 f580 f581 f584 f585 f586 f594 f595 f596 f597 f598 f599 f600 f601 f602 f603 f604 f605 f606 f607 f610 f611 f612; have t0_ := hI0.t0; have t1_ := hI0.t1; have o := (hR_14.1 i i0 i1).2.1; have o0 := (hR_15.1 i i0 i1).2.1; have o1 := (hR_16.1 i i0 i1).2.1; have x := (eA_ti (j := i) (hF544.2.1 3 (by decide))).trans (q473 i i0 i1); have m := q551 (10 + 3 * i + 1) (by omega) (by omega); have y1 := eA_ti (j := ((10 + 3 * i + 1))) (hF464.2.1 234 (by decide)); have y2 := eA_ti (j := (5510 + ((10 + 3 * i + 1)))) (hF464.2.1 234 (by decide)); have y3 := eA_ti (j := ((10 + 3 * i + 1))) (hF464.2.1 233 (by decide)); (try split at x) <;> (try split at x) <;> (try split at m) <;> (try split at m) <;> omega) | (have t0_ := hI0.t0; have t1_ := hI0.t1; have o := (hR_14.1 i i0 i1).2.1; have o0 := (hR_15.1 i i0 i1).2.1; have o1 := (hR_16.1 i i0 i1).2.1; have x := (eA_ti (j := i) (hF544.2.1 3 (by decide))).trans (q473 i i0 i1); have m := q551 (10 + 3 * i + 1) (by omega) (by omega); have y1 := eA_ti (j := ((10 + 3 * i + 1))) (hF464.2.1 234 (by decide)); have y2 := eA_ti (j := (5510 + ((10 + 3 * i + 1)))) (hF464.2.1 234 (by decide)); have y3 := eA_ti (j := ((10 + 3 * i + 1))) (hF464.2.1 233 (by decide)); (try split at x) <;> (try split at x) <;> (try split at m) <;> (try split at m) <;> omega)), (by first | (clear f494 f495 f496 f497 f498 f499 f500 f501 f502 f503 f504 f505 f506 f507 f510 f511 f512 f520 f521 f522 f523 f524 f525 f526 f527 f528 f529 f530 f531 f532 f533 f536 f537 f538 f568 f569 f570 f571 f572 f573 f574 f575 f576 f577 f578 f579 f580 f581 f584 f585 f586 f594 f595 f596 f597 f598 f599 f600 f601 f602 f603 f604 f605 f606 f607 f610 f611 f612; have t0_ := hI0.t0; have t1_ := hI0.t1; have o := (hR_14.1 i i0 i1).2.2; have o0 := (hR_15.1 i i0 i1).2.2; have o1 := (hR_16.1 i i0 i1).2.2; have x := (eA_ti (j := i) (hF544.2.1 4 (by decide))).trans (q474 i i0 i1); have m := q551 (10 + 3 * i + 2) (by omega) (by omega); have y1 := eA_ti (j := ((10 + 3 * i + 2))) (hF464.2.1 234 (by decide)); have y2 := eA_ti (j := (5510 + ((10 + 3 * i + 2)))) (hF464.2.1 234 (by decide)); have y3 := eA_ti (j := ((10 + 3 * i + 2))) (hF464.2.1 233 (by decide)); (try split at x) <;> (try split at x) <;> (try split at m) <;> (try split at m) <;> omega) | (have t0_ := hI0.t0; have t1_ := hI0.t1; have o := (hR_14.1 i i0 i1).2.2; have o0 := (hR_15.1 i i0 i1).2.2; have o1 := (hR_16.1 i i0 i1).2.2; have x := (eA_ti (j := i) (hF544.2.1 4 (by decide))).trans (q474 i i0 i1); have m := q551 (10 + 3 * i + 2) (by omega) (by omega); have y1 := eA_ti (j := ((10 + 3 * i + 2))) (hF464.2.1 234 (by decide)); have y2 := eA_ti (j := (5510 + ((10 + 3 * i + 2)))) (hF464.2.1 234 (by decide)); have y3 := eA_ti (j := ((10 + 3 * i + 2))) (hF464.2.1 233 (by decide)); (try split at x) <;> (try split at x) <;> (try split at m) <;> (try split at m) <;> omega))⟩, fun i i0 i1 => ⟨(by first | (clear f494 f495 f496 f497 f498 f499 f500 f501 f502 f503 f504 f505 f506 f507 f510 f511 f512 f520 f521 f522 f523 f524 f525 f526 f527 f528 f529 f530 f531 f532 f533 f536 f537 f538 f568 f569 f570 f571 f572 f573 f574 f575 f576 f577 f578 f579 f580 f581 f584 f585 f586 f594 f595 f596 f597 f598 f599 f600 f601 f602 f603 f604 f605 f606 f607 f610 f611 f612; have t0_ := hI0.t0; have t1_ := hI0.t1; have o := (hR_14.2.1 i i0 i1).1; have o0 := (hR_15.2.1 i i0 i1).1; have o1 := (hR_16.2.1 i i0 i1).1; have x := (eA_ti (j := i) (hF544.2.1 14 (by decide))).trans (q475 i i0 i1); have m := q551 (94 + 2 * i) (by omega) (by omega); have y1 := eA_ti (j := ((94 + 2 * i))) (hF464.2.1 234 (by decide)); have y2 := eA_ti (j := (5510 + ((94 + 2 * i)))) (hF464.2.1 234 (by decide)); have y3 := eA_ti (j := ((94 + 2 * i))) (hF464.2.1 233 (by decide)); (try split at x) <;> (try split at x) <;> (try split at m) <;> (try split at m) <;> omega) | (have t0_ := hI0.t0; have t1_ := hI0.t1; have o := (hR_14.2.1 i i0 i1).1; have o0 := (hR_15.2.1 i i0 i1).1; have o1 := (hR_16.2.1 i i0 i1).1; have x := (eA_ti (j := i) (hF544.2.1 14 (by decide))).trans (q475 i i0 i1); have m := q551 (94 + 2 * i) (by omega) (by omega); have y1 := eA_ti (j := ((94 + 2 * i))) (hF464.2.1 234 (by decide)); have y2 := eA_ti (j := (5510 + ((94 + 2 * i)))) (hF464.2.1 234 (by decide)); have y3 := eA_ti (j := ((94 + 2 * i))) (hF464.2.1 233 (by decide)); (try split at x) <;> (try split at x) <;> (try split at m) <;> (try split at m) <;> omega)), (by first | (clear f494 f495 f496 f497 f498 f499 f500 f501 f502 f503 f504 f505 f506 f507 f510 f511 f512 f520 f521 f522 f523 f524 f525 f526 f527 f528 f529 f530 f531 f532 f533 f536 f537 f538 f568 f569 f570 f571 f572 f573 f574 f575 f576 f577 f578 f579 f580 f581 f584 f585 f586 f594 f595 f596 f597 f598 f599 f600 f601 f602 f603 f604 f605 f606 f607 f610 f611 f612; have t0_ := hI0.t0; have t1_ := hI0.t1; have o := (hR_14.2.1 i i0 i1).2; have o0 := (hR_15.2.1 i i0 i1).2; have o1 := (hR_16.2.1 i i0 i1).2; have x := (eA_ti (j := i) (hF544.2.1 15 (by decide))).trans (q476 i i0 i1); have m := q551 (94 + 2 * i + 1) (by omega) (by omega); have y1 := eA_ti (j := ((94 + 2 * i + 1))) (hF464.2.1 234 (by decide)); have y2 := eA_ti (j := (5510 + ((94 + 2 * i + 1)))) (hF464.2.1 234 (by decide)); have y3 := eA_ti (j := ((94 + 2 * i + 1))) (hF464.2.1 233 (by decide)); (try split at x) <;> (try split at x) <;> (try split at m) <;> (try split at m) <;> omega) | (have t0_ := hI0.t0; have t1_ := hI0.t1; have o := (hR_14.2.1 i i0 i1).2; have o0 := (hR_15.2.1 i i0 i1).2; have o1 := (hR_16.2.1 i i0 i1).2; have x := (eA_ti (j := i) (hF544.2.1 15 (by decide))).trans (q476 i i0 i1); have m := q551 (94 + 2 * i + 1) (by omega) (by omega); have y1 := eA_ti (j := ((94 + 2 * i + 1))) (hF464.2.1 234 (by decide)); have y2 := eA_ti (j := (5510 + ((94 + 2 * i + 1)))) (hF464.2.1 234 (by decide)); have y3 := eA_ti (j := ((94 + 2 * i + 1))) (hF464.2.1 233 (by decide)); (try split at x) <;> (try split at x) <;> (try split at m) <;> (try split at m) <;> omega))⟩, fun i i0 i1 => (by first | (clear f494 f495 f496 f497 f498 f499 f500 f501 f502 f503 f504 f505 f506 f507 f510 f511 f512 f520 f521 f522 f523 f524 f525 f526 f527 f528 f529 f530 f531 f532 f533 f536 f537 f538 f568 f569 f570 f571 f572 f573 f574 f575 f576 f577 f578 f579 f580 f581 f584 f585 f586 f594 f595 f596 f597 f598 f599 f600 f601 f602 f603 f604 f605 f606 f607 f610 f611 f612; have t0_ := hI0.t0; have t1_ := hI0.t1; have o : i < 6 * (gI g0 1 4).toInt → _ := fun hz => hR_14.2.2 i i0 hz; have o0 : i < 6 * (gI g0 59 4).toInt → _ := fun hz => hR_15.2.2 i i0 hz; have o1 : i < 6 * (gI g0 116 4).toInt → _ := fun hz => hR_16.2.2 i i0 hz; have t9_ := RgF.at hI543.2.1 (p := 1) (b := 4) rfl; dsimp only at t9_; have i9_ : i < 48 := (by omega); have x := (eA_ti (j := i) (hF544.2.1 5 (by decide))).trans (q477 i i0 i9_); have m := q551 (46 + i) (by omega) (by omega); have y1 := eA_ti (j := ((46 + i))) (hF464.2.1 234 (by decide)); have y2 := eA_ti (j := (5510 + ((46 + i)))) (hF464.2.1 234 (by decide)); have y3 := eA_ti (j := ((46 + i))) (hF464.2.1 233 (by decide)); (try split at x) <;> (try split at x) <;> (try split at m) <;> (try split at m) <;> omega) | (have t0_ := hI0.t0; have t1_ := hI0.t1; have o : i < 6 * (gI g0 1 4).toInt → _ := fun hz => hR_14.2.2 i i0 hz; have o0 : i < 6 * (gI g0 59 4).toInt → _ := fun hz => hR_15.2.2 i i0 hz; have o1 : i < 6 * (gI g0 116 4).toInt → _ := fun hz => hR_16.2.2 i i0 hz; have t9_ := RgF.at hI543.2.1 (p := 1) (b := 4) rfl; dsimp only at t9_; have i9_ : i < 48 := (by omega); have x := (eA_ti (j := i) (hF544.2.1 5 (by decide))).trans (q477 i i0 i9_); have m := q551 (46 + i) (by omega) (by omega); have y1 := eA_ti (j := ((46 + i))) (hF464.2.1 234 (by decide)); have y2 := eA_ti (j := (5510 + ((46 + i)))) (hF464.2.1 234 (by decide)); have y3 := eA_ti (j := ((46 + i))) (hF464.2.1 233 (by decide)); (try split at x) <;> (try split at x) <;> (try split at m) <;> (try split at m) <;> omega))⟩), CI0.cong hR_15 (((hF544.2.1 60 (by decide)).trans (hF464.2.1 60 (by decide)))) (((hF544.2.1 61 (by decide)).trans (hF464.2.1 61 (by decide)))) (((hF544.2.1 62 (by decide)).trans (hF464.2.1 62 (by decide)))) (((hF544.2.1 72 (by decide)).trans (hF464.2.1 72 (by decide)))) (((hF544.2.1 73 (by decide)).trans (hF464.2.1 73 (by decide)))) (((hF544.2.1 63 (by decide)).trans (hF464.2.1 63 (by decide)))) (((hF544.2.1 234 (by decide)).trans (hF464.2.1 234 (by decide)))) (congrArg Int32.toInt (((hF544.1 59 4 (by decide)).trans (hF464.1 59 4 (by decide))))), CI1.cong hR_16 (((hF544.2.1 117 (by decide)).trans (hF464.2.1 117 (by decide)))) (((hF544.2.1 118 (by decide)).trans (hF464.2.1 118 (by decide)))) (((hF544.2.1 119 (by decide)).trans (hF464.2.1 119 (by decide)))) (((hF544.2.1 129 (by decide)).trans (hF464.2.1 129 (by decide)))) (((hF544.2.1 130 (by decide)).trans (hF464.2.1 130 (by decide)))) (((hF544.2.1 120 (by decide)).trans (hF464.2.1 120 (by decide)))) (((hF544.2.1 234 (by decide)).trans (hF464.2.1 234 (by decide)))) (congrArg Int32.toInt (((hF544.1 116 4 (by decide)).trans (hF464.1 116 4 (by decide))))), (show RT _ from fun i i0 i1 => (eA_ti (((hF544.2.1 175 (by decide)).trans (hF464.2.1 175 (by decide))))).trans ((hR_17 i i0 (by omega)).trans (eA_ti (((hF544.2.1 236 (by decide)).trans (hF464.2.1 236 (by decide))))).symm)), (show BYX _ from fun i i0 i1 => by rw [TX.c (((hF544.2.1 175 (by decide)).trans (hF464.2.1 175 (by decide))))]; exact hR_18 i i0 (by have i2 : i < (gI _ 174 1).toInt := i1; show i < (gI g0 174 1).toInt; omega)), (LAWR_n hR_19 (LSA_tr (fe469.2.2 ⟨(fun h => n461_0 h.1), (fun h => h.2 n461_k)⟩) (LSA_fr hF544 rfl)) (by omega) (by omega) (by omega) (by omega) (by omega) (fun i i0 i1 => ((RW_n (fun i i0 i1 => (q551 i i0 i1).trans (if_neg (fun h => n541_0 h.1))) (fun h => h.2 n541_k)) i i0 i1).trans (eA_ti (hF464.2.1 233 (by decide)))) (fun i i0 i1 => ⟨eA_ti (((hF544.2.1 234 (by decide)).trans (hF464.2.1 234 (by decide)))), eA_ti (((hF544.2.1 234 (by decide)).trans (hF464.2.1 234 (by decide))))⟩) (TOLDX_fr hF544 rfl rfl rfl rfl (fe468.1 hR_19.2.2.2.2))), (SETX_fr hF544 rfl rfl rfl rfl rfl (fe468.2 hR_20))⟩)
  · have n613_e : (v2.toInt < 0 ∨ 1 < v2.toInt) := by omega
    have n613_0 : v2.toInt ≠ 0 := by omega
    have n613_1 : v2.toInt ≠ 1 := by omega
    refine r_callV 1280 rfl [.ref 0, .int v2] [] (Nat.le_of_ble_eq_true rfl) rfl (T_X10_back_0 _ hI0 v2) ?_
    rintro _ _ ⟨g614, rfl, hI615, hF616, v617, rfl, hr618⟩
    refine At.sti ?_
    have hF619 := Fr.tr hF0 hF616 rfl rfl
    have fe620 : PH _ := hr618.2.2
    replace hr618 := And.intro hr618.1 hr618.2.1
    have fe621 : PH _ := hr618.2.2
    replace hr618 := And.intro hr618.1 hr618.2.1
    obtain ⟨q622, q623, q624, q625, q626, q627, q628, q629⟩ := hr618
    obtain ⟨p630, p631, p632, p633, p634, p635⟩ := (And.intro q622 q623)
    have w636 := p634 n613_e
    have w637 := p633 ⟨fun h => n613_0 h.1, fun h => n613_1 h.1⟩
    clear p631 p632 p633 p634 p635
    clear q623
    have f646 := congrArg Int32.toInt (hF616.1 59 0 rfl)
    have f647 := congrArg Int32.toInt (hF616.1 59 12 rfl)
    have f648 := congrArg Int32.toInt (hF616.1 59 10 rfl)
    have f649 := congrArg Int32.toInt (hF616.1 59 11 rfl)
    have f650 := congrArg Int32.toInt (hF616.1 59 4 rfl)
    have f651 := congrArg Int32.toInt (hF616.1 59 6 rfl)
    have f652 := congrArg Int32.toInt (hF616.1 59 9 rfl)
    have f653 := congrArg Int32.toInt (hF616.1 116 0 rfl)
    have f654 := congrArg Int32.toInt (hF616.1 116 12 rfl)
    have f655 := congrArg Int32.toInt (hF616.1 116 10 rfl)
    have f656 := congrArg Int32.toInt (hF616.1 116 11 rfl)
    have f657 := congrArg Int32.toInt (hF616.1 116 4 rfl)
    have f658 := congrArg Int32.toInt (hF616.1 116 6 rfl)
    have f659 := congrArg Int32.toInt (hF616.1 116 9 rfl)
    have f660 := congrArg Int32.toInt (eA_c (j := 0) (hF616.2.1 173 rfl))
    have f661 := congrArg Int32.toInt (eA_c (j := 1) (hF616.2.1 173 rfl))
    have f662 := congrArg Int32.toInt (hF616.1 174 1 rfl)
    have f663 := congrArg Int32.toInt (hF616.1 0 16 rfl)
    have f664 := congrArg Int32.toInt (hF616.1 176 2 rfl)
    have f665 := congrArg Int32.toInt (eA_c (j := 0) (hF616.2.1 233 rfl))
    have f666 := congrArg Int32.toInt (eA_c (j := 4) (hF616.2.1 233 rfl))
    have f667 := congrArg Int32.toInt (eA_c (j := 5) (hF616.2.1 233 rfl))
    have f668 := congrArg Int32.toInt (eA_c (j := 6) (hF616.2.1 233 rfl))
    have f669 := congrArg Int32.toInt (eA_c (j := 1) (hF616.2.1 233 rfl))
    have f670 := congrArg Int32.toInt (eA_c (j := 2) (hF616.2.1 233 rfl))
    have f671 := congrArg Int32.toInt (eA_c (j := 3) (hF616.2.1 233 rfl))
    have f672 := congrArg Int32.toInt (eA_c (j := 0) (hF616.2.1 234 rfl))
    have f673 := congrArg Int32.toInt (eA_c (j := 4) (hF616.2.1 234 rfl))
    have f674 := congrArg Int32.toInt (eA_c (j := 5) (hF616.2.1 234 rfl))
    have f675 := congrArg Int32.toInt (eA_c (j := 6) (hF616.2.1 234 rfl))
    have f676 := congrArg Int32.toInt (eA_c (j := 1) (hF616.2.1 234 rfl))
    have f677 := congrArg Int32.toInt (eA_c (j := 2) (hF616.2.1 234 rfl))
    have f678 := congrArg Int32.toInt (eA_c (j := 3) (hF616.2.1 234 rfl))
    have f679 := congrArg Int32.toInt (eA_c (j := 5510) (hF616.2.1 234 rfl))
    have f680 := congrArg Int32.toInt (eA_c (j := 5514) (hF616.2.1 234 rfl))
    have f681 := congrArg Int32.toInt (eA_c (j := 5515) (hF616.2.1 234 rfl))
    have f682 := congrArg Int32.toInt (eA_c (j := 5516) (hF616.2.1 234 rfl))
    have f683 := congrArg Int32.toInt (eA_c (j := 5511) (hF616.2.1 234 rfl))
    have f684 := congrArg Int32.toInt (eA_c (j := 5512) (hF616.2.1 234 rfl))
    have f685 := congrArg Int32.toInt (eA_c (j := 5513) (hF616.2.1 234 rfl))
    have f686 := congrArg Int32.toInt (eA_c (j := 0) (hF616.2.1 235 rfl))
    have f687 := congrArg Int32.toInt (eA_c (j := 1) (hF616.2.1 235 rfl))
    have f688 := congrArg Int32.toInt (hF616.1 231 8 rfl)
    have f689 := congrArg Int32.toInt (hF616.1 231 6 rfl)
    have f690 := congrArg Int32.toInt (hF616.1 231 13 rfl)
    refine At.enter rfl ?_
    refine r_pop rfl ?_
    refine r_aload_n e2 ?_
    refine r_sload_n e0 ?_
    refine r_iload_n e3 ?_
    refine r_iconst 1 rfl ?_
    refine q_iadd (i.toInt + 1) rfl hx_1 (fun v691 hv691 => ?_)
    refine q_scald (m := L) hL (i.toInt + 1) hv691 hy_1 (fun v692 hv692 => ?_)
    have sv692 := hv2.symm.trans hv692
    subst sv692
    have n693_e : (v2.toInt < 0 ∨ 1 < v2.toInt) := by omega
    have n693_0 : v2.toInt ≠ 0 := by omega
    have n693_1 : v2.toInt ≠ 1 := by omega
    refine r_callV 1290 rfl [.ref 231, .int v2] [] (Nat.le_of_ble_eq_true rfl) rfl (T_X11_back_231 _ hI615 v2) ?_
    rintro _ _ ⟨g694, rfl, hI695, hF696, v697, rfl, hr698⟩
    refine At.sti ?_
    have hF699 := Fr.tr hF619 hF696 rfl rfl
    obtain ⟨q701, q702, q703⟩ := hr698
    obtain ⟨p704, p705, p706, p707, p708, p709⟩ := (And.intro q701 q702)
    have w710 := p708 n693_e
    have w711 := p707 ⟨fun h => n693_0 h.1, fun h => n693_1 h.1⟩
    clear p705 p706 p707 p708 p709
    clear q702
    have f713 := congrArg Int32.toInt (hF696.1 1 0 rfl)
    have f714 := congrArg Int32.toInt (hF696.1 1 12 rfl)
    have f715 := congrArg Int32.toInt (hF696.1 1 10 rfl)
    have f716 := congrArg Int32.toInt (hF696.1 1 11 rfl)
    have f717 := congrArg Int32.toInt (hF696.1 1 4 rfl)
    have f718 := congrArg Int32.toInt (hF696.1 1 6 rfl)
    have f719 := congrArg Int32.toInt (hF696.1 1 9 rfl)
    have f720 := congrArg Int32.toInt (hF696.1 59 0 rfl)
    have f721 := congrArg Int32.toInt (hF696.1 59 12 rfl)
    have f722 := congrArg Int32.toInt (hF696.1 59 10 rfl)
    have f723 := congrArg Int32.toInt (hF696.1 59 11 rfl)
    have f724 := congrArg Int32.toInt (hF696.1 59 4 rfl)
    have f725 := congrArg Int32.toInt (hF696.1 59 6 rfl)
    have f726 := congrArg Int32.toInt (hF696.1 59 9 rfl)
    have f727 := congrArg Int32.toInt (hF696.1 116 0 rfl)
    have f728 := congrArg Int32.toInt (hF696.1 116 12 rfl)
    have f729 := congrArg Int32.toInt (hF696.1 116 10 rfl)
    have f730 := congrArg Int32.toInt (hF696.1 116 11 rfl)
    have f731 := congrArg Int32.toInt (hF696.1 116 4 rfl)
    have f732 := congrArg Int32.toInt (hF696.1 116 6 rfl)
    have f733 := congrArg Int32.toInt (hF696.1 116 9 rfl)
    have f734 := congrArg Int32.toInt (eA_c (j := 0) (hF696.2.1 173 rfl))
    have f735 := congrArg Int32.toInt (eA_c (j := 1) (hF696.2.1 173 rfl))
    have f736 := congrArg Int32.toInt (hF696.1 174 1 rfl)
    have f737 := congrArg Int32.toInt (hF696.1 0 16 rfl)
    have f738 := congrArg Int32.toInt (hF696.1 176 2 rfl)
    have f746 := congrArg Int32.toInt (eA_c (j := 0) (hF696.2.1 234 rfl))
    have f747 := congrArg Int32.toInt (eA_c (j := 4) (hF696.2.1 234 rfl))
    have f748 := congrArg Int32.toInt (eA_c (j := 5) (hF696.2.1 234 rfl))
    have f749 := congrArg Int32.toInt (eA_c (j := 6) (hF696.2.1 234 rfl))
    have f750 := congrArg Int32.toInt (eA_c (j := 1) (hF696.2.1 234 rfl))
    have f751 := congrArg Int32.toInt (eA_c (j := 2) (hF696.2.1 234 rfl))
    have f752 := congrArg Int32.toInt (eA_c (j := 3) (hF696.2.1 234 rfl))
    have f753 := congrArg Int32.toInt (eA_c (j := 5510) (hF696.2.1 234 rfl))
    have f754 := congrArg Int32.toInt (eA_c (j := 5514) (hF696.2.1 234 rfl))
    have f755 := congrArg Int32.toInt (eA_c (j := 5515) (hF696.2.1 234 rfl))
    have f756 := congrArg Int32.toInt (eA_c (j := 5516) (hF696.2.1 234 rfl))
    have f757 := congrArg Int32.toInt (eA_c (j := 5511) (hF696.2.1 234 rfl))
    have f758 := congrArg Int32.toInt (eA_c (j := 5512) (hF696.2.1 234 rfl))
    have f759 := congrArg Int32.toInt (eA_c (j := 5513) (hF696.2.1 234 rfl))
    have f760 := congrArg Int32.toInt (eA_c (j := 0) (hF696.2.1 235 rfl))
    have f761 := congrArg Int32.toInt (eA_c (j := 1) (hF696.2.1 235 rfl))
    have f762 := congrArg Int32.toInt (hF696.1 231 8 rfl)
    have f763 := congrArg Int32.toInt (hF696.1 231 6 rfl)
    have f764 := congrArg Int32.toInt (hF696.1 231 13 rfl)
    refine At.enter rfl ?_
    refine r_pop rfl ?_
    refine r_goto ?_
    exact K _ hI695 (show LwR _ from ⟨by first | (clear f646 f647 f648 f649 f650 f651 f652 f653 f654 f655 f656 f657 f658 f659 f660 f661 f662 f663 f664 f666 f667 f668 f669 f670 f671 f672 f673 f674 f675 f676 f677 f678 f679 f680 f681 f682 f683 f684 f685 f686 f687 f688 f689 f690 f714 f715 f716 f717 f718 f719 f720 f721 f722 f723 f724 f725 f726 f727 f728 f729 f730 f731 f732 f733 f734 f735 f736 f737 f738 f746 f747 f748 f749 f750 f751 f752 f753 f754 f755 f756 f757 f758 f759 f760 f761 f762 f763 f764; omega) | omega, by first | (clear f646 f647 f648 f649 f650 f651 f652 f653 f654 f655 f656 f657 f658 f659 f660 f661 f662 f663 f664 f665 f667 f668 f669 f670 f671 f672 f673 f674 f675 f676 f677 f678 f679 f680 f681 f682 f683 f684 f685 f686 f687 f688 f689 f690 f713 f715 f716 f717 f718 f719 f720 f721 f722 f723 f724 f725 f726 f727 f728 f729 f730 f731 f732 f733 f734 f735 f736 f737 f738 f746 f747 f748 f749 f750 f751 f752 f753 f754 f755 f756 f757 f758 f759 f760 f761 f762 f763 f764; omega) | omega, by first | (clear f646 f647 f648 f649 f650 f651 f652 f653 f654 f655 f656 f657 f658 f659 f660 f661 f662 f663 f664 f665 f666 f668 f669 f670 f671 f672 f673 f674 f675 f676 f677 f678 f679 f680 f681 f682 f683 f684 f685 f686 f687 f688 f689 f690 f713 f714 f716 f717 f718 f719 f720 f721 f722 f723 f724 f725 f726 f727 f728 f729 f730 f731 f732 f733 f734 f735 f736 f737 f738 f746 f747 f748 f749 f750 f751 f752 f753 f754 f755 f756 f757 f758 f759 f760 f761 f762 f763 f764; omega) | omega, by first | (clear f646 f647 f648 f649 f650 f651 f652 f653 f654 f655 f656 f657 f658 f659 f660 f661 f662 f663 f664 f665 f666 f667 f669 f670 f671 f672 f673 f674 f675 f676 f677 f678 f679 f680 f681 f682 f683 f684 f685 f686 f687 f688 f689 f690 f713 f714 f715 f717 f718 f719 f720 f721 f722 f723 f724 f725 f726 f727 f728 f729 f730 f731 f732 f733 f734 f735 f736 f737 f738 f746 f747 f748 f749 f750 f751 f752 f753 f754 f755 f756 f757 f758 f759 f760 f761 f762 f763 f764; omega) | omega, by first | (clear f646 f647 f648 f649 f650 f651 f652 f653 f654 f655 f656 f657 f658 f659 f660 f661 f662 f663 f664 f665 f666 f667 f668 f670 f671 f672 f673 f674 f675 f676 f677 f678 f679 f680 f681 f682 f683 f684 f685 f686 f687 f688 f689 f690 f713 f714 f715 f716 f718 f719 f720 f721 f722 f723 f724 f725 f726 f727 f728 f729 f730 f731 f732 f733 f734 f735 f736 f737 f738 f746 f747 f748 f749 f750 f751 f752 f753 f754 f755 f756 f757 f758 f759 f760 f761 f762 f763 f764; omega) | omega, by first | (clear f646 f647 f648 f649 f650 f651 f652 f653 f654 f655 f656 f657 f658 f659 f660 f661 f662 f663 f664 f665 f666 f667 f668 f669 f671 f672 f673 f674 f675 f676 f677 f678 f679 f680 f681 f682 f683 f684 f685 f686 f687 f688 f689 f690 f713 f714 f715 f716 f717 f719 f720 f721 f722 f723 f724 f725 f726 f727 f728 f729 f730 f731 f732 f733 f734 f735 f736 f737 f738 f746 f747 f748 f749 f750 f751 f752 f753 f754 f755 f756 f757 f758 f759 f760 f761 f762 f763 f764; omega) | omega, by first | (clear f646 f647 f648 f649 f650 f651 f652 f653 f654 f655 f656 f657 f658 f659 f660 f661 f662 f663 f664 f665 f666 f667 f668 f669 f670 f672 f673 f674 f675 f676 f677 f678 f679 f680 f681 f682 f683 f684 f685 f686 f687 f688 f689 f690 f713 f714 f715 f716 f717 f718 f720 f721 f722 f723 f724 f725 f726 f727 f728 f729 f730 f731 f732 f733 f734 f735 f736 f737 f738 f746 f747 f748 f749 f750 f751 f752 f753 f754 f755 f756 f757 f758 f759 f760 f761 f762 f763 f764; omega) | omega, (eA_ti (j := 0) (((hF696.2.1 173 (by decide)).trans (hF616.2.1 173 (by decide))))).trans (hR_7.trans (eA_ti (j := 0) (((hF696.2.1 235 (by decide)).trans (hF616.2.1 235 (by decide))))).symm), (eA_ti (j := 1) (((hF696.2.1 173 (by decide)).trans (hF616.2.1 173 (by decide))))).trans (hR_8.trans (eA_ti (j := 1) (((hF696.2.1 235 (by decide)).trans (hF616.2.1 235 (by decide))))).symm), (congrArg Int32.toInt (((hF696.1 174 1 (by decide)).trans (hF616.1 174 1 (by decide))))).trans (hR_9.trans (congrArg Int32.toInt (((hF696.1 231 8 (by decide)).trans (hF616.1 231 8 (by decide))))).symm), (congrArg Int32.toInt (((hF696.1 0 16 (by decide)).trans (hF616.1 0 16 (by decide))))).trans (hR_10.trans (congrArg Int32.toInt (((hF696.1 231 6 (by decide)).trans (hF616.1 231 6 (by decide))))).symm), (congrArg Int32.toInt (((hF696.1 176 2 (by decide)).trans (hF616.1 176 2 (by decide))))).trans (hR_11.trans (congrArg Int32.toInt (((hF696.1 231 13 (by decide)).trans (hF616.1 231 13 (by decide))))).symm), IM0.cong hR_12 (eA_ti (j := 0) (((hF696.2.1 173 (by decide)).trans (hF616.2.1 173 (by decide))))) (congrArg Int32.toInt (((hF696.1 59 0 (by decide)).trans (hF616.1 59 0 (by decide))))) (eA_ti (j := 0) (((hF696.2.1 234 (by decide)).trans (hF616.2.1 234 (by decide))))) (congrArg Int32.toInt (((hF696.1 59 12 (by decide)).trans (hF616.1 59 12 (by decide))))) (eA_ti (j := 4) (((hF696.2.1 234 (by decide)).trans (hF616.2.1 234 (by decide))))) (congrArg Int32.toInt (((hF696.1 59 10 (by decide)).trans (hF616.1 59 10 (by decide))))) (eA_ti (j := 5) (((hF696.2.1 234 (by decide)).trans (hF616.2.1 234 (by decide))))) (congrArg Int32.toInt (((hF696.1 59 11 (by decide)).trans (hF616.1 59 11 (by decide))))) (eA_ti (j := 6) (((hF696.2.1 234 (by decide)).trans (hF616.2.1 234 (by decide))))) (congrArg Int32.toInt (((hF696.1 59 4 (by decide)).trans (hF616.1 59 4 (by decide))))) (eA_ti (j := 1) (((hF696.2.1 234 (by decide)).trans (hF616.2.1 234 (by decide))))) (congrArg Int32.toInt (((hF696.1 59 6 (by decide)).trans (hF616.1 59 6 (by decide))))) (eA_ti (j := 2) (((hF696.2.1 234 (by decide)).trans (hF616.2.1 234 (by decide))))) (congrArg Int32.toInt (((hF696.1 59 9 (by decide)).trans (hF616.1 59 9 (by decide))))) (eA_ti (j := 3) (((hF696.2.1 234 (by decide)).trans (hF616.2.1 234 (by decide))))), IM1.cong hR_13 (eA_ti (j := 1) (((hF696.2.1 173 (by decide)).trans (hF616.2.1 173 (by decide))))) (congrArg Int32.toInt (((hF696.1 116 0 (by decide)).trans (hF616.1 116 0 (by decide))))) (eA_ti (j := 5510) (((hF696.2.1 234 (by decide)).trans (hF616.2.1 234 (by decide))))) (congrArg Int32.toInt (((hF696.1 116 12 (by decide)).trans (hF616.1 116 12 (by decide))))) (eA_ti (j := 5514) (((hF696.2.1 234 (by decide)).trans (hF616.2.1 234 (by decide))))) (congrArg Int32.toInt (((hF696.1 116 10 (by decide)).trans (hF616.1 116 10 (by decide))))) (eA_ti (j := 5515) (((hF696.2.1 234 (by decide)).trans (hF616.2.1 234 (by decide))))) (congrArg Int32.toInt (((hF696.1 116 11 (by decide)).trans (hF616.1 116 11 (by decide))))) (eA_ti (j := 5516) (((hF696.2.1 234 (by decide)).trans (hF616.2.1 234 (by decide))))) (congrArg Int32.toInt (((hF696.1 116 4 (by decide)).trans (hF616.1 116 4 (by decide))))) (eA_ti (j := 5511) (((hF696.2.1 234 (by decide)).trans (hF616.2.1 234 (by decide))))) (congrArg Int32.toInt (((hF696.1 116 6 (by decide)).trans (hF616.1 116 6 (by decide))))) (eA_ti (j := 5512) (((hF696.2.1 234 (by decide)).trans (hF616.2.1 234 (by decide))))) (congrArg Int32.toInt (((hF696.1 116 9 (by decide)).trans (hF616.1 116 9 (by decide))))) (eA_ti (j := 5513) (((hF696.2.1 234 (by decide)).trans (hF616.2.1 234 (by decide))))), (show CT _ from ⟨fun i i0 i1 => ⟨(by first | (clear f646 f647 f648 f649 f650 f651 f652 f653 f654 f655 f656 f657 f658 f659 f662 f663 f664 f672 f673 f674 f675 f676 f677 f678 f679 f680 f681 f682 f683 f684 f685 f688 f689 f690 f720 f721 f722 f723 f724 f725 f726 f727 f728 f729 f730 f731 f732 f733 f736 f737 f738 f746 f747 f748 f749 f750 f751 f752 f753 f754 f755 f756 f757 f758 f759 f762 f763 f764; have t0_ := hI0.t0; have t1_ := hI0.t1; have o := (hR_14.1 i i0 i1).1; have o0 := (hR_15.1 i i0 i1).1; have o1 := (hR_16.1 i i0 i1).1; have x := (eA_ti (j := i) (hF696.2.1 2 (by decide))).trans (q624 i i0 i1); have m := q703 (10 + 3 * i) (by omega) (by omega); have y1 := eA_ti (j := ((10 + 3 * i))) (hF616.2.1 234 (by decide)); have y2 := eA_ti (j := (5510 + ((10 + 3 * i)))) (hF616.2.1 234 (by decide)); have y3 := eA_ti (j := ((10 + 3 * i))) (hF616.2.1 233 (by decide)); (try split at x) <;> (try split at x) <;> (try split at m) <;> (try split at m) <;> omega) | (have t0_ := hI0.t0; have t1_ := hI0.t1; have o := (hR_14.1 i i0 i1).1; have o0 := (hR_15.1 i i0 i1).1; have o1 := (hR_16.1 i i0 i1).1; have x := (eA_ti (j := i) (hF696.2.1 2 (by decide))).trans (q624 i i0 i1); have m := q703 (10 + 3 * i) (by omega) (by omega); have y1 := eA_ti (j := ((10 + 3 * i))) (hF616.2.1 234 (by decide)); have y2 := eA_ti (j := (5510 + ((10 + 3 * i)))) (hF616.2.1 234 (by decide)); have y3 := eA_ti (j := ((10 + 3 * i))) (hF616.2.1 233 (by decide)); (try split at x) <;> (try split at x) <;> (try split at m) <;> (try split at m) <;> omega)), (by first | (clear f646 f647 f648 f649 f650 f651 f652 f653 f654 f655 f656 f657 f658 f659 f662 f663 f664 f672 f673 f674 f675 f676 f677 f678 f679 f680 f681 f682 f683 f684 f685 f688 f689 f690 f720 f721 f722 f723 f724 f725 f726 f727 f728 f729 f730 f731 f732 f733 f736 f737 f738 f746 f747 f748 f749 f750 f751 f752 f753 f754 f755 f756 f757 f758 f759 f762 f763 f764; have t0_ := hI0.t0; have t1_ := hI0.t1; have o := (hR_14.1 i i0 i1).2.1; have o0 := (hR_15.1 i i0 i1).2.1; have o1 := (hR_16.1 i i0 i1).2.1; have x := (eA_ti (j := i) (hF696.2.1 3 (by decide))).trans (q625 i i0 i1); have m := q703 (10 + 3 * i + 1) (by omega) (by omega); have y1 := eA_ti (j := ((10 + 3 * i + 1))) (hF616.2.1 234 (by decide)); have y2 := eA_ti (j := (5510 + ((10 + 3 * i + 1)))) (hF616.2.1 234 (by decide)); have y3 := eA_ti (j := ((10 + 3 * i + 1))) (hF616.2.1 233 (by decide)); (try split at x) <;> (try split at x) <;> (try split at m) <;> (try split at m) <;> omega) | (have t0_ := hI0.t0; have t1_ := hI0.t1; have o := (hR_14.1 i i0 i1).2.1; have o0 := (hR_15.1 i i0 i1).2.1; have o1 := (hR_16.1 i i0 i1).2.1; have x := (eA_ti (j := i) (hF696.2.1 3 (by decide))).trans (q625 i i0 i1); have m := q703 (10 + 3 * i + 1) (by omega) (by omega); have y1 := eA_ti (j := ((10 + 3 * i + 1))) (hF616.2.1 234 (by decide)); have y2 := eA_ti (j := (5510 + ((10 + 3 * i + 1)))) (hF616.2.1 234 (by decide)); have y3 := eA_ti (j := ((10 + 3 * i + 1))) (hF616.2.1 233 (by decide)); (try split at x) <;> (try split at x) <;> (try split at m) <;> (try split at m) <;> omega)), (by first | (clear f646 f647 f648 f649 f650 f651 f652 f653 f654 f655 f656 f657 f658 f659 f662 f663 f664 f672 f673 f674 f675 f676 f677 f678 f679 f680 f681 f682 f683 f684 f685 f688 f689 f690 f720 f721 f722 f723 f724 f725 f726 f727 f728 f729 f730 f731 f732 f733 f736 f737 f738 f746 f747 f748 f749 f750 f751 f752 f753 f754 f755 f756 f757 f758 f759 f762 f763 f764; have t0_ := hI0.t0; have t1_ := hI0.t1; have o := (hR_14.1 i i0 i1).2.2; have o0 := (hR_15.1 i i0 i1).2.2; have o1 := (hR_16.1 i i0 i1).2.2; have x := (eA_ti (j := i) (hF696.2.1 4 (by decide))).trans (q626 i i0 i1); have m := q703 (10 + 3 * i + 2) (by omega) (by omega); have y1 := eA_ti (j := ((10 + 3 * i + 2))) (hF616.2.1 234 (by decide)); have y2 := eA_ti (j := (5510 + ((10 + 3 * i + 2)))) (hF616.2.1 234 (by decide)); have y3 := eA_ti (j := ((10 + 3 * i + 2))) (hF616.2.1 233 (by decide)); (try split at x) <;> (try split at x) <;> (try split at m) <;> (try split at m) <;> omega) | (have t0_ := hI0.t0; have t1_ := hI0.t1; have o := (hR_14.1 i i0 i1).2.2; have o0 := (hR_15.1 i i0 i1).2.2; have o1 := (hR_16.1 i i0 i1).2.2; have x := (eA_ti (j := i) (hF696.2.1 4 (by decide))).trans (q626 i i0 i1); have m := q703 (10 + 3 * i + 2) (by omega) (by omega); have y1 := eA_ti (j := ((10 + 3 * i + 2))) (hF616.2.1 234 (by decide)); have y2 := eA_ti (j := (5510 + ((10 + 3 * i + 2)))) (hF616.2.1 234 (by decide)); have y3 := eA_ti (j := ((10 + 3 * i + 2))) (hF616.2.1 233 (by decide)); (try split at x) <;> (try split at x) <;> (try split at m) <;> (try split at m) <;> omega))⟩, fun i i0 i1 => ⟨(by first | (clear f646 f647 f648 f649 f650 f651 f652 f653 f654 f655 f656 f657 f658 f659 f662 f663 f664 f672 f673 f674 f675 f676 f677 f678 f679 f680 f681 f682 f683 f684 f685 f688 f689 f690 f720 f721 f722 f723 f724 f725 f726 f727 f728 f729 f730 f731 f732 f733 f736 f737 f738 f746 f747 f748 f749 f750 f751 f752 f753 f754 f755 f756 f757 f758 f759 f762 f763 f764; have t0_ := hI0.t0; have t1_ := hI0.t1; have o := (hR_14.2.1 i i0 i1).1; have o0 := (hR_15.2.1 i i0 i1).1; have o1 := (hR_16.2.1 i i0 i1).1; have x := (eA_ti (j := i) (hF696.2.1 14 (by decide))).trans (q627 i i0 i1); have m := q703 (94 + 2 * i) (by omega) (by omega); have y1 := eA_ti (j := ((94 + 2 * i))) (hF616.2.1 234 (by decide)); have y2 := eA_ti (j := (5510 + ((94 + 2 * i)))) (hF616.2.1 234 (by decide)); have y3 := eA_ti (j := ((94 + 2 * i))) (hF616.2.1 233 (by decide)); (try split at x) <;> (try split at x) <;> (try split at m) <;> (try split at m) <;> omega) | (have t0_ := hI0.t0; have t1_ := hI0.t1; have o := (hR_14.2.1 i i0 i1).1; have o0 := (hR_15.2.1 i i0 i1).1; have o1 := (hR_16.2.1 i i0 i1).1; have x := (eA_ti (j := i) (hF696.2.1 14 (by decide))).trans (q627 i i0 i1); have m := q703 (94 + 2 * i) (by omega) (by omega); have y1 := eA_ti (j := ((94 + 2 * i))) (hF616.2.1 234 (by decide)); have y2 := eA_ti (j := (5510 + ((94 + 2 * i)))) (hF616.2.1 234 (by decide)); have y3 := eA_ti (j := ((94 + 2 * i))) (hF616.2.1 233 (by decide)); (try split at x) <;> (try split at x) <;> (try split at m) <;> (try split at m) <;> omega)), (by first | (clear f646 f647 f648 f649 f650 f651 f652 f653 f654 f655 f656 f657 f658 f659 f662 f663 f664 f672 f673 f674 f675 f676 f677 f678 f679 f680 f681 f682 f683 f684 f685 f688 f689 f690 f720 f721 f722 f723 f724 f725 f726 f727 f728 f729 f730 f731 f732 f733 f736 f737 f738 f746 f747 f748 f749 f750 f751 f752 f753 f754 f755 f756 f757 f758 f759 f762 f763 f764; have t0_ := hI0.t0; have t1_ := hI0.t1; have o := (hR_14.2.1 i i0 i1).2; have o0 := (hR_15.2.1 i i0 i1).2; have o1 := (hR_16.2.1 i i0 i1).2; have x := (eA_ti (j := i) (hF696.2.1 15 (by decide))).trans (q628 i i0 i1); have m := q703 (94 + 2 * i + 1) (by omega) (by omega); have y1 := eA_ti (j := ((94 + 2 * i + 1))) (hF616.2.1 234 (by decide)); have y2 := eA_ti (j := (5510 + ((94 + 2 * i + 1)))) (hF616.2.1 234 (by decide)); have y3 := eA_ti (j := ((94 + 2 * i + 1))) (hF616.2.1 233 (by decide)); (try split at x) <;> (try split at x) <;> (try split at m) <;> (try split at m) <;> omega) | (have t0_ := hI0.t0; have t1_ := hI0.t1; have o := (hR_14.2.1 i i0 i1).2; have o0 := (hR_15.2.1 i i0 i1).2; have o1 := (hR_16.2.1 i i0 i1).2; have x := (eA_ti (j := i) (hF696.2.1 15 (by decide))).trans (q628 i i0 i1); have m := q703 (94 + 2 * i + 1) (by omega) (by omega); have y1 := eA_ti (j := ((94 + 2 * i + 1))) (hF616.2.1 234 (by decide)); have y2 := eA_ti (j := (5510 + ((94 + 2 * i + 1)))) (hF616.2.1 234 (by decide)); have y3 := eA_ti (j := ((94 + 2 * i + 1))) (hF616.2.1 233 (by decide)); (try split at x) <;> (try split at x) <;> (try split at m) <;> (try split at m) <;> omega))⟩, fun i i0 i1 => (by first | (clear f646 f647 f648 f649 f650 f651 f652 f653 f654 f655 f656 f657 f658 f659 f662 f663 f664 f672 f673 f674 f675 f676 f677 f678 f679 f680 f681 f682 f683 f684 f685 f688 f689 f690 f720 f721 f722 f723 f724 f725 f726 f727 f728 f729 f730 f731 f732 f733 f736 f737 f738 f746 f747 f748 f749 f750 f751 f752 f753 f754 f755 f756 f757 f758 f759 f762 f763 f764; have t0_ := hI0.t0; have t1_ := hI0.t1; have o : i < 6 * (gI g0 1 4).toInt → _ := fun hz => hR_14.2.2 i i0 hz; have o0 : i < 6 * (gI g0 59 4).toInt → _ := fun hz => hR_15.2.2 i i0 hz; have o1 : i < 6 * (gI g0 116 4).toInt → _ := fun hz => hR_16.2.2 i i0 hz; have t9_ := RgF.at hI695.2.1 (p := 1) (b := 4) rfl; dsimp only at t9_; have i9_ : i < 48 := (by omega); have x := (eA_ti (j := i) (hF696.2.1 5 (by decide))).trans (q629 i i0 i9_); have m := q703 (46 + i) (by omega) (by omega); have y1 := eA_ti (j := ((46 + i))) (hF616.2.1 234 (by decide)); have y2 := eA_ti (j := (5510 + ((46 + i)))) (hF616.2.1 234 (by decide)); have y3 := eA_ti (j := ((46 + i))) (hF616.2.1 233 (by decide)); (try split at x) <;> (try split at x) <;> (try split at m) <;> (try split at m) <;> omega) | (have t0_ := hI0.t0; have t1_ := hI0.t1; have o : i < 6 * (gI g0 1 4).toInt → _ := fun hz => hR_14.2.2 i i0 hz; have o0 : i < 6 * (gI g0 59 4).toInt → _ := fun hz => hR_15.2.2 i i0 hz; have o1 : i < 6 * (gI g0 116 4).toInt → _ := fun hz => hR_16.2.2 i i0 hz; have t9_ := RgF.at hI695.2.1 (p := 1) (b := 4) rfl; dsimp only at t9_; have i9_ : i < 48 := (by omega); have x := (eA_ti (j := i) (hF696.2.1 5 (by decide))).trans (q629 i i0 i9_); have m := q703 (46 + i) (by omega) (by omega); have y1 := eA_ti (j := ((46 + i))) (hF616.2.1 234 (by decide)); have y2 := eA_ti (j := (5510 + ((46 + i)))) (hF616.2.1 234 (by decide)); have y3 := eA_ti (j := ((46 + i))) (hF616.2.1 233 (by decide)); (try split at x) <;> (try split at x) <;> (try split at m) <;> (try split at m) <;> omega))⟩), CI0.cong hR_15 (((hF696.2.1 60 (by decide)).trans (hF616.2.1 60 (by decide)))) (((hF696.2.1 61 (by decide)).trans (hF616.2.1 61 (by decide)))) (((hF696.2.1 62 (by decide)).trans (hF616.2.1 62 (by decide)))) (((hF696.2.1 72 (by decide)).trans (hF616.2.1 72 (by decide)))) (((hF696.2.1 73 (by decide)).trans (hF616.2.1 73 (by decide)))) (((hF696.2.1 63 (by decide)).trans (hF616.2.1 63 (by decide)))) (((hF696.2.1 234 (by decide)).trans (hF616.2.1 234 (by decide)))) (congrArg Int32.toInt (((hF696.1 59 4 (by decide)).trans (hF616.1 59 4 (by decide))))), CI1.cong hR_16 (((hF696.2.1 117 (by decide)).trans (hF616.2.1 117 (by decide)))) (((hF696.2.1 118 (by decide)).trans (hF616.2.1 118 (by decide)))) (((hF696.2.1 119 (by decide)).trans (hF616.2.1 119 (by decide)))) (((hF696.2.1 129 (by decide)).trans (hF616.2.1 129 (by decide)))) (((hF696.2.1 130 (by decide)).trans (hF616.2.1 130 (by decide)))) (((hF696.2.1 120 (by decide)).trans (hF616.2.1 120 (by decide)))) (((hF696.2.1 234 (by decide)).trans (hF616.2.1 234 (by decide)))) (congrArg Int32.toInt (((hF696.1 116 4 (by decide)).trans (hF616.1 116 4 (by decide))))), (show RT _ from fun i i0 i1 => (eA_ti (((hF696.2.1 175 (by decide)).trans (hF616.2.1 175 (by decide))))).trans ((hR_17 i i0 (by omega)).trans (eA_ti (((hF696.2.1 236 (by decide)).trans (hF616.2.1 236 (by decide))))).symm)), (show BYX _ from fun i i0 i1 => by rw [TX.c (((hF696.2.1 175 (by decide)).trans (hF616.2.1 175 (by decide))))]; exact hR_18 i i0 (by have i2 : i < (gI _ 174 1).toInt := i1; show i < (gI g0 174 1).toInt; omega)), (LAWR_n hR_19 (LSA_tr (fe621.2.2 ⟨(fun h => n613_0 h.1), (fun h => n613_1 h.1)⟩) (LSA_fr hF696 rfl)) (by omega) (by omega) (by omega) (by omega) (by omega) (fun i i0 i1 => ((RW_n (fun i i0 i1 => (q703 i i0 i1).trans (if_neg (fun h => n693_0 h.1))) (fun h => n693_1 h.1)) i i0 i1).trans (eA_ti (hF616.2.1 233 (by decide)))) (fun i i0 i1 => ⟨eA_ti (((hF696.2.1 234 (by decide)).trans (hF616.2.1 234 (by decide)))), eA_ti (((hF696.2.1 234 (by decide)).trans (hF616.2.1 234 (by decide))))⟩) (TOLDX_fr hF696 rfl rfl rfl rfl (fe620.1 hR_19.2.2.2.2))), (SETX_fr hF696 rfl rfl rfl rfl rfl (fe620.2 hR_20))⟩)
