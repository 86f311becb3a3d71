set_option maxRecDepth 100000 in
set_option maxHeartbeats 8000000 in
theorem lq_c37 (d : Nat) {N : Nat} {g0 : List en_E} (hI0 : HI g0) (hR0 : LwR g0) {ys : List Int32} {L : Nat} (hL : ys.length = L) (hL2 : L ≤ 3584) {l : en_L} {i : Int32} (e0 : en_get 0 l = some (.float 0)) (e1 : en_get 1 l = some (.ref 0)) (e2 : en_get 2 l = some (.ref 231)) (e3 : en_get 3 l = some (.int i)) (hi : 0 ≤ i.toInt ∧ i.toInt + 7 ≤ L) {Ph : Option Value → en_H → Prop} (K : ∀ g1 : List en_E, HI g1 → LwR g1 → At (d + 423) (some ys) (some .boolean) bs_L_law (1330, l, [], (g1, N)) Ph) : At (d + 423) (some ys) (some .boolean) bs_L_law (1271, l, [], (g0, N)) Ph := by
  have hF0 : Fr F_law A_law g0 g0 := Fr.rf
  have hx_1 : -2147483648 ≤ i.toInt + 1 ∧ i.toInt + 1 ≤ 2147483647 := by omega
  have hx_2 : -2147483648 ≤ i.toInt + 2 ∧ i.toInt + 2 ≤ 2147483647 := by omega
  have hx_3 : -2147483648 ≤ i.toInt + 3 ∧ i.toInt + 3 ≤ 2147483647 := by omega
  have hx_4 : -2147483648 ≤ i.toInt + 4 ∧ i.toInt + 4 ≤ 2147483647 := by omega
  have hx_5 : -2147483648 ≤ i.toInt + 5 ∧ i.toInt + 5 ≤ 2147483647 := by omega
  have hx_6 : -2147483648 ≤ i.toInt + 6 ∧ i.toInt + 6 ≤ 2147483647 := by omega
  have hy_0 : 0 ≤ i.toInt ∧ i.toInt < (L : Int) := by omega
  have hy_1 : 0 ≤ i.toInt + 1 ∧ i.toInt + 1 < (L : Int) := by omega
  have hy_2 : 0 ≤ i.toInt + 2 ∧ i.toInt + 2 < (L : Int) := by omega
  have hy_3 : 0 ≤ i.toInt + 3 ∧ i.toInt + 3 < (L : Int) := by omega
  have hy_4 : 0 ≤ i.toInt + 4 ∧ i.toInt + 4 < (L : Int) := by omega
  have hy_5 : 0 ≤ i.toInt + 5 ∧ i.toInt + 5 < (L : Int) := by omega
  have hy_6 : 0 ≤ i.toInt + 6 ∧ i.toInt + 6 < (L : Int) := by omega
  unfold LwR at hR0
  obtain ⟨hR_0, hR_1, hR_2, hR_3, hR_4, hR_5, hR_6, hR_7, hR_8, hR_9, hR_10, hR_11, hR_12, hR_13, hR_14, hR_15, hR_16, hR_17, hR_18, hR_19⟩ := hR0
  refine At.enter rfl ?_
  refine r_aload_n e1 ?_
  refine r_sload_n e0 ?_
  refine r_iload_n e3 ?_
  refine r_iconst 1 rfl ?_
  refine q_iadd (i.toInt + 1) rfl hx_1 (fun v1 hv1 => ?_)
  refine q_scald (m := L) hL (i.toInt + 1) hv1 hy_1 (fun v2 hv2 => ?_)
  rcases (show (v2.toInt = 0 ∧ ¬ (eA g0 173 0).toInt = 0) ∨ (v2.toInt = 0 ∧ (eA g0 173 0).toInt = 0) ∨ (v2.toInt = 1 ∧ ¬ (eA g0 173 1).toInt = 0) ∨ (v2.toInt = 1 ∧ (eA g0 173 1).toInt = 0) ∨ (v2.toInt < 0 ∨ 1 < v2.toInt) by omega) with u3 | u3 | u3 | u3 | u3
  · have n5_e : v2.toInt = 0 := by omega
    have n5_1 : v2.toInt ≠ 1 := by omega
    have n5_k : (eA g0 173 0).toInt ≠ 0 := by omega
    have n5_i := hR_13 (by omega)
    refine r_callV 1280 rfl [.ref 0, .int v2] [] (Nat.le_of_ble_eq_true rfl) rfl (T_X10_back_0 _ hI0 v2) ?_
    rintro _ _ ⟨g6, rfl, hI7, hF8, v9, rfl, hr10⟩
    refine At.sti ?_
    have hF11 := Fr.tr hF0 hF8 rfl rfl
    have su12 := hr10.2.2
    obtain ⟨q13, q14, q15, q16, q17, q18, q19, q20⟩ := (And.intro hr10.1 hr10.2.1)
    obtain ⟨p21, p22, p23, p24, p25, p26⟩ := (And.intro q13 q14)
    have w27 := p22 ⟨n5_e, n5_k⟩
    clear p22 p23 p24 p25 p26
    clear q14
    have f37 := congrArg Int32.toInt (hF8.1 59 0 rfl)
    have f38 := congrArg Int32.toInt (hF8.1 59 12 rfl)
    have f39 := congrArg Int32.toInt (hF8.1 59 10 rfl)
    have f40 := congrArg Int32.toInt (hF8.1 59 11 rfl)
    have f41 := congrArg Int32.toInt (hF8.1 59 4 rfl)
    have f42 := congrArg Int32.toInt (hF8.1 59 6 rfl)
    have f43 := congrArg Int32.toInt (hF8.1 59 9 rfl)
    have f44 := congrArg Int32.toInt (hF8.1 116 0 rfl)
    have f45 := congrArg Int32.toInt (hF8.1 116 12 rfl)
    have f46 := congrArg Int32.toInt (hF8.1 116 10 rfl)
    have f47 := congrArg Int32.toInt (hF8.1 116 11 rfl)
    have f48 := congrArg Int32.toInt (hF8.1 116 4 rfl)
    have f49 := congrArg Int32.toInt (hF8.1 116 6 rfl)
    have f50 := congrArg Int32.toInt (hF8.1 116 9 rfl)
    have f51 := congrArg Int32.toInt (eA_c (j := 0) (hF8.2.1 173 rfl))
    have f52 := congrArg Int32.toInt (eA_c (j := 1) (hF8.2.1 173 rfl))
    have f53 := congrArg Int32.toInt (hF8.1 174 1 rfl)
    have f54 := congrArg Int32.toInt (hF8.1 0 16 rfl)
    have f55 := congrArg Int32.toInt (hF8.1 176 2 rfl)
    have f57 := congrArg Int32.toInt (eA_c (j := 0) (hF8.2.1 233 rfl))
    have f58 := congrArg Int32.toInt (eA_c (j := 4) (hF8.2.1 233 rfl))
    have f59 := congrArg Int32.toInt (eA_c (j := 5) (hF8.2.1 233 rfl))
    have f60 := congrArg Int32.toInt (eA_c (j := 6) (hF8.2.1 233 rfl))
    have f61 := congrArg Int32.toInt (eA_c (j := 1) (hF8.2.1 233 rfl))
    have f62 := congrArg Int32.toInt (eA_c (j := 2) (hF8.2.1 233 rfl))
    have f63 := congrArg Int32.toInt (eA_c (j := 3) (hF8.2.1 233 rfl))
    have f64 := congrArg Int32.toInt (eA_c (j := 0) (hF8.2.1 234 rfl))
    have f65 := congrArg Int32.toInt (eA_c (j := 4) (hF8.2.1 234 rfl))
    have f66 := congrArg Int32.toInt (eA_c (j := 5) (hF8.2.1 234 rfl))
    have f67 := congrArg Int32.toInt (eA_c (j := 6) (hF8.2.1 234 rfl))
    have f68 := congrArg Int32.toInt (eA_c (j := 1) (hF8.2.1 234 rfl))
    have f69 := congrArg Int32.toInt (eA_c (j := 2) (hF8.2.1 234 rfl))
    have f70 := congrArg Int32.toInt (eA_c (j := 3) (hF8.2.1 234 rfl))
    have f71 := congrArg Int32.toInt (eA_c (j := 5510) (hF8.2.1 234 rfl))
    have f72 := congrArg Int32.toInt (eA_c (j := 5514) (hF8.2.1 234 rfl))
    have f73 := congrArg Int32.toInt (eA_c (j := 5515) (hF8.2.1 234 rfl))
    have f74 := congrArg Int32.toInt (eA_c (j := 5516) (hF8.2.1 234 rfl))
    have f75 := congrArg Int32.toInt (eA_c (j := 5511) (hF8.2.1 234 rfl))
    have f76 := congrArg Int32.toInt (eA_c (j := 5512) (hF8.2.1 234 rfl))
    have f77 := congrArg Int32.toInt (eA_c (j := 5513) (hF8.2.1 234 rfl))
    have f78 := congrArg Int32.toInt (eA_c (j := 0) (hF8.2.1 235 rfl))
    have f79 := congrArg Int32.toInt (eA_c (j := 1) (hF8.2.1 235 rfl))
    have f80 := congrArg Int32.toInt (hF8.1 231 8 rfl)
    have f81 := congrArg Int32.toInt (hF8.1 231 6 rfl)
    have f82 := congrArg Int32.toInt (hF8.1 231 13 rfl)
    have f83 := congrArg Int32.toInt (hF8.1 231 1 rfl)
    refine At.enter rfl ?_
    refine r_pop rfl ?_
    refine r_aload_n e2 ?_
    refine r_sload_n e0 ?_
    refine r_iload_n e3 ?_
    refine r_iconst 1 rfl ?_
    refine q_iadd (i.toInt + 1) rfl hx_1 (fun v84 hv84 => ?_)
    refine q_scald (m := L) hL (i.toInt + 1) hv84 hy_1 (fun v85 hv85 => ?_)
    have sv85 := hv2.symm.trans hv85
    subst sv85
    have n86_e : v2.toInt = 0 := by omega
    have n86_1 : v2.toInt ≠ 1 := by omega
    have n86_k : (eA g6 235 0).toInt ≠ 0 := by omega
    refine r_callV 1290 rfl [.ref 231, .int v2] [] (Nat.le_of_ble_eq_true rfl) rfl (T_X11_back_231 _ hI7 v2) ?_
    rintro _ _ ⟨g87, rfl, hI88, hF89, v90, rfl, hr91⟩
    refine At.sti ?_
    have hF92 := Fr.tr hF11 hF89 rfl rfl
    have su93 := hr91.2.2
    obtain ⟨q94, q95, q96⟩ := (And.intro hr91.1 hr91.2.1)
    obtain ⟨p97, p98, p99, p100, p101, p102⟩ := (And.intro q94 q95)
    have w103 := p98 ⟨n86_e, n86_k⟩
    clear p98 p99 p100 p101 p102
    clear q95
    have f106 := congrArg Int32.toInt (hF89.1 1 0 rfl)
    have f107 := congrArg Int32.toInt (hF89.1 1 12 rfl)
    have f108 := congrArg Int32.toInt (hF89.1 1 10 rfl)
    have f109 := congrArg Int32.toInt (hF89.1 1 11 rfl)
    have f110 := congrArg Int32.toInt (hF89.1 1 4 rfl)
    have f111 := congrArg Int32.toInt (hF89.1 1 6 rfl)
    have f112 := congrArg Int32.toInt (hF89.1 1 9 rfl)
    have f113 := congrArg Int32.toInt (hF89.1 59 0 rfl)
    have f114 := congrArg Int32.toInt (hF89.1 59 12 rfl)
    have f115 := congrArg Int32.toInt (hF89.1 59 10 rfl)
    have f116 := congrArg Int32.toInt (hF89.1 59 11 rfl)
    have f117 := congrArg Int32.toInt (hF89.1 59 4 rfl)
    have f118 := congrArg Int32.toInt (hF89.1 59 6 rfl)
    have f119 := congrArg Int32.toInt (hF89.1 59 9 rfl)
    have f120 := congrArg Int32.toInt (hF89.1 116 0 rfl)
    have f121 := congrArg Int32.toInt (hF89.1 116 12 rfl)
    have f122 := congrArg Int32.toInt (hF89.1 116 10 rfl)
    have f123 := congrArg Int32.toInt (hF89.1 116 11 rfl)
    have f124 := congrArg Int32.toInt (hF89.1 116 4 rfl)
    have f125 := congrArg Int32.toInt (hF89.1 116 6 rfl)
    have f126 := congrArg Int32.toInt (hF89.1 116 9 rfl)
    have f127 := congrArg Int32.toInt (eA_c (j := 0) (hF89.2.1 173 rfl))
    have f128 := congrArg Int32.toInt (eA_c (j := 1) (hF89.2.1 173 rfl))
    have f129 := congrArg Int32.toInt (hF89.1 174 1 rfl)
    have f130 := congrArg Int32.toInt (hF89.1 0 16 rfl)
    have f131 := congrArg Int32.toInt (hF89.1 176 2 rfl)
    have f132 := congrArg Int32.toInt (hF89.1 0 17 rfl)
    have f140 := congrArg Int32.toInt (eA_c (j := 0) (hF89.2.1 234 rfl))
    have f141 := congrArg Int32.toInt (eA_c (j := 4) (hF89.2.1 234 rfl))
    have f142 := congrArg Int32.toInt (eA_c (j := 5) (hF89.2.1 234 rfl))
    have f143 := congrArg Int32.toInt (eA_c (j := 6) (hF89.2.1 234 rfl))
    have f144 := congrArg Int32.toInt (eA_c (j := 1) (hF89.2.1 234 rfl))
    have f145 := congrArg Int32.toInt (eA_c (j := 2) (hF89.2.1 234 rfl))
    have f146 := congrArg Int32.toInt (eA_c (j := 3) (hF89.2.1 234 rfl))
    have f147 := congrArg Int32.toInt (eA_c (j := 5510) (hF89.2.1 234 rfl))
    have f148 := congrArg Int32.toInt (eA_c (j := 5514) (hF89.2.1 234 rfl))
    have f149 := congrArg Int32.toInt (eA_c (j := 5515) (hF89.2.1 234 rfl))
    have f150 := congrArg Int32.toInt (eA_c (j := 5516) (hF89.2.1 234 rfl))
    have f151 := congrArg Int32.toInt (eA_c (j := 5511) (hF89.2.1 234 rfl))
    have f152 := congrArg Int32.toInt (eA_c (j := 5512) (hF89.2.1 234 rfl))
    have f153 := congrArg Int32.toInt (eA_c (j := 5513) (hF89.2.1 234 rfl))
    have f154 := congrArg Int32.toInt (eA_c (j := 0) (hF89.2.1 235 rfl))
    have f155 := congrArg Int32.toInt (eA_c (j := 1) (hF89.2.1 235 rfl))
    have f156 := congrArg Int32.toInt (hF89.1 231 8 rfl)
    have f157 := congrArg Int32.toInt (hF89.1 231 6 rfl)
    have f158 := congrArg Int32.toInt (hF89.1 231 13 rfl)
    refine At.enter rfl ?_
    refine r_pop rfl ?_
    refine r_goto ?_
    have zr : v9.toInt = v90.toInt := by
      apply Decidable.byContradiction
      intro hne
      exfalso
      omega
    have zsu := SU.eq su12 su93 zr
    exact K _ hI88 (show LwR _ from ⟨by first | (clear f37 f38 f39 f40 f41 f42 f43 f44 f45 f46 f47 f48 f49 f50 f51 f52 f53 f54 f55 f58 f59 f60 f61 f62 f63 f64 f65 f66 f67 f68 f69 f70 f71 f72 f73 f74 f75 f76 f77 f78 f79 f80 f81 f82 f83 f107 f108 f109 f110 f111 f112 f113 f114 f115 f116 f117 f118 f119 f120 f121 f122 f123 f124 f125 f126 f127 f128 f129 f130 f131 f132 f140 f141 f142 f143 f144 f145 f146 f147 f148 f149 f150 f151 f152 f153 f154 f155 f156 f157 f158; omega) | omega, by first | (clear f37 f38 f39 f40 f41 f42 f43 f44 f45 f46 f47 f48 f49 f50 f51 f52 f53 f54 f55 f57 f59 f60 f61 f62 f63 f64 f65 f66 f67 f68 f69 f70 f71 f72 f73 f74 f75 f76 f77 f78 f79 f80 f81 f82 f83 f106 f108 f109 f110 f111 f112 f113 f114 f115 f116 f117 f118 f119 f120 f121 f122 f123 f124 f125 f126 f127 f128 f129 f130 f131 f132 f140 f141 f142 f143 f144 f145 f146 f147 f148 f149 f150 f151 f152 f153 f154 f155 f156 f157 f158; omega) | omega, by first | (clear f37 f38 f39 f40 f41 f42 f43 f44 f45 f46 f47 f48 f49 f50 f51 f52 f53 f54 f55 f57 f58 f60 f61 f62 f63 f64 f65 f66 f67 f68 f69 f70 f71 f72 f73 f74 f75 f76 f77 f78 f79 f80 f81 f82 f83 f106 f107 f109 f110 f111 f112 f113 f114 f115 f116 f117 f118 f119 f120 f121 f122 f123 f124 f125 f126 f127 f128 f129 f130 f131 f132 f140 f141 f142 f143 f144 f145 f146 f147 f148 f149 f150 f151 f152 f153 f154 f155 f156 f157 f158; omega) | omega, by first | (clear f37 f38 f39 f40 f41 f42 f43 f44 f45 f46 f47 f48 f49 f50 f51 f52 f53 f54 f55 f57 f58 f59 f61 f62 f63 f64 f65 f66 f67 f68 f69 f70 f71 f72 f73 f74 f75 f76 f77 f78 f79 f80 f81 f82 f83 f106 f107 f108 f110 f111 f112 f113 f114 f115 f116 f117 f118 f119 f120 f121 f122 f123 f124 f125 f126 f127 f128 f129 f130 f131 f132 f140 f141 f142 f143 f144 f145 f146 f147 f148 f149 f150 f151 f152 f153 f154 f155 f156 f157 f158; omega) | omega, by first | (clear f37 f38 f39 f40 f41 f42 f43 f44 f45 f46 f47 f48 f49 f50 f51 f52 f53 f54 f55 f57 f58 f59 f60 f62 f63 f64 f65 f66 f67 f68 f69 f70 f71 f72 f73 f74 f75 f76 f77 f78 f79 f80 f81 f82 f83 f106 f107 f108 f109 f111 f112 f113 f114 f115 f116 f117 f118 f119 f120 f121 f122 f123 f124 f125 f126 f127 f128 f129 f130 f131 f132 f140 f141 f142 f143 f144 f145 f146 f147 f148 f149 f150 f151 f152 f153 f154 f155 f156 f157 f158; omega) | omega, by first | (clear f37 f38 f39 f40 f41 f42 f43 f44 f45 f46 f47 f48 f49 f50 f51 f52 f53 f54 f55 f57 f58 f59 f60 f61 f63 f64 f65 f66 f67 f68 f69 f70 f71 f72 f73 f74 f75 f76 f77 f78 f79 f80 f81 f82 f83 f106 f107 f108 f109 f110 f112 f113 f114 f115 f116 f117 f118 f119 f120 f121 f122 f123 f124 f125 f126 f127 f128 f129 f130 f131 f132 f140 f141 f142 f143 f144 f145 f146 f147 f148 f149 f150 f151 f152 f153 f154 f155 f156 f157 f158; omega) | omega, by first | (clear f37 f38 f39 f40 f41 f42 f43 f44 f45 f46 f47 f48 f49 f50 f51 f52 f53 f54 f55 f57 f58 f59 f60 f61 f62 f64 f65 f66 f67 f68 f69 f70 f71 f72 f73 f74 f75 f76 f77 f78 f79 f80 f81 f82 f83 f106 f107 f108 f109 f110 f111 f113 f114 f115 f116 f117 f118 f119 f120 f121 f122 f123 f124 f125 f126 f127 f128 f129 f130 f131 f132 f140 f141 f142 f143 f144 f145 f146 f147 f148 f149 f150 f151 f152 f153 f154 f155 f156 f157 f158; omega) | omega, (eA_ti (j := 0) (((hF89.2.1 173 (by decide)).trans (hF8.2.1 173 (by decide))))).trans (hR_7.trans (eA_ti (j := 0) (((hF89.2.1 235 (by decide)).trans (hF8.2.1 235 (by decide))))).symm), (eA_ti (j := 1) (((hF89.2.1 173 (by decide)).trans (hF8.2.1 173 (by decide))))).trans (hR_8.trans (eA_ti (j := 1) (((hF89.2.1 235 (by decide)).trans (hF8.2.1 235 (by decide))))).symm), (congrArg Int32.toInt (((hF89.1 174 1 (by decide)).trans (hF8.1 174 1 (by decide))))).trans (hR_9.trans (congrArg Int32.toInt (((hF89.1 231 8 (by decide)).trans (hF8.1 231 8 (by decide))))).symm), (congrArg Int32.toInt (((hF89.1 0 16 (by decide)).trans (hF8.1 0 16 (by decide))))).trans (hR_10.trans (congrArg Int32.toInt (((hF89.1 231 6 (by decide)).trans (hF8.1 231 6 (by decide))))).symm), (congrArg Int32.toInt (((hF89.1 176 2 (by decide)).trans (hF8.1 176 2 (by decide))))).trans (hR_11.trans (congrArg Int32.toInt (((hF89.1 231 13 (by decide)).trans (hF8.1 231 13 (by decide))))).symm), by first | (clear f37 f38 f39 f40 f41 f42 f43 f44 f45 f46 f47 f48 f49 f50 f51 f52 f53 f54 f55 f57 f58 f59 f60 f61 f62 f63 f64 f65 f66 f67 f68 f69 f70 f71 f72 f73 f74 f75 f76 f77 f78 f79 f80 f81 f82 f106 f107 f108 f109 f110 f111 f112 f113 f114 f115 f116 f117 f118 f119 f120 f121 f122 f123 f124 f125 f126 f127 f128 f129 f130 f131 f140 f141 f142 f143 f144 f145 f146 f147 f148 f149 f150 f151 f152 f153 f154 f155 f156 f157 f158; omega) | omega, IM0.cong hR_13 (eA_ti (j := 0) (((hF89.2.1 173 (by decide)).trans (hF8.2.1 173 (by decide))))) (congrArg Int32.toInt (((hF89.1 59 0 (by decide)).trans (hF8.1 59 0 (by decide))))) (eA_ti (j := 0) (((hF89.2.1 234 (by decide)).trans (hF8.2.1 234 (by decide))))) (congrArg Int32.toInt (((hF89.1 59 12 (by decide)).trans (hF8.1 59 12 (by decide))))) (eA_ti (j := 4) (((hF89.2.1 234 (by decide)).trans (hF8.2.1 234 (by decide))))) (congrArg Int32.toInt (((hF89.1 59 10 (by decide)).trans (hF8.1 59 10 (by decide))))) (eA_ti (j := 5) (((hF89.2.1 234 (by decide)).trans (hF8.2.1 234 (by decide))))) (congrArg Int32.toInt (((hF89.1 59 11 (by decide)).trans (hF8.1 59 11 (by decide))))) (eA_ti (j := 6) (((hF89.2.1 234 (by decide)).trans (hF8.2.1 234 (by decide))))) (congrArg Int32.toInt (((hF89.1 59 4 (by decide)).trans (hF8.1 59 4 (by decide))))) (eA_ti (j := 1) (((hF89.2.1 234 (by decide)).trans (hF8.2.1 234 (by decide))))) (congrArg Int32.toInt (((hF89.1 59 6 (by decide)).trans (hF8.1 59 6 (by decide))))) (eA_ti (j := 2) (((hF89.2.1 234 (by decide)).trans (hF8.2.1 234 (by decide))))) (congrArg Int32.toInt (((hF89.1 59 9 (by decide)).trans (hF8.1 59 9 (by decide))))) (eA_ti (j := 3) (((hF89.2.1 234 (by decide)).trans (hF8.2.1 234 (by decide))))), IM1.cong hR_14 (eA_ti (j := 1) (((hF89.2.1 173 (by decide)).trans (hF8.2.1 173 (by decide))))) (congrArg Int32.toInt (((hF89.1 116 0 (by decide)).trans (hF8.1 116 0 (by decide))))) (eA_ti (j := 5510) (((hF89.2.1 234 (by decide)).trans (hF8.2.1 234 (by decide))))) (congrArg Int32.toInt (((hF89.1 116 12 (by decide)).trans (hF8.1 116 12 (by decide))))) (eA_ti (j := 5514) (((hF89.2.1 234 (by decide)).trans (hF8.2.1 234 (by decide))))) (congrArg Int32.toInt (((hF89.1 116 10 (by decide)).trans (hF8.1 116 10 (by decide))))) (eA_ti (j := 5515) (((hF89.2.1 234 (by decide)).trans (hF8.2.1 234 (by decide))))) (congrArg Int32.toInt (((hF89.1 116 11 (by decide)).trans (hF8.1 116 11 (by decide))))) (eA_ti (j := 5516) (((hF89.2.1 234 (by decide)).trans (hF8.2.1 234 (by decide))))) (congrArg Int32.toInt (((hF89.1 116 4 (by decide)).trans (hF8.1 116 4 (by decide))))) (eA_ti (j := 5511) (((hF89.2.1 234 (by decide)).trans (hF8.2.1 234 (by decide))))) (congrArg Int32.toInt (((hF89.1 116 6 (by decide)).trans (hF8.1 116 6 (by decide))))) (eA_ti (j := 5512) (((hF89.2.1 234 (by decide)).trans (hF8.2.1 234 (by decide))))) (congrArg Int32.toInt (((hF89.1 116 9 (by decide)).trans (hF8.1 116 9 (by decide))))) (eA_ti (j := 5513) (((hF89.2.1 234 (by decide)).trans (hF8.2.1 234 (by decide))))), (show CT _ from ⟨fun i i0 i1 => ⟨(by first | (clear f37 f38 f39 f40 f41 f42 f43 f44 f45 f46 f47 f48 f49 f50 f53 f54 f55 f64 f65 f66 f67 f68 f69 f70 f71 f72 f73 f74 f75 f76 f77 f80 f81 f82 f83 f113 f114 f115 f116 f117 f118 f119 f120 f121 f122 f123 f124 f125 f126 f129 f130 f131 f132 f140 f141 f142 f143 f144 f145 f146 f147 f148 f149 f150 f151 f152 f153 f156 f157 f158; have t0_ := hI0.t0; have t1_ := hI0.t1; have o := (hR_15.1 i i0 i1).1; have o0 := (hR_16.1 i i0 i1).1; have o1 := (hR_17.1 i i0 i1).1; have x := (eA_ti (j := i) (hF89.2.1 2 (by decide))).trans (q15 i i0 i1); have m := q96 (10 + 3 * i) (by omega) (by omega); have y1 := eA_ti (j := ((10 + 3 * i))) (hF8.2.1 234 (by decide)); have y2 := eA_ti (j := (5510 + ((10 + 3 * i)))) (hF8.2.1 234 (by decide)); have y3 := eA_ti (j := ((10 + 3 * i))) (hF8.2.1 233 (by decide)); (try split at x) <;> (try split at x) <;> (try split at m) <;> (try split at m) <;> omega) | (have t0_ := hI0.t0; have t1_ := hI0.t1; have o := (hR_15.1 i i0 i1).1; have o0 := (hR_16.1 i i0 i1).1; have o1 := (hR_17.1 i i0 i1).1; have x := (eA_ti (j := i) (hF89.2.1 2 (by decide))).trans (q15 i i0 i1); have m := q96 (10 + 3 * i) (by omega) (by omega); have y1 := eA_ti (j := ((10 + 3 * i))) (hF8.2.1 234 (by decide)); have y2 := eA_ti (j := (5510 + ((10 + 3 * i)))) (hF8.2.1 234 (by decide)); have y3 := eA_ti (j := ((10 + 3 * i))) (hF8.2.1 233 (by decide)); (try split at x) <;> (try split at x) <;> (try split at m) <;> (try split at m) <;> omega)), (by first | (clear f37 f38 f39 f40 f41 f42 f43 f44 f45 f46 f47 f48 f49 f50 f53 f54 f55 f64 f65 f66 f67 f68 f69 f70 f71 f72 f73 f74 f75 f76 f77 f80 f81 f82 f83 f113 f114 f115 f116 f117 f118 f119 f120 f121 f122 f123 f124 f125 f126 f129 f130 f131 f132 f140 f141 f142 f143 f144 f145 f146 f147 f148 f149 f150 f151 f152 f153 f156 f157 f158; have t0_ := hI0.t0; have t1_ := hI0.t1; have o := (hR_15.1 i i0 i1).2.1; have o0 := (hR_16.1 i i0 i1).2.1; have o1 := (hR_17.1 i i0 i1).2.1; have x := (eA_ti (j := i) (hF89.2.1 3 (by decide))).trans (q16 i i0 i1); have m := q96 (10 + 3 * i + 1) (by omega) (by omega); have y1 := eA_ti (j := ((10 + 3 * i + 1))) (hF8.2.1 234 (by decide)); have y2 := eA_ti (j := (5510 + ((10 + 3 * i + 1)))) (hF8.2.1 234 (by decide)); have y3 := eA_ti (j := ((10 + 3 * i + 1))) (hF8.2.1 233 (by decide)); (try split at x) <;> (try split at x) <;> (try split at m) <;> (try split at m) <;> omega) | (have t0_ := hI0.t0; have t1_ := hI0.t1; have o := (hR_15.1 i i0 i1).2.1; have o0 := (hR_16.1 i i0 i1).2.1; have o1 := (hR_17.1 i i0 i1).2.1; have x := (eA_ti (j := i) (hF89.2.1 3 (by decide))).trans (q16 i i0 i1); have m := q96 (10 + 3 * i + 1) (by omega) (by omega); have y1 := eA_ti (j := ((10 + 3 * i + 1))) (hF8.2.1 234 (by decide)); have y2 := eA_ti (j := (5510 + ((10 + 3 * i + 1)))) (hF8.2.1 234 (by decide)); have y3 := eA_ti (j := ((10 + 3 * i + 1))) (hF8.2.1 233 (by decide)); (try split at x) <;> (try split at x) <;> (try split at m) <;> (try split at m) <;> omega)), (by first | (clear f37 f38 f39 f40 f41 f42 f43 f44 f45 f46 f47 f48 f49 f50 f53 f54 f55 f64 f65 f66 f67 f68 f69 f70 f71 f72 f73 f74 f75 f76 f77 f80 f81 f82 f83 f113 f114 f115 f116 f117 f118 f119 f120 f121 f122 f123 f124 f125 f126 f129 f130 f131 f132 f140 f141 f142 f143 f144 f145 f146 f147 f148 f149 f150 f151 f152 f153 f156 f157 f158; have t0_ := hI0.t0; have t1_ := hI0.t1; have o := (hR_15.1 i i0 i1).2.2; have o0 := (hR_16.1 i i0 i1).2.2; have o1 := (hR_17.1 i i0 i1).2.2; have x := (eA_ti (j := i) (hF89.2.1 4 (by decide))).trans (q17 i i0 i1); have m := q96 (10 + 3 * i + 2) (by omega) (by omega); have y1 := eA_ti (j := ((10 + 3 * i + 2))) (hF8.2.1 234 (by decide)); have y2 := eA_ti (j := (5510 + ((10 + 3 * i + 2)))) (hF8.2.1 234 (by decide)); have y3 := eA_ti (j := ((10 + 3 * i + 2))) (hF8.2.1 233 (by decide)); (try split at x) <;> (try split at x) <;> (try split at m) <;> (try split at m) <;> omega) | (have t0_ := hI0.t0; have t1_ := hI0.t1; have o := (hR_15.1 i i0 i1).2.2; have o0 := (hR_16.1 i i0 i1).2.2; have o1 := (hR_17.1 i i0 i1).2.2; have x := (eA_ti (j := i) (hF89.2.1 4 (by decide))).trans (q17 i i0 i1); have m := q96 (10 + 3 * i + 2) (by omega) (by omega); have y1 := eA_ti (j := ((10 + 3 * i + 2))) (hF8.2.1 234 (by decide)); have y2 := eA_ti (j := (5510 + ((10 + 3 * i + 2)))) (hF8.2.1 234 (by decide)); have y3 := eA_ti (j := ((10 + 3 * i + 2))) (hF8.2.1 233 (by decide)); (try split at x) <;> (try split at x) <;> (try split at m) <;> (try split at m) <;> omega))⟩, fun i i0 i1 => ⟨(by first | (clear f37 f38 f39 f40 f41 f42 f43 f44 f45 f46 f47 f48 f49 f50 f53 f54 f55 f64 f65 f66 f67 f68 f69 f70 f71 f72 f73 f74 f75 f76 f77 f80 f81 f82 f83 f113 f114 f115 f116 f117 f118 f119 f120 f121 f122 f123 f124 f125 f126 f129 f130 f131 f132 f140 f141 f142 f143 f144 f145 f146 f147 f148 f149 f150 f151 f152 f153 f156 f157 f158; have t0_ := hI0.t0; have t1_ := hI0.t1; have o := (hR_15.2.1 i i0 i1).1; have o0 := (hR_16.2.1 i i0 i1).1; have o1 := (hR_17.2.1 i i0 i1).1; have x := (eA_ti (j := i) (hF89.2.1 14 (by decide))).trans (q18 i i0 i1); have m := q96 (94 + 2 * i) (by omega) (by omega); have y1 := eA_ti (j := ((94 + 2 * i))) (hF8.2.1 234 (by decide)); have y2 := eA_ti (j := (5510 + ((94 + 2 * i)))) (hF8.2.1 234 (by decide)); have y3 := eA_ti (j := ((94 + 2 * i))) (hF8.2.1 233 (by decide)); (try split at x) <;> (try split at x) <;> (try split at m) <;> (try split at m) <;> omega) | (have t0_ := hI0.t0; have t1_ := hI0.t1; have o := (hR_15.2.1 i i0 i1).1; have o0 := (hR_16.2.1 i i0 i1).1; have o1 := (hR_17.2.1 i i0 i1).1; have x := (eA_ti (j := i) (hF89.2.1 14 (by decide))).trans (q18 i i0 i1); have m := q96 (94 + 2 * i) (by omega) (by omega); have y1 := eA_ti (j := ((94 + 2 * i))) (hF8.2.1 234 (by decide)); have y2 := eA_ti (j := (5510 + ((94 + 2 * i)))) (hF8.2.1 234 (by decide)); have y3 := eA_ti (j := ((94 + 2 * i))) (hF8.2.1 233 (by decide)); (try split at x) <;> (try split at x) <;> (try split at m) <;> (try split at m) <;> omega)), (by first | (clear f37 f38 f39 f40 f41 f42 f43 f44 f45 f46 f47 f48 f49 f50 f53 f54 f55 f64 f65 f66 f67 f68 f69 f70 f71 f72 f73 f74 f75 f76 f77 f80 f81 f82 f83 f113 f114 f115 f116 f117 f118 f119 f120 f121 f122 f123 f124 f125 f126 f129 f130 f131 f132 f140 f141 f142 f143 f144 f145 f146 f147 f148 f149 f150 f151 f152 f153 f156 f157 f158; have t0_ := hI0.t0; have t1_ := hI0.t1; have o := (hR_15.2.1 i i0 i1).2; have o0 := (hR_16.2.1 i i0 i1).2; have o1 := (hR_17.2.1 i i0 i1).2; have x := (eA_ti (j := i) (hF89.2.1 15 (by decide))).trans (q19 i i0 i1); have m := q96 (94 + 2 * i + 1) (by omega) (by omega); have y1 := eA_ti (j := ((94 + 2 * i + 1))) (hF8.2.1 234 (by decide)); have y2 := eA_ti (j := (5510 + ((94 + 2 * i + 1)))) (hF8.2.1 234 (by decide)); have y3 := eA_ti (j := ((94 + 2 * i + 1))) (hF8.2.1 233 (by decide)); (try split at x) <;> (try split at x) <;> (try split at m) <;> (try split at m) <;> omega) | (have t0_ := hI0.t0; have t1_ := hI0.t1; have o := (hR_15.2.1 i i0 i1).2; have o0 := (hR_16.2.1 i i0 i1).2; have o1 := (hR_17.2.1 i i0 i1).2; have x := (eA_ti (j := i) (hF89.2.1 15 (by decide))).trans (q19 i i0 i1); have m := q96 (94 + 2 * i + 1) (by omega) (by omega); have y1 := eA_ti (j := ((94 + 2 * i + 1))) (hF8.2.1 234 (by decide)); have y2 := eA_ti (j := (5510 + ((94 + 2 * i + 1)))) (hF8.2.1 234 (by decide)); have y3 := eA_ti (j := ((94 + 2 * i + 1))) (hF8.2.1 233 (by decide)); (try split at x) <;> (try split at x) <;> (try split at m) <;> (try split at m) <;> omega))⟩, fun i i0 i1 => (by first | (clear f37 f38 f39 f40 f41 f42 f43 f44 f45 f46 f47 f48 f49 f50 f53 f54 f55 f64 f65 f66 f67 f68 f69 f70 f71 f72 f73 f74 f75 f76 f77 f80 f81 f82 f83 f113 f114 f115 f116 f117 f118 f119 f120 f121 f122 f123 f124 f125 f126 f129 f130 f131 f132 f140 f141 f142 f143 f144 f145 f146 f147 f148 f149 f150 f151 f152 f153 f156 f157 f158; have t0_ := hI0.t0; have t1_ := hI0.t1; have o : i < 6 * (gI g0 1 4).toInt → _ := fun hz => hR_15.2.2 i i0 hz; have o0 : i < 6 * (gI g0 59 4).toInt → _ := fun hz => hR_16.2.2 i i0 hz; have o1 : i < 6 * (gI g0 116 4).toInt → _ := fun hz => hR_17.2.2 i i0 hz; have t9_ := RgF.at hI88.2.1 (p := 1) (b := 4) rfl; dsimp only at t9_; have i9_ : i < 48 := (by omega); have x := (eA_ti (j := i) (hF89.2.1 5 (by decide))).trans (q20 i i0 i9_); have m := q96 (46 + i) (by omega) (by omega); have y1 := eA_ti (j := ((46 + i))) (hF8.2.1 234 (by decide)); have y2 := eA_ti (j := (5510 + ((46 + i)))) (hF8.2.1 234 (by decide)); have y3 := eA_ti (j := ((46 + i))) (hF8.2.1 233 (by decide)); (try split at x) <;> (try split at x) <;> (try split at m) <;> (try split at m) <;> omega) | (have t0_ := hI0.t0; have t1_ := hI0.t1; have o : i < 6 * (gI g0 1 4).toInt → _ := fun hz => hR_15.2.2 i i0 hz; have o0 : i < 6 * (gI g0 59 4).toInt → _ := fun hz => hR_16.2.2 i i0 hz; have o1 : i < 6 * (gI g0 116 4).toInt → _ := fun hz => hR_17.2.2 i i0 hz; have t9_ := RgF.at hI88.2.1 (p := 1) (b := 4) rfl; dsimp only at t9_; have i9_ : i < 48 := (by omega); have x := (eA_ti (j := i) (hF89.2.1 5 (by decide))).trans (q20 i i0 i9_); have m := q96 (46 + i) (by omega) (by omega); have y1 := eA_ti (j := ((46 + i))) (hF8.2.1 234 (by decide)); have y2 := eA_ti (j := (5510 + ((46 + i)))) (hF8.2.1 234 (by decide)); have y3 := eA_ti (j := ((46 + i))) (hF8.2.1 233 (by decide)); (try split at x) <;> (try split at x) <;> (try split at m) <;> (try split at m) <;> omega))⟩), CI0.cong hR_16 (((hF89.2.1 60 (by decide)).trans (hF8.2.1 60 (by decide)))) (((hF89.2.1 61 (by decide)).trans (hF8.2.1 61 (by decide)))) (((hF89.2.1 62 (by decide)).trans (hF8.2.1 62 (by decide)))) (((hF89.2.1 72 (by decide)).trans (hF8.2.1 72 (by decide)))) (((hF89.2.1 73 (by decide)).trans (hF8.2.1 73 (by decide)))) (((hF89.2.1 63 (by decide)).trans (hF8.2.1 63 (by decide)))) (((hF89.2.1 234 (by decide)).trans (hF8.2.1 234 (by decide)))) (congrArg Int32.toInt (((hF89.1 59 4 (by decide)).trans (hF8.1 59 4 (by decide))))), CI1.cong hR_17 (((hF89.2.1 117 (by decide)).trans (hF8.2.1 117 (by decide)))) (((hF89.2.1 118 (by decide)).trans (hF8.2.1 118 (by decide)))) (((hF89.2.1 119 (by decide)).trans (hF8.2.1 119 (by decide)))) (((hF89.2.1 129 (by decide)).trans (hF8.2.1 129 (by decide)))) (((hF89.2.1 130 (by decide)).trans (hF8.2.1 130 (by decide)))) (((hF89.2.1 120 (by decide)).trans (hF8.2.1 120 (by decide)))) (((hF89.2.1 234 (by decide)).trans (hF8.2.1 234 (by decide)))) (congrArg Int32.toInt (((hF89.1 116 4 (by decide)).trans (hF8.1 116 4 (by decide))))), (show RT _ from fun i i0 i1 => (eA_ti (((hF89.2.1 175 (by decide)).trans (hF8.2.1 175 (by decide))))).trans ((hR_18 i i0 (by omega)).trans (eA_ti (((hF89.2.1 236 (by decide)).trans (hF8.2.1 236 (by decide))))).symm)), (show BYX _ from fun i i0 i1 => by rw [TX.c (((hF89.2.1 175 (by decide)).trans (hF8.2.1 175 (by decide))))]; exact hR_19 i i0 (by have i2 : i < (gI _ 174 1).toInt := i1; show i < (gI g0 174 1).toInt; omega))⟩)
  · have n160_e : v2.toInt = 0 := by omega
    have n160_1 : v2.toInt ≠ 1 := by omega
    have n160_k : (eA g0 173 0).toInt = 0 := by omega
    refine r_callV 1280 rfl [.ref 0, .int v2] [] (Nat.le_of_ble_eq_true rfl) rfl (T_X10_back_0 _ hI0 v2) ?_
    rintro _ _ ⟨g161, rfl, hI162, hF163, v164, rfl, hr165⟩
    refine At.sti ?_
    have hF166 := Fr.tr hF0 hF163 rfl rfl
    have su167 := hr165.2.2
    obtain ⟨q168, q169, q170, q171, q172, q173, q174, q175⟩ := (And.intro hr165.1 hr165.2.1)
    obtain ⟨p176, p177, p178, p179, p180, p181⟩ := (And.intro q168 q169)
    have w182 := p179 ⟨fun h => h.2 n160_k, fun h => n160_1 h.1⟩
    have w183 := p181 ⟨by omega, by omega, fun h => h.2 n160_k, fun h => n160_1 h.1⟩
    clear p177 p178 p179 p180 p181
    clear q169
    have f192 := congrArg Int32.toInt (hF163.1 59 0 rfl)
    have f193 := congrArg Int32.toInt (hF163.1 59 12 rfl)
    have f194 := congrArg Int32.toInt (hF163.1 59 10 rfl)
    have f195 := congrArg Int32.toInt (hF163.1 59 11 rfl)
    have f196 := congrArg Int32.toInt (hF163.1 59 4 rfl)
    have f197 := congrArg Int32.toInt (hF163.1 59 6 rfl)
    have f198 := congrArg Int32.toInt (hF163.1 59 9 rfl)
    have f199 := congrArg Int32.toInt (hF163.1 116 0 rfl)
    have f200 := congrArg Int32.toInt (hF163.1 116 12 rfl)
    have f201 := congrArg Int32.toInt (hF163.1 116 10 rfl)
    have f202 := congrArg Int32.toInt (hF163.1 116 11 rfl)
    have f203 := congrArg Int32.toInt (hF163.1 116 4 rfl)
    have f204 := congrArg Int32.toInt (hF163.1 116 6 rfl)
    have f205 := congrArg Int32.toInt (hF163.1 116 9 rfl)
    have f206 := congrArg Int32.toInt (eA_c (j := 0) (hF163.2.1 173 rfl))
    have f207 := congrArg Int32.toInt (eA_c (j := 1) (hF163.2.1 173 rfl))
    have f208 := congrArg Int32.toInt (hF163.1 174 1 rfl)
    have f209 := congrArg Int32.toInt (hF163.1 0 16 rfl)
    have f210 := congrArg Int32.toInt (hF163.1 176 2 rfl)
    have f212 := congrArg Int32.toInt (eA_c (j := 0) (hF163.2.1 233 rfl))
    have f213 := congrArg Int32.toInt (eA_c (j := 4) (hF163.2.1 233 rfl))
    have f214 := congrArg Int32.toInt (eA_c (j := 5) (hF163.2.1 233 rfl))
    have f215 := congrArg Int32.toInt (eA_c (j := 6) (hF163.2.1 233 rfl))
    have f216 := congrArg Int32.toInt (eA_c (j := 1) (hF163.2.1 233 rfl))
    have f217 := congrArg Int32.toInt (eA_c (j := 2) (hF163.2.1 233 rfl))
    have f218 := congrArg Int32.toInt (eA_c (j := 3) (hF163.2.1 233 rfl))
    have f219 := congrArg Int32.toInt (eA_c (j := 0) (hF163.2.1 234 rfl))
    have f220 := congrArg Int32.toInt (eA_c (j := 4) (hF163.2.1 234 rfl))
    have f221 := congrArg Int32.toInt (eA_c (j := 5) (hF163.2.1 234 rfl))
    have f222 := congrArg Int32.toInt (eA_c (j := 6) (hF163.2.1 234 rfl))
    have f223 := congrArg Int32.toInt (eA_c (j := 1) (hF163.2.1 234 rfl))
    have f224 := congrArg Int32.toInt (eA_c (j := 2) (hF163.2.1 234 rfl))
    have f225 := congrArg Int32.toInt (eA_c (j := 3) (hF163.2.1 234 rfl))
    have f226 := congrArg Int32.toInt (eA_c (j := 5510) (hF163.2.1 234 rfl))
    have f227 := congrArg Int32.toInt (eA_c (j := 5514) (hF163.2.1 234 rfl))
    have f228 := congrArg Int32.toInt (eA_c (j := 5515) (hF163.2.1 234 rfl))
    have f229 := congrArg Int32.toInt (eA_c (j := 5516) (hF163.2.1 234 rfl))
    have f230 := congrArg Int32.toInt (eA_c (j := 5511) (hF163.2.1 234 rfl))
    have f231 := congrArg Int32.toInt (eA_c (j := 5512) (hF163.2.1 234 rfl))
    have f232 := congrArg Int32.toInt (eA_c (j := 5513) (hF163.2.1 234 rfl))
    have f233 := congrArg Int32.toInt (eA_c (j := 0) (hF163.2.1 235 rfl))
    have f234 := congrArg Int32.toInt (eA_c (j := 1) (hF163.2.1 235 rfl))
    have f235 := congrArg Int32.toInt (hF163.1 231 8 rfl)
    have f236 := congrArg Int32.toInt (hF163.1 231 6 rfl)
    have f237 := congrArg Int32.toInt (hF163.1 231 13 rfl)
    have f238 := congrArg Int32.toInt (hF163.1 231 1 rfl)
    refine At.enter rfl ?_
    refine r_pop rfl ?_
    refine r_aload_n e2 ?_
    refine r_sload_n e0 ?_
    refine r_iload_n e3 ?_
    refine r_iconst 1 rfl ?_
    refine q_iadd (i.toInt + 1) rfl hx_1 (fun v239 hv239 => ?_)
    refine q_scald (m := L) hL (i.toInt + 1) hv239 hy_1 (fun v240 hv240 => ?_)
    have sv240 := hv2.symm.trans hv240
    subst sv240
    have n241_e : v2.toInt = 0 := by omega
    have n241_1 : v2.toInt ≠ 1 := by omega
    have n241_k : (eA g161 235 0).toInt = 0 := by omega
    refine r_callV 1290 rfl [.ref 231, .int v2] [] (Nat.le_of_ble_eq_true rfl) rfl (T_X11_back_231 _ hI162 v2) ?_
    rintro _ _ ⟨g242, rfl, hI243, hF244, v245, rfl, hr246⟩
    refine At.sti ?_
    have hF247 := Fr.tr hF166 hF244 rfl rfl
    have su248 := hr246.2.2
    obtain ⟨q249, q250, q251⟩ := (And.intro hr246.1 hr246.2.1)
    obtain ⟨p252, p253, p254, p255, p256, p257⟩ := (And.intro q249 q250)
    have w258 := p255 ⟨fun h => h.2 n241_k, fun h => n241_1 h.1⟩
    have w259 := p257 ⟨by omega, by omega, fun h => h.2 n241_k, fun h => n241_1 h.1⟩
    clear p253 p254 p255 p256 p257
    clear q250
    have f261 := congrArg Int32.toInt (hF244.1 1 0 rfl)
    have f262 := congrArg Int32.toInt (hF244.1 1 12 rfl)
    have f263 := congrArg Int32.toInt (hF244.1 1 10 rfl)
    have f264 := congrArg Int32.toInt (hF244.1 1 11 rfl)
    have f265 := congrArg Int32.toInt (hF244.1 1 4 rfl)
    have f266 := congrArg Int32.toInt (hF244.1 1 6 rfl)
    have f267 := congrArg Int32.toInt (hF244.1 1 9 rfl)
    have f268 := congrArg Int32.toInt (hF244.1 59 0 rfl)
    have f269 := congrArg Int32.toInt (hF244.1 59 12 rfl)
    have f270 := congrArg Int32.toInt (hF244.1 59 10 rfl)
    have f271 := congrArg Int32.toInt (hF244.1 59 11 rfl)
    have f272 := congrArg Int32.toInt (hF244.1 59 4 rfl)
    have f273 := congrArg Int32.toInt (hF244.1 59 6 rfl)
    have f274 := congrArg Int32.toInt (hF244.1 59 9 rfl)
    have f275 := congrArg Int32.toInt (hF244.1 116 0 rfl)
    have f276 := congrArg Int32.toInt (hF244.1 116 12 rfl)
    have f277 := congrArg Int32.toInt (hF244.1 116 10 rfl)
    have f278 := congrArg Int32.toInt (hF244.1 116 11 rfl)
    have f279 := congrArg Int32.toInt (hF244.1 116 4 rfl)
    have f280 := congrArg Int32.toInt (hF244.1 116 6 rfl)
    have f281 := congrArg Int32.toInt (hF244.1 116 9 rfl)
    have f282 := congrArg Int32.toInt (eA_c (j := 0) (hF244.2.1 173 rfl))
    have f283 := congrArg Int32.toInt (eA_c (j := 1) (hF244.2.1 173 rfl))
    have f284 := congrArg Int32.toInt (hF244.1 174 1 rfl)
    have f285 := congrArg Int32.toInt (hF244.1 0 16 rfl)
    have f286 := congrArg Int32.toInt (hF244.1 176 2 rfl)
    have f287 := congrArg Int32.toInt (hF244.1 0 17 rfl)
    have f295 := congrArg Int32.toInt (eA_c (j := 0) (hF244.2.1 234 rfl))
    have f296 := congrArg Int32.toInt (eA_c (j := 4) (hF244.2.1 234 rfl))
    have f297 := congrArg Int32.toInt (eA_c (j := 5) (hF244.2.1 234 rfl))
    have f298 := congrArg Int32.toInt (eA_c (j := 6) (hF244.2.1 234 rfl))
    have f299 := congrArg Int32.toInt (eA_c (j := 1) (hF244.2.1 234 rfl))
    have f300 := congrArg Int32.toInt (eA_c (j := 2) (hF244.2.1 234 rfl))
    have f301 := congrArg Int32.toInt (eA_c (j := 3) (hF244.2.1 234 rfl))
    have f302 := congrArg Int32.toInt (eA_c (j := 5510) (hF244.2.1 234 rfl))
    have f303 := congrArg Int32.toInt (eA_c (j := 5514) (hF244.2.1 234 rfl))
    have f304 := congrArg Int32.toInt (eA_c (j := 5515) (hF244.2.1 234 rfl))
    have f305 := congrArg Int32.toInt (eA_c (j := 5516) (hF244.2.1 234 rfl))
    have f306 := congrArg Int32.toInt (eA_c (j := 5511) (hF244.2.1 234 rfl))
    have f307 := congrArg Int32.toInt (eA_c (j := 5512) (hF244.2.1 234 rfl))
    have f308 := congrArg Int32.toInt (eA_c (j := 5513) (hF244.2.1 234 rfl))
    have f309 := congrArg Int32.toInt (eA_c (j := 0) (hF244.2.1 235 rfl))
    have f310 := congrArg Int32.toInt (eA_c (j := 1) (hF244.2.1 235 rfl))
    have f311 := congrArg Int32.toInt (hF244.1 231 8 rfl)
    have f312 := congrArg Int32.toInt (hF244.1 231 6 rfl)
    have f313 := congrArg Int32.toInt (hF244.1 231 13 rfl)
    refine At.enter rfl ?_
    refine r_pop rfl ?_
    refine r_goto ?_
    have zr : v164.toInt = v245.toInt := by
      apply Decidable.byContradiction
      intro hne
      exfalso
      omega
    have zsu := SU.eq su167 su248 zr
    exact K _ hI243 (show LwR _ from ⟨by first | (clear f192 f193 f194 f195 f196 f197 f198 f199 f200 f201 f202 f203 f204 f205 f206 f207 f208 f209 f210 f213 f214 f215 f216 f217 f218 f219 f220 f221 f222 f223 f224 f225 f226 f227 f228 f229 f230 f231 f232 f233 f234 f235 f236 f237 f238 f262 f263 f264 f265 f266 f267 f268 f269 f270 f271 f272 f273 f274 f275 f276 f277 f278 f279 f280 f281 f282 f283 f284 f285 f286 f287 f295 f296 f297 f298 f299 f300 f301 f302 f303 f304 f305 f306 f307 f308 f309 f310 f311 f312 f313; omega) | omega, by first | (clear f192 f193 f194 f195 f196 f197 f198 f199 f200 f201 f202 f203 f204 f205 f206 f207 f208 f209 f210 f212 f214 f215 f216 f217 f218 f219 f220 f221 f222 f223 f224 f225 f226 f227 f228 f229 f230 f231 f232 f233 f234 f235 f236 f237 f238 f261 f263 f264 f265 f266 f267 f268 f269 f270 f271 f272 f273 f274 f275 f276 f277 f278 f279 f280 f281 f282 f283 f284 f285 f286 f287 f295 f296 f297 f298 f299 f300 f301 f302 f303 f304 f305 f306 f307 f308 f309 f310 f311 f312 f313; omega) | omega, by first | (clear f192 f193 f194 f195 f196 f197 f198 f199 f200 f201 f202 f203 f204 f205 f206 f207 f208 f209 f210 f212 f213 f215 f216 f217 f218 f219 f220 f221 f222 f223 f224 f225 f226 f227 f228 f229 f230 f231 f232 f233 f234 f235 f236 f237 f238 f261 f262 f264 f265 f266 f267 f268 f269 f270 f271 f272 f273 f274 f275 f276 f277 f278 f279 f280 f281 f282 f283 f284 f285 f286 f287 f295 f296 f297 f298 f299 f300 f301 f302 f303 f304 f305 f306 f307 f308 f309 f310 f311 f312 f313; omega) | omega, by first | (clear f192 f193 f194 f195 f196 f197 f198 f199 f200 f201 f202 f203 f204 f205 f206 f207 f208 f209 f210 f212 f213 f214 f216 f217 f218 f219 f220 f221 f222 f223 f224 f225 f226 f227 f228 f229 f230 f231 f232 f233 f234 f235 f236 f237 f238 f261 f262 f263 f265 f266 f267 f268 f269 f270 f271 f272 f273 f274 f275 f276 f277 f278 f279 f280 f281 f282 f283 f284 f285 f286 f287 f295 f296 f297 f298 f299 f300 f301 f302 f303 f304 f305 f306 f307 f308 f309 f310 f311 f312 f313; omega) | omega, by first | (clear f192 f193 f194 f195 f196 f197 f198 f199 f200 f201 f202 f203 f204 f205 f206 f207 f208 f209 f210 f212 f213 f214 f215 f217 f218 f219 f220 f221 f222 f223 f224 f225 f226 f227 f228 f229 f230 f231 f232 f233 f234 f235 f236 f237 f238 f261 f262 f263 f264 f266 f267 f268 f269 f270 f271 f272 f273 f274 f275 f276 f277 f278 f279 f280 f281 f282 f283 f284 f285 f286 f287 f295 f296 f297 f298 f299 f300 f301 f302 f303 f304 f305 f306 f307 f308 f309 f310 f311 f312 f313; omega) | omega, by first | (clear f192 f193 f194 f195 f196 f197 f198 f199 f200 f201 f202 f203 f204 f205 f206 f207 f208 f209 f210 f212 f213 f214 f215 f216 f218 f219 f220 f221 f222 f223 f224 f225 f226 f227 f228 f229 f230 f231 f232 f233 f234 f235 f236 f237 f238 f261 f262 f263 f264 f265 f267 f268 f269 f270 f271 f272 f273 f274 f275 f276 f277 f278 f279 f280 f281 f282 f283 f284 f285 f286 f287 f295 f296 f297 f298 f299 f300 f301 f302 f303 f304 f305 f306 f307 f308 f309 f310 f311 f312 f313; omega) | omega, by first | (clear f192 f193 f194 f195 f196 f197 f198 f199 f200 f201 f202 f203 f204 f205 f206 f207 f208 f209 f210 f212 f213 f214 f215 f216 f217 f219 f220 f221 f222 f223 f224 f225 f226 f227 f228 f229 f230 f231 f232 f233 f234 f235 f236 f237 f238 f261 f262 f263 f264 f265 f266 f268 f269 f270 f271 f272 f273 f274 f275 f276 f277 f278 f279 f280 f281 f282 f283 f284 f285 f286 f287 f295 f296 f297 f298 f299 f300 f301 f302 f303 f304 f305 f306 f307 f308 f309 f310 f311 f312 f313; omega) | omega, (eA_ti (j := 0) (((hF244.2.1 173 (by decide)).trans (hF163.2.1 173 (by decide))))).trans (hR_7.trans (eA_ti (j := 0) (((hF244.2.1 235 (by decide)).trans (hF163.2.1 235 (by decide))))).symm), (eA_ti (j := 1) (((hF244.2.1 173 (by decide)).trans (hF163.2.1 173 (by decide))))).trans (hR_8.trans (eA_ti (j := 1) (((hF244.2.1 235 (by decide)).trans (hF163.2.1 235 (by decide))))).symm), (congrArg Int32.toInt (((hF244.1 174 1 (by decide)).trans (hF163.1 174 1 (by decide))))).trans (hR_9.trans (congrArg Int32.toInt (((hF244.1 231 8 (by decide)).trans (hF163.1 231 8 (by decide))))).symm), (congrArg Int32.toInt (((hF244.1 0 16 (by decide)).trans (hF163.1 0 16 (by decide))))).trans (hR_10.trans (congrArg Int32.toInt (((hF244.1 231 6 (by decide)).trans (hF163.1 231 6 (by decide))))).symm), (congrArg Int32.toInt (((hF244.1 176 2 (by decide)).trans (hF163.1 176 2 (by decide))))).trans (hR_11.trans (congrArg Int32.toInt (((hF244.1 231 13 (by decide)).trans (hF163.1 231 13 (by decide))))).symm), by first | (clear f192 f193 f194 f195 f196 f197 f198 f199 f200 f201 f202 f203 f204 f205 f206 f207 f208 f209 f210 f212 f213 f214 f215 f216 f217 f218 f219 f220 f221 f222 f223 f224 f225 f226 f227 f228 f229 f230 f231 f232 f233 f234 f235 f236 f237 f261 f262 f263 f264 f265 f266 f267 f268 f269 f270 f271 f272 f273 f274 f275 f276 f277 f278 f279 f280 f281 f282 f283 f284 f285 f286 f295 f296 f297 f298 f299 f300 f301 f302 f303 f304 f305 f306 f307 f308 f309 f310 f311 f312 f313; omega) | omega, IM0.cong hR_13 (eA_ti (j := 0) (((hF244.2.1 173 (by decide)).trans (hF163.2.1 173 (by decide))))) (congrArg Int32.toInt (((hF244.1 59 0 (by decide)).trans (hF163.1 59 0 (by decide))))) (eA_ti (j := 0) (((hF244.2.1 234 (by decide)).trans (hF163.2.1 234 (by decide))))) (congrArg Int32.toInt (((hF244.1 59 12 (by decide)).trans (hF163.1 59 12 (by decide))))) (eA_ti (j := 4) (((hF244.2.1 234 (by decide)).trans (hF163.2.1 234 (by decide))))) (congrArg Int32.toInt (((hF244.1 59 10 (by decide)).trans (hF163.1 59 10 (by decide))))) (eA_ti (j := 5) (((hF244.2.1 234 (by decide)).trans (hF163.2.1 234 (by decide))))) (congrArg Int32.toInt (((hF244.1 59 11 (by decide)).trans (hF163.1 59 11 (by decide))))) (eA_ti (j := 6) (((hF244.2.1 234 (by decide)).trans (hF163.2.1 234 (by decide))))) (congrArg Int32.toInt (((hF244.1 59 4 (by decide)).trans (hF163.1 59 4 (by decide))))) (eA_ti (j := 1) (((hF244.2.1 234 (by decide)).trans (hF163.2.1 234 (by decide))))) (congrArg Int32.toInt (((hF244.1 59 6 (by decide)).trans (hF163.1 59 6 (by decide))))) (eA_ti (j := 2) (((hF244.2.1 234 (by decide)).trans (hF163.2.1 234 (by decide))))) (congrArg Int32.toInt (((hF244.1 59 9 (by decide)).trans (hF163.1 59 9 (by decide))))) (eA_ti (j := 3) (((hF244.2.1 234 (by decide)).trans (hF163.2.1 234 (by decide))))), IM1.cong hR_14 (eA_ti (j := 1) (((hF244.2.1 173 (by decide)).trans (hF163.2.1 173 (by decide))))) (congrArg Int32.toInt (((hF244.1 116 0 (by decide)).trans (hF163.1 116 0 (by decide))))) (eA_ti (j := 5510) (((hF244.2.1 234 (by decide)).trans (hF163.2.1 234 (by decide))))) (congrArg Int32.toInt (((hF244.1 116 12 (by decide)).trans (hF163.1 116 12 (by decide))))) (eA_ti (j := 5514) (((hF244.2.1 234 (by decide)).trans (hF163.2.1 234 (by decide))))) (congrArg Int32.toInt (((hF244.1 116 10 (by decide)).trans (hF163.1 116 10 (by decide))))) (eA_ti (j := 5515) (((hF244.2.1 234 (by decide)).trans (hF163.2.1 234 (by decide))))) (congrArg Int32.toInt (((hF244.1 116 11 (by decide)).trans (hF163.1 116 11 (by decide))))) (eA_ti (j := 5516) (((hF244.2.1 234 (by decide)).trans (hF163.2.1 234 (by decide))))) (congrArg Int32.toInt (((hF244.1 116 4 (by decide)).trans (hF163.1 116 4 (by decide))))) (eA_ti (j := 5511) (((hF244.2.1 234 (by decide)).trans (hF163.2.1 234 (by decide))))) (congrArg Int32.toInt (((hF244.1 116 6 (by decide)).trans (hF163.1 116 6 (by decide))))) (eA_ti (j := 5512) (((hF244.2.1 234 (by decide)).trans (hF163.2.1 234 (by decide))))) (congrArg Int32.toInt (((hF244.1 116 9 (by decide)).trans (hF163.1 116 9 (by decide))))) (eA_ti (j := 5513) (((hF244.2.1 234 (by decide)).trans (hF163.2.1 234 (by decide))))), (show CT _ from ⟨fun i i0 i1 => ⟨(by first | (clear f192 f193 f194 f195 f196 f197 f198 f199 f200 f201 f202 f203 f204 f205 f208 f209 f210 f219 f220 f221 f222 f223 f224 f225 f226 f227 f228 f229 f230 f231 f232 f235 f236 f237 f238 f268 f269 f270 f271 f272 f273 f274 f275 f276 f277 f278 f279 f280 f281 f284 f285 f286 f287 f295 f296 f297 f298 f299 f300 f301 f302 f303 f304 f305 f306 f307 f308 f311 f312 f313; have t0_ := hI0.t0; have t1_ := hI0.t1; have o := (hR_15.1 i i0 i1).1; have o0 := (hR_16.1 i i0 i1).1; have o1 := (hR_17.1 i i0 i1).1; have x := (eA_ti (j := i) (hF244.2.1 2 (by decide))).trans (q170 i i0 i1); have m := q251 (10 + 3 * i) (by omega) (by omega); have y1 := eA_ti (j := ((10 + 3 * i))) (hF163.2.1 234 (by decide)); have y2 := eA_ti (j := (5510 + ((10 + 3 * i)))) (hF163.2.1 234 (by decide)); have y3 := eA_ti (j := ((10 + 3 * i))) (hF163.2.1 233 (by decide)); (try split at x) <;> (try split at x) <;> (try split at m) <;> (try split at m) <;> omega) | (have t0_ := hI0.t0; have t1_ := hI0.t1; have o := (hR_15.1 i i0 i1).1; have o0 := (hR_16.1 i i0 i1).1; have o1 := (hR_17.1 i i0 i1).1; have x := (eA_ti (j := i) (hF244.2.1 2 (by decide))).trans (q170 i i0 i1); have m := q251 (10 + 3 * i) (by omega) (by omega); have y1 := eA_ti (j := ((10 + 3 * i))) (hF163.2.1 234 (by decide)); have y2 := eA_ti (j := (5510 + ((10 + 3 * i)))) (hF163.2.1 234 (by decide)); have y3 := eA_ti (j := ((10 + 3 * i))) (hF163.2.1 233 (by decide)); (try split at x) <;> (try split at x) <;> (try split at m) <;> (try split at m) <;> omega)), (by first | (clear f192 f193 f194 f195 f196 f197 f198 f199 f200 f201 f202 f203 f204 f205 f208 f209 f210 f219 f220 f221 f222 f223 f224 f225 f226 f227 f228 f229 f230 f231 f232 f235 f236 f237 f238 f268 f269 f270 f271 f272 f273 f274 f275 f276 f277 f278 f279 f280 f281 f284 f285 f286 f287 f295 f296 f297 f298 f299 f300 f301 f302 f303 f304 f305 f306 f307 f308 f311 f312 f313; have t0_ := hI0.t0; have t1_ := hI0.t1; have o := (hR_15.1 i i0 i1).2.1; have o0 := (hR_16.1 i i0 i1).2.1; have o1 := (hR_17.1 i i0 i1).2.1; have x := (eA_ti (j := i) (hF244.2.1 3 (by decide))).trans (q171 i i0 i1); have m := q251 (10 + 3 * i + 1) (by omega) (by omega); have y1 := eA_ti (j := ((10 + 3 * i + 1))) (hF163.2.1 234 (by decide)); have y2 := eA_ti (j := (5510 + ((10 + 3 * i + 1)))) (hF163.2.1 234 (by decide)); have y3 := eA_ti (j := ((10 + 3 * i + 1))) (hF163.2.1 233 (by decide)); (try split at x) <;> (try split at x) <;> (try split at m) <;> (try split at m) <;> omega) | (have t0_ := hI0.t0; have t1_ := hI0.t1; have o := (hR_15.1 i i0 i1).2.1; have o0 := (hR_16.1 i i0 i1).2.1; have o1 := (hR_17.1 i i0 i1).2.1; have x := (eA_ti (j := i) (hF244.2.1 3 (by decide))).trans (q171 i i0 i1); have m := q251 (10 + 3 * i + 1) (by omega) (by omega); have y1 := eA_ti (j := ((10 + 3 * i + 1))) (hF163.2.1 234 (by decide)); have y2 := eA_ti (j := (5510 + ((10 + 3 * i + 1)))) (hF163.2.1 234 (by decide)); have y3 := eA_ti (j := ((10 + 3 * i + 1))) (hF163.2.1 233 (by decide)); (try split at x) <;> (try split at x) <;> (try split at m) <;> (try split at m) <;> omega)), (by first | (clear f192 f193 f194 f195 f196 f197 f198 f199 f200 f201 f202 f203 f204 f205 f208 f209 f210 f219 f220 f221 f222 f223 f224 f225 f226 f227 f228 f229 f230 f231 f232 f235 f236 f237 f238 f268 f269 f270 f271 f272 f273 f274 f275 f276 f277 f278 f279 f280 f281 f284 f285 f286 f287 f295 f296 f297 f298 f299 f300 f301 f302 f303 f304 f305 f306 f307 f308 f311 f312 f313; have t0_ := hI0.t0; have t1_ := hI0.t1; have o := (hR_15.1 i i0 i1).2.2; have o0 := (hR_16.1 i i0 i1).2.2; have o1 := (hR_17.1 i i0 i1).2.2; have x := (eA_ti (j := i) (hF244.2.1 4 (by decide))).trans (q172 i i0 i1); have m := q251 (10 + 3 * i + 2) (by omega) (by omega); have y1 := eA_ti (j := ((10 + 3 * i + 2))) (hF163.2.1 234 (by decide)); have y2 := eA_ti (j := (5510 + ((10 + 3 * i + 2)))) (hF163.2.1 234 (by decide)); have y3 := eA_ti (j := ((10 + 3 * i + 2))) (hF163.2.1 233 (by decide)); (try split at x) <;> (try split at x) <;> (try split at m) <;> (try split at m) <;> omega) | (have t0_ := hI0.t0; have t1_ := hI0.t1; have o := (hR_15.1 i i0 i1).2.2; have o0 := (hR_16.1 i i0 i1).2.2; have o1 := (hR_17.1 i i0 i1).2.2; have x := (eA_ti (j := i) (hF244.2.1 4 (by decide))).trans (q172 i i0 i1); have m := q251 (10 + 3 * i + 2) (by omega) (by omega); have y1 := eA_ti (j := ((10 + 3 * i + 2))) (hF163.2.1 234 (by decide)); have y2 := eA_ti (j := (5510 + ((10 + 3 * i + 2)))) (hF163.2.1 234 (by decide)); have y3 := eA_ti (j := ((10 + 3 * i + 2))) (hF163.2.1 233 (by decide)); (try split at x) <;> (try split at x) <;> (try split at m) <;> (try split at m) <;> omega))⟩, fun i i0 i1 => ⟨(by first | (clear f192 f193 f194 f195 f196 f197 f198 f199 f200 f201 f202 f203 f204 f205 f208 f209 f210 f219 f220 f221 f222 f223 f224 f225 f226 f227 f228 f229 f230 f231 f232 f235 f236 f237 f238 f268 f269 f270 f271 f272 f273 f274 f275 f276 f277 f278 f279 f280 f281 f284 f285 f286 f287 f295 f296 f297 f298 f299 f300 f301 f302 f303 f304 f305 f306 f307 f308 f311 f312 f313; have t0_ := hI0.t0; have t1_ := hI0.t1; have o := (hR_15.2.1 i i0 i1).1; have o0 := (hR_16.2.1 i i0 i1).1; have o1 := (hR_17.2.1 i i0 i1).1; have x := (eA_ti (j := i) (hF244.2.1 14 (by decide))).trans (q173 i i0 i1); have m := q251 (94 + 2 * i) (by omega) (by omega); have y1 := eA_ti (j := ((94 + 2 * i))) (hF163.2.1 234 (by decide)); have y2 := eA_ti (j := (5510 + ((94 + 2 * i)))) (hF163.2.1 234 (by decide)); have y3 := eA_ti (j := ((94 + 2 * i))) (hF163.2.1 233 (by decide)); (try split at x) <;> (try split at x) <;> (try split at m) <;> (try split at m) <;> omega) | (have t0_ := hI0.t0; have t1_ := hI0.t1; have o := (hR_15.2.1 i i0 i1).1; have o0 := (hR_16.2.1 i i0 i1).1; have o1 := (hR_17.2.1 i i0 i1).1; have x := (eA_ti (j := i) (hF244.2.1 14 (by decide))).trans (q173 i i0 i1); have m := q251 (94 + 2 * i) (by omega) (by omega); have y1 := eA_ti (j := ((94 + 2 * i))) (hF163.2.1 234 (by decide)); have y2 := eA_ti (j := (5510 + ((94 + 2 * i)))) (hF163.2.1 234 (by decide)); have y3 := eA_ti (j := ((94 + 2 * i))) (hF163.2.1 233 (by decide)); (try split at x) <;> (try split at x) <;> (try split at m) <;> (try split at m) <;> omega)), (by first | (clear f192 f193 f194 f195 f196 f197 f198 f199 f200 f201 f202 f203 f204 f205 f208 f209 f210 f219 f220 f221 f222 f223 f224 f225 f226 f227 f228 f229 f230 f231 f232 f235 f236 f237 f238 f268 f269 f270 f271 f272 f273 f274 f275 f276 f277 f278 f279 f280 f281 f284 f285 f286 f287 f295 f296 f297 f298 f299 f300 f301 f302 f303 f304 f305 f306 f307 f308 f311 f312 f313; have t0_ := hI0.t0; have t1_ := hI0.t1; have o := (hR_15.2.1 i i0 i1).2; have o0 := (hR_16.2.1 i i0 i1).2; have o1 := (hR_17.2.1 i i0 i1).2; have x := (eA_ti (j := i) (hF244.2.1 15 (by decide))).trans (q174 i i0 i1); have m := q251 (94 + 2 * i + 1) (by omega) (by omega); have y1 := eA_ti (j := ((94 + 2 * i + 1))) (hF163.2.1 234 (by decide)); have y2 := eA_ti (j := (5510 + ((94 + 2 * i + 1)))) (hF163.2.1 234 (by decide)); have y3 := eA_ti (j := ((94 + 2 * i + 1))) (hF163.2.1 233 (by decide)); (try split at x) <;> (try split at x) <;> (try split at m) <;> (try split at m) <;> omega) | (have t0_ := hI0.t0; have t1_ := hI0.t1; have o := (hR_15.2.1 i i0 i1).2; have o0 := (hR_16.2.1 i i0 i1).2; have o1 := (hR_17.2.1 i i0 i1).2; have x := (eA_ti (j := i) (hF244.2.1 15 (by decide))).trans (q174 i i0 i1); have m := q251 (94 + 2 * i + 1) (by omega) (by omega); have y1 := eA_ti (j := ((94 + 2 * i + 1))) (hF163.2.1 234 (by decide)); have y2 := eA_ti (j := (5510 + ((94 + 2 * i + 1)))) (hF163.2.1 234 (by decide)); have y3 := eA_ti (j := ((94 + 2 * i + 1))) (hF163.2.1 233 (by decide)); (try split at x) <;> (try split at x) <;> (try split at m) <;> (try split at m) <;> omega))⟩, fun i i0 i1 => (by first | (clear f192 f193 f194 f195 f196 f197 f198 f199 f200 f201 f202 f203 f204 f205 f208 f209 f210 f219 f220 f221 f222 f223 f224 f225 f226 f227 f228 f229 f230 f231 f232 f235 f236 f237 f238 f268 f269 f270 f271 f272 f273 f274 f275 f276 f277 f278 f279 f280 f281 f284 f285 f286 f287 f295 f296 f297 f298 f299 f300 f301 f302 f303 f304 f305 f306 f307 f308 f311 f312 f313; have t0_ := hI0.t0; have t1_ := hI0.t1; have o : i < 6 * (gI g0 1 4).toInt → _ := fun hz => hR_15.2.2 i i0 hz; have o0 : i < 6 * (gI g0 59 4).toInt → _ := fun hz => hR_16.2.2 i i0 hz; have o1 : i < 6 * (gI g0 116 4).toInt → _ := fun hz => hR_17.2.2 i i0 hz; have t9_ := RgF.at hI243.2.1 (p := 1) (b := 4) rfl; dsimp only at t9_; have i9_ : i < 48 := (by omega); have x := (eA_ti (j := i) (hF244.2.1 5 (by decide))).trans (q175 i i0 i9_); have m := q251 (46 + i) (by omega) (by omega); have y1 := eA_ti (j := ((46 + i))) (hF163.2.1 234 (by decide)); have y2 := eA_ti (j := (5510 + ((46 + i)))) (hF163.2.1 234 (by decide)); have y3 := eA_ti (j := ((46 + i))) (hF163.2.1 233 (by decide)); (try split at x) <;> (try split at x) <;> (try split at m) <;> (try split at m) <;> omega) | (have t0_ := hI0.t0; have t1_ := hI0.t1; have o : i < 6 * (gI g0 1 4).toInt → _ := fun hz => hR_15.2.2 i i0 hz; have o0 : i < 6 * (gI g0 59 4).toInt → _ := fun hz => hR_16.2.2 i i0 hz; have o1 : i < 6 * (gI g0 116 4).toInt → _ := fun hz => hR_17.2.2 i i0 hz; have t9_ := RgF.at hI243.2.1 (p := 1) (b := 4) rfl; dsimp only at t9_; have i9_ : i < 48 := (by omega); have x := (eA_ti (j := i) (hF244.2.1 5 (by decide))).trans (q175 i i0 i9_); have m := q251 (46 + i) (by omega) (by omega); have y1 := eA_ti (j := ((46 + i))) (hF163.2.1 234 (by decide)); have y2 := eA_ti (j := (5510 + ((46 + i)))) (hF163.2.1 234 (by decide)); have y3 := eA_ti (j := ((46 + i))) (hF163.2.1 233 (by decide)); (try split at x) <;> (try split at x) <;> (try split at m) <;> (try split at m) <;> omega))⟩), CI0.cong hR_16 (((hF244.2.1 60 (by decide)).trans (hF163.2.1 60 (by decide)))) (((hF244.2.1 61 (by decide)).trans (hF163.2.1 61 (by decide)))) (((hF244.2.1 62 (by decide)).trans (hF163.2.1 62 (by decide)))) (((hF244.2.1 72 (by decide)).trans (hF163.2.1 72 (by decide)))) (((hF244.2.1 73 (by decide)).trans (hF163.2.1 73 (by decide)))) (((hF244.2.1 63 (by decide)).trans (hF163.2.1 63 (by decide)))) (((hF244.2.1 234 (by decide)).trans (hF163.2.1 234 (by decide)))) (congrArg Int32.toInt (((hF244.1 59 4 (by decide)).trans (hF163.1 59 4 (by decide))))), CI1.cong hR_17 (((hF244.2.1 117 (by decide)).trans (hF163.2.1 117 (by decide)))) (((hF244.2.1 118 (by decide)).trans (hF163.2.1 118 (by decide)))) (((hF244.2.1 119 (by decide)).trans (hF163.2.1 119 (by decide)))) (((hF244.2.1 129 (by decide)).trans (hF163.2.1 129 (by decide)))) (((hF244.2.1 130 (by decide)).trans (hF163.2.1 130 (by decide)))) (((hF244.2.1 120 (by decide)).trans (hF163.2.1 120 (by decide)))) (((hF244.2.1 234 (by decide)).trans (hF163.2.1 234 (by decide)))) (congrArg Int32.toInt (((hF244.1 116 4 (by decide)).trans (hF163.1 116 4 (by decide))))), (show RT _ from fun i i0 i1 => (eA_ti (((hF244.2.1 175 (by decide)).trans (hF163.2.1 175 (by decide))))).trans ((hR_18 i i0 (by omega)).trans (eA_ti (((hF244.2.1 236 (by decide)).trans (hF163.2.1 236 (by decide))))).symm)), (show BYX _ from fun i i0 i1 => by rw [TX.c (((hF244.2.1 175 (by decide)).trans (hF163.2.1 175 (by decide))))]; exact hR_19 i i0 (by have i2 : i < (gI _ 174 1).toInt := i1; show i < (gI g0 174 1).toInt; omega))⟩)
  · have n315_e : v2.toInt = 1 := by omega
    have n315_0 : v2.toInt ≠ 0 := by omega
    have n315_k : (eA g0 173 1).toInt ≠ 0 := by omega
    have n315_i := hR_14 (by omega)
    refine r_callV 1280 rfl [.ref 0, .int v2] [] (Nat.le_of_ble_eq_true rfl) rfl (T_X10_back_0 _ hI0 v2) ?_
    rintro _ _ ⟨g316, rfl, hI317, hF318, v319, rfl, hr320⟩
    refine At.sti ?_
    have hF321 := Fr.tr hF0 hF318 rfl rfl
    have su322 := hr320.2.2
    obtain ⟨q323, q324, q325, q326, q327, q328, q329, q330⟩ := (And.intro hr320.1 hr320.2.1)
    obtain ⟨p331, p332, p333, p334, p335, p336⟩ := (And.intro q323 q324)
    have w337 := p333 ⟨n315_e, n315_k⟩
    clear p332 p333 p334 p335 p336
    clear q324
    have f347 := congrArg Int32.toInt (hF318.1 59 0 rfl)
    have f348 := congrArg Int32.toInt (hF318.1 59 12 rfl)
    have f349 := congrArg Int32.toInt (hF318.1 59 10 rfl)
    have f350 := congrArg Int32.toInt (hF318.1 59 11 rfl)
    have f351 := congrArg Int32.toInt (hF318.1 59 4 rfl)
    have f352 := congrArg Int32.toInt (hF318.1 59 6 rfl)
    have f353 := congrArg Int32.toInt (hF318.1 59 9 rfl)
    have f354 := congrArg Int32.toInt (hF318.1 116 0 rfl)
    have f355 := congrArg Int32.toInt (hF318.1 116 12 rfl)
    have f356 := congrArg Int32.toInt (hF318.1 116 10 rfl)
    have f357 := congrArg Int32.toInt (hF318.1 116 11 rfl)
    have f358 := congrArg Int32.toInt (hF318.1 116 4 rfl)
    have f359 := congrArg Int32.toInt (hF318.1 116 6 rfl)
    have f360 := congrArg Int32.toInt (hF318.1 116 9 rfl)
    have f361 := congrArg Int32.toInt (eA_c (j := 0) (hF318.2.1 173 rfl))
    have f362 := congrArg Int32.toInt (eA_c (j := 1) (hF318.2.1 173 rfl))
    have f363 := congrArg Int32.toInt (hF318.1 174 1 rfl)
    have f364 := congrArg Int32.toInt (hF318.1 0 16 rfl)
    have f365 := congrArg Int32.toInt (hF318.1 176 2 rfl)
    have f367 := congrArg Int32.toInt (eA_c (j := 0) (hF318.2.1 233 rfl))
    have f368 := congrArg Int32.toInt (eA_c (j := 4) (hF318.2.1 233 rfl))
    have f369 := congrArg Int32.toInt (eA_c (j := 5) (hF318.2.1 233 rfl))
    have f370 := congrArg Int32.toInt (eA_c (j := 6) (hF318.2.1 233 rfl))
    have f371 := congrArg Int32.toInt (eA_c (j := 1) (hF318.2.1 233 rfl))
    have f372 := congrArg Int32.toInt (eA_c (j := 2) (hF318.2.1 233 rfl))
    have f373 := congrArg Int32.toInt (eA_c (j := 3) (hF318.2.1 233 rfl))
    have f374 := congrArg Int32.toInt (eA_c (j := 0) (hF318.2.1 234 rfl))
    have f375 := congrArg Int32.toInt (eA_c (j := 4) (hF318.2.1 234 rfl))
    have f376 := congrArg Int32.toInt (eA_c (j := 5) (hF318.2.1 234 rfl))
    have f377 := congrArg Int32.toInt (eA_c (j := 6) (hF318.2.1 234 rfl))
    have f378 := congrArg Int32.toInt (eA_c (j := 1) (hF318.2.1 234 rfl))
    have f379 := congrArg Int32.toInt (eA_c (j := 2) (hF318.2.1 234 rfl))
    have f380 := congrArg Int32.toInt (eA_c (j := 3) (hF318.2.1 234 rfl))
    have f381 := congrArg Int32.toInt (eA_c (j := 5510) (hF318.2.1 234 rfl))
    have f382 := congrArg Int32.toInt (eA_c (j := 5514) (hF318.2.1 234 rfl))
    have f383 := congrArg Int32.toInt (eA_c (j := 5515) (hF318.2.1 234 rfl))
    have f384 := congrArg Int32.toInt (eA_c (j := 5516) (hF318.2.1 234 rfl))
    have f385 := congrArg Int32.toInt (eA_c (j := 5511) (hF318.2.1 234 rfl))
    have f386 := congrArg Int32.toInt (eA_c (j := 5512) (hF318.2.1 234 rfl))
    have f387 := congrArg Int32.toInt (eA_c (j := 5513) (hF318.2.1 234 rfl))
    have f388 := congrArg Int32.toInt (eA_c (j := 0) (hF318.2.1 235 rfl))
    have f389 := congrArg Int32.toInt (eA_c (j := 1) (hF318.2.1 235 rfl))
    have f390 := congrArg Int32.toInt (hF318.1 231 8 rfl)
    have f391 := congrArg Int32.toInt (hF318.1 231 6 rfl)
    have f392 := congrArg Int32.toInt (hF318.1 231 13 rfl)
    have f393 := congrArg Int32.toInt (hF318.1 231 1 rfl)
    refine At.enter rfl ?_
    refine r_pop rfl ?_
    refine r_aload_n e2 ?_
    refine r_sload_n e0 ?_
    refine r_iload_n e3 ?_
    refine r_iconst 1 rfl ?_
    refine q_iadd (i.toInt + 1) rfl hx_1 (fun v394 hv394 => ?_)
    refine q_scald (m := L) hL (i.toInt + 1) hv394 hy_1 (fun v395 hv395 => ?_)
    have sv395 := hv2.symm.trans hv395
    subst sv395
    have n396_e : v2.toInt = 1 := by omega
    have n396_0 : v2.toInt ≠ 0 := by omega
    have n396_k : (eA g316 235 1).toInt ≠ 0 := by omega
    refine r_callV 1290 rfl [.ref 231, .int v2] [] (Nat.le_of_ble_eq_true rfl) rfl (T_X11_back_231 _ hI317 v2) ?_
    rintro _ _ ⟨g397, rfl, hI398, hF399, v400, rfl, hr401⟩
    refine At.sti ?_
    have hF402 := Fr.tr hF321 hF399 rfl rfl
    have su403 := hr401.2.2
    obtain ⟨q404, q405, q406⟩ := (And.intro hr401.1 hr401.2.1)
    obtain ⟨p407, p408, p409, p410, p411, p412⟩ := (And.intro q404 q405)
    have w413 := p409 ⟨n396_e, n396_k⟩
    clear p408 p409 p410 p411 p412
    clear q405
    have f416 := congrArg Int32.toInt (hF399.1 1 0 rfl)
    have f417 := congrArg Int32.toInt (hF399.1 1 12 rfl)
    have f418 := congrArg Int32.toInt (hF399.1 1 10 rfl)
    have f419 := congrArg Int32.toInt (hF399.1 1 11 rfl)
    have f420 := congrArg Int32.toInt (hF399.1 1 4 rfl)
    have f421 := congrArg Int32.toInt (hF399.1 1 6 rfl)
    have f422 := congrArg Int32.toInt (hF399.1 1 9 rfl)
    have f423 := congrArg Int32.toInt (hF399.1 59 0 rfl)
    have f424 := congrArg Int32.toInt (hF399.1 59 12 rfl)
    have f425 := congrArg Int32.toInt (hF399.1 59 10 rfl)
    have f426 := congrArg Int32.toInt (hF399.1 59 11 rfl)
    have f427 := congrArg Int32.toInt (hF399.1 59 4 rfl)
    have f428 := congrArg Int32.toInt (hF399.1 59 6 rfl)
    have f429 := congrArg Int32.toInt (hF399.1 59 9 rfl)
    have f430 := congrArg Int32.toInt (hF399.1 116 0 rfl)
    have f431 := congrArg Int32.toInt (hF399.1 116 12 rfl)
    have f432 := congrArg Int32.toInt (hF399.1 116 10 rfl)
    have f433 := congrArg Int32.toInt (hF399.1 116 11 rfl)
    have f434 := congrArg Int32.toInt (hF399.1 116 4 rfl)
    have f435 := congrArg Int32.toInt (hF399.1 116 6 rfl)
    have f436 := congrArg Int32.toInt (hF399.1 116 9 rfl)
    have f437 := congrArg Int32.toInt (eA_c (j := 0) (hF399.2.1 173 rfl))
    have f438 := congrArg Int32.toInt (eA_c (j := 1) (hF399.2.1 173 rfl))
    have f439 := congrArg Int32.toInt (hF399.1 174 1 rfl)
    have f440 := congrArg Int32.toInt (hF399.1 0 16 rfl)
    have f441 := congrArg Int32.toInt (hF399.1 176 2 rfl)
    have f442 := congrArg Int32.toInt (hF399.1 0 17 rfl)
    have f450 := congrArg Int32.toInt (eA_c (j := 0) (hF399.2.1 234 rfl))
    have f451 := congrArg Int32.toInt (eA_c (j := 4) (hF399.2.1 234 rfl))
    have f452 := congrArg Int32.toInt (eA_c (j := 5) (hF399.2.1 234 rfl))
    have f453 := congrArg Int32.toInt (eA_c (j := 6) (hF399.2.1 234 rfl))
    have f454 := congrArg Int32.toInt (eA_c (j := 1) (hF399.2.1 234 rfl))
    have f455 := congrArg Int32.toInt (eA_c (j := 2) (hF399.2.1 234 rfl))
    have f456 := congrArg Int32.toInt (eA_c (j := 3) (hF399.2.1 234 rfl))
    have f457 := congrArg Int32.toInt (eA_c (j := 5510) (hF399.2.1 234 rfl))
    have f458 := congrArg Int32.toInt (eA_c (j := 5514) (hF399.2.1 234 rfl))
    have f459 := congrArg Int32.toInt (eA_c (j := 5515) (hF399.2.1 234 rfl))
    have f460 := congrArg Int32.toInt (eA_c (j := 5516) (hF399.2.1 234 rfl))
    have f461 := congrArg Int32.toInt (eA_c (j := 5511) (hF399.2.1 234 rfl))
    have f462 := congrArg Int32.toInt (eA_c (j := 5512) (hF399.2.1 234 rfl))
    have f463 := congrArg Int32.toInt (eA_c (j := 5513) (hF399.2.1 234 rfl))
    have f464 := congrArg Int32.toInt (eA_c (j := 0) (hF399.2.1 235 rfl))
    have f465 := congrArg Int32.toInt (eA_c (j := 1) (hF399.2.1 235 rfl))
    have f466 := congrArg Int32.toInt (hF399.1 231 8 rfl)
    have f467 := congrArg Int32.toInt (hF399.1 231 6 rfl)
    have f468 := congrArg Int32.toInt (hF399.1 231 13 rfl)
    refine At.enter rfl ?_
    refine r_pop rfl ?_
    refine r_goto ?_
    have zr : v319.toInt = v400.toInt := by
      apply Decidable.byContradiction
      intro hne
      exfalso
      omega
    have zsu := SU.eq su322 su403 zr
    exact K _ hI398 (show LwR _ from ⟨by first | (clear f347 f348 f349 f350 f351 f352 f353 f354 f355 f356 f357 f358 f359 f360 f361 f362 f363 f364 f365 f368 f369 f370 f371 f372 f373 f374 f375 f376 f377 f378 f379 f380 f381 f382 f383 f384 f385 f386 f387 f388 f389 f390 f391 f392 f393 f417 f418 f419 f420 f421 f422 f423 f424 f425 f426 f427 f428 f429 f430 f431 f432 f433 f434 f435 f436 f437 f438 f439 f440 f441 f442 f450 f451 f452 f453 f454 f455 f456 f457 f458 f459 f460 f461 f462 f463 f464 f465 f466 f467 f468; omega) | omega, by first | (clear f347 f348 f349 f350 f351 f352 f353 f354 f355 f356 f357 f358 f359 f360 f361 f362 f363 f364 f365 f367 f369 f370 f371 f372 f373 f374 f375 f376 f377 f378 f379 f380 f381 f382 f383 f384 f385 f386 f387 f388 f389 f390 f391 f392 f393 f416 f418 f419 f420 f421 f422 f423 f424 f425 f426 f427 f428 f429 f430 f431 f432 f433 f434 f435 f436 f437 f438 f439 f440 f441 f442 f450 f451 f452 f453 f454 f455 f456 f457 f458 f459 f460 f461 f462 f463 f464 f465 f466 f467 f468; omega) | omega, by first | (clear f347 f348 f349 f350 f351 f352 f353 f354 f355 f356 f357 f358 f359 f360 f361 f362 f363 f364 f365 f367 f368 f370 f371 f372 f373 f374 f375 f376 f377 f378 f379 f380 f381 f382 f383 f384 f385 f386 f387 f388 f389 f390 f391 f392 f393 f416 f417 f419 f420 f421 f422 f423 f424 f425 f426 f427 f428 f429 f430 f431 f432 f433 f434 f435 f436 f437 f438 f439 f440 f441 f442 f450 f451 f452 f453 f454 f455 f456 f457 f458 f459 f460 f461 f462 f463 f464 f465 f466 f467 f468; omega) | omega, by first | (clear f347 f348 f349 f350 f351 f352 f353 f354 f355 f356 f357 f358 f359 f360 f361 f362 f363 f364 f365 f367 f368 f369 f371 f372 f373 f374 f375 f376 f377 f378 f379 f380 f381 f382 f383 f384 f385 f386 f387 f388 f389 f390 f391 f392 f393 f416 f417 f418 f420 f421 f422 f423 f424 f425 f426 f427 f428 f429 f430 f431 f432 f433 f434 f435 f436 f437 f438 f439 f440 f441 f442 f450 f451 f452 f453 f454 f455 f456 f457 f458 f459 f460 f461 f462 f463 f464 f465 f466 f467 f468; omega) | omega, by first | (clear f347 f348 f349 f350 f351 f352 f353 f354 f355 f356 f357 f358 f359 f360 f361 f362 f363 f364 f365 f367 f368 f369 f370 f372 f373 f374 f375 f376 f377 f378 f379 f380 f381 f382 f383 f384 f385 f386 f387 f388 f389 f390 f391 f392 f393 f416 f417 f418 f419 f421 f422 f423 f424 f425 f426 f427 f428 f429 f430 f431 f432 f433 f434 f435 f436 f437 f438 f439 f440 f441 f442 f450 f451 f452 f453 f454 f455 f456 f457 f458 f459 f460 f461 f462 f463 f464 f465 f466 f467 f468; omega) | omega, by first | (clear f347 f348 f349 f350 f351 f352 f353 f354 f355 f356 f357 f358 f359 f360 f361 f362 f363 f364 f365 f367 f368 f369 f370 f371 f373 f374 f375 f376 f377 f378 f379 f380 f381 f382 f383 f384 f385 f386 f387 f388 f389 f390 f391 f392 f393 f416 f417 f418 f419 f420 f422 f423 f424 f425 f426 f427 f428 f429 f430 f431 f432 f433 f434 f435 f436 f437 f438 f439 f440 f441 f442 f450 f451 f452 f453 f454 f455 f456 f457 f458 f459 f460 f461 f462 f463 f464 f465 f466 f467 f468; omega) | omega, by first | (clear f347 f348 f349 f350 f351 f352 f353 f354 f355 f356 f357 f358 f359 f360 f361 f362 f363 f364 f365 f367 f368 f369 f370 f371 f372 f374 f375 f376 f377 f378 f379 f380 f381 f382 f383 f384 f385 f386 f387 f388 f389 f390 f391 f392 f393 f416 f417 f418 f419 f420 f421 f423 f424 f425 f426 f427 f428 f429 f430 f431 f432 f433 f434 f435 f436 f437 f438 f439 f440 f441 f442 f450 f451 f452 f453 f454 f455 f456 f457 f458 f459 f460 f461 f462 f463 f464 f465 f466 f467 f468; omega) | omega, (eA_ti (j := 0) (((hF399.2.1 173 (by decide)).trans (hF318.2.1 173 (by decide))))).trans (hR_7.trans (eA_ti (j := 0) (((hF399.2.1 235 (by decide)).trans (hF318.2.1 235 (by decide))))).symm), (eA_ti (j := 1) (((hF399.2.1 173 (by decide)).trans (hF318.2.1 173 (by decide))))).trans (hR_8.trans (eA_ti (j := 1) (((hF399.2.1 235 (by decide)).trans (hF318.2.1 235 (by decide))))).symm), (congrArg Int32.toInt (((hF399.1 174 1 (by decide)).trans (hF318.1 174 1 (by decide))))).trans (hR_9.trans (congrArg Int32.toInt (((hF399.1 231 8 (by decide)).trans (hF318.1 231 8 (by decide))))).symm), (congrArg Int32.toInt (((hF399.1 0 16 (by decide)).trans (hF318.1 0 16 (by decide))))).trans (hR_10.trans (congrArg Int32.toInt (((hF399.1 231 6 (by decide)).trans (hF318.1 231 6 (by decide))))).symm), (congrArg Int32.toInt (((hF399.1 176 2 (by decide)).trans (hF318.1 176 2 (by decide))))).trans (hR_11.trans (congrArg Int32.toInt (((hF399.1 231 13 (by decide)).trans (hF318.1 231 13 (by decide))))).symm), by first | (clear f347 f348 f349 f350 f351 f352 f353 f354 f355 f356 f357 f358 f359 f360 f361 f362 f363 f364 f365 f367 f368 f369 f370 f371 f372 f373 f374 f375 f376 f377 f378 f379 f380 f381 f382 f383 f384 f385 f386 f387 f388 f389 f390 f391 f392 f416 f417 f418 f419 f420 f421 f422 f423 f424 f425 f426 f427 f428 f429 f430 f431 f432 f433 f434 f435 f436 f437 f438 f439 f440 f441 f450 f451 f452 f453 f454 f455 f456 f457 f458 f459 f460 f461 f462 f463 f464 f465 f466 f467 f468; omega) | omega, IM0.cong hR_13 (eA_ti (j := 0) (((hF399.2.1 173 (by decide)).trans (hF318.2.1 173 (by decide))))) (congrArg Int32.toInt (((hF399.1 59 0 (by decide)).trans (hF318.1 59 0 (by decide))))) (eA_ti (j := 0) (((hF399.2.1 234 (by decide)).trans (hF318.2.1 234 (by decide))))) (congrArg Int32.toInt (((hF399.1 59 12 (by decide)).trans (hF318.1 59 12 (by decide))))) (eA_ti (j := 4) (((hF399.2.1 234 (by decide)).trans (hF318.2.1 234 (by decide))))) (congrArg Int32.toInt (((hF399.1 59 10 (by decide)).trans (hF318.1 59 10 (by decide))))) (eA_ti (j := 5) (((hF399.2.1 234 (by decide)).trans (hF318.2.1 234 (by decide))))) (congrArg Int32.toInt (((hF399.1 59 11 (by decide)).trans (hF318.1 59 11 (by decide))))) (eA_ti (j := 6) (((hF399.2.1 234 (by decide)).trans (hF318.2.1 234 (by decide))))) (congrArg Int32.toInt (((hF399.1 59 4 (by decide)).trans (hF318.1 59 4 (by decide))))) (eA_ti (j := 1) (((hF399.2.1 234 (by decide)).trans (hF318.2.1 234 (by decide))))) (congrArg Int32.toInt (((hF399.1 59 6 (by decide)).trans (hF318.1 59 6 (by decide))))) (eA_ti (j := 2) (((hF399.2.1 234 (by decide)).trans (hF318.2.1 234 (by decide))))) (congrArg Int32.toInt (((hF399.1 59 9 (by decide)).trans (hF318.1 59 9 (by decide))))) (eA_ti (j := 3) (((hF399.2.1 234 (by decide)).trans (hF318.2.1 234 (by decide))))), IM1.cong hR_14 (eA_ti (j := 1) (((hF399.2.1 173 (by decide)).trans (hF318.2.1 173 (by decide))))) (congrArg Int32.toInt (((hF399.1 116 0 (by decide)).trans (hF318.1 116 0 (by decide))))) (eA_ti (j := 5510) (((hF399.2.1 234 (by decide)).trans (hF318.2.1 234 (by decide))))) (congrArg Int32.toInt (((hF399.1 116 12 (by decide)).trans (hF318.1 116 12 (by decide))))) (eA_ti (j := 5514) (((hF399.2.1 234 (by decide)).trans (hF318.2.1 234 (by decide))))) (congrArg Int32.toInt (((hF399.1 116 10 (by decide)).trans (hF318.1 116 10 (by decide))))) (eA_ti (j := 5515) (((hF399.2.1 234 (by decide)).trans (hF318.2.1 234 (by decide))))) (congrArg Int32.toInt (((hF399.1 116 11 (by decide)).trans (hF318.1 116 11 (by decide))))) (eA_ti (j := 5516) (((hF399.2.1 234 (by decide)).trans (hF318.2.1 234 (by decide))))) (congrArg Int32.toInt (((hF399.1 116 4 (by decide)).trans (hF318.1 116 4 (by decide))))) (eA_ti (j := 5511) (((hF399.2.1 234 (by decide)).trans (hF318.2.1 234 (by decide))))) (congrArg Int32.toInt (((hF399.1 116 6 (by decide)).trans (hF318.1 116 6 (by decide))))) (eA_ti (j := 5512) (((hF399.2.1 234 (by decide)).trans (hF318.2.1 234 (by decide))))) (congrArg Int32.toInt (((hF399.1 116 9 (by decide)).trans (hF318.1 116 9 (by decide))))) (eA_ti (j := 5513) (((hF399.2.1 234 (by decide)).trans (hF318.2.1 234 (by decide))))), (show CT _ from ⟨fun i i0 i1 => ⟨(by first | (clear f347 f348 f349 f350 f351 f352 f353 f354 f355 f356 f357 f358 f359 f360 f363 f364 f365 f374 f375 f376 f377 f378 f379 f380 f381 f382 f383 f384 f385 f386 f387 f390 f391 f392 f393 f423 f424 f425 f426 f427 f428 f429 f430 f431 f432 f433 f434 f435 f436 f439 f440 f441 f442 f450 f451 f452 f453 f454 f455 f456 f457 f458 f459 f460 f461 f462 f463 f466 f467 f468; have t0_ := hI0.t0; have t1_ := hI0.t1; have o := (hR_15.1 i i0 i1).1; have o0 := (hR_16.1 i i0 i1).1; have o1 := (hR_17.1 i i0 i1).1; have x := (eA_ti (j := i) (hF399.2.1 2 (by decide))).trans (q325 i i0 i1); have m := q406 (10 + 3 * i) (by omega) (by omega); have y1 := eA_ti (j := ((10 + 3 * i))) (hF318.2.1 234 (by decide)); have y2 := eA_ti (j := (5510 + ((10 + 3 * i)))) (hF318.2.1 234 (by decide)); have y3 := eA_ti (j := ((10 + 3 * i))) (hF318.2.1 233 (by decide)); (try split at x) <;> (try split at x) <;> (try split at m) <;> (try split at m) <;> omega) | (have t0_ := hI0.t0; have t1_ := hI0.t1; have o := (hR_15.1 i i0 i1).1; have o0 := (hR_16.1 i i0 i1).1; have o1 := (hR_17.1 i i0 i1).1; have x := (eA_ti (j := i) (hF399.2.1 2 (by decide))).trans (q325 i i0 i1); have m := q406 (10 + 3 * i) (by omega) (by omega); have y1 := eA_ti (j := ((10 + 3 * i))) (hF318.2.1 234 (by decide)); have y2 := eA_ti (j := (5510 + ((10 + 3 * i)))) (hF318.2.1 234 (by decide)); have y3 := eA_ti (j := ((10 + 3 * i))) (hF318.2.1 233 (by decide)); (try split at x) <;> (try split at x) <;> (try split at m) <;> (try split at m) <;> omega)), (by first | (clear f347 f348 f349 f350 f351 f352 f353 f354 f355 f356 f357 f358 f359 f360 f363 f364 f365 f374 f375 f376 f377 f378 f379 f380 f381 f382 f383 f384 f385 f386 f387 f390 f391 f392 f393 f423 f424 f425 f426 f427 f428 f429 f430 f431 f432 f433 f434 f435 f436 f439 f440 f441 f442 f450 f451 f452 f453 f454 f455 f456 f457 f458 f459 f460 f461 f462 f463 f466 f467 f468; have t0_ := hI0.t0; have t1_ := hI0.t1; have o := (hR_15.1 i i0 i1).2.1; have o0 := (hR_16.1 i i0 i1).2.1; have o1 := (hR_17.1 i i0 i1).2.1; have x := (eA_ti (j := i) (hF399.2.1 3 (by decide))).trans (q326 i i0 i1); have m := q406 (10 + 3 * i + 1) (by omega) (by omega); have y1 := eA_ti (j := ((10 + 3 * i + 1))) (hF318.2.1 234 (by decide)); have y2 := eA_ti (j := (5510 + ((10 + 3 * i + 1)))) (hF318.2.1 234 (by decide)); have y3 := eA_ti (j := ((10 + 3 * i + 1))) (hF318.2.1 233 (by decide)); (try split at x) <;> (try split at x) <;> (try split at m) <;> (try split at m) <;> omega) | (have t0_ := hI0.t0; have t1_ := hI0.t1; have o := (hR_15.1 i i0 i1).2.1; have o0 := (hR_16.1 i i0 i1).2.1; have o1 := (hR_17.1 i i0 i1).2.1; have x := (eA_ti (j := i) (hF399.2.1 3 (by decide))).trans (q326 i i0 i1); have m := q406 (10 + 3 * i + 1) (by omega) (by omega); have y1 := eA_ti (j := ((10 + 3 * i + 1))) (hF318.2.1 234 (by decide)); have y2 := eA_ti (j := (5510 + ((10 + 3 * i + 1)))) (hF318.2.1 234 (by decide)); have y3 := eA_ti (j := ((10 + 3 * i + 1))) (hF318.2.1 233 (by decide)); (try split at x) <;> (try split at x) <;> (try split at m) <;> (try split at m) <;> omega)), (by first | (clear f347 f348 f349 f350 f351 f352 f353 f354 f355 f356 f357 f358 f359 f360 f363 f364 f365 f374 f375 f376 f377 f378 f379 f380 f381 f382 f383 f384 f385 f386 f387 f390 f391 f392 f393 f423 f424 f425 f426 f427 f428 f429 f430 f431 f432 f433 f434 f435 f436 f439 f440 f441 f442 f450 f451 f452 f453 f454 f455 f456 f457 f458 f459 f460 f461 f462 f463 f466 f467 f468; have t0_ := hI0.t0; have t1_ := hI0.t1; have o := (hR_15.1 i i0 i1).2.2; have o0 := (hR_16.1 i i0 i1).2.2; have o1 := (hR_17.1 i i0 i1).2.2; have x := (eA_ti (j := i) (hF399.2.1 4 (by decide))).trans (q327 i i0 i1); have m := q406 (10 + 3 * i + 2) (by omega) (by omega); have y1 := eA_ti (j := ((10 + 3 * i + 2))) (hF318.2.1 234 (by decide)); have y2 := eA_ti (j := (5510 + ((10 + 3 * i + 2)))) (hF318.2.1 234 (by decide)); have y3 := eA_ti (j := ((10 + 3 * i + 2))) (hF318.2.1 233 (by decide)); (try split at x) <;> (try split at x) <;> (try split at m) <;> (try split at m) <;> omega) | (have t0_ := hI0.t0; have t1_ := hI0.t1; have o := (hR_15.1 i i0 i1).2.2; have o0 := (hR_16.1 i i0 i1).2.2; have o1 := (hR_17.1 i i0 i1).2.2; have x := (eA_ti (j := i) (hF399.2.1 4 (by decide))).trans (q327 i i0 i1); have m := q406 (10 + 3 * i + 2) (by omega) (by omega); have y1 := eA_ti (j := ((10 + 3 * i + 2))) (hF318.2.1 234 (by decide)); have y2 := eA_ti (j := (5510 + ((10 + 3 * i + 2)))) (hF318.2.1 234 (by decide)); have y3 := eA_ti (j := ((10 + 3 * i + 2))) (hF318.2.1 233 (by decide)); (try split at x) <;> (try split at x) <;> (try split at m) <;> (try split at m) <;> omega))⟩, fun i i0 i1 => ⟨(by first | (clear f347 f348 f349 f350 f351 f352 f353 f354 f355 f356 f357 f358 f359 f360 f363 f364 f365 f374 f375 f376 f377 f378 f379 f380 f381 f382 f383 f384 f385 f386 f387 f390 f391 f392 f393 f423 f424 f425 f426 f427 f428 f429 f430 f431 f432 f433 f434 f435 f436 f439 f440 f441 f442 f450 f451 f452 f453 f454 f455 f456 f457 f458 f459 f460 f461 f462 f463 f466 f467 f468; have t0_ := hI0.t0; have t1_ := hI0.t1; have o := (hR_15.2.1 i i0 i1).1; have o0 := (hR_16.2.1 i i0 i1).1; have o1 := (hR_17.2.1 i i0 i1).1; have x := (eA_ti (j := i) (hF399.2.1 14 (by decide))).trans (q328 i i0 i1); have m := q406 (94 + 2 * i) (by omega) (by omega); have y1 := eA_ti (j := ((94 + 2 * i))) (hF318.2.1 234 (by decide)); have y2 := eA_ti (j := (5510 + ((94 + 2 * i)))) (hF318.2.1 234 (by decide)); have y3 := eA_ti (j := ((94 + 2 * i))) (hF318.2.1 233 (by decide)); (try split at x) <;> (try split at x) <;> (try split at m) <;> (try split at m) <;> omega) | (have t0_ := hI0.t0; have t1_ := hI0.t1; have o := (hR_15.2.1 i i0 i1).1; have o0 := (hR_16.2.1 i i0 i1).1; have o1 := (hR_17.2.1 i i0 i1).1; have x := (eA_ti (j := i) (hF399.2.1 14 (by decide))).trans (q328 i i0 i1); have m := q406 (94 + 2 * i) (by omega) (by omega); have y1 := eA_ti (j := ((94 + 2 * i))) (hF318.2.1 234 (by decide)); have y2 := eA_ti (j := (5510 + ((94 + 2 * i)))) (hF318.2.1 234 (by decide)); have y3 := eA_ti (j := ((94 + 2 * i))) (hF318.2.1 233 (by decide)); (try split at x) <;> (try split at x) <;> (try split at m) <;> (try split at m) <;> omega)), (by first | (clear f347 f348 f349 f350 f351 f352 f353 f354 f355 f356 f357 f358 f359 f360 f363 f364 f365 f374 f375 f376 f377 f378 f379 f380 f381 f382 f383 f384 f385 f386 f387 f390 f391 f392 f393 f423 f424 f425 f426 f427 f428 f429 f430 f431 f432 f433 f434 f435 f436 f439 f440 f441 f442 f450 f451 f452 f453 f454 f455 f456 f457 f458 f459 f460 f461 f462 f463 f466 f467 f468; have t0_ := hI0.t0; have t1_ := hI0.t1; have o := (hR_15.2.1 i i0 i1).2; have o0 := (hR_16.2.1 i i0 i1).2; have o1 := (hR_17.2.1 i i0 i1).2; have x := (eA_ti (j := i) (hF399.2.1 15 (by decide))).trans (q329 i i0 i1); have m := q406 (94 + 2 * i + 1) (by omega) (by omega); have y1 := eA_ti (j := ((94 + 2 * i + 1))) (hF318.2.1 234 (by decide)); have y2 := eA_ti (j := (5510 + ((94 + 2 * i + 1)))) (hF318.2.1 234 (by decide)); have y3 := eA_ti (j := ((94 + 2 * i + 1))) (hF318.2.1 233 (by decide)); (try split at x) <;> (try split at x) <;> (try split at m) <;> (try split at m) <;> omega) | (have t0_ := hI0.t0; have t1_ := hI0.t1; have o := (hR_15.2.1 i i0 i1).2; have o0 := (hR_16.2.1 i i0 i1).2; have o1 := (hR_17.2.1 i i0 i1).2; have x := (eA_ti (j := i) (hF399.2.1 15 (by decide))).trans (q329 i i0 i1); have m := q406 (94 + 2 * i + 1) (by omega) (by omega); have y1 := eA_ti (j := ((94 + 2 * i + 1))) (hF318.2.1 234 (by decide)); have y2 := eA_ti (j := (5510 + ((94 + 2 * i + 1)))) (hF318.2.1 234 (by decide)); have y3 := eA_ti (j := ((94 + 2 * i + 1))) (hF318.2.1 233 (by decide)); (try split at x) <;> (try split at x) <;> (try split at m) <;> (try split at m) <;> omega))⟩, fun i i0 i1 => (by first | (clear f347 f348 f349 f350 f351 f352 f353 f354 f355 f356 f357 f358 f359 f360 f363 f364 f365 f374 f375 f376 f377 f378 f379 f380 f381 f382 f383 f384 f385 f386 f387 f390 f391 f392 f393 f423 f424 f425 f426 f427 f428 f429 f430 f431 f432 f433 f434 f435 f436 f439 f440 f441 f442 f450 f451 f452 f453 f454 f455 f456 f457 f458 f459 f460 f461 f462 f463 f466 f467 f468; have t0_ := hI0.t0; have t1_ := hI0.t1; have o : i < 6 * (gI g0 1 4).toInt → _ := fun hz => hR_15.2.2 i i0 hz; have o0 : i < 6 * (gI g0 59 4).toInt → _ := fun hz => hR_16.2.2 i i0 hz; have o1 : i < 6 * (gI g0 116 4).toInt → _ := fun hz => hR_17.2.2 i i0 hz; have t9_ := RgF.at hI398.2.1 (p := 1) (b := 4) rfl; dsimp only at t9_; have i9_ : i < 48 := (by omega); have x := (eA_ti (j := i) (hF399.2.1 5 (by decide))).trans (q330 i i0 i9_); have m := q406 (46 + i) (by omega) (by omega); have y1 := eA_ti (j := ((46 + i))) (hF318.2.1 234 (by decide)); have y2 := eA_ti (j := (5510 + ((46 + i)))) (hF318.2.1 234 (by decide)); have y3 := eA_ti (j := ((46 + i))) (hF318.2.1 233 (by decide)); (try split at x) <;> (try split at x) <;> (try split at m) <;> (try split at m) <;> omega) | (have t0_ := hI0.t0; have t1_ := hI0.t1; have o : i < 6 * (gI g0 1 4).toInt → _ := fun hz => hR_15.2.2 i i0 hz; have o0 : i < 6 * (gI g0 59 4).toInt → _ := fun hz => hR_16.2.2 i i0 hz; have o1 : i < 6 * (gI g0 116 4).toInt → _ := fun hz => hR_17.2.2 i i0 hz; have t9_ := RgF.at hI398.2.1 (p := 1) (b := 4) rfl; dsimp only at t9_; have i9_ : i < 48 := (by omega); have x := (eA_ti (j := i) (hF399.2.1 5 (by decide))).trans (q330 i i0 i9_); have m := q406 (46 + i) (by omega) (by omega); have y1 := eA_ti (j := ((46 + i))) (hF318.2.1 234 (by decide)); have y2 := eA_ti (j := (5510 + ((46 + i)))) (hF318.2.1 234 (by decide)); have y3 := eA_ti (j := ((46 + i))) (hF318.2.1 233 (by decide)); (try split at x) <;> (try split at x) <;> (try split at m) <;> (try split at m) <;> omega))⟩), CI0.cong hR_16 (((hF399.2.1 60 (by decide)).trans (hF318.2.1 60 (by decide)))) (((hF399.2.1 61 (by decide)).trans (hF318.2.1 61 (by decide)))) (((hF399.2.1 62 (by decide)).trans (hF318.2.1 62 (by decide)))) (((hF399.2.1 72 (by decide)).trans (hF318.2.1 72 (by decide)))) (((hF399.2.1 73 (by decide)).trans (hF318.2.1 73 (by decide)))) (((hF399.2.1 63 (by decide)).trans (hF318.2.1 63 (by decide)))) (((hF399.2.1 234 (by decide)).trans (hF318.2.1 234 (by decide)))) (congrArg Int32.toInt (((hF399.1 59 4 (by decide)).trans (hF318.1 59 4 (by decide))))), CI1.cong hR_17 (((hF399.2.1 117 (by decide)).trans (hF318.2.1 117 (by decide)))) (((hF399.2.1 118 (by decide)).trans (hF318.2.1 118 (by decide)))) (((hF399.2.1 119 (by decide)).trans (hF318.2.1 119 (by decide)))) (((hF399.2.1 129 (by decide)).trans (hF318.2.1 129 (by decide)))) (((hF399.2.1 130 (by decide)).trans (hF318.2.1 130 (by decide)))) (((hF399.2.1 120 (by decide)).trans (hF318.2.1 120 (by decide)))) (((hF399.2.1 234 (by decide)).trans (hF318.2.1 234 (by decide)))) (congrArg Int32.toInt (((hF399.1 116 4 (by decide)).trans (hF318.1 116 4 (by decide))))), (show RT _ from fun i i0 i1 => (eA_ti (((hF399.2.1 175 (by decide)).trans (hF318.2.1 175 (by decide))))).trans ((hR_18 i i0 (by omega)).trans (eA_ti (((hF399.2.1 236 (by decide)).trans (hF318.2.1 236 (by decide))))).symm)), (show BYX _ from fun i i0 i1 => by rw [TX.c (((hF399.2.1 175 (by decide)).trans (hF318.2.1 175 (by decide))))]; exact hR_19 i i0 (by have i2 : i < (gI _ 174 1).toInt := i1; show i < (gI g0 174 1).toInt; omega))⟩)
  · have n470_e : v2.toInt = 1 := by omega
    have n470_0 : v2.toInt ≠ 0 := by omega
    have n470_k : (eA g0 173 1).toInt = 0 := by omega
    refine r_callV 1280 rfl [.ref 0, .int v2] [] (Nat.le_of_ble_eq_true rfl) rfl (T_X10_back_0 _ hI0 v2) ?_
    rintro _ _ ⟨g471, rfl, hI472, hF473, v474, rfl, hr475⟩
    refine At.sti ?_
    have hF476 := Fr.tr hF0 hF473 rfl rfl
    have su477 := hr475.2.2
    obtain ⟨q478, q479, q480, q481, q482, q483, q484, q485⟩ := (And.intro hr475.1 hr475.2.1)
    obtain ⟨p486, p487, p488, p489, p490, p491⟩ := (And.intro q478 q479)
    have w492 := p489 ⟨fun h => n470_0 h.1, fun h => h.2 n470_k⟩
    have w493 := p491 ⟨by omega, by omega, fun h => n470_0 h.1, fun h => h.2 n470_k⟩
    clear p487 p488 p489 p490 p491
    clear q479
    have f502 := congrArg Int32.toInt (hF473.1 59 0 rfl)
    have f503 := congrArg Int32.toInt (hF473.1 59 12 rfl)
    have f504 := congrArg Int32.toInt (hF473.1 59 10 rfl)
    have f505 := congrArg Int32.toInt (hF473.1 59 11 rfl)
    have f506 := congrArg Int32.toInt (hF473.1 59 4 rfl)
    have f507 := congrArg Int32.toInt (hF473.1 59 6 rfl)
    have f508 := congrArg Int32.toInt (hF473.1 59 9 rfl)
    have f509 := congrArg Int32.toInt (hF473.1 116 0 rfl)
    have f510 := congrArg Int32.toInt (hF473.1 116 12 rfl)
    have f511 := congrArg Int32.toInt (hF473.1 116 10 rfl)
    have f512 := congrArg Int32.toInt (hF473.1 116 11 rfl)
    have f513 := congrArg Int32.toInt (hF473.1 116 4 rfl)
    have f514 := congrArg Int32.toInt (hF473.1 116 6 rfl)
    have f515 := congrArg Int32.toInt (hF473.1 116 9 rfl)
    have f516 := congrArg Int32.toInt (eA_c (j := 0) (hF473.2.1 173 rfl))
    have f517 := congrArg Int32.toInt (eA_c (j := 1) (hF473.2.1 173 rfl))
    have f518 := congrArg Int32.toInt (hF473.1 174 1 rfl)
    have f519 := congrArg Int32.toInt (hF473.1 0 16 rfl)
    have f520 := congrArg Int32.toInt (hF473.1 176 2 rfl)
    have f522 := congrArg Int32.toInt (eA_c (j := 0) (hF473.2.1 233 rfl))
    have f523 := congrArg Int32.toInt (eA_c (j := 4) (hF473.2.1 233 rfl))
    have f524 := congrArg Int32.toInt (eA_c (j := 5) (hF473.2.1 233 rfl))
    have f525 := congrArg Int32.toInt (eA_c (j := 6) (hF473.2.1 233 rfl))
    have f526 := congrArg Int32.toInt (eA_c (j := 1) (hF473.2.1 233 rfl))
    have f527 := congrArg Int32.toInt (eA_c (j := 2) (hF473.2.1 233 rfl))
    have f528 := congrArg Int32.toInt (eA_c (j := 3) (hF473.2.1 233 rfl))
    have f529 := congrArg Int32.toInt (eA_c (j := 0) (hF473.2.1 234 rfl))
    have f530 := congrArg Int32.toInt (eA_c (j := 4) (hF473.2.1 234 rfl))
    have f531 := congrArg Int32.toInt (eA_c (j := 5) (hF473.2.1 234 rfl))
    have f532 := congrArg Int32.toInt (eA_c (j := 6) (hF473.2.1 234 rfl))
    have f533 := congrArg Int32.toInt (eA_c (j := 1) (hF473.2.1 234 rfl))
    have f534 := congrArg Int32.toInt (eA_c (j := 2) (hF473.2.1 234 rfl))
    have f535 := congrArg Int32.toInt (eA_c (j := 3) (hF473.2.1 234 rfl))
    have f536 := congrArg Int32.toInt (eA_c (j := 5510) (hF473.2.1 234 rfl))
    have f537 := congrArg Int32.toInt (eA_c (j := 5514) (hF473.2.1 234 rfl))
    have f538 := congrArg Int32.toInt (eA_c (j := 5515) (hF473.2.1 234 rfl))
    have f539 := congrArg Int32.toInt (eA_c (j := 5516) (hF473.2.1 234 rfl))
    have f540 := congrArg Int32.toInt (eA_c (j := 5511) (hF473.2.1 234 rfl))
    have f541 := congrArg Int32.toInt (eA_c (j := 5512) (hF473.2.1 234 rfl))
    have f542 := congrArg Int32.toInt (eA_c (j := 5513) (hF473.2.1 234 rfl))
    have f543 := congrArg Int32.toInt (eA_c (j := 0) (hF473.2.1 235 rfl))
    have f544 := congrArg Int32.toInt (eA_c (j := 1) (hF473.2.1 235 rfl))
    have f545 := congrArg Int32.toInt (hF473.1 231 8 rfl)
    have f546 := congrArg Int32.toInt (hF473.1 231 6 rfl)
    have f547 := congrArg Int32.toInt (hF473.1 231 13 rfl)
    have f548 := congrArg Int32.toInt (hF473.1 231 1 rfl)
    refine At.enter rfl ?_
    refine r_pop rfl ?_
    refine r_aload_n e2 ?_
    refine r_sload_n e0 ?_
    refine r_iload_n e3 ?_
    refine r_iconst 1 rfl ?_
    refine q_iadd (i.toInt + 1) rfl hx_1 (fun v549 hv549 => ?_)
    refine q_scald (m := L) hL (i.toInt + 1) hv549 hy_1 (fun v550 hv550 => ?_)
    have sv550 := hv2.symm.trans hv550
    subst sv550
    have n551_e : v2.toInt = 1 := by omega
    have n551_0 : v2.toInt ≠ 0 := by omega
    have n551_k : (eA g471 235 1).toInt = 0 := by omega
    refine r_callV 1290 rfl [.ref 231, .int v2] [] (Nat.le_of_ble_eq_true rfl) rfl (T_X11_back_231 _ hI472 v2) ?_
    rintro _ _ ⟨g552, rfl, hI553, hF554, v555, rfl, hr556⟩
    refine At.sti ?_
    have hF557 := Fr.tr hF476 hF554 rfl rfl
    have su558 := hr556.2.2
    obtain ⟨q559, q560, q561⟩ := (And.intro hr556.1 hr556.2.1)
    obtain ⟨p562, p563, p564, p565, p566, p567⟩ := (And.intro q559 q560)
    have w568 := p565 ⟨fun h => n551_0 h.1, fun h => h.2 n551_k⟩
    have w569 := p567 ⟨by omega, by omega, fun h => n551_0 h.1, fun h => h.2 n551_k⟩
    clear p563 p564 p565 p566 p567
    clear q560
    have f571 := congrArg Int32.toInt (hF554.1 1 0 rfl)
    have f572 := congrArg Int32.toInt (hF554.1 1 12 rfl)
    have f573 := congrArg Int32.toInt (hF554.1 1 10 rfl)
    have f574 := congrArg Int32.toInt (hF554.1 1 11 rfl)
    have f575 := congrArg Int32.toInt (hF554.1 1 4 rfl)
    have f576 := congrArg Int32.toInt (hF554.1 1 6 rfl)
    have f577 := congrArg Int32.toInt (hF554.1 1 9 rfl)
    have f578 := congrArg Int32.toInt (hF554.1 59 0 rfl)
    have f579 := congrArg Int32.toInt (hF554.1 59 12 rfl)
    have f580 := congrArg Int32.toInt (hF554.1 59 10 rfl)
    have f581 := congrArg Int32.toInt (hF554.1 59 11 rfl)
    have f582 := congrArg Int32.toInt (hF554.1 59 4 rfl)
    have f583 := congrArg Int32.toInt (hF554.1 59 6 rfl)
    have f584 := congrArg Int32.toInt (hF554.1 59 9 rfl)
    have f585 := congrArg Int32.toInt (hF554.1 116 0 rfl)
    have f586 := congrArg Int32.toInt (hF554.1 116 12 rfl)
    have f587 := congrArg Int32.toInt (hF554.1 116 10 rfl)
    have f588 := congrArg Int32.toInt (hF554.1 116 11 rfl)
    have f589 := congrArg Int32.toInt (hF554.1 116 4 rfl)
    have f590 := congrArg Int32.toInt (hF554.1 116 6 rfl)
    have f591 := congrArg Int32.toInt (hF554.1 116 9 rfl)
    have f592 := congrArg Int32.toInt (eA_c (j := 0) (hF554.2.1 173 rfl))
    have f593 := congrArg Int32.toInt (eA_c (j := 1) (hF554.2.1 173 rfl))
    have f594 := congrArg Int32.toInt (hF554.1 174 1 rfl)
    have f595 := congrArg Int32.toInt (hF554.1 0 16 rfl)
    have f596 := congrArg Int32.toInt (hF554.1 176 2 rfl)
    have f597 := congrArg Int32.toInt (hF554.1 0 17 rfl)
    have f605 := congrArg Int32.toInt (eA_c (j := 0) (hF554.2.1 234 rfl))
    have f606 := congrArg Int32.toInt (eA_c (j := 4) (hF554.2.1 234 rfl))
    have f607 := congrArg Int32.toInt (eA_c (j := 5) (hF554.2.1 234 rfl))
    have f608 := congrArg Int32.toInt (eA_c (j := 6) (hF554.2.1 234 rfl))
    have f609 := congrArg Int32.toInt (eA_c (j := 1) (hF554.2.1 234 rfl))
    have f610 := congrArg Int32.toInt (eA_c (j := 2) (hF554.2.1 234 rfl))
    have f611 := congrArg Int32.toInt (eA_c (j := 3) (hF554.2.1 234 rfl))
    have f612 := congrArg Int32.toInt (eA_c (j := 5510) (hF554.2.1 234 rfl))
    have f613 := congrArg Int32.toInt (eA_c (j := 5514) (hF554.2.1 234 rfl))
    have f614 := congrArg Int32.toInt (eA_c (j := 5515) (hF554.2.1 234 rfl))
    have f615 := congrArg Int32.toInt (eA_c (j := 5516) (hF554.2.1 234 rfl))
    have f616 := congrArg Int32.toInt (eA_c (j := 5511) (hF554.2.1 234 rfl))
    have f617 := congrArg Int32.toInt (eA_c (j := 5512) (hF554.2.1 234 rfl))
    have f618 := congrArg Int32.toInt (eA_c (j := 5513) (hF554.2.1 234 rfl))
    have f619 := congrArg Int32.toInt (eA_c (j := 0) (hF554.2.1 235 rfl))
    have f620 := congrArg Int32.toInt (eA_c (j := 1) (hF554.2.1 235 rfl))
    have f621 := congrArg Int32.toInt (hF554.1 231 8 rfl)
    have f622 := congrArg Int32.toInt (hF554.1 231 6 rfl)
    have f623 := congrArg Int32.toInt (hF554.1 231 13 rfl)
    refine At.enter rfl ?_
    refine r_pop rfl ?_
    refine r_goto ?_
    have zr : v474.toInt = v555.toInt := by
      apply Decidable.byContradiction
      intro hne
      exfalso
      omega
    have zsu := SU.eq su477 su558 zr
    exact K _ hI553 (show LwR _ from ⟨by first | (clear f502 f503 f504 f505 f506 f507 f508 f509 f510 f511 f512 f513 f514 f515 f516 f517 f518 f519 f520 f523 f524 f525 f526 f527 f528 f529 f530 f531 f532 f533 f534 f535 f536 f537 f538 f539 f540 f541 f542 f543 f544 f545 f546 f547 f548 f572 f573 f574 f575 f576 f577 f578 f579 f580 f581 f582 f583 f584 f585 f586 f587 f588 f589 f590 f591 f592 f593 f594 f595 f596 f597 f605 f606 f607 f608 f609 f610 f611 f612 f613 f614 f615 f616 f617 f618 f619 f620 f621 f622 f623; omega) | omega, by first | (clear f502 f503 f504 f505 f506 f507 f508 f509 f510 f511 f512 f513 f514 f515 f516 f517 f518 f519 f520 f522 f524 f525 f526 f527 f528 f529 f530 f531 f532 f533 f534 f535 f536 f537 f538 f539 f540 f541 f542 f543 f544 f545 f546 f547 f548 f571 f573 f574 f575 f576 f577 f578 f579 f580 f581 f582 f583 f584 f585 f586 f587 f588 f589 f590 f591 f592 f593 f594 f595 f596 f597 f605 f606 f607 f608 f609 f610 f611 f612 f613 f614 f615 f616 f617 f618 f619 f620 f621 f622 f623; omega) | omega, by first | (clear f502 f503 f504 f505 f506 f507 f508 f509 f510 f511 f512 f513 f514 f515 f516 f517 f518 f519 f520 f522 f523 f525 f526 f527 f528 f529 f530 f531 f532 f533 f534 f535 f536 f537 f538 f539 f540 f541 f542 f543 f544 f545 f546 f547 f548 f571 f572 f574 f575 f576 f577 f578 f579 f580 f581 f582 f583 f584 f585 f586 f587 f588 f589 f590 f591 f592 f593 f594 f595 f596 f597 f605 f606 f607 f608 f609 f610 f611 f612 f613 f614 f615 f616 f617 f618 f619 f620 f621 f622 f623; omega) | omega, by first | (clear f502 f503 f504 f505 f506 f507 f508 f509 f510 f511 f512 f513 f514 f515 f516 f517 f518 f519 f520 f522 f523 f524 f526 f527 f528 f529 f530 f531 f532 f533 f534 f535 f536 f537 f538 f539 f540 f541 f542 f543 f544 f545 f546 f547 f548 f571 f572 f573 f575 f576 f577 f578 f579 f580 f581 f582 f583 f584 f585 f586 f587 f588 f589 f590 f591 f592 f593 f594 f595 f596 f597 f605 f606 f607 f608 f609 f610 f611 f612 f613 f614 f615 f616 f617 f618 f619 f620 f621 f622 f623; omega) | omega, by first | (clear f502 f503 f504 f505 f506 f507 f508 f509 f510 f511 f512 f513 f514 f515 f516 f517 f518 f519 f520 f522 f523 f524 f525 f527 f528 f529 f530 f531 f532 f533 f534 f535 f536 f537 f538 f539 f540 f541 f542 f543 f544 f545 f546 f547 f548 f571 f572 f573 f574 f576 f577 f578 f579 f580 f581 f582 f583 f584 f585 f586 f587 f588 f589 f590 f591 f592 f593 f594 f595 f596 f597 f605 f606 f607 f608 f609 f610 f611 f612 f613 f614 f615 f616 f617 f618 f619 f620 f621 f622 f623; omega) | omega, by first | (clear f502 f503 f504 f505 f506 f507 f508 f509 f510 f511 f512 f513 f514 f515 f516 f517 f518 f519 f520 f522 f523 f524 f525 f526 f528 f529 f530 f531 f532 f533 f534 f535 f536 f537 f538 f539 f540 f541 f542 f543 f544 f545 f546 f547 f548 f571 f572 f573 f574 f575 f577 f578 f579 f580 f581 f582 f583 f584 f585 f586 f587 f588 f589 f590 f591 f592 f593 f594 f595 f596 f597 f605 f606 f607 f608 f609 f610 f611 f612 f613 f614 f615 f616 f617 f618 f619 f620 f621 f622 f623; omega) | omega, by first | (clear f502 f503 f504 f505 f506 f507 f508 f509 f510 f511 f512 f513 f514 f515 f516 f517 f518 f519 f520 f522 f523 f524 f525 f526 f527 f529 f530 f531 f532 f533 f534 f535 f536 f537 f538 f539 f540 f541 f542 f543 f544 f545 f546 f547 f548 f571 f572 f573 f574 f575 f576 f578 f579 f580 f581 f582 f583 f584 f585 f586 f587 f588 f589 f590 f591 f592 f593 f594 f595 f596 f597 f605 f606 f607 f608 f609 f610 f611 f612 f613 f614 f615 f616 f617 f618 f619 f620 f621 f622 f623; omega) | omega, (eA_ti (j := 0) (((hF554.2.1 173 (by decide)).trans (hF473.2.1 173 (by decide))))).trans (hR_7.trans (eA_ti (j := 0) (((hF554.2.1 235 (by decide)).trans (hF473.2.1 235 (by decide))))).symm), (eA_ti (j := 1) (((hF554.2.1 173 (by decide)).trans (hF473.2.1 173 (by decide))))).trans (hR_8.trans (eA_ti (j := 1) (((hF554.2.1 235 (by decide)).trans (hF473.2.1 235 (by decide))))).symm), (congrArg Int32.toInt (((hF554.1 174 1 (by decide)).trans (hF473.1 174 1 (by decide))))).trans (hR_9.trans (congrArg Int32.toInt (((hF554.1 231 8 (by decide)).trans (hF473.1 231 8 (by decide))))).symm), (congrArg Int32.toInt (((hF554.1 0 16 (by decide)).trans (hF473.1 0 16 (by decide))))).trans (hR_10.trans (congrArg Int32.toInt (((hF554.1 231 6 (by decide)).trans (hF473.1 231 6 (by decide))))).symm), (congrArg Int32.toInt (((hF554.1 176 2 (by decide)).trans (hF473.1 176 2 (by decide))))).trans (hR_11.trans (congrArg Int32.toInt (((hF554.1 231 13 (by decide)).trans (hF473.1 231 13 (by decide))))).symm), by first | (clear f502 f503 f504 f505 f506 f507 f508 f509 f510 f511 f512 f513 f514 f515 f516 f517 f518 f519 f520 f522 f523 f524 f525 f526 f527 f528 f529 f530 f531 f532 f533 f534 f535 f536 f537 f538 f539 f540 f541 f542 f543 f544 f545 f546 f547 f571 f572 f573 f574 f575 f576 f577 f578 f579 f580 f581 f582 f583 f584 f585 f586 f587 f588 f589 f590 f591 f592 f593 f594 f595 f596 f605 f606 f607 f608 f609 f610 f611 f612 f613 f614 f615 f616 f617 f618 f619 f620 f621 f622 f623; omega) | omega, IM0.cong hR_13 (eA_ti (j := 0) (((hF554.2.1 173 (by decide)).trans (hF473.2.1 173 (by decide))))) (congrArg Int32.toInt (((hF554.1 59 0 (by decide)).trans (hF473.1 59 0 (by decide))))) (eA_ti (j := 0) (((hF554.2.1 234 (by decide)).trans (hF473.2.1 234 (by decide))))) (congrArg Int32.toInt (((hF554.1 59 12 (by decide)).trans (hF473.1 59 12 (by decide))))) (eA_ti (j := 4) (((hF554.2.1 234 (by decide)).trans (hF473.2.1 234 (by decide))))) (congrArg Int32.toInt (((hF554.1 59 10 (by decide)).trans (hF473.1 59 10 (by decide))))) (eA_ti (j := 5) (((hF554.2.1 234 (by decide)).trans (hF473.2.1 234 (by decide))))) (congrArg Int32.toInt (((hF554.1 59 11 (by decide)).trans (hF473.1 59 11 (by decide))))) (eA_ti (j := 6) (((hF554.2.1 234 (by decide)).trans (hF473.2.1 234 (by decide))))) (congrArg Int32.toInt (((hF554.1 59 4 (by decide)).trans (hF473.1 59 4 (by decide))))) (eA_ti (j := 1) (((hF554.2.1 234 (by decide)).trans (hF473.2.1 234 (by decide))))) (congrArg Int32.toInt (((hF554.1 59 6 (by decide)).trans (hF473.1 59 6 (by decide))))) (eA_ti (j := 2) (((hF554.2.1 234 (by decide)).trans (hF473.2.1 234 (by decide))))) (congrArg Int32.toInt (((hF554.1 59 9 (by decide)).trans (hF473.1 59 9 (by decide))))) (eA_ti (j := 3) (((hF554.2.1 234 (by decide)).trans (hF473.2.1 234 (by decide))))), IM1.cong hR_14 (eA_ti (j := 1) (((hF554.2.1 173 (by decide)).trans (hF473.2.1 173 (by decide))))) (congrArg Int32.toInt (((hF554.1 116 0 (by decide)).trans (hF473.1 116 0 (by decide))))) (eA_ti (j := 5510) (((hF554.2.1 234 (by decide)).trans (hF473.2.1 234 (by decide))))) (congrArg Int32.toInt (((hF554.1 116 12 (by decide)).trans (hF473.1 116 12 (by decide))))) (eA_ti (j := 5514) (((hF554.2.1 234 (by decide)).trans (hF473.2.1 234 (by decide))))) (congrArg Int32.toInt (((hF554.1 116 10 (by decide)).trans (hF473.1 116 10 (by decide))))) (eA_ti (j := 5515) (((hF554.2.1 234 (by decide)).trans (hF473.2.1 234 (by decide))))) (congrArg Int32.toInt (((hF554.1 116 11 (by decide)).trans (hF473.1 116 11 (by decide))))) (eA_ti (j := 5516) (((hF554.2.1 234 (by decide)).trans (hF473.2.1 234 (by decide))))) (congrArg Int32.toInt (((hF554.1 116 4 (by decide)).trans (hF473.1 116 4 (by decide))))) (eA_ti (j := 5511) (((hF554.2.1 234 (by decide)).trans (hF473.2.1 234 (by decide))))) (congrArg Int32.toInt (((hF554.1 116 6 (by decide)).trans (hF473.1 116 6 (by decide))))) (eA_ti (j := 5512) (((hF554.2.1 234 (by decide)).trans (hF473.2.1 234 (by decide))))) (congrArg Int32.toInt (((hF554.1 116 9 (by decide)).trans (hF473.1 116 9 (by decide))))) (eA_ti (j := 5513) (((hF554.2.1 234 (by decide)).trans (hF473.2.1 234 (by decide))))), (show CT _ from ⟨fun i i0 i1 => ⟨(by first | (clear f502 f503 f504 f505 f506 f507 f508 f509 f510 f511 f512 f513 f514 f515 f518 f519 f520 f529 f530 f531 f532 f533 f534 f535 f536 f537 f538 f539 f540 f541 f542 f545 f546 f547 f548 f578 f579 f580 f581 f582 f583 f584 f585 f586 f587 f588 f589 f590 f591 f594 f595 f596 f597 f605 f606 f607 f608 f609 f610 f611 f612 f613 f614 f615 f616 f617 f618 f621 f622 f623; have t0_ := hI0.t0; have t1_ := hI0.t1; have o := (hR_15.1 i i0 i1).1; have o0 := (hR_16.1 i i0 i1).1; have o1 := (hR_17.1 i i0 i1).1; have x := (eA_ti (j := i) (hF554.2.1 2 (by decide))).trans (q480 i i0 i1); have m := q561 (10 + 3 * i) (by omega) (by omega); have y1 := eA_ti (j := ((10 + 3 * i))) (hF473.2.1 234 (by decide)); have y2 := eA_ti (j := (5510 + ((10 + 3 * i)))) (hF473.2.1 234 (by decide)); have y3 := eA_ti (j := ((10 + 3 * i))) (hF473.2.1 233 (by decide)); (try split at x) <;> (try split at x) <;> (try split at m) <;> (try split at m) <;> omega) | (have t0_ := hI0.t0; have t1_ := hI0.t1; have o := (hR_15.1 i i0 i1).1; have o0 := (hR_16.1 i i0 i1).1; have o1 := (hR_17.1 i i0 i1).1; have x := (eA_ti (j := i) (hF554.2.1 2 (by decide))).trans (q480 i i0 i1); have m := q561 (10 + 3 * i) (by omega) (by omega); have y1 := eA_ti (j := ((10 + 3 * i))) (hF473.2.1 234 (by decide)); have y2 := eA_ti (j := (5510 + ((10 + 3 * i)))) (hF473.2.1 234 (by decide)); have y3 := eA_ti (j := ((10 + 3 * i))) (hF473.2.1 233 (by decide)); (try split at x) <;> (try split at x) <;> (try split at m) <;> (try split at m) <;> omega)), (by first | (clear f502 f503 f504 f505 f506 f507 f508 f509 f510 f511 f512 f513 f514 f515 f518 f519 f520 f529 f530 f531 f532 f533 f534 f535 f536 f537 f538 f539 f540 f541 f542 f545 f546 f547 f548 f578 f579 f580 f581 f582 f583 f584 f585 f586 f587 f588 f589 f590 f591 f594 f595 f596 f597 f605 f606 f607 f608 f609 f610 f611 f612 f613 f614 f615 f616 f617 f618 f621 f622 f623; have t0_ := hI0.t0; have t1_ := hI0.t1; have o := (hR_15.1 i i0 i1).2.1; have o0 := (hR_16.1 i i0 i1).2.1; have o1 := (hR_17.1 i i0 i1).2.1; have x := (eA_ti (j := i) (hF554.2.1 3 (by decide))).trans (q481 i i0 i1); have m := q561 (10 + 3 * i + 1) (by omega) (by omega); have y1 := eA_ti (j := ((10 + 3 * i + 1))) (hF473.2.1 234 (by decide)); have y2 := eA_ti (j := (5510 + ((10 + 3 * i + 1)))) (hF473.2.1 234 (by decide)); have y3 := eA_ti (j := ((10 + 3 * i + 1))) (hF473.2.1 233 (by decide)); (try split at x) <;> (try split at x) <;> (try split at m) <;> (try split at m) <;> omega) | (have t0_ := hI0.t0; have t1_ := hI0.t1; have o := (hR_15.1 i i0 i1).2.1; have o0 := (hR_16.1 i i0 i1).2.1; have o1 := (hR_17.1 i i0 i1).2.1; have x := (eA_ti (j := i) (hF554.2.1 3 (by decide))).trans (q481 i i0 i1); have m := q561 (10 + 3 * i + 1) (by omega) (by omega); have y1 := eA_ti (j := ((10 + 3 * i + 1))) (hF473.2.1 234 (by decide)); have y2 := eA_ti (j := (5510 + ((10 + 3 * i + 1)))) (hF473.2.1 234 (by decide)); have y3 := eA_ti (j := ((10 + 3 * i + 1))) (hF473.2.1 233 (by decide)); (try split at x) <;> (try split at x) <;> (try split at m) <;> (try split at m) <;> omega)), (by first | (clear f502 f503 f504 f505 f506 f507 f508 f509 f510 f511 f512 f513 f514 f515 f518 f519 f520 f529 f530 f531 f532 f533 f534 f535 f536 f537 f538 f539 f540 f541 f542 f545 f546 f547 f548 f578 f579 f580 f581 f582 f583 f584 f585 f586 f587 f588 f589 f590 f591 f594 f595 f596 f597 f605 f606 f607 f608 f609 f610 f611 f612 f613 f614 f615 f616 f617 f618 f621 f622 f623; have t0_ := hI0.t0; have t1_ := hI0.t1; have o := (hR_15.1 i i0 i1).2.2; have o0 := (hR_16.1 i i0 i1).2.2; have o1 := (hR_17.1 i i0 i1).2.2; have x := (eA_ti (j := i) (hF554.2.1 4 (by decide))).trans (q482 i i0 i1); have m := q561 (10 + 3 * i + 2) (by omega) (by omega); have y1 := eA_ti (j := ((10 + 3 * i + 2))) (hF473.2.1 234 (by decide)); have y2 := eA_ti (j := (5510 + ((10 + 3 * i + 2)))) (hF473.2.1 234 (by decide)); have y3 := eA_ti (j := ((10 + 3 * i + 2))) (hF473.2.1 233 (by decide)); (try split at x) <;> (try split at x) <;> (try split at m) <;> (try split at m) <;> omega) | (have t0_ := hI0.t0; have t1_ := hI0.t1; have o := (hR_15.1 i i0 i1).2.2; have o0 := (hR_16.1 i i0 i1).2.2; have o1 := (hR_17.1 i i0 i1).2.2; have x := (eA_ti (j := i) (hF554.2.1 4 (by decide))).trans (q482 i i0 i1); have m := q561 (10 + 3 * i + 2) (by omega) (by omega); have y1 := eA_ti (j := ((10 + 3 * i + 2))) (hF473.2.1 234 (by decide)); have y2 := eA_ti (j := (5510 + ((10 + 3 * i + 2)))) (hF473.2.1 234 (by decide)); have y3 := eA_ti (j := ((10 + 3 * i + 2))) (hF473.2.1 233 (by decide)); (try split at x) <;> (try split at x) <;> (try split at m) <;> (try split at m) <;> omega))⟩, fun i i0 i1 => ⟨(by first | (clear f502 f503 f504 f505 f506 f507 f508 f509 f510 f511 f512 f513 f514 f515 f518 f519 f520 f529 f530 f531 f532 f533 f534 f535 f536 f537 f538 f539 f540 f541 f542 f545 f546 f547 f548 f578 f579 f580 f581 f582 f583 f584 f585 f586 f587 f588 f589 f590 f591 f594 f595 f596 f597 f605 f606 f607 f608 f609 f610 f611 f612 f613 f614 f615 f616 f617 f618 f621 f622 f623; have t0_ := hI0.t0; have t1_ := hI0.t1; have o := (hR_15.2.1 i i0 i1).1; have o0 := (hR_16.2.1 i i0 i1).1; have o1 := (hR_17.2.1 i i0 i1).1; have x := (eA_ti (j := i) (hF554.2.1 14 (by decide))).trans (q483 i i0 i1); have m := q561 (94 + 2 * i) (by omega) (by omega); have y1 := eA_ti (j := ((94 + 2 * i))) (hF473.2.1 234 (by decide)); have y2 := eA_ti (j := (5510 + ((94 + 2 * i)))) (hF473.2.1 234 (by decide)); have y3 := eA_ti (j := ((94 + 2 * i))) (hF473.2.1 233 (by decide)); (try split at x) <;> (try split at x) <;> (try split at m) <;> (try split at m) <;> omega) | (have t0_ := hI0.t0; have t1_ := hI0.t1; have o := (hR_15.2.1 i i0 i1).1; have o0 := (hR_16.2.1 i i0 i1).1; have o1 := (hR_17.2.1 i i0 i1).1; have x := (eA_ti (j := i) (hF554.2.1 14 (by decide))).trans (q483 i i0 i1); have m := q561 (94 + 2 * i) (by omega) (by omega); have y1 := eA_ti (j := ((94 + 2 * i))) (hF473.2.1 234 (by decide)); have y2 := eA_ti (j := (5510 + ((94 + 2 * i)))) (hF473.2.1 234 (by decide)); have y3 := eA_ti (j := ((94 + 2 * i))) (hF473.2.1 233 (by decide)); (try split at x) <;> (try split at x) <;> (try split at m) <;> (try split at m) <;> omega)), (by first | (clear f502 f503 f504 f505 f506 f507 f508 f509 f510 f511 f512 f513 f514 f515 f518 f519 f520 f529 f530 f531 f532 f533 f534 f535 f536 f537 f538 f539 f540 f541 f542 f545 f546 f547 f548 f578 f579 f580 f581 f582 f583 f584 f585 f586 f587 f588 f589 f590 f591 f594 f595 f596 f597 f605 f606 f607 f608 f609 f610 f611 f612 f613 f614 f615 f616 f617 f618 f621 f622 f623; have t0_ := hI0.t0; have t1_ := hI0.t1; have o := (hR_15.2.1 i i0 i1).2; have o0 := (hR_16.2.1 i i0 i1).2; have o1 := (hR_17.2.1 i i0 i1).2; have x := (eA_ti (j := i) (hF554.2.1 15 (by decide))).trans (q484 i i0 i1); have m := q561 (94 + 2 * i + 1) (by omega) (by omega); have y1 := eA_ti (j := ((94 + 2 * i + 1))) (hF473.2.1 234 (by decide)); have y2 := eA_ti (j := (5510 + ((94 + 2 * i + 1)))) (hF473.2.1 234 (by decide)); have y3 := eA_ti (j := ((94 + 2 * i + 1))) (hF473.2.1 233 (by decide)); (try split at x) <;> (try split at x) <;> (try split at m) <;> (try split at m) <;> omega) | (have t0_ := hI0.t0; have t1_ := hI0.t1; have o := (hR_15.2.1 i i0 i1).2; have o0 := (hR_16.2.1 i i0 i1).2; have o1 := (hR_17.2.1 i i0 i1).2; have x := (eA_ti (j := i) (hF554.2.1 15 (by decide))).trans (q484 i i0 i1); have m := q561 (94 + 2 * i + 1) (by omega) (by omega); have y1 := eA_ti (j := ((94 + 2 * i + 1))) (hF473.2.1 234 (by decide)); have y2 := eA_ti (j := (5510 + ((94 + 2 * i + 1)))) (hF473.2.1 234 (by decide)); have y3 := eA_ti (j := ((94 + 2 * i + 1))) (hF473.2.1 233 (by decide)); (try split at x) <;> (try split at x) <;> (try split at m) <;> (try split at m) <;> omega))⟩, fun i i0 i1 => (by first | (clear f502 f503 f504 f505 f506 f507 f508 f509 f510 f511 f512 f513 f514 f515 f518 f519 f520 f529 f530 f531 f532 f533 f534 f535 f536 f537 f538 f539 f540 f541 f542 f545 f546 f547 f548 f578 f579 f580 f581 f582 f583 f584 f585 f586 f587 f588 f589 f590 f591 f594 f595 f596 f597 f605 f606 f607 f608 f609 f610 f611 f612 f613 f614 f615 f616 f617 f618 f621 f622 f623; have t0_ := hI0.t0; have t1_ := hI0.t1; have o : i < 6 * (gI g0 1 4).toInt → _ := fun hz => hR_15.2.2 i i0 hz; have o0 : i < 6 * (gI g0 59 4).toInt → _ := fun hz => hR_16.2.2 i i0 hz; have o1 : i < 6 * (gI g0 116 4).toInt → _ := fun hz => hR_17.2.2 i i0 hz; have t9_ := RgF.at hI553.2.1 (p := 1) (b := 4) rfl; dsimp only at t9_; have i9_ : i < 48 := (by omega); have x := (eA_ti (j := i) (hF554.2.1 5 (by decide))).trans (q485 i i0 i9_); have m := q561 (46 + i) (by omega) (by omega); have y1 := eA_ti (j := ((46 + i))) (hF473.2.1 234 (by decide)); have y2 := eA_ti (j := (5510 + ((46 + i)))) (hF473.2.1 234 (by decide)); have y3 := eA_ti (j := ((46 + i))) (hF473.2.1 233 (by decide)); (try split at x) <;> (try split at x) <;> (try split at m) <;> (try split at m) <;> omega) | (have t0_ := hI0.t0; have t1_ := hI0.t1; have o : i < 6 * (gI g0 1 4).toInt → _ := fun hz => hR_15.2.2 i i0 hz; have o0 : i < 6 * (gI g0 59 4).toInt → _ := fun hz => hR_16.2.2 i i0 hz; have o1 : i < 6 * (gI g0 116 4).toInt → _ := fun hz => hR_17.2.2 i i0 hz; have t9_ := RgF.at hI553.2.1 (p := 1) (b := 4) rfl; dsimp only at t9_; have i9_ : i < 48 := (by omega); have x := (eA_ti (j := i) (hF554.2.1 5 (by decide))).trans (q485 i i0 i9_); have m := q561 (46 + i) (by omega) (by omega); have y1 := eA_ti (j := ((46 + i))) (hF473.2.1 234 (by decide)); have y2 := eA_ti (j := (5510 + ((46 + i)))) (hF473.2.1 234 (by decide)); have y3 := eA_ti (j := ((46 + i))) (hF473.2.1 233 (by decide)); (try split at x) <;> (try split at x) <;> (try split at m) <;> (try split at m) <;> omega))⟩), CI0.cong hR_16 (((hF554.2.1 60 (by decide)).trans (hF473.2.1 60 (by decide)))) (((hF554.2.1 61 (by decide)).trans (hF473.2.1 61 (by decide)))) (((hF554.2.1 62 (by decide)).trans (hF473.2.1 62 (by decide)))) (((hF554.2.1 72 (by decide)).trans (hF473.2.1 72 (by decide)))) (((hF554.2.1 73 (by decide)).trans (hF473.2.1 73 (by decide)))) (((hF554.2.1 63 (by decide)).trans (hF473.2.1 63 (by decide)))) (((hF554.2.1 234 (by decide)).trans (hF473.2.1 234 (by decide)))) (congrArg Int32.toInt (((hF554.1 59 4 (by decide)).trans (hF473.1 59 4 (by decide))))), CI1.cong hR_17 (((hF554.2.1 117 (by decide)).trans (hF473.2.1 117 (by decide)))) (((hF554.2.1 118 (by decide)).trans (hF473.2.1 118 (by decide)))) (((hF554.2.1 119 (by decide)).trans (hF473.2.1 119 (by decide)))) (((hF554.2.1 129 (by decide)).trans (hF473.2.1 129 (by decide)))) (((hF554.2.1 130 (by decide)).trans (hF473.2.1 130 (by decide)))) (((hF554.2.1 120 (by decide)).trans (hF473.2.1 120 (by decide)))) (((hF554.2.1 234 (by decide)).trans (hF473.2.1 234 (by decide)))) (congrArg Int32.toInt (((hF554.1 116 4 (by decide)).trans (hF473.1 116 4 (by decide))))), (show RT _ from fun i i0 i1 => (eA_ti (((hF554.2.1 175 (by decide)).trans (hF473.2.1 175 (by decide))))).trans ((hR_18 i i0 (by omega)).trans (eA_ti (((hF554.2.1 236 (by decide)).trans (hF473.2.1 236 (by decide))))).symm)), (show BYX _ from fun i i0 i1 => by rw [TX.c (((hF554.2.1 175 (by decide)).trans (hF473.2.1 175 (by decide))))]; exact hR_19 i i0 (by have i2 : i < (gI _ 174 1).toInt := i1; show i < (gI g0 174 1).toInt; omega))⟩)
  · have n625_e : (v2.toInt < 0 ∨ 1 < v2.toInt) := by omega
    have n625_0 : v2.toInt ≠ 0 := by omega
    have n625_1 : v2.toInt ≠ 1 := by omega
    refine r_callV 1280 rfl [.ref 0, .int v2] [] (Nat.le_of_ble_eq_true rfl) rfl (T_X10_back_0 _ hI0 v2) ?_
    rintro _ _ ⟨g626, rfl, hI627, hF628, v629, rfl, hr630⟩
    refine At.sti ?_
    have hF631 := Fr.tr hF0 hF628 rfl rfl
    have su632 := hr630.2.2
    obtain ⟨q633, q634, q635, q636, q637, q638, q639, q640⟩ := (And.intro hr630.1 hr630.2.1)
    obtain ⟨p641, p642, p643, p644, p645, p646⟩ := (And.intro q633 q634)
    have w647 := p645 n625_e
    have w648 := p644 ⟨fun h => n625_0 h.1, fun h => n625_1 h.1⟩
    clear p642 p643 p644 p645 p646
    clear q634
    have f657 := congrArg Int32.toInt (hF628.1 59 0 rfl)
    have f658 := congrArg Int32.toInt (hF628.1 59 12 rfl)
    have f659 := congrArg Int32.toInt (hF628.1 59 10 rfl)
    have f660 := congrArg Int32.toInt (hF628.1 59 11 rfl)
    have f661 := congrArg Int32.toInt (hF628.1 59 4 rfl)
    have f662 := congrArg Int32.toInt (hF628.1 59 6 rfl)
    have f663 := congrArg Int32.toInt (hF628.1 59 9 rfl)
    have f664 := congrArg Int32.toInt (hF628.1 116 0 rfl)
    have f665 := congrArg Int32.toInt (hF628.1 116 12 rfl)
    have f666 := congrArg Int32.toInt (hF628.1 116 10 rfl)
    have f667 := congrArg Int32.toInt (hF628.1 116 11 rfl)
    have f668 := congrArg Int32.toInt (hF628.1 116 4 rfl)
    have f669 := congrArg Int32.toInt (hF628.1 116 6 rfl)
    have f670 := congrArg Int32.toInt (hF628.1 116 9 rfl)
    have f671 := congrArg Int32.toInt (eA_c (j := 0) (hF628.2.1 173 rfl))
    have f672 := congrArg Int32.toInt (eA_c (j := 1) (hF628.2.1 173 rfl))
    have f673 := congrArg Int32.toInt (hF628.1 174 1 rfl)
    have f674 := congrArg Int32.toInt (hF628.1 0 16 rfl)
    have f675 := congrArg Int32.toInt (hF628.1 176 2 rfl)
    have f677 := congrArg Int32.toInt (eA_c (j := 0) (hF628.2.1 233 rfl))
    have f678 := congrArg Int32.toInt (eA_c (j := 4) (hF628.2.1 233 rfl))
    have f679 := congrArg Int32.toInt (eA_c (j := 5) (hF628.2.1 233 rfl))
    have f680 := congrArg Int32.toInt (eA_c (j := 6) (hF628.2.1 233 rfl))
    have f681 := congrArg Int32.toInt (eA_c (j := 1) (hF628.2.1 233 rfl))
    have f682 := congrArg Int32.toInt (eA_c (j := 2) (hF628.2.1 233 rfl))
    have f683 := congrArg Int32.toInt (eA_c (j := 3) (hF628.2.1 233 rfl))
    have f684 := congrArg Int32.toInt (eA_c (j := 0) (hF628.2.1 234 rfl))
    have f685 := congrArg Int32.toInt (eA_c (j := 4) (hF628.2.1 234 rfl))
    have f686 := congrArg Int32.toInt (eA_c (j := 5) (hF628.2.1 234 rfl))
    have f687 := congrArg Int32.toInt (eA_c (j := 6) (hF628.2.1 234 rfl))
    have f688 := congrArg Int32.toInt (eA_c (j := 1) (hF628.2.1 234 rfl))
    have f689 := congrArg Int32.toInt (eA_c (j := 2) (hF628.2.1 234 rfl))
    have f690 := congrArg Int32.toInt (eA_c (j := 3) (hF628.2.1 234 rfl))
    have f691 := congrArg Int32.toInt (eA_c (j := 5510) (hF628.2.1 234 rfl))
    have f692 := congrArg Int32.toInt (eA_c (j := 5514) (hF628.2.1 234 rfl))
    have f693 := congrArg Int32.toInt (eA_c (j := 5515) (hF628.2.1 234 rfl))
    have f694 := congrArg Int32.toInt (eA_c (j := 5516) (hF628.2.1 234 rfl))
    have f695 := congrArg Int32.toInt (eA_c (j := 5511) (hF628.2.1 234 rfl))
    have f696 := congrArg Int32.toInt (eA_c (j := 5512) (hF628.2.1 234 rfl))
    have f697 := congrArg Int32.toInt (eA_c (j := 5513) (hF628.2.1 234 rfl))
    have f698 := congrArg Int32.toInt (eA_c (j := 0) (hF628.2.1 235 rfl))
    have f699 := congrArg Int32.toInt (eA_c (j := 1) (hF628.2.1 235 rfl))
    have f700 := congrArg Int32.toInt (hF628.1 231 8 rfl)
    have f701 := congrArg Int32.toInt (hF628.1 231 6 rfl)
    have f702 := congrArg Int32.toInt (hF628.1 231 13 rfl)
    have f703 := congrArg Int32.toInt (hF628.1 231 1 rfl)
    refine At.enter rfl ?_
    refine r_pop rfl ?_
    refine r_aload_n e2 ?_
    refine r_sload_n e0 ?_
    refine r_iload_n e3 ?_
    refine r_iconst 1 rfl ?_
    refine q_iadd (i.toInt + 1) rfl hx_1 (fun v704 hv704 => ?_)
    refine q_scald (m := L) hL (i.toInt + 1) hv704 hy_1 (fun v705 hv705 => ?_)
    have sv705 := hv2.symm.trans hv705
    subst sv705
    have n706_e : (v2.toInt < 0 ∨ 1 < v2.toInt) := by omega
    have n706_0 : v2.toInt ≠ 0 := by omega
    have n706_1 : v2.toInt ≠ 1 := by omega
    refine r_callV 1290 rfl [.ref 231, .int v2] [] (Nat.le_of_ble_eq_true rfl) rfl (T_X11_back_231 _ hI627 v2) ?_
    rintro _ _ ⟨g707, rfl, hI708, hF709, v710, rfl, hr711⟩
    refine At.sti ?_
    have hF712 := Fr.tr hF631 hF709 rfl rfl
    have su713 := hr711.2.2
    obtain ⟨q714, q715, q716⟩ := (And.intro hr711.1 hr711.2.1)
    obtain ⟨p717, p718, p719, p720, p721, p722⟩ := (And.intro q714 q715)
    have w723 := p721 n706_e
    have w724 := p720 ⟨fun h => n706_0 h.1, fun h => n706_1 h.1⟩
    clear p718 p719 p720 p721 p722
    clear q715
    have f726 := congrArg Int32.toInt (hF709.1 1 0 rfl)
    have f727 := congrArg Int32.toInt (hF709.1 1 12 rfl)
    have f728 := congrArg Int32.toInt (hF709.1 1 10 rfl)
    have f729 := congrArg Int32.toInt (hF709.1 1 11 rfl)
    have f730 := congrArg Int32.toInt (hF709.1 1 4 rfl)
    have f731 := congrArg Int32.toInt (hF709.1 1 6 rfl)
    have f732 := congrArg Int32.toInt (hF709.1 1 9 rfl)
    have f733 := congrArg Int32.toInt (hF709.1 59 0 rfl)
    have f734 := congrArg Int32.toInt (hF709.1 59 12 rfl)
    have f735 := congrArg Int32.toInt (hF709.1 59 10 rfl)
    have f736 := congrArg Int32.toInt (hF709.1 59 11 rfl)
    have f737 := congrArg Int32.toInt (hF709.1 59 4 rfl)
    have f738 := congrArg Int32.toInt (hF709.1 59 6 rfl)
    have f739 := congrArg Int32.toInt (hF709.1 59 9 rfl)
    have f740 := congrArg Int32.toInt (hF709.1 116 0 rfl)
    have f741 := congrArg Int32.toInt (hF709.1 116 12 rfl)
    have f742 := congrArg Int32.toInt (hF709.1 116 10 rfl)
    have f743 := congrArg Int32.toInt (hF709.1 116 11 rfl)
    have f744 := congrArg Int32.toInt (hF709.1 116 4 rfl)
    have f745 := congrArg Int32.toInt (hF709.1 116 6 rfl)
    have f746 := congrArg Int32.toInt (hF709.1 116 9 rfl)
    have f747 := congrArg Int32.toInt (eA_c (j := 0) (hF709.2.1 173 rfl))
    have f748 := congrArg Int32.toInt (eA_c (j := 1) (hF709.2.1 173 rfl))
    have f749 := congrArg Int32.toInt (hF709.1 174 1 rfl)
    have f750 := congrArg Int32.toInt (hF709.1 0 16 rfl)
    have f751 := congrArg Int32.toInt (hF709.1 176 2 rfl)
    have f752 := congrArg Int32.toInt (hF709.1 0 17 rfl)
    have f760 := congrArg Int32.toInt (eA_c (j := 0) (hF709.2.1 234 rfl))
    have f761 := congrArg Int32.toInt (eA_c (j := 4) (hF709.2.1 234 rfl))
    have f762 := congrArg Int32.toInt (eA_c (j := 5) (hF709.2.1 234 rfl))
    have f763 := congrArg Int32.toInt (eA_c (j := 6) (hF709.2.1 234 rfl))
    have f764 := congrArg Int32.toInt (eA_c (j := 1) (hF709.2.1 234 rfl))
    have f765 := congrArg Int32.toInt (eA_c (j := 2) (hF709.2.1 234 rfl))
    have f766 := congrArg Int32.toInt (eA_c (j := 3) (hF709.2.1 234 rfl))
    have f767 := congrArg Int32.toInt (eA_c (j := 5510) (hF709.2.1 234 rfl))
    have f768 := congrArg Int32.toInt (eA_c (j := 5514) (hF709.2.1 234 rfl))
    have f769 := congrArg Int32.toInt (eA_c (j := 5515) (hF709.2.1 234 rfl))
    have f770 := congrArg Int32.toInt (eA_c (j := 5516) (hF709.2.1 234 rfl))
    have f771 := congrArg Int32.toInt (eA_c (j := 5511) (hF709.2.1 234 rfl))
    have f772 := congrArg Int32.toInt (eA_c (j := 5512) (hF709.2.1 234 rfl))
    have f773 := congrArg Int32.toInt (eA_c (j := 5513) (hF709.2.1 234 rfl))
    have f774 := congrArg Int32.toInt (eA_c (j := 0) (hF709.2.1 235 rfl))
    have f775 := congrArg Int32.toInt (eA_c (j := 1) (hF709.2.1 235 rfl))
    have f776 := congrArg Int32.toInt (hF709.1 231 8 rfl)
    have f777 := congrArg Int32.toInt (hF709.1 231 6 rfl)
    have f778 := congrArg Int32.toInt (hF709.1 231 13 rfl)
    refine At.enter rfl ?_
    refine r_pop rfl ?_
    refine r_goto ?_
    have zr : v629.toInt = v710.toInt := by
      apply Decidable.byContradiction
      intro hne
      exfalso
      omega
    have zsu := SU.eq su632 su713 zr
    exact K _ hI708 (show LwR _ from ⟨by first | (clear f657 f658 f659 f660 f661 f662 f663 f664 f665 f666 f667 f668 f669 f670 f671 f672 f673 f674 f675 f678 f679 f680 f681 f682 f683 f684 f685 f686 f687 f688 f689 f690 f691 f692 f693 f694 f695 f696 f697 f698 f699 f700 f701 f702 f703 f727 f728 f729 f730 f731 f732 f733 f734 f735 f736 f737 f738 f739 f740 f741 f742 f743 f744 f745 f746 f747 f748 f749 f750 f751 f752 f760 f761 f762 f763 f764 f765 f766 f767 f768 f769 f770 f771 f772 f773 f774 f775 f776 f777 f778; omega) | omega, by first | (clear f657 f658 f659 f660 f661 f662 f663 f664 f665 f666 f667 f668 f669 f670 f671 f672 f673 f674 f675 f677 f679 f680 f681 f682 f683 f684 f685 f686 f687 f688 f689 f690 f691 f692 f693 f694 f695 f696 f697 f698 f699 f700 f701 f702 f703 f726 f728 f729 f730 f731 f732 f733 f734 f735 f736 f737 f738 f739 f740 f741 f742 f743 f744 f745 f746 f747 f748 f749 f750 f751 f752 f760 f761 f762 f763 f764 f765 f766 f767 f768 f769 f770 f771 f772 f773 f774 f775 f776 f777 f778; omega) | omega, by first | (clear f657 f658 f659 f660 f661 f662 f663 f664 f665 f666 f667 f668 f669 f670 f671 f672 f673 f674 f675 f677 f678 f680 f681 f682 f683 f684 f685 f686 f687 f688 f689 f690 f691 f692 f693 f694 f695 f696 f697 f698 f699 f700 f701 f702 f703 f726 f727 f729 f730 f731 f732 f733 f734 f735 f736 f737 f738 f739 f740 f741 f742 f743 f744 f745 f746 f747 f748 f749 f750 f751 f752 f760 f761 f762 f763 f764 f765 f766 f767 f768 f769 f770 f771 f772 f773 f774 f775 f776 f777 f778; omega) | omega, by first | (clear f657 f658 f659 f660 f661 f662 f663 f664 f665 f666 f667 f668 f669 f670 f671 f672 f673 f674 f675 f677 f678 f679 f681 f682 f683 f684 f685 f686 f687 f688 f689 f690 f691 f692 f693 f694 f695 f696 f697 f698 f699 f700 f701 f702 f703 f726 f727 f728 f730 f731 f732 f733 f734 f735 f736 f737 f738 f739 f740 f741 f742 f743 f744 f745 f746 f747 f748 f749 f750 f751 f752 f760 f761 f762 f763 f764 f765 f766 f767 f768 f769 f770 f771 f772 f773 f774 f775 f776 f777 f778; omega) | omega, by first | (clear f657 f658 f659 f660 f661 f662 f663 f664 f665 f666 f667 f668 f669 f670 f671 f672 f673 f674 f675 f677 f678 f679 f680 f682 f683 f684 f685 f686 f687 f688 f689 f690 f691 f692 f693 f694 f695 f696 f697 f698 f699 f700 f701 f702 f703 f726 f727 f728 f729 f731 f732 f733 f734 f735 f736 f737 f738 f739 f740 f741 f742 f743 f744 f745 f746 f747 f748 f749 f750 f751 f752 f760 f761 f762 f763 f764 f765 f766 f767 f768 f769 f770 f771 f772 f773 f774 f775 f776 f777 f778; omega) | omega, by first | (clear f657 f658 f659 f660 f661 f662 f663 f664 f665 f666 f667 f668 f669 f670 f671 f672 f673 f674 f675 f677 f678 f679 f680 f681 f683 f684 f685 f686 f687 f688 f689 f690 f691 f692 f693 f694 f695 f696 f697 f698 f699 f700 f701 f702 f703 f726 f727 f728 f729 f730 f732 f733 f734 f735 f736 f737 f738 f739 f740 f741 f742 f743 f744 f745 f746 f747 f748 f749 f750 f751 f752 f760 f761 f762 f763 f764 f765 f766 f767 f768 f769 f770 f771 f772 f773 f774 f775 f776 f777 f778; omega) | omega, by first | (clear f657 f658 f659 f660 f661 f662 f663 f664 f665 f666 f667 f668 f669 f670 f671 f672 f673 f674 f675 f677 f678 f679 f680 f681 f682 f684 f685 f686 f687 f688 f689 f690 f691 f692 f693 f694 f695 f696 f697 f698 f699 f700 f701 f702 f703 f726 f727 f728 f729 f730 f731 f733 f734 f735 f736 f737 f738 f739 f740 f741 f742 f743 f744 f745 f746 f747 f748 f749 f750 f751 f752 f760 f761 f762 f763 f764 f765 f766 f767 f768 f769 f770 f771 f772 f773 f774 f775 f776 f777 f778; omega) | omega, (eA_ti (j := 0) (((hF709.2.1 173 (by decide)).trans (hF628.2.1 173 (by decide))))).trans (hR_7.trans (eA_ti (j := 0) (((hF709.2.1 235 (by decide)).trans (hF628.2.1 235 (by decide))))).symm), (eA_ti (j := 1) (((hF709.2.1 173 (by decide)).trans (hF628.2.1 173 (by decide))))).trans (hR_8.trans (eA_ti (j := 1) (((hF709.2.1 235 (by decide)).trans (hF628.2.1 235 (by decide))))).symm), (congrArg Int32.toInt (((hF709.1 174 1 (by decide)).trans (hF628.1 174 1 (by decide))))).trans (hR_9.trans (congrArg Int32.toInt (((hF709.1 231 8 (by decide)).trans (hF628.1 231 8 (by decide))))).symm), (congrArg Int32.toInt (((hF709.1 0 16 (by decide)).trans (hF628.1 0 16 (by decide))))).trans (hR_10.trans (congrArg Int32.toInt (((hF709.1 231 6 (by decide)).trans (hF628.1 231 6 (by decide))))).symm), (congrArg Int32.toInt (((hF709.1 176 2 (by decide)).trans (hF628.1 176 2 (by decide))))).trans (hR_11.trans (congrArg Int32.toInt (((hF709.1 231 13 (by decide)).trans (hF628.1 231 13 (by decide))))).symm), by first | (clear f657 f658 f659 f660 f661 f662 f663 f664 f665 f666 f667 f668 f669 f670 f671 f672 f673 f674 f675 f677 f678 f679 f680 f681 f682 f683 f684 f685 f686 f687 f688 f689 f690 f691 f692 f693 f694 f695 f696 f697 f698 f699 f700 f701 f702 f726 f727 f728 f729 f730 f731 f732 f733 f734 f735 f736 f737 f738 f739 f740 f741 f742 f743 f744 f745 f746 f747 f748 f749 f750 f751 f760 f761 f762 f763 f764 f765 f766 f767 f768 f769 f770 f771 f772 f773 f774 f775 f776 f777 f778; omega) | omega, IM0.cong hR_13 (eA_ti (j := 0) (((hF709.2.1 173 (by decide)).trans (hF628.2.1 173 (by decide))))) (congrArg Int32.toInt (((hF709.1 59 0 (by decide)).trans (hF628.1 59 0 (by decide))))) (eA_ti (j := 0) (((hF709.2.1 234 (by decide)).trans (hF628.2.1 234 (by decide))))) (congrArg Int32.toInt (((hF709.1 59 12 (by decide)).trans (hF628.1 59 12 (by decide))))) (eA_ti (j := 4) (((hF709.2.1 234 (by decide)).trans (hF628.2.1 234 (by decide))))) (congrArg Int32.toInt (((hF709.1 59 10 (by decide)).trans (hF628.1 59 10 (by decide))))) (eA_ti (j := 5) (((hF709.2.1 234 (by decide)).trans (hF628.2.1 234 (by decide))))) (congrArg Int32.toInt (((hF709.1 59 11 (by decide)).trans (hF628.1 59 11 (by decide))))) (eA_ti (j := 6) (((hF709.2.1 234 (by decide)).trans (hF628.2.1 234 (by decide))))) (congrArg Int32.toInt (((hF709.1 59 4 (by decide)).trans (hF628.1 59 4 (by decide))))) (eA_ti (j := 1) (((hF709.2.1 234 (by decide)).trans (hF628.2.1 234 (by decide))))) (congrArg Int32.toInt (((hF709.1 59 6 (by decide)).trans (hF628.1 59 6 (by decide))))) (eA_ti (j := 2) (((hF709.2.1 234 (by decide)).trans (hF628.2.1 234 (by decide))))) (congrArg Int32.toInt (((hF709.1 59 9 (by decide)).trans (hF628.1 59 9 (by decide))))) (eA_ti (j := 3) (((hF709.2.1 234 (by decide)).trans (hF628.2.1 234 (by decide))))), IM1.cong hR_14 (eA_ti (j := 1) (((hF709.2.1 173 (by decide)).trans (hF628.2.1 173 (by decide))))) (congrArg Int32.toInt (((hF709.1 116 0 (by decide)).trans (hF628.1 116 0 (by decide))))) (eA_ti (j := 5510) (((hF709.2.1 234 (by decide)).trans (hF628.2.1 234 (by decide))))) (congrArg Int32.toInt (((hF709.1 116 12 (by decide)).trans (hF628.1 116 12 (by decide))))) (eA_ti (j := 5514) (((hF709.2.1 234 (by decide)).trans (hF628.2.1 234 (by decide))))) (congrArg Int32.toInt (((hF709.1 116 10 (by decide)).trans (hF628.1 116 10 (by decide))))) (eA_ti (j := 5515) (((hF709.2.1 234 (by decide)).trans (hF628.2.1 234 (by decide))))) (congrArg Int32.toInt (((hF709.1 116 11 (by decide)).trans (hF628.1 116 11 (by decide))))) (eA_ti (j := 5516) (((hF709.2.1 234 (by decide)).trans (hF628.2.1 234 (by decide))))) (congrArg Int32.toInt (((hF709.1 116 4 (by decide)).trans (hF628.1 116 4 (by decide))))) (eA_ti (j := 5511) (((hF709.2.1 234 (by decide)).trans (hF628.2.1 234 (by decide))))) (congrArg Int32.toInt (((hF709.1 116 6 (by decide)).trans (hF628.1 116 6 (by decide))))) (eA_ti (j := 5512) (((hF709.2.1 234 (by decide)).trans (hF628.2.1 234 (by decide))))) (congrArg Int32.toInt (((hF709.1 116 9 (by decide)).trans (hF628.1 116 9 (by decide))))) (eA_ti (j := 5513) (((hF709.2.1 234 (by decide)).trans (hF628.2.1 234 (by decide))))), (show CT _ from ⟨fun i i0 i1 => ⟨(by first | (clear f657 f658 f659 f660 f661 f662 f663 f664 f665 f666 f667 f668 f669 f670 f673 f674 f675 f684 f685 f686 f687 f688 f689 f690 f691 f692 f693 f694 f695 f696 f697 f700 f701 f702 f703 f733 f734 f735 f736 f737 f738 f739 f740 f741 f742 f743 f744 f745 f746 f749 f750 f751 f752 f760 f761 f762 f763 f764 f765 f766 f767 f768 f769 f770 f771 f772 f773 f776 f777 f778; have t0_ := hI0.t0; have t1_ := hI0.t1; have o := (hR_15.1 i i0 i1).1; have o0 := (hR_16.1 i i0 i1).1; have o1 := (hR_17.1 i i0 i1).1; have x := (eA_ti (j := i) (hF709.2.1 2 (by decide))).trans (q635 i i0 i1); have m := q716 (10 + 3 * i) (by omega) (by omega); have y1 := eA_ti (j := ((10 + 3 * i))) (hF628.2.1 234 (by decide)); have y2 := eA_ti (j := (5510 + ((10 + 3 * i)))) (hF628.2.1 234 (by decide)); have y3 := eA_ti (j := ((10 + 3 * i))) (hF628.2.1 233 (by decide)); (try split at x) <;> (try split at x) <;> (try split at m) <;> (try split at m) <;> omega) | (have t0_ := hI0.t0; have t1_ := hI0.t1; have o := (hR_15.1 i i0 i1).1; have o0 := (hR_16.1 i i0 i1).1; have o1 := (hR_17.1 i i0 i1).1; have x := (eA_ti (j := i) (hF709.2.1 2 (by decide))).trans (q635 i i0 i1); have m := q716 (10 + 3 * i) (by omega) (by omega); have y1 := eA_ti (j := ((10 + 3 * i))) (hF628.2.1 234 (by decide)); have y2 := eA_ti (j := (5510 + ((10 + 3 * i)))) (hF628.2.1 234 (by decide)); have y3 := eA_ti (j := ((10 + 3 * i))) (hF628.2.1 233 (by decide)); (try split at x) <;> (try split at x) <;> (try split at m) <;> (try split at m) <;> omega)), (by first | (clear f657 f658 f659 f660 f661 f662 f663 f664 f665 f666 f667 f668 f669 f670 f673 f674 f675 f684 f685 f686 f687 f688 f689 f690 f691 f692 f693 f694 f695 f696 f697 f700 f701 f702 f703 f733 f734 f735 f736 f737 f738 f739 f740 f741 f742 f743 f744 f745 f746 f749 f750 f751 f752 f760 f761 f762 f763 f764 f765 f766 f767 f768 f769 f770 f771 f772 f773 f776 f777 f778; have t0_ := hI0.t0; have t1_ := hI0.t1; have o := (hR_15.1 i i0 i1).2.1; have o0 := (hR_16.1 i i0 i1).2.1; have o1 := (hR_17.1 i i0 i1).2.1; have x := (eA_ti (j := i) (hF709.2.1 3 (by decide))).trans (q636 i i0 i1); have m := q716 (10 + 3 * i + 1) (by omega) (by omega); have y1 := eA_ti (j := ((10 + 3 * i + 1))) (hF628.2.1 234 (by decide)); have y2 := eA_ti (j := (5510 + ((10 + 3 * i + 1)))) (hF628.2.1 234 (by decide)); have y3 := eA_ti (j := ((10 + 3 * i + 1))) (hF628.2.1 233 (by decide)); (try split at x) <;> (try split at x) <;> (try split at m) <;> (try split at m) <;> omega) | (have t0_ := hI0.t0; have t1_ := hI0.t1; have o := (hR_15.1 i i0 i1).2.1; have o0 := (hR_16.1 i i0 i1).2.1; have o1 := (hR_17.1 i i0 i1).2.1; have x := (eA_ti (j := i) (hF709.2.1 3 (by decide))).trans (q636 i i0 i1); have m := q716 (10 + 3 * i + 1) (by omega) (by omega); have y1 := eA_ti (j := ((10 + 3 * i + 1))) (hF628.2.1 234 (by decide)); have y2 := eA_ti (j := (5510 + ((10 + 3 * i + 1)))) (hF628.2.1 234 (by decide)); have y3 := eA_ti (j := ((10 + 3 * i + 1))) (hF628.2.1 233 (by decide)); (try split at x) <;> (try split at x) <;> (try split at m) <;> (try split at m) <;> omega)), (by first | (clear f657 f658 f659 f660 f661 f662 f663 f664 f665 f666 f667 f668 f669 f670 f673 f674 f675 f684 f685 f686 f687 f688 f689 f690 f691 f692 f693 f694 f695 f696 f697 f700 f701 f702 f703 f733 f734 f735 f736 f737 f738 f739 f740 f741 f742 f743 f744 f745 f746 f749 f750 f751 f752 f760 f761 f762 f763 f764 f765 f766 f767 f768 f769 f770 f771 f772 f773 f776 f777 f778; have t0_ := hI0.t0; have t1_ := hI0.t1; have o := (hR_15.1 i i0 i1).2.2; have o0 := (hR_16.1 i i0 i1).2.2; have o1 := (hR_17.1 i i0 i1).2.2; have x := (eA_ti (j := i) (hF709.2.1 4 (by decide))).trans (q637 i i0 i1); have m := q716 (10 + 3 * i + 2) (by omega) (by omega); have y1 := eA_ti (j := ((10 + 3 * i + 2))) (hF628.2.1 234 (by decide)); have y2 := eA_ti (j := (5510 + ((10 + 3 * i + 2)))) (hF628.2.1 234 (by decide)); have y3 := eA_ti (j := ((10 + 3 * i + 2))) (hF628.2.1 233 (by decide)); (try split at x) <;> (try split at x) <;> (try split at m) <;> (try split at m) <;> omega) | (have t0_ := hI0.t0; have t1_ := hI0.t1; have o := (hR_15.1 i i0 i1).2.2; have o0 := (hR_16.1 i i0 i1).2.2; have o1 := (hR_17.1 i i0 i1).2.2; have x := (eA_ti (j := i) (hF709.2.1 4 (by decide))).trans (q637 i i0 i1); have m := q716 (10 + 3 * i + 2) (by omega) (by omega); have y1 := eA_ti (j := ((10 + 3 * i + 2))) (hF628.2.1 234 (by decide)); have y2 := eA_ti (j := (5510 + ((10 + 3 * i + 2)))) (hF628.2.1 234 (by decide)); have y3 := eA_ti (j := ((10 + 3 * i + 2))) (hF628.2.1 233 (by decide)); (try split at x) <;> (try split at x) <;> (try split at m) <;> (try split at m) <;> omega))⟩, fun i i0 i1 => ⟨(by first | (clear f657 f658 f659 f660 f661 f662 f663 f664 f665 f666 f667 f668 f669 f670 f673 f674 f675 f684 f685 f686 f687 f688 f689 f690 f691 f692 f693 f694 f695 f696 f697 f700 f701 f702 f703 f733 f734 f735 f736 f737 f738 f739 f740 f741 f742 f743 f744 f745 f746 f749 f750 f751 f752 f760 f761 f762 f763 f764 f765 f766 f767 f768 f769 f770 f771 f772 f773 f776 f777 f778; have t0_ := hI0.t0; have t1_ := hI0.t1; have o := (hR_15.2.1 i i0 i1).1; have o0 := (hR_16.2.1 i i0 i1).1; have o1 := (hR_17.2.1 i i0 i1).1; have x := (eA_ti (j := i) (hF709.2.1 14 (by decide))).trans (q638 i i0 i1); have m := q716 (94 + 2 * i) (by omega) (by omega); have y1 := eA_ti (j := ((94 + 2 * i))) (hF628.2.1 234 (by decide)); have y2 := eA_ti (j := (5510 + ((94 + 2 * i)))) (hF628.2.1 234 (by decide)); have y3 := eA_ti (j := ((94 + 2 * i))) (hF628.2.1 233 (by decide)); (try split at x) <;> (try split at x) <;> (try split at m) <;> (try split at m) <;> omega) | (have t0_ := hI0.t0; have t1_ := hI0.t1; have o := (hR_15.2.1 i i0 i1).1; have o0 := (hR_16.2.1 i i0 i1).1; have o1 := (hR_17.2.1 i i0 i1).1; have x := (eA_ti (j := i) (hF709.2.1 14 (by decide))).trans (q638 i i0 i1); have m := q716 (94 + 2 * i) (by omega) (by omega); have y1 := eA_ti (j := ((94 + 2 * i))) (hF628.2.1 234 (by decide)); have y2 := eA_ti (j := (5510 + ((94 + 2 * i)))) (hF628.2.1 234 (by decide)); have y3 := eA_ti (j := ((94 + 2 * i))) (hF628.2.1 233 (by decide)); (try split at x) <;> (try split at x) <;> (try split at m) <;> (try split at m) <;> omega)), (by first | (clear f657 f658 f659 f660 f661 f662 f663 f664 f665 f666 f667 f668 f669 f670 f673 f674 f675 f684 f685 f686 f687 f688 f689 f690 f691 f692 f693 f694 f695 f696 f697 f700 f701 f702 f703 f733 f734 f735 f736 f737 f738 f739 f740 f741 f742 f743 f744 f745 f746 f749 f750 f751 f752 f760 f761 f762 f763 f764 f765 f766 f767 f768 f769 f770 f771 f772 f773 f776 f777 f778; have t0_ := hI0.t0; have t1_ := hI0.t1; have o := (hR_15.2.1 i i0 i1).2; have o0 := (hR_16.2.1 i i0 i1).2; have o1 := (hR_17.2.1 i i0 i1).2; have x := (eA_ti (j := i) (hF709.2.1 15 (by decide))).trans (q639 i i0 i1); have m := q716 (94 + 2 * i + 1) (by omega) (by omega); have y1 := eA_ti (j := ((94 + 2 * i + 1))) (hF628.2.1 234 (by decide)); have y2 := eA_ti (j := (5510 + ((94 + 2 * i + 1)))) (hF628.2.1 234 (by decide)); have y3 := eA_ti (j := ((94 + 2 * i + 1))) (hF628.2.1 233 (by decide)); (try split at x) <;> (try split at x) <;> (try split at m) <;> (try split at m) <;> omega) | (have t0_ := hI0.t0; have t1_ := hI0.t1; have o := (hR_15.2.1 i i0 i1).2; have o0 := (hR_16.2.1 i i0 i1).2; have o1 := (hR_17.2.1 i i0 i1).2; have x := (eA_ti (j := i) (hF709.2.1 15 (by decide))).trans (q639 i i0 i1); have m := q716 (94 + 2 * i + 1) (by omega) (by omega); have y1 := eA_ti (j := ((94 + 2 * i + 1))) (hF628.2.1 234 (by decide)); have y2 := eA_ti (j := (5510 + ((94 + 2 * i + 1)))) (hF628.2.1 234 (by decide)); have y3 := eA_ti (j := ((94 + 2 * i + 1))) (hF628.2.1 233 (by decide)); (try split at x) <;> (try split at x) <;> (try split at m) <;> (try split at m) <;> omega))⟩, fun i i0 i1 => (by first | (clear f657 f658 f659 f660 f661 f662 f663 f664 f665 f666 f667 f668 f669 f670 f673 f674 f675 f684 f685 f686 f687 f688 f689 f690 f691 f692 f693 f694 f695 f696 f697 f700 f701 f702 f703 f733 f734 f735 f736 f737 f738 f739 f740 f741 f742 f743 f744 f745 f746 f749 f750 f751 f752 f760 f761 f762 f763 f764 f765 f766 f767 f768 f769 f770 f771 f772 f773 f776 f777 f778; have t0_ := hI0.t0; have t1_ := hI0.t1; have o : i < 6 * (gI g0 1 4).toInt → _ := fun hz => hR_15.2.2 i i0 hz; have o0 : i < 6 * (gI g0 59 4).toInt → _ := fun hz => hR_16.2.2 i i0 hz; have o1 : i < 6 * (gI g0 116 4).toInt → _ := fun hz => hR_17.2.2 i i0 hz; have t9_ := RgF.at hI708.2.1 (p := 1) (b := 4) rfl; dsimp only at t9_; have i9_ : i < 48 := (by omega); have x := (eA_ti (j := i) (hF709.2.1 5 (by decide))).trans (q640 i i0 i9_); have m := q716 (46 + i) (by omega) (by omega); have y1 := eA_ti (j := ((46 + i))) (hF628.2.1 234 (by decide)); have y2 := eA_ti (j := (5510 + ((46 + i)))) (hF628.2.1 234 (by decide)); have y3 := eA_ti (j := ((46 + i))) (hF628.2.1 233 (by decide)); (try split at x) <;> (try split at x) <;> (try split at m) <;> (try split at m) <;> omega) | (have t0_ := hI0.t0; have t1_ := hI0.t1; have o : i < 6 * (gI g0 1 4).toInt → _ := fun hz => hR_15.2.2 i i0 hz; have o0 : i < 6 * (gI g0 59 4).toInt → _ := fun hz => hR_16.2.2 i i0 hz; have o1 : i < 6 * (gI g0 116 4).toInt → _ := fun hz => hR_17.2.2 i i0 hz; have t9_ := RgF.at hI708.2.1 (p := 1) (b := 4) rfl; dsimp only at t9_; have i9_ : i < 48 := (by omega); have x := (eA_ti (j := i) (hF709.2.1 5 (by decide))).trans (q640 i i0 i9_); have m := q716 (46 + i) (by omega) (by omega); have y1 := eA_ti (j := ((46 + i))) (hF628.2.1 234 (by decide)); have y2 := eA_ti (j := (5510 + ((46 + i)))) (hF628.2.1 234 (by decide)); have y3 := eA_ti (j := ((46 + i))) (hF628.2.1 233 (by decide)); (try split at x) <;> (try split at x) <;> (try split at m) <;> (try split at m) <;> omega))⟩), CI0.cong hR_16 (((hF709.2.1 60 (by decide)).trans (hF628.2.1 60 (by decide)))) (((hF709.2.1 61 (by decide)).trans (hF628.2.1 61 (by decide)))) (((hF709.2.1 62 (by decide)).trans (hF628.2.1 62 (by decide)))) (((hF709.2.1 72 (by decide)).trans (hF628.2.1 72 (by decide)))) (((hF709.2.1 73 (by decide)).trans (hF628.2.1 73 (by decide)))) (((hF709.2.1 63 (by decide)).trans (hF628.2.1 63 (by decide)))) (((hF709.2.1 234 (by decide)).trans (hF628.2.1 234 (by decide)))) (congrArg Int32.toInt (((hF709.1 59 4 (by decide)).trans (hF628.1 59 4 (by decide))))), CI1.cong hR_17 (((hF709.2.1 117 (by decide)).trans (hF628.2.1 117 (by decide)))) (((hF709.2.1 118 (by decide)).trans (hF628.2.1 118 (by decide)))) (((hF709.2.1 119 (by decide)).trans (hF628.2.1 119 (by decide)))) (((hF709.2.1 129 (by decide)).trans (hF628.2.1 129 (by decide)))) (((hF709.2.1 130 (by decide)).trans (hF628.2.1 130 (by decide)))) (((hF709.2.1 120 (by decide)).trans (hF628.2.1 120 (by decide)))) (((hF709.2.1 234 (by decide)).trans (hF628.2.1 234 (by decide)))) (congrArg Int32.toInt (((hF709.1 116 4 (by decide)).trans (hF628.1 116 4 (by decide))))), (show RT _ from fun i i0 i1 => (eA_ti (((hF709.2.1 175 (by decide)).trans (hF628.2.1 175 (by decide))))).trans ((hR_18 i i0 (by omega)).trans (eA_ti (((hF709.2.1 236 (by decide)).trans (hF628.2.1 236 (by decide))))).symm)), (show BYX _ from fun i i0 i1 => by rw [TX.c (((hF709.2.1 175 (by decide)).trans (hF628.2.1 175 (by decide))))]; exact hR_19 i i0 (by have i2 : i < (gI _ 174 1).toInt := i1; show i < (gI g0 174 1).toInt; omega))⟩)
