set_option maxRecDepth 100000 in
set_option maxHeartbeats 8000000 in
theorem lq_c30 (d : Nat) {N : Nat} {g0 : List en_E} (hI0 : HI g0) (hR0 : LwR g0) {ys : List Int32} {L : Nat} (hL : ys.length = L) (hL2 : L ≤ 3584) {l : en_L} {i : Int32} (e0 : en_get 0 l = some (.float 0)) (e1 : en_get 1 l = some (.ref 0)) (e2 : en_get 2 l = some (.ref 231)) (e3 : en_get 3 l = some (.int i)) (hi : 0 ≤ i.toInt ∧ i.toInt + 7 ≤ L) {Ph : Option Value → en_H → Prop} (K : ∀ g1 : List en_E, HI g1 → LwR g1 → At (d + 423) (some ys) (some .boolean) bs_L_law (1330, l, [], (g1, N)) Ph) : At (d + 423) (some ys) (some .boolean) bs_L_law (1090, l, [], (g0, N)) Ph := by
  have hF0 : Fr F_law A_law g0 g0 := Fr.rf
  have hx_1 : -2147483648 ≤ i.toInt + 1 ∧ i.toInt + 1 ≤ 2147483647 := by omega
  have hx_2 : -2147483648 ≤ i.toInt + 2 ∧ i.toInt + 2 ≤ 2147483647 := by omega
  have hx_3 : -2147483648 ≤ i.toInt + 3 ∧ i.toInt + 3 ≤ 2147483647 := by omega
  have hx_4 : -2147483648 ≤ i.toInt + 4 ∧ i.toInt + 4 ≤ 2147483647 := by omega
  have hx_5 : -2147483648 ≤ i.toInt + 5 ∧ i.toInt + 5 ≤ 2147483647 := by omega
  have hx_6 : -2147483648 ≤ i.toInt + 6 ∧ i.toInt + 6 ≤ 2147483647 := by omega
  have hy_0 : 0 ≤ i.toInt ∧ i.toInt < (L : Int) := by omega
  have hy_1 : 0 ≤ i.toInt + 1 ∧ i.toInt + 1 < (L : Int) := by omega
  have hy_2 : 0 ≤ i.toInt + 2 ∧ i.toInt + 2 < (L : Int) := by omega
  have hy_3 : 0 ≤ i.toInt + 3 ∧ i.toInt + 3 < (L : Int) := by omega
  have hy_4 : 0 ≤ i.toInt + 4 ∧ i.toInt + 4 < (L : Int) := by omega
  have hy_5 : 0 ≤ i.toInt + 5 ∧ i.toInt + 5 < (L : Int) := by omega
  have hy_6 : 0 ≤ i.toInt + 6 ∧ i.toInt + 6 < (L : Int) := by omega
  unfold LwR at hR0
  obtain ⟨hR_0, hR_1, hR_2, hR_3, hR_4, hR_5, hR_6, hR_7, hR_8, hR_9, hR_10, hR_11, hR_12, hR_13, hR_14, hR_15, hR_16, hR_17, hR_18, hR_19, hR_20⟩ := hR0
  refine At.enter rfl ?_
  refine r_aload_n e1 ?_
  refine r_sload_n e0 ?_
  refine r_iload_n e3 ?_
  refine r_iconst 1 rfl ?_
  refine q_iadd (i.toInt + 1) rfl hx_1 (fun v1 hv1 => ?_)
  refine q_scald (m := L) hL (i.toInt + 1) hv1 hy_1 (fun v2 hv2 => ?_)
  refine r_sload_n e0 ?_
  refine r_iload_n e3 ?_
  refine r_iconst 2 rfl ?_
  refine q_iadd (i.toInt + 2) rfl hx_2 (fun v3 hv3 => ?_)
  refine q_scald (m := L) hL (i.toInt + 2) hv3 hy_2 (fun v4 hv4 => ?_)
  rcases cs4 (0 ≤ v4.toInt ∧ v4.toInt ≤ 99) (0 ≤ v2.toInt ∧ v2.toInt < (gI g0 1 0).toInt) (8 ≤ (gI g0 1 12).toInt) with pk5 | pk5 | pk5 | pk5
  · refine r_callV 1104 rfl [.ref 0, .int v2, .int v4] [] (Nat.le_of_ble_eq_true rfl) rfl (T_X10_sign_0 _ hI0 v2 v4) ?_
    rintro _ _ ⟨g6, rfl, hI7, hF8, v9, rfl, hr10⟩
    refine At.sti ?_
    have hF11 := Fr.tr hF0 hF8 rfl rfl
    obtain ⟨q13, q14, q15, q16⟩ := hr10
    obtain ⟨i18, i19, i20, i21⟩ := q14
    have w17 := i18 pk5
    clear i18 i19 i20 i21
    have f22 := congrArg Int32.toInt (hF8.1 1 0 rfl)
    have f24 := congrArg Int32.toInt (hF8.1 1 10 rfl)
    have f25 := congrArg Int32.toInt (hF8.1 1 11 rfl)
    have f26 := congrArg Int32.toInt (hF8.1 1 4 rfl)
    have f27 := congrArg Int32.toInt (hF8.1 1 6 rfl)
    have f28 := congrArg Int32.toInt (hF8.1 1 9 rfl)
    have f29 := congrArg Int32.toInt (hF8.1 59 0 rfl)
    have f30 := congrArg Int32.toInt (hF8.1 59 12 rfl)
    have f31 := congrArg Int32.toInt (hF8.1 59 10 rfl)
    have f32 := congrArg Int32.toInt (hF8.1 59 11 rfl)
    have f33 := congrArg Int32.toInt (hF8.1 59 4 rfl)
    have f34 := congrArg Int32.toInt (hF8.1 59 6 rfl)
    have f35 := congrArg Int32.toInt (hF8.1 59 9 rfl)
    have f36 := congrArg Int32.toInt (hF8.1 116 0 rfl)
    have f37 := congrArg Int32.toInt (hF8.1 116 12 rfl)
    have f38 := congrArg Int32.toInt (hF8.1 116 10 rfl)
    have f39 := congrArg Int32.toInt (hF8.1 116 11 rfl)
    have f40 := congrArg Int32.toInt (hF8.1 116 4 rfl)
    have f41 := congrArg Int32.toInt (hF8.1 116 6 rfl)
    have f42 := congrArg Int32.toInt (hF8.1 116 9 rfl)
    have f43 := congrArg Int32.toInt (eA_c (j := 0) (hF8.2.1 173 rfl))
    have f44 := congrArg Int32.toInt (eA_c (j := 1) (hF8.2.1 173 rfl))
    have f45 := congrArg Int32.toInt (hF8.1 174 1 rfl)
    have f46 := congrArg Int32.toInt (hF8.1 0 16 rfl)
    have f47 := congrArg Int32.toInt (hF8.1 176 2 rfl)
    have f48 := congrArg Int32.toInt (eA_c (j := 0) (hF8.2.1 233 rfl))
    have f49 := congrArg Int32.toInt (eA_c (j := 4) (hF8.2.1 233 rfl))
    have f50 := congrArg Int32.toInt (eA_c (j := 5) (hF8.2.1 233 rfl))
    have f51 := congrArg Int32.toInt (eA_c (j := 6) (hF8.2.1 233 rfl))
    have f52 := congrArg Int32.toInt (eA_c (j := 1) (hF8.2.1 233 rfl))
    have f53 := congrArg Int32.toInt (eA_c (j := 2) (hF8.2.1 233 rfl))
    have f54 := congrArg Int32.toInt (eA_c (j := 3) (hF8.2.1 233 rfl))
    have f55 := congrArg Int32.toInt (eA_c (j := 0) (hF8.2.1 234 rfl))
    have f56 := congrArg Int32.toInt (eA_c (j := 4) (hF8.2.1 234 rfl))
    have f57 := congrArg Int32.toInt (eA_c (j := 5) (hF8.2.1 234 rfl))
    have f58 := congrArg Int32.toInt (eA_c (j := 6) (hF8.2.1 234 rfl))
    have f59 := congrArg Int32.toInt (eA_c (j := 1) (hF8.2.1 234 rfl))
    have f60 := congrArg Int32.toInt (eA_c (j := 2) (hF8.2.1 234 rfl))
    have f61 := congrArg Int32.toInt (eA_c (j := 3) (hF8.2.1 234 rfl))
    have f62 := congrArg Int32.toInt (eA_c (j := 5510) (hF8.2.1 234 rfl))
    have f63 := congrArg Int32.toInt (eA_c (j := 5514) (hF8.2.1 234 rfl))
    have f64 := congrArg Int32.toInt (eA_c (j := 5515) (hF8.2.1 234 rfl))
    have f65 := congrArg Int32.toInt (eA_c (j := 5516) (hF8.2.1 234 rfl))
    have f66 := congrArg Int32.toInt (eA_c (j := 5511) (hF8.2.1 234 rfl))
    have f67 := congrArg Int32.toInt (eA_c (j := 5512) (hF8.2.1 234 rfl))
    have f68 := congrArg Int32.toInt (eA_c (j := 5513) (hF8.2.1 234 rfl))
    have f69 := congrArg Int32.toInt (eA_c (j := 0) (hF8.2.1 235 rfl))
    have f70 := congrArg Int32.toInt (eA_c (j := 1) (hF8.2.1 235 rfl))
    have f71 := congrArg Int32.toInt (hF8.1 231 8 rfl)
    have f72 := congrArg Int32.toInt (hF8.1 231 6 rfl)
    have f73 := congrArg Int32.toInt (hF8.1 231 13 rfl)
    refine At.enter rfl ?_
    refine r_pop rfl ?_
    refine r_aload_n e2 ?_
    refine r_sload_n e0 ?_
    refine r_iload_n e3 ?_
    refine r_iconst 1 rfl ?_
    refine q_iadd (i.toInt + 1) rfl hx_1 (fun v74 hv74 => ?_)
    refine q_scald (m := L) hL (i.toInt + 1) hv74 hy_1 (fun v75 hv75 => ?_)
    have sv75 := hv2.symm.trans hv75
    subst sv75
    refine r_sload_n e0 ?_
    refine r_iload_n e3 ?_
    refine r_iconst 2 rfl ?_
    refine q_iadd (i.toInt + 2) rfl hx_2 (fun v76 hv76 => ?_)
    refine q_scald (m := L) hL (i.toInt + 2) hv76 hy_2 (fun v77 hv77 => ?_)
    have sv77 := hv4.symm.trans hv77
    subst sv77
    refine r_callV 1119 rfl [.ref 231, .int v2, .int v4] [] (Nat.le_of_ble_eq_true rfl) rfl (T_X11_sign_231 _ hI7 v2 v4) ?_
    rintro _ _ ⟨g78, rfl, hI79, hF80, v81, rfl, hr82⟩
    refine At.sti ?_
    have hF83 := Fr.tr hF11 hF80 rfl rfl
    obtain ⟨q85, q86, q87⟩ := hr82
    have ek99 : (eA g6 233 0).toInt = (gI g0 1 0).toInt := (eA_ti (j := 0) (hF8.2.1 233 (by decide))).trans hR_0.symm
    have ek100 : (eA g6 233 1).toInt = (gI g0 1 4).toInt := (eA_ti (j := 1) (hF8.2.1 233 (by decide))).trans hR_4.symm
    have ek101 : (eA g6 233 4).toInt = (gI g0 1 12).toInt := (eA_ti (j := 4) (hF8.2.1 233 (by decide))).trans hR_1.symm
    obtain ⟨⟨i89, i90, i91, i92⟩, sm93, sm94, sm95, sm96, sm97, sm98⟩ := q86
    have w88 := i89 pk5
    clear i89 i90 i91 i92
    have f102 := congrArg Int32.toInt (hF80.1 1 0 rfl)
    have f103 := congrArg Int32.toInt (hF80.1 1 12 rfl)
    have f104 := congrArg Int32.toInt (hF80.1 1 10 rfl)
    have f105 := congrArg Int32.toInt (hF80.1 1 11 rfl)
    have f106 := congrArg Int32.toInt (hF80.1 1 4 rfl)
    have f107 := congrArg Int32.toInt (hF80.1 1 6 rfl)
    have f108 := congrArg Int32.toInt (hF80.1 1 9 rfl)
    have f109 := congrArg Int32.toInt (hF80.1 59 0 rfl)
    have f110 := congrArg Int32.toInt (hF80.1 59 12 rfl)
    have f111 := congrArg Int32.toInt (hF80.1 59 10 rfl)
    have f112 := congrArg Int32.toInt (hF80.1 59 11 rfl)
    have f113 := congrArg Int32.toInt (hF80.1 59 4 rfl)
    have f114 := congrArg Int32.toInt (hF80.1 59 6 rfl)
    have f115 := congrArg Int32.toInt (hF80.1 59 9 rfl)
    have f116 := congrArg Int32.toInt (hF80.1 116 0 rfl)
    have f117 := congrArg Int32.toInt (hF80.1 116 12 rfl)
    have f118 := congrArg Int32.toInt (hF80.1 116 10 rfl)
    have f119 := congrArg Int32.toInt (hF80.1 116 11 rfl)
    have f120 := congrArg Int32.toInt (hF80.1 116 4 rfl)
    have f121 := congrArg Int32.toInt (hF80.1 116 6 rfl)
    have f122 := congrArg Int32.toInt (hF80.1 116 9 rfl)
    have f123 := congrArg Int32.toInt (eA_c (j := 0) (hF80.2.1 173 rfl))
    have f124 := congrArg Int32.toInt (eA_c (j := 1) (hF80.2.1 173 rfl))
    have f125 := congrArg Int32.toInt (hF80.1 174 1 rfl)
    have f126 := congrArg Int32.toInt (hF80.1 0 16 rfl)
    have f127 := congrArg Int32.toInt (hF80.1 176 2 rfl)
    have f135 := congrArg Int32.toInt (eA_c (j := 0) (hF80.2.1 234 rfl))
    have f136 := congrArg Int32.toInt (eA_c (j := 4) (hF80.2.1 234 rfl))
    have f137 := congrArg Int32.toInt (eA_c (j := 5) (hF80.2.1 234 rfl))
    have f138 := congrArg Int32.toInt (eA_c (j := 6) (hF80.2.1 234 rfl))
    have f139 := congrArg Int32.toInt (eA_c (j := 1) (hF80.2.1 234 rfl))
    have f140 := congrArg Int32.toInt (eA_c (j := 2) (hF80.2.1 234 rfl))
    have f141 := congrArg Int32.toInt (eA_c (j := 3) (hF80.2.1 234 rfl))
    have f142 := congrArg Int32.toInt (eA_c (j := 5510) (hF80.2.1 234 rfl))
    have f143 := congrArg Int32.toInt (eA_c (j := 5514) (hF80.2.1 234 rfl))
    have f144 := congrArg Int32.toInt (eA_c (j := 5515) (hF80.2.1 234 rfl))
    have f145 := congrArg Int32.toInt (eA_c (j := 5516) (hF80.2.1 234 rfl))
    have f146 := congrArg Int32.toInt (eA_c (j := 5511) (hF80.2.1 234 rfl))
    have f147 := congrArg Int32.toInt (eA_c (j := 5512) (hF80.2.1 234 rfl))
    have f148 := congrArg Int32.toInt (eA_c (j := 5513) (hF80.2.1 234 rfl))
    have f149 := congrArg Int32.toInt (eA_c (j := 0) (hF80.2.1 235 rfl))
    have f150 := congrArg Int32.toInt (eA_c (j := 1) (hF80.2.1 235 rfl))
    have f151 := congrArg Int32.toInt (hF80.1 231 8 rfl)
    have f152 := congrArg Int32.toInt (hF80.1 231 6 rfl)
    have f153 := congrArg Int32.toInt (hF80.1 231 13 rfl)
    refine At.enter rfl ?_
    refine r_pop rfl ?_
    refine r_goto ?_
    exact K _ hI79 (show LwR _ from ⟨by first | (clear f24 f25 f26 f27 f28 f29 f30 f31 f32 f33 f34 f35 f36 f37 f38 f39 f40 f41 f42 f43 f44 f45 f46 f47 f49 f50 f51 f52 f53 f54 f55 f56 f57 f58 f59 f60 f61 f62 f63 f64 f65 f66 f67 f68 f69 f70 f71 f72 f73 f103 f104 f105 f106 f107 f108 f109 f110 f111 f112 f113 f114 f115 f116 f117 f118 f119 f120 f121 f122 f123 f124 f125 f126 f127 f135 f136 f137 f138 f139 f140 f141 f142 f143 f144 f145 f146 f147 f148 f149 f150 f151 f152 f153; omega) | omega, by first | (clear f22 f24 f25 f26 f27 f28 f29 f30 f31 f32 f33 f34 f35 f36 f37 f38 f39 f40 f41 f42 f43 f44 f45 f46 f47 f48 f50 f51 f52 f53 f54 f55 f56 f57 f58 f59 f60 f61 f62 f63 f64 f65 f66 f67 f68 f69 f70 f71 f72 f73 f102 f104 f105 f106 f107 f108 f109 f110 f111 f112 f113 f114 f115 f116 f117 f118 f119 f120 f121 f122 f123 f124 f125 f126 f127 f135 f136 f137 f138 f139 f140 f141 f142 f143 f144 f145 f146 f147 f148 f149 f150 f151 f152 f153; omega) | omega, by first | (clear f22 f25 f26 f27 f28 f29 f30 f31 f32 f33 f34 f35 f36 f37 f38 f39 f40 f41 f42 f43 f44 f45 f46 f47 f48 f49 f51 f52 f53 f54 f55 f56 f57 f58 f59 f60 f61 f62 f63 f64 f65 f66 f67 f68 f69 f70 f71 f72 f73 f102 f103 f105 f106 f107 f108 f109 f110 f111 f112 f113 f114 f115 f116 f117 f118 f119 f120 f121 f122 f123 f124 f125 f126 f127 f135 f136 f137 f138 f139 f140 f141 f142 f143 f144 f145 f146 f147 f148 f149 f150 f151 f152 f153; omega) | omega, by first | (clear f22 f24 f26 f27 f28 f29 f30 f31 f32 f33 f34 f35 f36 f37 f38 f39 f40 f41 f42 f43 f44 f45 f46 f47 f48 f49 f50 f52 f53 f54 f55 f56 f57 f58 f59 f60 f61 f62 f63 f64 f65 f66 f67 f68 f69 f70 f71 f72 f73 f102 f103 f104 f106 f107 f108 f109 f110 f111 f112 f113 f114 f115 f116 f117 f118 f119 f120 f121 f122 f123 f124 f125 f126 f127 f135 f136 f137 f138 f139 f140 f141 f142 f143 f144 f145 f146 f147 f148 f149 f150 f151 f152 f153; omega) | omega, by first | (clear f22 f24 f25 f27 f28 f29 f30 f31 f32 f33 f34 f35 f36 f37 f38 f39 f40 f41 f42 f43 f44 f45 f46 f47 f48 f49 f50 f51 f53 f54 f55 f56 f57 f58 f59 f60 f61 f62 f63 f64 f65 f66 f67 f68 f69 f70 f71 f72 f73 f102 f103 f104 f105 f107 f108 f109 f110 f111 f112 f113 f114 f115 f116 f117 f118 f119 f120 f121 f122 f123 f124 f125 f126 f127 f135 f136 f137 f138 f139 f140 f141 f142 f143 f144 f145 f146 f147 f148 f149 f150 f151 f152 f153; omega) | omega, by first | (clear f22 f24 f25 f26 f28 f29 f30 f31 f32 f33 f34 f35 f36 f37 f38 f39 f40 f41 f42 f43 f44 f45 f46 f47 f48 f49 f50 f51 f52 f54 f55 f56 f57 f58 f59 f60 f61 f62 f63 f64 f65 f66 f67 f68 f69 f70 f71 f72 f73 f102 f103 f104 f105 f106 f108 f109 f110 f111 f112 f113 f114 f115 f116 f117 f118 f119 f120 f121 f122 f123 f124 f125 f126 f127 f135 f136 f137 f138 f139 f140 f141 f142 f143 f144 f145 f146 f147 f148 f149 f150 f151 f152 f153; omega) | omega, by first | (clear f22 f24 f25 f26 f27 f29 f30 f31 f32 f33 f34 f35 f36 f37 f38 f39 f40 f41 f42 f43 f44 f45 f46 f47 f48 f49 f50 f51 f52 f53 f55 f56 f57 f58 f59 f60 f61 f62 f63 f64 f65 f66 f67 f68 f69 f70 f71 f72 f73 f102 f103 f104 f105 f106 f107 f109 f110 f111 f112 f113 f114 f115 f116 f117 f118 f119 f120 f121 f122 f123 f124 f125 f126 f127 f135 f136 f137 f138 f139 f140 f141 f142 f143 f144 f145 f146 f147 f148 f149 f150 f151 f152 f153; omega) | omega, (eA_ti (j := 0) (((hF80.2.1 173 (by decide)).trans (hF8.2.1 173 (by decide))))).trans (hR_7.trans (eA_ti (j := 0) (((hF80.2.1 235 (by decide)).trans (hF8.2.1 235 (by decide))))).symm), (eA_ti (j := 1) (((hF80.2.1 173 (by decide)).trans (hF8.2.1 173 (by decide))))).trans (hR_8.trans (eA_ti (j := 1) (((hF80.2.1 235 (by decide)).trans (hF8.2.1 235 (by decide))))).symm), (congrArg Int32.toInt (((hF80.1 174 1 (by decide)).trans (hF8.1 174 1 (by decide))))).trans (hR_9.trans (congrArg Int32.toInt (((hF80.1 231 8 (by decide)).trans (hF8.1 231 8 (by decide))))).symm), (congrArg Int32.toInt (((hF80.1 0 16 (by decide)).trans (hF8.1 0 16 (by decide))))).trans (hR_10.trans (congrArg Int32.toInt (((hF80.1 231 6 (by decide)).trans (hF8.1 231 6 (by decide))))).symm), (congrArg Int32.toInt (((hF80.1 176 2 (by decide)).trans (hF8.1 176 2 (by decide))))).trans (hR_11.trans (congrArg Int32.toInt (((hF80.1 231 13 (by decide)).trans (hF8.1 231 13 (by decide))))).symm), IM0.cong hR_12 (eA_ti (j := 0) (((hF80.2.1 173 (by decide)).trans (hF8.2.1 173 (by decide))))) (congrArg Int32.toInt (((hF80.1 59 0 (by decide)).trans (hF8.1 59 0 (by decide))))) (eA_ti (j := 0) (((hF80.2.1 234 (by decide)).trans (hF8.2.1 234 (by decide))))) (congrArg Int32.toInt (((hF80.1 59 12 (by decide)).trans (hF8.1 59 12 (by decide))))) (eA_ti (j := 4) (((hF80.2.1 234 (by decide)).trans (hF8.2.1 234 (by decide))))) (congrArg Int32.toInt (((hF80.1 59 10 (by decide)).trans (hF8.1 59 10 (by decide))))) (eA_ti (j := 5) (((hF80.2.1 234 (by decide)).trans (hF8.2.1 234 (by decide))))) (congrArg Int32.toInt (((hF80.1 59 11 (by decide)).trans (hF8.1 59 11 (by decide))))) (eA_ti (j := 6) (((hF80.2.1 234 (by decide)).trans (hF8.2.1 234 (by decide))))) (congrArg Int32.toInt (((hF80.1 59 4 (by decide)).trans (hF8.1 59 4 (by decide))))) (eA_ti (j := 1) (((hF80.2.1 234 (by decide)).trans (hF8.2.1 234 (by decide))))) (congrArg Int32.toInt (((hF80.1 59 6 (by decide)).trans (hF8.1 59 6 (by decide))))) (eA_ti (j := 2) (((hF80.2.1 234 (by decide)).trans (hF8.2.1 234 (by decide))))) (congrArg Int32.toInt (((hF80.1 59 9 (by decide)).trans (hF8.1 59 9 (by decide))))) (eA_ti (j := 3) (((hF80.2.1 234 (by decide)).trans (hF8.2.1 234 (by decide))))), IM1.cong hR_13 (eA_ti (j := 1) (((hF80.2.1 173 (by decide)).trans (hF8.2.1 173 (by decide))))) (congrArg Int32.toInt (((hF80.1 116 0 (by decide)).trans (hF8.1 116 0 (by decide))))) (eA_ti (j := 5510) (((hF80.2.1 234 (by decide)).trans (hF8.2.1 234 (by decide))))) (congrArg Int32.toInt (((hF80.1 116 12 (by decide)).trans (hF8.1 116 12 (by decide))))) (eA_ti (j := 5514) (((hF80.2.1 234 (by decide)).trans (hF8.2.1 234 (by decide))))) (congrArg Int32.toInt (((hF80.1 116 10 (by decide)).trans (hF8.1 116 10 (by decide))))) (eA_ti (j := 5515) (((hF80.2.1 234 (by decide)).trans (hF8.2.1 234 (by decide))))) (congrArg Int32.toInt (((hF80.1 116 11 (by decide)).trans (hF8.1 116 11 (by decide))))) (eA_ti (j := 5516) (((hF80.2.1 234 (by decide)).trans (hF8.2.1 234 (by decide))))) (congrArg Int32.toInt (((hF80.1 116 4 (by decide)).trans (hF8.1 116 4 (by decide))))) (eA_ti (j := 5511) (((hF80.2.1 234 (by decide)).trans (hF8.2.1 234 (by decide))))) (congrArg Int32.toInt (((hF80.1 116 6 (by decide)).trans (hF8.1 116 6 (by decide))))) (eA_ti (j := 5512) (((hF80.2.1 234 (by decide)).trans (hF8.2.1 234 (by decide))))) (congrArg Int32.toInt (((hF80.1 116 9 (by decide)).trans (hF8.1 116 9 (by decide))))) (eA_ti (j := 5513) (((hF80.2.1 234 (by decide)).trans (hF8.2.1 234 (by decide))))), (show CT _ from ⟨fun i i0 i1 => ⟨(by first | (clear f29 f30 f31 f32 f33 f34 f35 f36 f37 f38 f39 f40 f41 f42 f45 f46 f47 f55 f56 f57 f58 f59 f60 f61 f62 f63 f64 f65 f66 f67 f68 f71 f72 f73 f109 f110 f111 f112 f113 f114 f115 f116 f117 f118 f119 f120 f121 f122 f125 f126 f127 f135 f136 f137 f138 f139 f140 f141 f142 f143 f144 f145 f146 f147 f148 f151 f152 f153; have t0_ := hI0.t0; have t1_ := hI0.t1; have t4_ := hI0.t4; have o := (hR_14.1 i i0 i1).1; have x := eA_ti (j := i) (((hF80.2.1 2 (by decide)).trans (hF8.2.1 2 (by decide)))); have m := q87 (10 + 3 * i) (by omega) (by omega); have y1 := eA_ti (j := ((10 + 3 * i))) (hF8.2.1 233 (by decide)); (try split at m) <;> (try split at m) <;> omega) | (have t0_ := hI0.t0; have t1_ := hI0.t1; have t4_ := hI0.t4; have o := (hR_14.1 i i0 i1).1; have x := eA_ti (j := i) (((hF80.2.1 2 (by decide)).trans (hF8.2.1 2 (by decide)))); have m := q87 (10 + 3 * i) (by omega) (by omega); have y1 := eA_ti (j := ((10 + 3 * i))) (hF8.2.1 233 (by decide)); (try split at m) <;> (try split at m) <;> omega)), (by first | (clear f29 f30 f31 f32 f33 f34 f35 f36 f37 f38 f39 f40 f41 f42 f45 f46 f47 f55 f56 f57 f58 f59 f60 f61 f62 f63 f64 f65 f66 f67 f68 f71 f72 f73 f109 f110 f111 f112 f113 f114 f115 f116 f117 f118 f119 f120 f121 f122 f125 f126 f127 f135 f136 f137 f138 f139 f140 f141 f142 f143 f144 f145 f146 f147 f148 f151 f152 f153; have t0_ := hI0.t0; have t1_ := hI0.t1; have t4_ := hI0.t4; have o := (hR_14.1 i i0 i1).2.1; have x := eA_ti (j := i) (((hF80.2.1 3 (by decide)).trans (hF8.2.1 3 (by decide)))); have m := q87 (10 + 3 * i + 1) (by omega) (by omega); have y1 := eA_ti (j := ((10 + 3 * i + 1))) (hF8.2.1 233 (by decide)); (try split at m) <;> (try split at m) <;> omega) | (have t0_ := hI0.t0; have t1_ := hI0.t1; have t4_ := hI0.t4; have o := (hR_14.1 i i0 i1).2.1; have x := eA_ti (j := i) (((hF80.2.1 3 (by decide)).trans (hF8.2.1 3 (by decide)))); have m := q87 (10 + 3 * i + 1) (by omega) (by omega); have y1 := eA_ti (j := ((10 + 3 * i + 1))) (hF8.2.1 233 (by decide)); (try split at m) <;> (try split at m) <;> omega)), (by first | (clear f29 f30 f31 f32 f33 f34 f35 f36 f37 f38 f39 f40 f41 f42 f45 f46 f47 f55 f56 f57 f58 f59 f60 f61 f62 f63 f64 f65 f66 f67 f68 f71 f72 f73 f109 f110 f111 f112 f113 f114 f115 f116 f117 f118 f119 f120 f121 f122 f125 f126 f127 f135 f136 f137 f138 f139 f140 f141 f142 f143 f144 f145 f146 f147 f148 f151 f152 f153; have t0_ := hI0.t0; have t1_ := hI0.t1; have t4_ := hI0.t4; have o := (hR_14.1 i i0 i1).2.2; have x := eA_ti (j := i) (((hF80.2.1 4 (by decide)).trans (hF8.2.1 4 (by decide)))); have m := q87 (10 + 3 * i + 2) (by omega) (by omega); have y1 := eA_ti (j := ((10 + 3 * i + 2))) (hF8.2.1 233 (by decide)); (try split at m) <;> (try split at m) <;> omega) | (have t0_ := hI0.t0; have t1_ := hI0.t1; have t4_ := hI0.t4; have o := (hR_14.1 i i0 i1).2.2; have x := eA_ti (j := i) (((hF80.2.1 4 (by decide)).trans (hF8.2.1 4 (by decide)))); have m := q87 (10 + 3 * i + 2) (by omega) (by omega); have y1 := eA_ti (j := ((10 + 3 * i + 2))) (hF8.2.1 233 (by decide)); (try split at m) <;> (try split at m) <;> omega))⟩, fun i i0 i1 => ⟨(by first | (clear f29 f30 f31 f32 f33 f34 f35 f36 f37 f38 f39 f40 f41 f42 f45 f46 f47 f55 f56 f57 f58 f59 f60 f61 f62 f63 f64 f65 f66 f67 f68 f71 f72 f73 f109 f110 f111 f112 f113 f114 f115 f116 f117 f118 f119 f120 f121 f122 f125 f126 f127 f135 f136 f137 f138 f139 f140 f141 f142 f143 f144 f145 f146 f147 f148 f151 f152 f153; have t0_ := hI0.t0; have t1_ := hI0.t1; have t4_ := hI0.t4; have o := (hR_14.2.1 i i0 i1).1; have x := (eA_ti (j := i) (hF80.2.1 14 (by decide))).trans (q15 i i0 i1); have m := q87 (94 + 2 * i) (by omega) (by omega); have y1 := eA_ti (j := ((94 + 2 * i))) (hF8.2.1 233 (by decide)); (try split at x) <;> (try split at m) <;> (try split at m) <;> omega) | (have t0_ := hI0.t0; have t1_ := hI0.t1; have t4_ := hI0.t4; have o := (hR_14.2.1 i i0 i1).1; have x := (eA_ti (j := i) (hF80.2.1 14 (by decide))).trans (q15 i i0 i1); have m := q87 (94 + 2 * i) (by omega) (by omega); have y1 := eA_ti (j := ((94 + 2 * i))) (hF8.2.1 233 (by decide)); (try split at x) <;> (try split at m) <;> (try split at m) <;> omega)), (by first | (clear f29 f30 f31 f32 f33 f34 f35 f36 f37 f38 f39 f40 f41 f42 f45 f46 f47 f55 f56 f57 f58 f59 f60 f61 f62 f63 f64 f65 f66 f67 f68 f71 f72 f73 f109 f110 f111 f112 f113 f114 f115 f116 f117 f118 f119 f120 f121 f122 f125 f126 f127 f135 f136 f137 f138 f139 f140 f141 f142 f143 f144 f145 f146 f147 f148 f151 f152 f153; have t0_ := hI0.t0; have t1_ := hI0.t1; have t4_ := hI0.t4; have o := (hR_14.2.1 i i0 i1).2; have x := (eA_ti (j := i) (hF80.2.1 15 (by decide))).trans (q16 i i0 i1); have m := q87 (94 + 2 * i + 1) (by omega) (by omega); have y1 := eA_ti (j := ((94 + 2 * i + 1))) (hF8.2.1 233 (by decide)); (try split at x) <;> (try split at m) <;> (try split at m) <;> omega) | (have t0_ := hI0.t0; have t1_ := hI0.t1; have t4_ := hI0.t4; have o := (hR_14.2.1 i i0 i1).2; have x := (eA_ti (j := i) (hF80.2.1 15 (by decide))).trans (q16 i i0 i1); have m := q87 (94 + 2 * i + 1) (by omega) (by omega); have y1 := eA_ti (j := ((94 + 2 * i + 1))) (hF8.2.1 233 (by decide)); (try split at x) <;> (try split at m) <;> (try split at m) <;> omega))⟩, fun i i0 i1 => (by first | (clear f29 f30 f31 f32 f33 f34 f35 f36 f37 f38 f39 f40 f41 f42 f45 f46 f47 f55 f56 f57 f58 f59 f60 f61 f62 f63 f64 f65 f66 f67 f68 f71 f72 f73 f109 f110 f111 f112 f113 f114 f115 f116 f117 f118 f119 f120 f121 f122 f125 f126 f127 f135 f136 f137 f138 f139 f140 f141 f142 f143 f144 f145 f146 f147 f148 f151 f152 f153; have t0_ := hI0.t0; have t1_ := hI0.t1; have t4_ := hI0.t4; have o : i < 6 * (gI g0 1 4).toInt → _ := fun hz => hR_14.2.2 i i0 hz; have x := eA_ti (j := i) (((hF80.2.1 5 (by decide)).trans (hF8.2.1 5 (by decide)))); have m := q87 (46 + i) (by omega) (by omega); have y1 := eA_ti (j := ((46 + i))) (hF8.2.1 233 (by decide)); (try split at m) <;> (try split at m) <;> omega) | (have t0_ := hI0.t0; have t1_ := hI0.t1; have t4_ := hI0.t4; have o : i < 6 * (gI g0 1 4).toInt → _ := fun hz => hR_14.2.2 i i0 hz; have x := eA_ti (j := i) (((hF80.2.1 5 (by decide)).trans (hF8.2.1 5 (by decide)))); have m := q87 (46 + i) (by omega) (by omega); have y1 := eA_ti (j := ((46 + i))) (hF8.2.1 233 (by decide)); (try split at m) <;> (try split at m) <;> omega))⟩), CI0.cong hR_15 (((hF80.2.1 60 (by decide)).trans (hF8.2.1 60 (by decide)))) (((hF80.2.1 61 (by decide)).trans (hF8.2.1 61 (by decide)))) (((hF80.2.1 62 (by decide)).trans (hF8.2.1 62 (by decide)))) (((hF80.2.1 72 (by decide)).trans (hF8.2.1 72 (by decide)))) (((hF80.2.1 73 (by decide)).trans (hF8.2.1 73 (by decide)))) (((hF80.2.1 63 (by decide)).trans (hF8.2.1 63 (by decide)))) (((hF80.2.1 234 (by decide)).trans (hF8.2.1 234 (by decide)))) (congrArg Int32.toInt (((hF80.1 59 4 (by decide)).trans (hF8.1 59 4 (by decide))))), CI1.cong hR_16 (((hF80.2.1 117 (by decide)).trans (hF8.2.1 117 (by decide)))) (((hF80.2.1 118 (by decide)).trans (hF8.2.1 118 (by decide)))) (((hF80.2.1 119 (by decide)).trans (hF8.2.1 119 (by decide)))) (((hF80.2.1 129 (by decide)).trans (hF8.2.1 129 (by decide)))) (((hF80.2.1 130 (by decide)).trans (hF8.2.1 130 (by decide)))) (((hF80.2.1 120 (by decide)).trans (hF8.2.1 120 (by decide)))) (((hF80.2.1 234 (by decide)).trans (hF8.2.1 234 (by decide)))) (congrArg Int32.toInt (((hF80.1 116 4 (by decide)).trans (hF8.1 116 4 (by decide))))), (show RT _ from fun i i0 i1 => (eA_ti (((hF80.2.1 175 (by decide)).trans (hF8.2.1 175 (by decide))))).trans ((hR_17 i i0 (by omega)).trans (eA_ti (((hF80.2.1 236 (by decide)).trans (hF8.2.1 236 (by decide))))).symm)), (show BYX _ from fun i i0 i1 => by rw [TX.c (((hF80.2.1 175 (by decide)).trans (hF8.2.1 175 (by decide))))]; exact hR_18 i i0 (by have i2 : i < (gI _ 174 1).toInt := i1; show i < (gI g0 174 1).toInt; omega)), (LAWR_c hR_19 (LSA_tr (LSA_tr LSA_rf (LSA_fr hF8 rfl)) (LSA_fr hF80 rfl)) (((hF80.1 1 6 (by decide)).trans (hF8.1 1 6 (by decide)))) (((hF80.1 59 6 (by decide)).trans (hF8.1 59 6 (by decide)))) (((hF80.1 116 6 (by decide)).trans (hF8.1 116 6 (by decide)))) (((hF80.2.1 173 (by decide)).trans (hF8.2.1 173 (by decide)))) (fun i i0 i1 => (R3_sign hI7 q87 i i0 i1).trans (eA_ti (hF8.2.1 233 (by decide)))) (((hF80.2.1 234 (by decide)).trans (hF8.2.1 234 (by decide)))) (TOLDX_fr hF80 rfl rfl rfl rfl (TOLDX_fr hF8 rfl rfl rfl rfl hR_19.2.2.2.2))), (SETX_fr hF80 rfl rfl rfl rfl rfl (SETX_fr hF8 rfl rfl rfl rfl rfl hR_20))⟩)
  · refine r_callV 1104 rfl [.ref 0, .int v2, .int v4] [] (Nat.le_of_ble_eq_true rfl) rfl (T_X10_sign_0 _ hI0 v2 v4) ?_
    rintro _ _ ⟨g154, rfl, hI155, hF156, v157, rfl, hr158⟩
    refine At.sti ?_
    have hF159 := Fr.tr hF0 hF156 rfl rfl
    obtain ⟨q161, q162, q163, q164⟩ := hr158
    obtain ⟨i166, i167, i168, i169⟩ := q162
    have w165 := i167 ⟨pk5.1, pk5.2⟩
    clear i166 i167 i168 i169
    have f170 := congrArg Int32.toInt (hF156.1 1 0 rfl)
    have f172 := congrArg Int32.toInt (hF156.1 1 10 rfl)
    have f173 := congrArg Int32.toInt (hF156.1 1 11 rfl)
    have f174 := congrArg Int32.toInt (hF156.1 1 4 rfl)
    have f175 := congrArg Int32.toInt (hF156.1 1 6 rfl)
    have f176 := congrArg Int32.toInt (hF156.1 1 9 rfl)
    have f177 := congrArg Int32.toInt (hF156.1 59 0 rfl)
    have f178 := congrArg Int32.toInt (hF156.1 59 12 rfl)
    have f179 := congrArg Int32.toInt (hF156.1 59 10 rfl)
    have f180 := congrArg Int32.toInt (hF156.1 59 11 rfl)
    have f181 := congrArg Int32.toInt (hF156.1 59 4 rfl)
    have f182 := congrArg Int32.toInt (hF156.1 59 6 rfl)
    have f183 := congrArg Int32.toInt (hF156.1 59 9 rfl)
    have f184 := congrArg Int32.toInt (hF156.1 116 0 rfl)
    have f185 := congrArg Int32.toInt (hF156.1 116 12 rfl)
    have f186 := congrArg Int32.toInt (hF156.1 116 10 rfl)
    have f187 := congrArg Int32.toInt (hF156.1 116 11 rfl)
    have f188 := congrArg Int32.toInt (hF156.1 116 4 rfl)
    have f189 := congrArg Int32.toInt (hF156.1 116 6 rfl)
    have f190 := congrArg Int32.toInt (hF156.1 116 9 rfl)
    have f191 := congrArg Int32.toInt (eA_c (j := 0) (hF156.2.1 173 rfl))
    have f192 := congrArg Int32.toInt (eA_c (j := 1) (hF156.2.1 173 rfl))
    have f193 := congrArg Int32.toInt (hF156.1 174 1 rfl)
    have f194 := congrArg Int32.toInt (hF156.1 0 16 rfl)
    have f195 := congrArg Int32.toInt (hF156.1 176 2 rfl)
    have f196 := congrArg Int32.toInt (eA_c (j := 0) (hF156.2.1 233 rfl))
    have f197 := congrArg Int32.toInt (eA_c (j := 4) (hF156.2.1 233 rfl))
    have f198 := congrArg Int32.toInt (eA_c (j := 5) (hF156.2.1 233 rfl))
    have f199 := congrArg Int32.toInt (eA_c (j := 6) (hF156.2.1 233 rfl))
    have f200 := congrArg Int32.toInt (eA_c (j := 1) (hF156.2.1 233 rfl))
    have f201 := congrArg Int32.toInt (eA_c (j := 2) (hF156.2.1 233 rfl))
    have f202 := congrArg Int32.toInt (eA_c (j := 3) (hF156.2.1 233 rfl))
    have f203 := congrArg Int32.toInt (eA_c (j := 0) (hF156.2.1 234 rfl))
    have f204 := congrArg Int32.toInt (eA_c (j := 4) (hF156.2.1 234 rfl))
    have f205 := congrArg Int32.toInt (eA_c (j := 5) (hF156.2.1 234 rfl))
    have f206 := congrArg Int32.toInt (eA_c (j := 6) (hF156.2.1 234 rfl))
    have f207 := congrArg Int32.toInt (eA_c (j := 1) (hF156.2.1 234 rfl))
    have f208 := congrArg Int32.toInt (eA_c (j := 2) (hF156.2.1 234 rfl))
    have f209 := congrArg Int32.toInt (eA_c (j := 3) (hF156.2.1 234 rfl))
    have f210 := congrArg Int32.toInt (eA_c (j := 5510) (hF156.2.1 234 rfl))
    have f211 := congrArg Int32.toInt (eA_c (j := 5514) (hF156.2.1 234 rfl))
    have f212 := congrArg Int32.toInt (eA_c (j := 5515) (hF156.2.1 234 rfl))
    have f213 := congrArg Int32.toInt (eA_c (j := 5516) (hF156.2.1 234 rfl))
    have f214 := congrArg Int32.toInt (eA_c (j := 5511) (hF156.2.1 234 rfl))
    have f215 := congrArg Int32.toInt (eA_c (j := 5512) (hF156.2.1 234 rfl))
    have f216 := congrArg Int32.toInt (eA_c (j := 5513) (hF156.2.1 234 rfl))
    have f217 := congrArg Int32.toInt (eA_c (j := 0) (hF156.2.1 235 rfl))
    have f218 := congrArg Int32.toInt (eA_c (j := 1) (hF156.2.1 235 rfl))
    have f219 := congrArg Int32.toInt (hF156.1 231 8 rfl)
    have f220 := congrArg Int32.toInt (hF156.1 231 6 rfl)
    have f221 := congrArg Int32.toInt (hF156.1 231 13 rfl)
    refine At.enter rfl ?_
    refine r_pop rfl ?_
    refine r_aload_n e2 ?_
    refine r_sload_n e0 ?_
    refine r_iload_n e3 ?_
    refine r_iconst 1 rfl ?_
    refine q_iadd (i.toInt + 1) rfl hx_1 (fun v222 hv222 => ?_)
    refine q_scald (m := L) hL (i.toInt + 1) hv222 hy_1 (fun v223 hv223 => ?_)
    have sv223 := hv2.symm.trans hv223
    subst sv223
    refine r_sload_n e0 ?_
    refine r_iload_n e3 ?_
    refine r_iconst 2 rfl ?_
    refine q_iadd (i.toInt + 2) rfl hx_2 (fun v224 hv224 => ?_)
    refine q_scald (m := L) hL (i.toInt + 2) hv224 hy_2 (fun v225 hv225 => ?_)
    have sv225 := hv4.symm.trans hv225
    subst sv225
    refine r_callV 1119 rfl [.ref 231, .int v2, .int v4] [] (Nat.le_of_ble_eq_true rfl) rfl (T_X11_sign_231 _ hI155 v2 v4) ?_
    rintro _ _ ⟨g226, rfl, hI227, hF228, v229, rfl, hr230⟩
    refine At.sti ?_
    have hF231 := Fr.tr hF159 hF228 rfl rfl
    obtain ⟨q233, q234, q235⟩ := hr230
    have ek247 : (eA g154 233 0).toInt = (gI g0 1 0).toInt := (eA_ti (j := 0) (hF156.2.1 233 (by decide))).trans hR_0.symm
    have ek248 : (eA g154 233 1).toInt = (gI g0 1 4).toInt := (eA_ti (j := 1) (hF156.2.1 233 (by decide))).trans hR_4.symm
    have ek249 : (eA g154 233 4).toInt = (gI g0 1 12).toInt := (eA_ti (j := 4) (hF156.2.1 233 (by decide))).trans hR_1.symm
    obtain ⟨⟨i237, i238, i239, i240⟩, sm241, sm242, sm243, sm244, sm245, sm246⟩ := q234
    have w236 := i238 ⟨pk5.1, (by rw [ek247]; exact pk5.2)⟩
    clear i237 i238 i239 i240
    have f250 := congrArg Int32.toInt (hF228.1 1 0 rfl)
    have f251 := congrArg Int32.toInt (hF228.1 1 12 rfl)
    have f252 := congrArg Int32.toInt (hF228.1 1 10 rfl)
    have f253 := congrArg Int32.toInt (hF228.1 1 11 rfl)
    have f254 := congrArg Int32.toInt (hF228.1 1 4 rfl)
    have f255 := congrArg Int32.toInt (hF228.1 1 6 rfl)
    have f256 := congrArg Int32.toInt (hF228.1 1 9 rfl)
    have f257 := congrArg Int32.toInt (hF228.1 59 0 rfl)
    have f258 := congrArg Int32.toInt (hF228.1 59 12 rfl)
    have f259 := congrArg Int32.toInt (hF228.1 59 10 rfl)
    have f260 := congrArg Int32.toInt (hF228.1 59 11 rfl)
    have f261 := congrArg Int32.toInt (hF228.1 59 4 rfl)
    have f262 := congrArg Int32.toInt (hF228.1 59 6 rfl)
    have f263 := congrArg Int32.toInt (hF228.1 59 9 rfl)
    have f264 := congrArg Int32.toInt (hF228.1 116 0 rfl)
    have f265 := congrArg Int32.toInt (hF228.1 116 12 rfl)
    have f266 := congrArg Int32.toInt (hF228.1 116 10 rfl)
    have f267 := congrArg Int32.toInt (hF228.1 116 11 rfl)
    have f268 := congrArg Int32.toInt (hF228.1 116 4 rfl)
    have f269 := congrArg Int32.toInt (hF228.1 116 6 rfl)
    have f270 := congrArg Int32.toInt (hF228.1 116 9 rfl)
    have f271 := congrArg Int32.toInt (eA_c (j := 0) (hF228.2.1 173 rfl))
    have f272 := congrArg Int32.toInt (eA_c (j := 1) (hF228.2.1 173 rfl))
    have f273 := congrArg Int32.toInt (hF228.1 174 1 rfl)
    have f274 := congrArg Int32.toInt (hF228.1 0 16 rfl)
    have f275 := congrArg Int32.toInt (hF228.1 176 2 rfl)
    have f283 := congrArg Int32.toInt (eA_c (j := 0) (hF228.2.1 234 rfl))
    have f284 := congrArg Int32.toInt (eA_c (j := 4) (hF228.2.1 234 rfl))
    have f285 := congrArg Int32.toInt (eA_c (j := 5) (hF228.2.1 234 rfl))
    have f286 := congrArg Int32.toInt (eA_c (j := 6) (hF228.2.1 234 rfl))
    have f287 := congrArg Int32.toInt (eA_c (j := 1) (hF228.2.1 234 rfl))
    have f288 := congrArg Int32.toInt (eA_c (j := 2) (hF228.2.1 234 rfl))
    have f289 := congrArg Int32.toInt (eA_c (j := 3) (hF228.2.1 234 rfl))
    have f290 := congrArg Int32.toInt (eA_c (j := 5510) (hF228.2.1 234 rfl))
    have f291 := congrArg Int32.toInt (eA_c (j := 5514) (hF228.2.1 234 rfl))
    have f292 := congrArg Int32.toInt (eA_c (j := 5515) (hF228.2.1 234 rfl))
    have f293 := congrArg Int32.toInt (eA_c (j := 5516) (hF228.2.1 234 rfl))
    have f294 := congrArg Int32.toInt (eA_c (j := 5511) (hF228.2.1 234 rfl))
    have f295 := congrArg Int32.toInt (eA_c (j := 5512) (hF228.2.1 234 rfl))
    have f296 := congrArg Int32.toInt (eA_c (j := 5513) (hF228.2.1 234 rfl))
    have f297 := congrArg Int32.toInt (eA_c (j := 0) (hF228.2.1 235 rfl))
    have f298 := congrArg Int32.toInt (eA_c (j := 1) (hF228.2.1 235 rfl))
    have f299 := congrArg Int32.toInt (hF228.1 231 8 rfl)
    have f300 := congrArg Int32.toInt (hF228.1 231 6 rfl)
    have f301 := congrArg Int32.toInt (hF228.1 231 13 rfl)
    refine At.enter rfl ?_
    refine r_pop rfl ?_
    refine r_goto ?_
    exact K _ hI227 (show LwR _ from ⟨by first | (clear f172 f173 f174 f175 f176 f177 f178 f179 f180 f181 f182 f183 f184 f185 f186 f187 f188 f189 f190 f191 f192 f193 f194 f195 f197 f198 f199 f200 f201 f202 f203 f204 f205 f206 f207 f208 f209 f210 f211 f212 f213 f214 f215 f216 f217 f218 f219 f220 f221 f251 f252 f253 f254 f255 f256 f257 f258 f259 f260 f261 f262 f263 f264 f265 f266 f267 f268 f269 f270 f271 f272 f273 f274 f275 f283 f284 f285 f286 f287 f288 f289 f290 f291 f292 f293 f294 f295 f296 f297 f298 f299 f300 f301; omega) | omega, by first | (clear f170 f172 f173 f174 f175 f176 f177 f178 f179 f180 f181 f182 f183 f184 f185 f186 f187 f188 f189 f190 f191 f192 f193 f194 f195 f196 f198 f199 f200 f201 f202 f203 f204 f205 f206 f207 f208 f209 f210 f211 f212 f213 f214 f215 f216 f217 f218 f219 f220 f221 f250 f252 f253 f254 f255 f256 f257 f258 f259 f260 f261 f262 f263 f264 f265 f266 f267 f268 f269 f270 f271 f272 f273 f274 f275 f283 f284 f285 f286 f287 f288 f289 f290 f291 f292 f293 f294 f295 f296 f297 f298 f299 f300 f301; omega) | omega, by first | (clear f170 f173 f174 f175 f176 f177 f178 f179 f180 f181 f182 f183 f184 f185 f186 f187 f188 f189 f190 f191 f192 f193 f194 f195 f196 f197 f199 f200 f201 f202 f203 f204 f205 f206 f207 f208 f209 f210 f211 f212 f213 f214 f215 f216 f217 f218 f219 f220 f221 f250 f251 f253 f254 f255 f256 f257 f258 f259 f260 f261 f262 f263 f264 f265 f266 f267 f268 f269 f270 f271 f272 f273 f274 f275 f283 f284 f285 f286 f287 f288 f289 f290 f291 f292 f293 f294 f295 f296 f297 f298 f299 f300 f301; omega) | omega, by first | (clear f170 f172 f174 f175 f176 f177 f178 f179 f180 f181 f182 f183 f184 f185 f186 f187 f188 f189 f190 f191 f192 f193 f194 f195 f196 f197 f198 f200 f201 f202 f203 f204 f205 f206 f207 f208 f209 f210 f211 f212 f213 f214 f215 f216 f217 f218 f219 f220 f221 f250 f251 f252 f254 f255 f256 f257 f258 f259 f260 f261 f262 f263 f264 f265 f266 f267 f268 f269 f270 f271 f272 f273 f274 f275 f283 f284 f285 f286 f287 f288 f289 f290 f291 f292 f293 f294 f295 f296 f297 f298 f299 f300 f301; omega) | omega, by first | (clear f170 f172 f173 f175 f176 f177 f178 f179 f180 f181 f182 f183 f184 f185 f186 f187 f188 f189 f190 f191 f192 f193 f194 f195 f196 f197 f198 f199 f201 f202 f203 f204 f205 f206 f207 f208 f209 f210 f211 f212 f213 f214 f215 f216 f217 f218 f219 f220 f221 f250 f251 f252 f253 f255 f256 f257 f258 f259 f260 f261 f262 f263 f264 f265 f266 f267 f268 f269 f270 f271 f272 f273 f274 f275 f283 f284 f285 f286 f287 f288 f289 f290 f291 f292 f293 f294 f295 f296 f297 f298 f299 f300 f301; omega) | omega, by first | (clear f170 f172 f173 f174 f176 f177 f178 f179 f180 f181 f182 f183 f184 f185 f186 f187 f188 f189 f190 f191 f192 f193 f194 f195 f196 f197 f198 f199 f200 f202 f203 f204 f205 f206 f207 f208 f209 f210 f211 f212 f213 f214 f215 f216 f217 f218 f219 f220 f221 f250 f251 f252 f253 f254 f256 f257 f258 f259 f260 f261 f262 f263 f264 f265 f266 f267 f268 f269 f270 f271 f272 f273 f274 f275 f283 f284 f285 f286 f287 f288 f289 f290 f291 f292 f293 f294 f295 f296 f297 f298 f299 f300 f301; omega) | omega, by first | (clear f170 f172 f173 f174 f175 f177 f178 f179 f180 f181 f182 f183 f184 f185 f186 f187 f188 f189 f190 f191 f192 f193 f194 f195 f196 f197 f198 f199 f200 f201 f203 f204 f205 f206 f207 f208 f209 f210 f211 f212 f213 f214 f215 f216 f217 f218 f219 f220 f221 f250 f251 f252 f253 f254 f255 f257 f258 f259 f260 f261 f262 f263 f264 f265 f266 f267 f268 f269 f270 f271 f272 f273 f274 f275 f283 f284 f285 f286 f287 f288 f289 f290 f291 f292 f293 f294 f295 f296 f297 f298 f299 f300 f301; omega) | omega, (eA_ti (j := 0) (((hF228.2.1 173 (by decide)).trans (hF156.2.1 173 (by decide))))).trans (hR_7.trans (eA_ti (j := 0) (((hF228.2.1 235 (by decide)).trans (hF156.2.1 235 (by decide))))).symm), (eA_ti (j := 1) (((hF228.2.1 173 (by decide)).trans (hF156.2.1 173 (by decide))))).trans (hR_8.trans (eA_ti (j := 1) (((hF228.2.1 235 (by decide)).trans (hF156.2.1 235 (by decide))))).symm), (congrArg Int32.toInt (((hF228.1 174 1 (by decide)).trans (hF156.1 174 1 (by decide))))).trans (hR_9.trans (congrArg Int32.toInt (((hF228.1 231 8 (by decide)).trans (hF156.1 231 8 (by decide))))).symm), (congrArg Int32.toInt (((hF228.1 0 16 (by decide)).trans (hF156.1 0 16 (by decide))))).trans (hR_10.trans (congrArg Int32.toInt (((hF228.1 231 6 (by decide)).trans (hF156.1 231 6 (by decide))))).symm), (congrArg Int32.toInt (((hF228.1 176 2 (by decide)).trans (hF156.1 176 2 (by decide))))).trans (hR_11.trans (congrArg Int32.toInt (((hF228.1 231 13 (by decide)).trans (hF156.1 231 13 (by decide))))).symm), IM0.cong hR_12 (eA_ti (j := 0) (((hF228.2.1 173 (by decide)).trans (hF156.2.1 173 (by decide))))) (congrArg Int32.toInt (((hF228.1 59 0 (by decide)).trans (hF156.1 59 0 (by decide))))) (eA_ti (j := 0) (((hF228.2.1 234 (by decide)).trans (hF156.2.1 234 (by decide))))) (congrArg Int32.toInt (((hF228.1 59 12 (by decide)).trans (hF156.1 59 12 (by decide))))) (eA_ti (j := 4) (((hF228.2.1 234 (by decide)).trans (hF156.2.1 234 (by decide))))) (congrArg Int32.toInt (((hF228.1 59 10 (by decide)).trans (hF156.1 59 10 (by decide))))) (eA_ti (j := 5) (((hF228.2.1 234 (by decide)).trans (hF156.2.1 234 (by decide))))) (congrArg Int32.toInt (((hF228.1 59 11 (by decide)).trans (hF156.1 59 11 (by decide))))) (eA_ti (j := 6) (((hF228.2.1 234 (by decide)).trans (hF156.2.1 234 (by decide))))) (congrArg Int32.toInt (((hF228.1 59 4 (by decide)).trans (hF156.1 59 4 (by decide))))) (eA_ti (j := 1) (((hF228.2.1 234 (by decide)).trans (hF156.2.1 234 (by decide))))) (congrArg Int32.toInt (((hF228.1 59 6 (by decide)).trans (hF156.1 59 6 (by decide))))) (eA_ti (j := 2) (((hF228.2.1 234 (by decide)).trans (hF156.2.1 234 (by decide))))) (congrArg Int32.toInt (((hF228.1 59 9 (by decide)).trans (hF156.1 59 9 (by decide))))) (eA_ti (j := 3) (((hF228.2.1 234 (by decide)).trans (hF156.2.1 234 (by decide))))), IM1.cong hR_13 (eA_ti (j := 1) (((hF228.2.1 173 (by decide)).trans (hF156.2.1 173 (by decide))))) (congrArg Int32.toInt (((hF228.1 116 0 (by decide)).trans (hF156.1 116 0 (by decide))))) (eA_ti (j := 5510) (((hF228.2.1 234 (by decide)).trans (hF156.2.1 234 (by decide))))) (congrArg Int32.toInt (((hF228.1 116 12 (by decide)).trans (hF156.1 116 12 (by decide))))) (eA_ti (j := 5514) (((hF228.2.1 234 (by decide)).trans (hF156.2.1 234 (by decide))))) (congrArg Int32.toInt (((hF228.1 116 10 (by decide)).trans (hF156.1 116 10 (by decide))))) (eA_ti (j := 5515) (((hF228.2.1 234 (by decide)).trans (hF156.2.1 234 (by decide))))) (congrArg Int32.toInt (((hF228.1 116 11 (by decide)).trans (hF156.1 116 11 (by decide))))) (eA_ti (j := 5516) (((hF228.2.1 234 (by decide)).trans (hF156.2.1 234 (by decide))))) (congrArg Int32.toInt (((hF228.1 116 4 (by decide)).trans (hF156.1 116 4 (by decide))))) (eA_ti (j := 5511) (((hF228.2.1 234 (by decide)).trans (hF156.2.1 234 (by decide))))) (congrArg Int32.toInt (((hF228.1 116 6 (by decide)).trans (hF156.1 116 6 (by decide))))) (eA_ti (j := 5512) (((hF228.2.1 234 (by decide)).trans (hF156.2.1 234 (by decide))))) (congrArg Int32.toInt (((hF228.1 116 9 (by decide)).trans (hF156.1 116 9 (by decide))))) (eA_ti (j := 5513) (((hF228.2.1 234 (by decide)).trans (hF156.2.1 234 (by decide))))), (show CT _ from ⟨fun i i0 i1 => ⟨(by first | (clear f177 f178 f179 f180 f181 f182 f183 f184 f185 f186 f187 f188 f189 f190 f193 f194 f195 f203 f204 f205 f206 f207 f208 f209 f210 f211 f212 f213 f214 f215 f216 f219 f220 f221 f257 f258 f259 f260 f261 f262 f263 f264 f265 f266 f267 f268 f269 f270 f273 f274 f275 f283 f284 f285 f286 f287 f288 f289 f290 f291 f292 f293 f294 f295 f296 f299 f300 f301; have t0_ := hI0.t0; have t1_ := hI0.t1; have t4_ := hI0.t4; have o := (hR_14.1 i i0 i1).1; have x := eA_ti (j := i) (((hF228.2.1 2 (by decide)).trans (hF156.2.1 2 (by decide)))); have m := q235 (10 + 3 * i) (by omega) (by omega); have y1 := eA_ti (j := ((10 + 3 * i))) (hF156.2.1 233 (by decide)); (try split at m) <;> (try split at m) <;> omega) | (have t0_ := hI0.t0; have t1_ := hI0.t1; have t4_ := hI0.t4; have o := (hR_14.1 i i0 i1).1; have x := eA_ti (j := i) (((hF228.2.1 2 (by decide)).trans (hF156.2.1 2 (by decide)))); have m := q235 (10 + 3 * i) (by omega) (by omega); have y1 := eA_ti (j := ((10 + 3 * i))) (hF156.2.1 233 (by decide)); (try split at m) <;> (try split at m) <;> omega)), (by first | (clear f177 f178 f179 f180 f181 f182 f183 f184 f185 f186 f187 f188 f189 f190 f193 f194 f195 f203 f204 f205 f206 f207 f208 f209 f210 f211 f212 f213 f214 f215 f216 f219 f220 f221 f257 f258 f259 f260 f261 f262 f263 f264 f265 f266 f267 f268 f269 f270 f273 f274 f275 f283 f284 f285 f286 f287 f288 f289 f290 f291 f292 f293 f294 f295 f296 f299 f300 f301; have t0_ := hI0.t0; have t1_ := hI0.t1; have t4_ := hI0.t4; have o := (hR_14.1 i i0 i1).2.1; have x := eA_ti (j := i) (((hF228.2.1 3 (by decide)).trans (hF156.2.1 3 (by decide)))); have m := q235 (10 + 3 * i + 1) (by omega) (by omega); have y1 := eA_ti (j := ((10 + 3 * i + 1))) (hF156.2.1 233 (by decide)); (try split at m) <;> (try split at m) <;> omega) | (have t0_ := hI0.t0; have t1_ := hI0.t1; have t4_ := hI0.t4; have o := (hR_14.1 i i0 i1).2.1; have x := eA_ti (j := i) (((hF228.2.1 3 (by decide)).trans (hF156.2.1 3 (by decide)))); have m := q235 (10 + 3 * i + 1) (by omega) (by omega); have y1 := eA_ti (j := ((10 + 3 * i + 1))) (hF156.2.1 233 (by decide)); (try split at m) <;> (try split at m) <;> omega)), (by first | (clear f177 f178 f179 f180 f181 f182 f183 f184 f185 f186 f187 f188 f189 f190 f193 f194 f195 f203 f204 f205 f206 f207 f208 f209 f210 f211 f212 f213 f214 f215 f216 f219 f220 f221 f257 f258 f259 f260 f261 f262 f263 f264 f265 f266 f267 f268 f269 f270 f273 f274 f275 f283 f284 f285 f286 f287 f288 f289 f290 f291 f292 f293 f294 f295 f296 f299 f300 f301; have t0_ := hI0.t0; have t1_ := hI0.t1; have t4_ := hI0.t4; have o := (hR_14.1 i i0 i1).2.2; have x := eA_ti (j := i) (((hF228.2.1 4 (by decide)).trans (hF156.2.1 4 (by decide)))); have m := q235 (10 + 3 * i + 2) (by omega) (by omega); have y1 := eA_ti (j := ((10 + 3 * i + 2))) (hF156.2.1 233 (by decide)); (try split at m) <;> (try split at m) <;> omega) | (have t0_ := hI0.t0; have t1_ := hI0.t1; have t4_ := hI0.t4; have o := (hR_14.1 i i0 i1).2.2; have x := eA_ti (j := i) (((hF228.2.1 4 (by decide)).trans (hF156.2.1 4 (by decide)))); have m := q235 (10 + 3 * i + 2) (by omega) (by omega); have y1 := eA_ti (j := ((10 + 3 * i + 2))) (hF156.2.1 233 (by decide)); (try split at m) <;> (try split at m) <;> omega))⟩, fun i i0 i1 => ⟨(by first | (clear f177 f178 f179 f180 f181 f182 f183 f184 f185 f186 f187 f188 f189 f190 f193 f194 f195 f203 f204 f205 f206 f207 f208 f209 f210 f211 f212 f213 f214 f215 f216 f219 f220 f221 f257 f258 f259 f260 f261 f262 f263 f264 f265 f266 f267 f268 f269 f270 f273 f274 f275 f283 f284 f285 f286 f287 f288 f289 f290 f291 f292 f293 f294 f295 f296 f299 f300 f301; have t0_ := hI0.t0; have t1_ := hI0.t1; have t4_ := hI0.t4; have o := (hR_14.2.1 i i0 i1).1; have x := (eA_ti (j := i) (hF228.2.1 14 (by decide))).trans (q163 i i0 i1); have m := q235 (94 + 2 * i) (by omega) (by omega); have y1 := eA_ti (j := ((94 + 2 * i))) (hF156.2.1 233 (by decide)); (try split at x) <;> (try split at m) <;> (try split at m) <;> omega) | (have t0_ := hI0.t0; have t1_ := hI0.t1; have t4_ := hI0.t4; have o := (hR_14.2.1 i i0 i1).1; have x := (eA_ti (j := i) (hF228.2.1 14 (by decide))).trans (q163 i i0 i1); have m := q235 (94 + 2 * i) (by omega) (by omega); have y1 := eA_ti (j := ((94 + 2 * i))) (hF156.2.1 233 (by decide)); (try split at x) <;> (try split at m) <;> (try split at m) <;> omega)), (by first | (clear f177 f178 f179 f180 f181 f182 f183 f184 f185 f186 f187 f188 f189 f190 f193 f194 f195 f203 f204 f205 f206 f207 f208 f209 f210 f211 f212 f213 f214 f215 f216 f219 f220 f221 f257 f258 f259 f260 f261 f262 f263 f264 f265 f266 f267 f268 f269 f270 f273 f274 f275 f283 f284 f285 f286 f287 f288 f289 f290 f291 f292 f293 f294 f295 f296 f299 f300 f301; have t0_ := hI0.t0; have t1_ := hI0.t1; have t4_ := hI0.t4; have o := (hR_14.2.1 i i0 i1).2; have x := (eA_ti (j := i) (hF228.2.1 15 (by decide))).trans (q164 i i0 i1); have m := q235 (94 + 2 * i + 1) (by omega) (by omega); have y1 := eA_ti (j := ((94 + 2 * i + 1))) (hF156.2.1 233 (by decide)); (try split at x) <;> (try split at m) <;> (try split at m) <;> omega) | (have t0_ := hI0.t0; have t1_ := hI0.t1; have t4_ := hI0.t4; have o := (hR_14.2.1 i i0 i1).2; have x := (eA_ti (j := i) (hF228.2.1 15 (by decide))).trans (q164 i i0 i1); have m := q235 (94 + 2 * i + 1) (by omega) (by omega); have y1 := eA_ti (j := ((94 + 2 * i + 1))) (hF156.2.1 233 (by decide)); (try split at x) <;> (try split at m) <;> (try split at m) <;> omega))⟩, fun i i0 i1 => (by first | (clear f177 f178 f179 f180 f181 f182 f183 f184 f185 f186 f187 f188 f189 f190 f193 f194 f195 f203 f204 f205 f206 f207 f208 f209 f210 f211 f212 f213 f214 f215 f216 f219 f220 f221 f257 f258 f259 f260 f261 f262 f263 f264 f265 f266 f267 f268 f269 f270 f273 f274 f275 f283 f284 f285 f286 f287 f288 f289 f290 f291 f292 f293 f294 f295 f296 f299 f300 f301; have t0_ := hI0.t0; have t1_ := hI0.t1; have t4_ := hI0.t4; have o : i < 6 * (gI g0 1 4).toInt → _ := fun hz => hR_14.2.2 i i0 hz; have x := eA_ti (j := i) (((hF228.2.1 5 (by decide)).trans (hF156.2.1 5 (by decide)))); have m := q235 (46 + i) (by omega) (by omega); have y1 := eA_ti (j := ((46 + i))) (hF156.2.1 233 (by decide)); (try split at m) <;> (try split at m) <;> omega) | (have t0_ := hI0.t0; have t1_ := hI0.t1; have t4_ := hI0.t4; have o : i < 6 * (gI g0 1 4).toInt → _ := fun hz => hR_14.2.2 i i0 hz; have x := eA_ti (j := i) (((hF228.2.1 5 (by decide)).trans (hF156.2.1 5 (by decide)))); have m := q235 (46 + i) (by omega) (by omega); have y1 := eA_ti (j := ((46 + i))) (hF156.2.1 233 (by decide)); (try split at m) <;> (try split at m) <;> omega))⟩), CI0.cong hR_15 (((hF228.2.1 60 (by decide)).trans (hF156.2.1 60 (by decide)))) (((hF228.2.1 61 (by decide)).trans (hF156.2.1 61 (by decide)))) (((hF228.2.1 62 (by decide)).trans (hF156.2.1 62 (by decide)))) (((hF228.2.1 72 (by decide)).trans (hF156.2.1 72 (by decide)))) (((hF228.2.1 73 (by decide)).trans (hF156.2.1 73 (by decide)))) (((hF228.2.1 63 (by decide)).trans (hF156.2.1 63 (by decide)))) (((hF228.2.1 234 (by decide)).trans (hF156.2.1 234 (by decide)))) (congrArg Int32.toInt (((hF228.1 59 4 (by decide)).trans (hF156.1 59 4 (by decide))))), CI1.cong hR_16 (((hF228.2.1 117 (by decide)).trans (hF156.2.1 117 (by decide)))) (((hF228.2.1 118 (by decide)).trans (hF156.2.1 118 (by decide)))) (((hF228.2.1 119 (by decide)).trans (hF156.2.1 119 (by decide)))) (((hF228.2.1 129 (by decide)).trans (hF156.2.1 129 (by decide)))) (((hF228.2.1 130 (by decide)).trans (hF156.2.1 130 (by decide)))) (((hF228.2.1 120 (by decide)).trans (hF156.2.1 120 (by decide)))) (((hF228.2.1 234 (by decide)).trans (hF156.2.1 234 (by decide)))) (congrArg Int32.toInt (((hF228.1 116 4 (by decide)).trans (hF156.1 116 4 (by decide))))), (show RT _ from fun i i0 i1 => (eA_ti (((hF228.2.1 175 (by decide)).trans (hF156.2.1 175 (by decide))))).trans ((hR_17 i i0 (by omega)).trans (eA_ti (((hF228.2.1 236 (by decide)).trans (hF156.2.1 236 (by decide))))).symm)), (show BYX _ from fun i i0 i1 => by rw [TX.c (((hF228.2.1 175 (by decide)).trans (hF156.2.1 175 (by decide))))]; exact hR_18 i i0 (by have i2 : i < (gI _ 174 1).toInt := i1; show i < (gI g0 174 1).toInt; omega)), (LAWR_c hR_19 (LSA_tr (LSA_tr LSA_rf (LSA_fr hF156 rfl)) (LSA_fr hF228 rfl)) (((hF228.1 1 6 (by decide)).trans (hF156.1 1 6 (by decide)))) (((hF228.1 59 6 (by decide)).trans (hF156.1 59 6 (by decide)))) (((hF228.1 116 6 (by decide)).trans (hF156.1 116 6 (by decide)))) (((hF228.2.1 173 (by decide)).trans (hF156.2.1 173 (by decide)))) (fun i i0 i1 => (R3_sign hI155 q235 i i0 i1).trans (eA_ti (hF156.2.1 233 (by decide)))) (((hF228.2.1 234 (by decide)).trans (hF156.2.1 234 (by decide)))) (TOLDX_fr hF228 rfl rfl rfl rfl (TOLDX_fr hF156 rfl rfl rfl rfl hR_19.2.2.2.2))), (SETX_fr hF228 rfl rfl rfl rfl rfl (SETX_fr hF156 rfl rfl rfl rfl rfl hR_20))⟩)
  · refine r_callV 1104 rfl [.ref 0, .int v2, .int v4] [] (Nat.le_of_ble_eq_true rfl) rfl (T_X10_sign_0 _ hI0 v2 v4) ?_
    rintro _ _ ⟨g302, rfl, hI303, hF304, v305, rfl, hr306⟩
    refine At.sti ?_
    have hF307 := Fr.tr hF0 hF304 rfl rfl
    obtain ⟨q309, q310, q311, q312⟩ := hr306
    obtain ⟨i314, i315, i316, i317⟩ := q310
    have w313 := i316 ⟨pk5.1, pk5.2.1, pk5.2.2⟩
    clear i314 i315 i316 i317
    have f318 := congrArg Int32.toInt (hF304.1 1 0 rfl)
    have f320 := congrArg Int32.toInt (hF304.1 1 10 rfl)
    have f321 := congrArg Int32.toInt (hF304.1 1 11 rfl)
    have f322 := congrArg Int32.toInt (hF304.1 1 4 rfl)
    have f323 := congrArg Int32.toInt (hF304.1 1 6 rfl)
    have f324 := congrArg Int32.toInt (hF304.1 1 9 rfl)
    have f325 := congrArg Int32.toInt (hF304.1 59 0 rfl)
    have f326 := congrArg Int32.toInt (hF304.1 59 12 rfl)
    have f327 := congrArg Int32.toInt (hF304.1 59 10 rfl)
    have f328 := congrArg Int32.toInt (hF304.1 59 11 rfl)
    have f329 := congrArg Int32.toInt (hF304.1 59 4 rfl)
    have f330 := congrArg Int32.toInt (hF304.1 59 6 rfl)
    have f331 := congrArg Int32.toInt (hF304.1 59 9 rfl)
    have f332 := congrArg Int32.toInt (hF304.1 116 0 rfl)
    have f333 := congrArg Int32.toInt (hF304.1 116 12 rfl)
    have f334 := congrArg Int32.toInt (hF304.1 116 10 rfl)
    have f335 := congrArg Int32.toInt (hF304.1 116 11 rfl)
    have f336 := congrArg Int32.toInt (hF304.1 116 4 rfl)
    have f337 := congrArg Int32.toInt (hF304.1 116 6 rfl)
    have f338 := congrArg Int32.toInt (hF304.1 116 9 rfl)
    have f339 := congrArg Int32.toInt (eA_c (j := 0) (hF304.2.1 173 rfl))
    have f340 := congrArg Int32.toInt (eA_c (j := 1) (hF304.2.1 173 rfl))
    have f341 := congrArg Int32.toInt (hF304.1 174 1 rfl)
    have f342 := congrArg Int32.toInt (hF304.1 0 16 rfl)
    have f343 := congrArg Int32.toInt (hF304.1 176 2 rfl)
    have f344 := congrArg Int32.toInt (eA_c (j := 0) (hF304.2.1 233 rfl))
    have f345 := congrArg Int32.toInt (eA_c (j := 4) (hF304.2.1 233 rfl))
    have f346 := congrArg Int32.toInt (eA_c (j := 5) (hF304.2.1 233 rfl))
    have f347 := congrArg Int32.toInt (eA_c (j := 6) (hF304.2.1 233 rfl))
    have f348 := congrArg Int32.toInt (eA_c (j := 1) (hF304.2.1 233 rfl))
    have f349 := congrArg Int32.toInt (eA_c (j := 2) (hF304.2.1 233 rfl))
    have f350 := congrArg Int32.toInt (eA_c (j := 3) (hF304.2.1 233 rfl))
    have f351 := congrArg Int32.toInt (eA_c (j := 0) (hF304.2.1 234 rfl))
    have f352 := congrArg Int32.toInt (eA_c (j := 4) (hF304.2.1 234 rfl))
    have f353 := congrArg Int32.toInt (eA_c (j := 5) (hF304.2.1 234 rfl))
    have f354 := congrArg Int32.toInt (eA_c (j := 6) (hF304.2.1 234 rfl))
    have f355 := congrArg Int32.toInt (eA_c (j := 1) (hF304.2.1 234 rfl))
    have f356 := congrArg Int32.toInt (eA_c (j := 2) (hF304.2.1 234 rfl))
    have f357 := congrArg Int32.toInt (eA_c (j := 3) (hF304.2.1 234 rfl))
    have f358 := congrArg Int32.toInt (eA_c (j := 5510) (hF304.2.1 234 rfl))
    have f359 := congrArg Int32.toInt (eA_c (j := 5514) (hF304.2.1 234 rfl))
    have f360 := congrArg Int32.toInt (eA_c (j := 5515) (hF304.2.1 234 rfl))
    have f361 := congrArg Int32.toInt (eA_c (j := 5516) (hF304.2.1 234 rfl))
    have f362 := congrArg Int32.toInt (eA_c (j := 5511) (hF304.2.1 234 rfl))
    have f363 := congrArg Int32.toInt (eA_c (j := 5512) (hF304.2.1 234 rfl))
    have f364 := congrArg Int32.toInt (eA_c (j := 5513) (hF304.2.1 234 rfl))
    have f365 := congrArg Int32.toInt (eA_c (j := 0) (hF304.2.1 235 rfl))
    have f366 := congrArg Int32.toInt (eA_c (j := 1) (hF304.2.1 235 rfl))
    have f367 := congrArg Int32.toInt (hF304.1 231 8 rfl)
    have f368 := congrArg Int32.toInt (hF304.1 231 6 rfl)
    have f369 := congrArg Int32.toInt (hF304.1 231 13 rfl)
    refine At.enter rfl ?_
    refine r_pop rfl ?_
    refine r_aload_n e2 ?_
    refine r_sload_n e0 ?_
    refine r_iload_n e3 ?_
    refine r_iconst 1 rfl ?_
    refine q_iadd (i.toInt + 1) rfl hx_1 (fun v370 hv370 => ?_)
    refine q_scald (m := L) hL (i.toInt + 1) hv370 hy_1 (fun v371 hv371 => ?_)
    have sv371 := hv2.symm.trans hv371
    subst sv371
    refine r_sload_n e0 ?_
    refine r_iload_n e3 ?_
    refine r_iconst 2 rfl ?_
    refine q_iadd (i.toInt + 2) rfl hx_2 (fun v372 hv372 => ?_)
    refine q_scald (m := L) hL (i.toInt + 2) hv372 hy_2 (fun v373 hv373 => ?_)
    have sv373 := hv4.symm.trans hv373
    subst sv373
    refine r_callV 1119 rfl [.ref 231, .int v2, .int v4] [] (Nat.le_of_ble_eq_true rfl) rfl (T_X11_sign_231 _ hI303 v2 v4) ?_
    rintro _ _ ⟨g374, rfl, hI375, hF376, v377, rfl, hr378⟩
    refine At.sti ?_
    have hF379 := Fr.tr hF307 hF376 rfl rfl
    obtain ⟨q381, q382, q383⟩ := hr378
    have ek395 : (eA g302 233 0).toInt = (gI g0 1 0).toInt := (eA_ti (j := 0) (hF304.2.1 233 (by decide))).trans hR_0.symm
    have ek396 : (eA g302 233 1).toInt = (gI g0 1 4).toInt := (eA_ti (j := 1) (hF304.2.1 233 (by decide))).trans hR_4.symm
    have ek397 : (eA g302 233 4).toInt = (gI g0 1 12).toInt := (eA_ti (j := 4) (hF304.2.1 233 (by decide))).trans hR_1.symm
    obtain ⟨⟨i385, i386, i387, i388⟩, sm389, sm390, sm391, sm392, sm393, sm394⟩ := q382
    have w384 := i387 ⟨pk5.1, (by rw [ek395]; exact pk5.2.1), (by rw [ek397]; exact pk5.2.2)⟩
    clear i385 i386 i387 i388
    have f398 := congrArg Int32.toInt (hF376.1 1 0 rfl)
    have f399 := congrArg Int32.toInt (hF376.1 1 12 rfl)
    have f400 := congrArg Int32.toInt (hF376.1 1 10 rfl)
    have f401 := congrArg Int32.toInt (hF376.1 1 11 rfl)
    have f402 := congrArg Int32.toInt (hF376.1 1 4 rfl)
    have f403 := congrArg Int32.toInt (hF376.1 1 6 rfl)
    have f404 := congrArg Int32.toInt (hF376.1 1 9 rfl)
    have f405 := congrArg Int32.toInt (hF376.1 59 0 rfl)
    have f406 := congrArg Int32.toInt (hF376.1 59 12 rfl)
    have f407 := congrArg Int32.toInt (hF376.1 59 10 rfl)
    have f408 := congrArg Int32.toInt (hF376.1 59 11 rfl)
    have f409 := congrArg Int32.toInt (hF376.1 59 4 rfl)
    have f410 := congrArg Int32.toInt (hF376.1 59 6 rfl)
    have f411 := congrArg Int32.toInt (hF376.1 59 9 rfl)
    have f412 := congrArg Int32.toInt (hF376.1 116 0 rfl)
    have f413 := congrArg Int32.toInt (hF376.1 116 12 rfl)
    have f414 := congrArg Int32.toInt (hF376.1 116 10 rfl)
    have f415 := congrArg Int32.toInt (hF376.1 116 11 rfl)
    have f416 := congrArg Int32.toInt (hF376.1 116 4 rfl)
    have f417 := congrArg Int32.toInt (hF376.1 116 6 rfl)
    have f418 := congrArg Int32.toInt (hF376.1 116 9 rfl)
    have f419 := congrArg Int32.toInt (eA_c (j := 0) (hF376.2.1 173 rfl))
    have f420 := congrArg Int32.toInt (eA_c (j := 1) (hF376.2.1 173 rfl))
    have f421 := congrArg Int32.toInt (hF376.1 174 1 rfl)
    have f422 := congrArg Int32.toInt (hF376.1 0 16 rfl)
    have f423 := congrArg Int32.toInt (hF376.1 176 2 rfl)
    have f431 := congrArg Int32.toInt (eA_c (j := 0) (hF376.2.1 234 rfl))
    have f432 := congrArg Int32.toInt (eA_c (j := 4) (hF376.2.1 234 rfl))
    have f433 := congrArg Int32.toInt (eA_c (j := 5) (hF376.2.1 234 rfl))
    have f434 := congrArg Int32.toInt (eA_c (j := 6) (hF376.2.1 234 rfl))
    have f435 := congrArg Int32.toInt (eA_c (j := 1) (hF376.2.1 234 rfl))
    have f436 := congrArg Int32.toInt (eA_c (j := 2) (hF376.2.1 234 rfl))
    have f437 := congrArg Int32.toInt (eA_c (j := 3) (hF376.2.1 234 rfl))
    have f438 := congrArg Int32.toInt (eA_c (j := 5510) (hF376.2.1 234 rfl))
    have f439 := congrArg Int32.toInt (eA_c (j := 5514) (hF376.2.1 234 rfl))
    have f440 := congrArg Int32.toInt (eA_c (j := 5515) (hF376.2.1 234 rfl))
    have f441 := congrArg Int32.toInt (eA_c (j := 5516) (hF376.2.1 234 rfl))
    have f442 := congrArg Int32.toInt (eA_c (j := 5511) (hF376.2.1 234 rfl))
    have f443 := congrArg Int32.toInt (eA_c (j := 5512) (hF376.2.1 234 rfl))
    have f444 := congrArg Int32.toInt (eA_c (j := 5513) (hF376.2.1 234 rfl))
    have f445 := congrArg Int32.toInt (eA_c (j := 0) (hF376.2.1 235 rfl))
    have f446 := congrArg Int32.toInt (eA_c (j := 1) (hF376.2.1 235 rfl))
    have f447 := congrArg Int32.toInt (hF376.1 231 8 rfl)
    have f448 := congrArg Int32.toInt (hF376.1 231 6 rfl)
    have f449 := congrArg Int32.toInt (hF376.1 231 13 rfl)
    refine At.enter rfl ?_
    refine r_pop rfl ?_
    refine r_goto ?_
    exact K _ hI375 (show LwR _ from ⟨by first | (clear f320 f321 f322 f323 f324 f325 f326 f327 f328 f329 f330 f331 f332 f333 f334 f335 f336 f337 f338 f339 f340 f341 f342 f343 f345 f346 f347 f348 f349 f350 f351 f352 f353 f354 f355 f356 f357 f358 f359 f360 f361 f362 f363 f364 f365 f366 f367 f368 f369 f399 f400 f401 f402 f403 f404 f405 f406 f407 f408 f409 f410 f411 f412 f413 f414 f415 f416 f417 f418 f419 f420 f421 f422 f423 f431 f432 f433 f434 f435 f436 f437 f438 f439 f440 f441 f442 f443 f444 f445 f446 f447 f448 f449; omega) | omega, by first | (clear f318 f320 f321 f322 f323 f324 f325 f326 f327 f328 f329 f330 f331 f332 f333 f334 f335 f336 f337 f338 f339 f340 f341 f342 f343 f344 f346 f347 f348 f349 f350 f351 f352 f353 f354 f355 f356 f357 f358 f359 f360 f361 f362 f363 f364 f365 f366 f367 f368 f369 f398 f400 f401 f402 f403 f404 f405 f406 f407 f408 f409 f410 f411 f412 f413 f414 f415 f416 f417 f418 f419 f420 f421 f422 f423 f431 f432 f433 f434 f435 f436 f437 f438 f439 f440 f441 f442 f443 f444 f445 f446 f447 f448 f449; omega) | omega, by first | (clear f318 f321 f322 f323 f324 f325 f326 f327 f328 f329 f330 f331 f332 f333 f334 f335 f336 f337 f338 f339 f340 f341 f342 f343 f344 f345 f347 f348 f349 f350 f351 f352 f353 f354 f355 f356 f357 f358 f359 f360 f361 f362 f363 f364 f365 f366 f367 f368 f369 f398 f399 f401 f402 f403 f404 f405 f406 f407 f408 f409 f410 f411 f412 f413 f414 f415 f416 f417 f418 f419 f420 f421 f422 f423 f431 f432 f433 f434 f435 f436 f437 f438 f439 f440 f441 f442 f443 f444 f445 f446 f447 f448 f449; omega) | omega, by first | (clear f318 f320 f322 f323 f324 f325 f326 f327 f328 f329 f330 f331 f332 f333 f334 f335 f336 f337 f338 f339 f340 f341 f342 f343 f344 f345 f346 f348 f349 f350 f351 f352 f353 f354 f355 f356 f357 f358 f359 f360 f361 f362 f363 f364 f365 f366 f367 f368 f369 f398 f399 f400 f402 f403 f404 f405 f406 f407 f408 f409 f410 f411 f412 f413 f414 f415 f416 f417 f418 f419 f420 f421 f422 f423 f431 f432 f433 f434 f435 f436 f437 f438 f439 f440 f441 f442 f443 f444 f445 f446 f447 f448 f449; omega) | omega, by first | (clear f318 f320 f321 f323 f324 f325 f326 f327 f328 f329 f330 f331 f332 f333 f334 f335 f336 f337 f338 f339 f340 f341 f342 f343 f344 f345 f346 f347 f349 f350 f351 f352 f353 f354 f355 f356 f357 f358 f359 f360 f361 f362 f363 f364 f365 f366 f367 f368 f369 f398 f399 f400 f401 f403 f404 f405 f406 f407 f408 f409 f410 f411 f412 f413 f414 f415 f416 f417 f418 f419 f420 f421 f422 f423 f431 f432 f433 f434 f435 f436 f437 f438 f439 f440 f441 f442 f443 f444 f445 f446 f447 f448 f449; omega) | omega, by first | (clear f318 f320 f321 f322 f324 f325 f326 f327 f328 f329 f330 f331 f332 f333 f334 f335 f336 f337 f338 f339 f340 f341 f342 f343 f344 f345 f346 f347 f348 f350 f351 f352 f353 f354 f355 f356 f357 f358 f359 f360 f361 f362 f363 f364 f365 f366 f367 f368 f369 f398 f399 f400 f401 f402 f404 f405 f406 f407 f408 f409 f410 f411 f412 f413 f414 f415 f416 f417 f418 f419 f420 f421 f422 f423 f431 f432 f433 f434 f435 f436 f437 f438 f439 f440 f441 f442 f443 f444 f445 f446 f447 f448 f449; omega) | omega, by first | (clear f318 f320 f321 f322 f323 f325 f326 f327 f328 f329 f330 f331 f332 f333 f334 f335 f336 f337 f338 f339 f340 f341 f342 f343 f344 f345 f346 f347 f348 f349 f351 f352 f353 f354 f355 f356 f357 f358 f359 f360 f361 f362 f363 f364 f365 f366 f367 f368 f369 f398 f399 f400 f401 f402 f403 f405 f406 f407 f408 f409 f410 f411 f412 f413 f414 f415 f416 f417 f418 f419 f420 f421 f422 f423 f431 f432 f433 f434 f435 f436 f437 f438 f439 f440 f441 f442 f443 f444 f445 f446 f447 f448 f449; omega) | omega, (eA_ti (j := 0) (((hF376.2.1 173 (by decide)).trans (hF304.2.1 173 (by decide))))).trans (hR_7.trans (eA_ti (j := 0) (((hF376.2.1 235 (by decide)).trans (hF304.2.1 235 (by decide))))).symm), (eA_ti (j := 1) (((hF376.2.1 173 (by decide)).trans (hF304.2.1 173 (by decide))))).trans (hR_8.trans (eA_ti (j := 1) (((hF376.2.1 235 (by decide)).trans (hF304.2.1 235 (by decide))))).symm), (congrArg Int32.toInt (((hF376.1 174 1 (by decide)).trans (hF304.1 174 1 (by decide))))).trans (hR_9.trans (congrArg Int32.toInt (((hF376.1 231 8 (by decide)).trans (hF304.1 231 8 (by decide))))).symm), (congrArg Int32.toInt (((hF376.1 0 16 (by decide)).trans (hF304.1 0 16 (by decide))))).trans (hR_10.trans (congrArg Int32.toInt (((hF376.1 231 6 (by decide)).trans (hF304.1 231 6 (by decide))))).symm), (congrArg Int32.toInt (((hF376.1 176 2 (by decide)).trans (hF304.1 176 2 (by decide))))).trans (hR_11.trans (congrArg Int32.toInt (((hF376.1 231 13 (by decide)).trans (hF304.1 231 13 (by decide))))).symm), IM0.cong hR_12 (eA_ti (j := 0) (((hF376.2.1 173 (by decide)).trans (hF304.2.1 173 (by decide))))) (congrArg Int32.toInt (((hF376.1 59 0 (by decide)).trans (hF304.1 59 0 (by decide))))) (eA_ti (j := 0) (((hF376.2.1 234 (by decide)).trans (hF304.2.1 234 (by decide))))) (congrArg Int32.toInt (((hF376.1 59 12 (by decide)).trans (hF304.1 59 12 (by decide))))) (eA_ti (j := 4) (((hF376.2.1 234 (by decide)).trans (hF304.2.1 234 (by decide))))) (congrArg Int32.toInt (((hF376.1 59 10 (by decide)).trans (hF304.1 59 10 (by decide))))) (eA_ti (j := 5) (((hF376.2.1 234 (by decide)).trans (hF304.2.1 234 (by decide))))) (congrArg Int32.toInt (((hF376.1 59 11 (by decide)).trans (hF304.1 59 11 (by decide))))) (eA_ti (j := 6) (((hF376.2.1 234 (by decide)).trans (hF304.2.1 234 (by decide))))) (congrArg Int32.toInt (((hF376.1 59 4 (by decide)).trans (hF304.1 59 4 (by decide))))) (eA_ti (j := 1) (((hF376.2.1 234 (by decide)).trans (hF304.2.1 234 (by decide))))) (congrArg Int32.toInt (((hF376.1 59 6 (by decide)).trans (hF304.1 59 6 (by decide))))) (eA_ti (j := 2) (((hF376.2.1 234 (by decide)).trans (hF304.2.1 234 (by decide))))) (congrArg Int32.toInt (((hF376.1 59 9 (by decide)).trans (hF304.1 59 9 (by decide))))) (eA_ti (j := 3) (((hF376.2.1 234 (by decide)).trans (hF304.2.1 234 (by decide))))), IM1.cong hR_13 (eA_ti (j := 1) (((hF376.2.1 173 (by decide)).trans (hF304.2.1 173 (by decide))))) (congrArg Int32.toInt (((hF376.1 116 0 (by decide)).trans (hF304.1 116 0 (by decide))))) (eA_ti (j := 5510) (((hF376.2.1 234 (by decide)).trans (hF304.2.1 234 (by decide))))) (congrArg Int32.toInt (((hF376.1 116 12 (by decide)).trans (hF304.1 116 12 (by decide))))) (eA_ti (j := 5514) (((hF376.2.1 234 (by decide)).trans (hF304.2.1 234 (by decide))))) (congrArg Int32.toInt (((hF376.1 116 10 (by decide)).trans (hF304.1 116 10 (by decide))))) (eA_ti (j := 5515) (((hF376.2.1 234 (by decide)).trans (hF304.2.1 234 (by decide))))) (congrArg Int32.toInt (((hF376.1 116 11 (by decide)).trans (hF304.1 116 11 (by decide))))) (eA_ti (j := 5516) (((hF376.2.1 234 (by decide)).trans (hF304.2.1 234 (by decide))))) (congrArg Int32.toInt (((hF376.1 116 4 (by decide)).trans (hF304.1 116 4 (by decide))))) (eA_ti (j := 5511) (((hF376.2.1 234 (by decide)).trans (hF304.2.1 234 (by decide))))) (congrArg Int32.toInt (((hF376.1 116 6 (by decide)).trans (hF304.1 116 6 (by decide))))) (eA_ti (j := 5512) (((hF376.2.1 234 (by decide)).trans (hF304.2.1 234 (by decide))))) (congrArg Int32.toInt (((hF376.1 116 9 (by decide)).trans (hF304.1 116 9 (by decide))))) (eA_ti (j := 5513) (((hF376.2.1 234 (by decide)).trans (hF304.2.1 234 (by decide))))), (show CT _ from ⟨fun i i0 i1 => ⟨(by first | (clear f325 f326 f327 f328 f329 f330 f331 f332 f333 f334 f335 f336 f337 f338 f341 f342 f343 f351 f352 f353 f354 f355 f356 f357 f358 f359 f360 f361 f362 f363 f364 f367 f368 f369 f405 f406 f407 f408 f409 f410 f411 f412 f413 f414 f415 f416 f417 f418 f421 f422 f423 f431 f432 f433 f434 f435 f436 f437 f438 f439 f440 f441 f442 f443 f444 f447 f448 f449; have t0_ := hI0.t0; have t1_ := hI0.t1; have t4_ := hI0.t4; have o := (hR_14.1 i i0 i1).1; have x := eA_ti (j := i) (((hF376.2.1 2 (by decide)).trans (hF304.2.1 2 (by decide)))); have m := q383 (10 + 3 * i) (by omega) (by omega); have y1 := eA_ti (j := ((10 + 3 * i))) (hF304.2.1 233 (by decide)); (try split at m) <;> (try split at m) <;> omega) | (have t0_ := hI0.t0; have t1_ := hI0.t1; have t4_ := hI0.t4; have o := (hR_14.1 i i0 i1).1; have x := eA_ti (j := i) (((hF376.2.1 2 (by decide)).trans (hF304.2.1 2 (by decide)))); have m := q383 (10 + 3 * i) (by omega) (by omega); have y1 := eA_ti (j := ((10 + 3 * i))) (hF304.2.1 233 (by decide)); (try split at m) <;> (try split at m) <;> omega)), (by first | (clear f325 f326 f327 f328 f329 f330 f331 f332 f333 f334 f335 f336 f337 f338 f341 f342 f343 f351 f352 f353 f354 f355 f356 f357 f358 f359 f360 f361 f362 f363 f364 f367 f368 f369 f405 f406 f407 f408 f409 f410 f411 f412 f413 f414 f415 f416 f417 f418 f421 f422 f423 f431 f432 f433 f434 f435 f436 f437 f438 f439 f440 f441 f442 f443 f444 f447 f448 f449; have t0_ := hI0.t0; have t1_ := hI0.t1; have t4_ := hI0.t4; have o := (hR_14.1 i i0 i1).2.1; have x := eA_ti (j := i) (((hF376.2.1 3 (by decide)).trans (hF304.2.1 3 (by decide)))); have m := q383 (10 + 3 * i + 1) (by omega) (by omega); have y1 := eA_ti (j := ((10 + 3 * i + 1))) (hF304.2.1 233 (by decide)); (try split at m) <;> (try split at m) <;> omega) | (have t0_ := hI0.t0; have t1_ := hI0.t1; have t4_ := hI0.t4; have o := (hR_14.1 i i0 i1).2.1; have x := eA_ti (j := i) (((hF376.2.1 3 (by decide)).trans (hF304.2.1 3 (by decide)))); have m := q383 (10 + 3 * i + 1) (by omega) (by omega); have y1 := eA_ti (j := ((10 + 3 * i + 1))) (hF304.2.1 233 (by decide)); (try split at m) <;> (try split at m) <;> omega)), (by first | (clear f325 f326 f327 f328 f329 f330 f331 f332 f333 f334 f335 f336 f337 f338 f341 f342 f343 f351 f352 f353 f354 f355 f356 f357 f358 f359 f360 f361 f362 f363 f364 f367 f368 f369 f405 f406 f407 f408 f409 f410 f411 f412 f413 f414 f415 f416 f417 f418 f421 f422 f423 f431 f432 f433 f434 f435 f436 f437 f438 f439 f440 f441 f442 f443 f444 f447 f448 f449; have t0_ := hI0.t0; have t1_ := hI0.t1; have t4_ := hI0.t4; have o := (hR_14.1 i i0 i1).2.2; have x := eA_ti (j := i) (((hF376.2.1 4 (by decide)).trans (hF304.2.1 4 (by decide)))); have m := q383 (10 + 3 * i + 2) (by omega) (by omega); have y1 := eA_ti (j := ((10 + 3 * i + 2))) (hF304.2.1 233 (by decide)); (try split at m) <;> (try split at m) <;> omega) | (have t0_ := hI0.t0; have t1_ := hI0.t1; have t4_ := hI0.t4; have o := (hR_14.1 i i0 i1).2.2; have x := eA_ti (j := i) (((hF376.2.1 4 (by decide)).trans (hF304.2.1 4 (by decide)))); have m := q383 (10 + 3 * i + 2) (by omega) (by omega); have y1 := eA_ti (j := ((10 + 3 * i + 2))) (hF304.2.1 233 (by decide)); (try split at m) <;> (try split at m) <;> omega))⟩, fun i i0 i1 => ⟨(by first | (clear f325 f326 f327 f328 f329 f330 f331 f332 f333 f334 f335 f336 f337 f338 f341 f342 f343 f351 f352 f353 f354 f355 f356 f357 f358 f359 f360 f361 f362 f363 f364 f367 f368 f369 f405 f406 f407 f408 f409 f410 f411 f412 f413 f414 f415 f416 f417 f418 f421 f422 f423 f431 f432 f433 f434 f435 f436 f437 f438 f439 f440 f441 f442 f443 f444 f447 f448 f449; have t0_ := hI0.t0; have t1_ := hI0.t1; have t4_ := hI0.t4; have o := (hR_14.2.1 i i0 i1).1; have x := (eA_ti (j := i) (hF376.2.1 14 (by decide))).trans (q311 i i0 i1); have m := q383 (94 + 2 * i) (by omega) (by omega); have y1 := eA_ti (j := ((94 + 2 * i))) (hF304.2.1 233 (by decide)); (try split at x) <;> (try split at m) <;> (try split at m) <;> omega) | (have t0_ := hI0.t0; have t1_ := hI0.t1; have t4_ := hI0.t4; have o := (hR_14.2.1 i i0 i1).1; have x := (eA_ti (j := i) (hF376.2.1 14 (by decide))).trans (q311 i i0 i1); have m := q383 (94 + 2 * i) (by omega) (by omega); have y1 := eA_ti (j := ((94 + 2 * i))) (hF304.2.1 233 (by decide)); (try split at x) <;> (try split at m) <;> (try split at m) <;> omega)), (by first | (clear f325 f326 f327 f328 f329 f330 f331 f332 f333 f334 f335 f336 f337 f338 f341 f342 f343 f351 f352 f353 f354 f355 f356 f357 f358 f359 f360 f361 f362 f363 f364 f367 f368 f369 f405 f406 f407 f408 f409 f410 f411 f412 f413 f414 f415 f416 f417 f418 f421 f422 f423 f431 f432 f433 f434 f435 f436 f437 f438 f439 f440 f441 f442 f443 f444 f447 f448 f449; have t0_ := hI0.t0; have t1_ := hI0.t1; have t4_ := hI0.t4; have o := (hR_14.2.1 i i0 i1).2; have x := (eA_ti (j := i) (hF376.2.1 15 (by decide))).trans (q312 i i0 i1); have m := q383 (94 + 2 * i + 1) (by omega) (by omega); have y1 := eA_ti (j := ((94 + 2 * i + 1))) (hF304.2.1 233 (by decide)); (try split at x) <;> (try split at m) <;> (try split at m) <;> omega) | (have t0_ := hI0.t0; have t1_ := hI0.t1; have t4_ := hI0.t4; have o := (hR_14.2.1 i i0 i1).2; have x := (eA_ti (j := i) (hF376.2.1 15 (by decide))).trans (q312 i i0 i1); have m := q383 (94 + 2 * i + 1) (by omega) (by omega); have y1 := eA_ti (j := ((94 + 2 * i + 1))) (hF304.2.1 233 (by decide)); (try split at x) <;> (try split at m) <;> (try split at m) <;> omega))⟩, fun i i0 i1 => (by first | (clear f325 f326 f327 f328 f329 f330 f331 f332 f333 f334 f335 f336 f337 f338 f341 f342 f343 f351 f352 f353 f354 f355 f356 f357 f358 f359 f360 f361 f362 f363 f364 f367 f368 f369 f405 f406 f407 f408 f409 f410 f411 f412 f413 f414 f415 f416 f417 f418 f421 f422 f423 f431 f432 f433 f434 f435 f436 f437 f438 f439 f440 f441 f442 f443 f444 f447 f448 f449; have t0_ := hI0.t0; have t1_ := hI0.t1; have t4_ := hI0.t4; have o : i < 6 * (gI g0 1 4).toInt → _ := fun hz => hR_14.2.2 i i0 hz; have x := eA_ti (j := i) (((hF376.2.1 5 (by decide)).trans (hF304.2.1 5 (by decide)))); have m := q383 (46 + i) (by omega) (by omega); have y1 := eA_ti (j := ((46 + i))) (hF304.2.1 233 (by decide)); (try split at m) <;> (try split at m) <;> omega) | (have t0_ := hI0.t0; have t1_ := hI0.t1; have t4_ := hI0.t4; have o : i < 6 * (gI g0 1 4).toInt → _ := fun hz => hR_14.2.2 i i0 hz; have x := eA_ti (j := i) (((hF376.2.1 5 (by decide)).trans (hF304.2.1 5 (by decide)))); have m := q383 (46 + i) (by omega) (by omega); have y1 := eA_ti (j := ((46 + i))) (hF304.2.1 233 (by decide)); (try split at m) <;> (try split at m) <;> omega))⟩), CI0.cong hR_15 (((hF376.2.1 60 (by decide)).trans (hF304.2.1 60 (by decide)))) (((hF376.2.1 61 (by decide)).trans (hF304.2.1 61 (by decide)))) (((hF376.2.1 62 (by decide)).trans (hF304.2.1 62 (by decide)))) (((hF376.2.1 72 (by decide)).trans (hF304.2.1 72 (by decide)))) (((hF376.2.1 73 (by decide)).trans (hF304.2.1 73 (by decide)))) (((hF376.2.1 63 (by decide)).trans (hF304.2.1 63 (by decide)))) (((hF376.2.1 234 (by decide)).trans (hF304.2.1 234 (by decide)))) (congrArg Int32.toInt (((hF376.1 59 4 (by decide)).trans (hF304.1 59 4 (by decide))))), CI1.cong hR_16 (((hF376.2.1 117 (by decide)).trans (hF304.2.1 117 (by decide)))) (((hF376.2.1 118 (by decide)).trans (hF304.2.1 118 (by decide)))) (((hF376.2.1 119 (by decide)).trans (hF304.2.1 119 (by decide)))) (((hF376.2.1 129 (by decide)).trans (hF304.2.1 129 (by decide)))) (((hF376.2.1 130 (by decide)).trans (hF304.2.1 130 (by decide)))) (((hF376.2.1 120 (by decide)).trans (hF304.2.1 120 (by decide)))) (((hF376.2.1 234 (by decide)).trans (hF304.2.1 234 (by decide)))) (congrArg Int32.toInt (((hF376.1 116 4 (by decide)).trans (hF304.1 116 4 (by decide))))), (show RT _ from fun i i0 i1 => (eA_ti (((hF376.2.1 175 (by decide)).trans (hF304.2.1 175 (by decide))))).trans ((hR_17 i i0 (by omega)).trans (eA_ti (((hF376.2.1 236 (by decide)).trans (hF304.2.1 236 (by decide))))).symm)), (show BYX _ from fun i i0 i1 => by rw [TX.c (((hF376.2.1 175 (by decide)).trans (hF304.2.1 175 (by decide))))]; exact hR_18 i i0 (by have i2 : i < (gI _ 174 1).toInt := i1; show i < (gI g0 174 1).toInt; omega)), (LAWR_c hR_19 (LSA_tr (LSA_tr LSA_rf (LSA_fr hF304 rfl)) (LSA_fr hF376 rfl)) (((hF376.1 1 6 (by decide)).trans (hF304.1 1 6 (by decide)))) (((hF376.1 59 6 (by decide)).trans (hF304.1 59 6 (by decide)))) (((hF376.1 116 6 (by decide)).trans (hF304.1 116 6 (by decide)))) (((hF376.2.1 173 (by decide)).trans (hF304.2.1 173 (by decide)))) (fun i i0 i1 => (R3_sign hI303 q383 i i0 i1).trans (eA_ti (hF304.2.1 233 (by decide)))) (((hF376.2.1 234 (by decide)).trans (hF304.2.1 234 (by decide)))) (TOLDX_fr hF376 rfl rfl rfl rfl (TOLDX_fr hF304 rfl rfl rfl rfl hR_19.2.2.2.2))), (SETX_fr hF376 rfl rfl rfl rfl rfl (SETX_fr hF304 rfl rfl rfl rfl rfl hR_20))⟩)
  · refine r_callV 1104 rfl [.ref 0, .int v2, .int v4] [] (Nat.le_of_ble_eq_true rfl) rfl (T_X10_sign_0 _ hI0 v2 v4) ?_
    rintro _ _ ⟨g450, rfl, hI451, hF452, v453, rfl, hr454⟩
    refine At.sti ?_
    have hF455 := Fr.tr hF0 hF452 rfl rfl
    obtain ⟨q457, q458, q459, q460⟩ := hr454
    obtain ⟨i462, i463, i464, i465⟩ := q458
    have w461 := i465 ⟨pk5.1, pk5.2.1, Int.not_le.mp pk5.2.2⟩
    clear i462 i463 i464 i465
    have f466 := congrArg Int32.toInt (hF452.1 1 0 rfl)
    have f468 := congrArg Int32.toInt (hF452.1 1 10 rfl)
    have f469 := congrArg Int32.toInt (hF452.1 1 11 rfl)
    have f470 := congrArg Int32.toInt (hF452.1 1 4 rfl)
    have f471 := congrArg Int32.toInt (hF452.1 1 6 rfl)
    have f472 := congrArg Int32.toInt (hF452.1 1 9 rfl)
    have f473 := congrArg Int32.toInt (hF452.1 59 0 rfl)
    have f474 := congrArg Int32.toInt (hF452.1 59 12 rfl)
    have f475 := congrArg Int32.toInt (hF452.1 59 10 rfl)
    have f476 := congrArg Int32.toInt (hF452.1 59 11 rfl)
    have f477 := congrArg Int32.toInt (hF452.1 59 4 rfl)
    have f478 := congrArg Int32.toInt (hF452.1 59 6 rfl)
    have f479 := congrArg Int32.toInt (hF452.1 59 9 rfl)
    have f480 := congrArg Int32.toInt (hF452.1 116 0 rfl)
    have f481 := congrArg Int32.toInt (hF452.1 116 12 rfl)
    have f482 := congrArg Int32.toInt (hF452.1 116 10 rfl)
    have f483 := congrArg Int32.toInt (hF452.1 116 11 rfl)
    have f484 := congrArg Int32.toInt (hF452.1 116 4 rfl)
    have f485 := congrArg Int32.toInt (hF452.1 116 6 rfl)
    have f486 := congrArg Int32.toInt (hF452.1 116 9 rfl)
    have f487 := congrArg Int32.toInt (eA_c (j := 0) (hF452.2.1 173 rfl))
    have f488 := congrArg Int32.toInt (eA_c (j := 1) (hF452.2.1 173 rfl))
    have f489 := congrArg Int32.toInt (hF452.1 174 1 rfl)
    have f490 := congrArg Int32.toInt (hF452.1 0 16 rfl)
    have f491 := congrArg Int32.toInt (hF452.1 176 2 rfl)
    have f492 := congrArg Int32.toInt (eA_c (j := 0) (hF452.2.1 233 rfl))
    have f493 := congrArg Int32.toInt (eA_c (j := 4) (hF452.2.1 233 rfl))
    have f494 := congrArg Int32.toInt (eA_c (j := 5) (hF452.2.1 233 rfl))
    have f495 := congrArg Int32.toInt (eA_c (j := 6) (hF452.2.1 233 rfl))
    have f496 := congrArg Int32.toInt (eA_c (j := 1) (hF452.2.1 233 rfl))
    have f497 := congrArg Int32.toInt (eA_c (j := 2) (hF452.2.1 233 rfl))
    have f498 := congrArg Int32.toInt (eA_c (j := 3) (hF452.2.1 233 rfl))
    have f499 := congrArg Int32.toInt (eA_c (j := 0) (hF452.2.1 234 rfl))
    have f500 := congrArg Int32.toInt (eA_c (j := 4) (hF452.2.1 234 rfl))
    have f501 := congrArg Int32.toInt (eA_c (j := 5) (hF452.2.1 234 rfl))
    have f502 := congrArg Int32.toInt (eA_c (j := 6) (hF452.2.1 234 rfl))
    have f503 := congrArg Int32.toInt (eA_c (j := 1) (hF452.2.1 234 rfl))
    have f504 := congrArg Int32.toInt (eA_c (j := 2) (hF452.2.1 234 rfl))
    have f505 := congrArg Int32.toInt (eA_c (j := 3) (hF452.2.1 234 rfl))
    have f506 := congrArg Int32.toInt (eA_c (j := 5510) (hF452.2.1 234 rfl))
    have f507 := congrArg Int32.toInt (eA_c (j := 5514) (hF452.2.1 234 rfl))
    have f508 := congrArg Int32.toInt (eA_c (j := 5515) (hF452.2.1 234 rfl))
    have f509 := congrArg Int32.toInt (eA_c (j := 5516) (hF452.2.1 234 rfl))
    have f510 := congrArg Int32.toInt (eA_c (j := 5511) (hF452.2.1 234 rfl))
    have f511 := congrArg Int32.toInt (eA_c (j := 5512) (hF452.2.1 234 rfl))
    have f512 := congrArg Int32.toInt (eA_c (j := 5513) (hF452.2.1 234 rfl))
    have f513 := congrArg Int32.toInt (eA_c (j := 0) (hF452.2.1 235 rfl))
    have f514 := congrArg Int32.toInt (eA_c (j := 1) (hF452.2.1 235 rfl))
    have f515 := congrArg Int32.toInt (hF452.1 231 8 rfl)
    have f516 := congrArg Int32.toInt (hF452.1 231 6 rfl)
    have f517 := congrArg Int32.toInt (hF452.1 231 13 rfl)
    refine At.enter rfl ?_
    refine r_pop rfl ?_
    refine r_aload_n e2 ?_
    refine r_sload_n e0 ?_
    refine r_iload_n e3 ?_
    refine r_iconst 1 rfl ?_
    refine q_iadd (i.toInt + 1) rfl hx_1 (fun v518 hv518 => ?_)
    refine q_scald (m := L) hL (i.toInt + 1) hv518 hy_1 (fun v519 hv519 => ?_)
    have sv519 := hv2.symm.trans hv519
    subst sv519
    refine r_sload_n e0 ?_
    refine r_iload_n e3 ?_
    refine r_iconst 2 rfl ?_
    refine q_iadd (i.toInt + 2) rfl hx_2 (fun v520 hv520 => ?_)
    refine q_scald (m := L) hL (i.toInt + 2) hv520 hy_2 (fun v521 hv521 => ?_)
    have sv521 := hv4.symm.trans hv521
    subst sv521
    refine r_callV 1119 rfl [.ref 231, .int v2, .int v4] [] (Nat.le_of_ble_eq_true rfl) rfl (T_X11_sign_231 _ hI451 v2 v4) ?_
    rintro _ _ ⟨g522, rfl, hI523, hF524, v525, rfl, hr526⟩
    refine At.sti ?_
    have hF527 := Fr.tr hF455 hF524 rfl rfl
    obtain ⟨q529, q530, q531⟩ := hr526
    have ek543 : (eA g450 233 0).toInt = (gI g0 1 0).toInt := (eA_ti (j := 0) (hF452.2.1 233 (by decide))).trans hR_0.symm
    have ek544 : (eA g450 233 1).toInt = (gI g0 1 4).toInt := (eA_ti (j := 1) (hF452.2.1 233 (by decide))).trans hR_4.symm
    have ek545 : (eA g450 233 4).toInt = (gI g0 1 12).toInt := (eA_ti (j := 4) (hF452.2.1 233 (by decide))).trans hR_1.symm
    obtain ⟨⟨i533, i534, i535, i536⟩, sm537, sm538, sm539, sm540, sm541, sm542⟩ := q530
    have w532 := i536 ⟨pk5.1, (by rw [ek543]; exact pk5.2.1), Int.not_le.mp (by rw [ek545]; exact pk5.2.2)⟩
    clear i533 i534 i535 i536
    have f546 := congrArg Int32.toInt (hF524.1 1 0 rfl)
    have f547 := congrArg Int32.toInt (hF524.1 1 12 rfl)
    have f548 := congrArg Int32.toInt (hF524.1 1 10 rfl)
    have f549 := congrArg Int32.toInt (hF524.1 1 11 rfl)
    have f550 := congrArg Int32.toInt (hF524.1 1 4 rfl)
    have f551 := congrArg Int32.toInt (hF524.1 1 6 rfl)
    have f552 := congrArg Int32.toInt (hF524.1 1 9 rfl)
    have f553 := congrArg Int32.toInt (hF524.1 59 0 rfl)
    have f554 := congrArg Int32.toInt (hF524.1 59 12 rfl)
    have f555 := congrArg Int32.toInt (hF524.1 59 10 rfl)
    have f556 := congrArg Int32.toInt (hF524.1 59 11 rfl)
    have f557 := congrArg Int32.toInt (hF524.1 59 4 rfl)
    have f558 := congrArg Int32.toInt (hF524.1 59 6 rfl)
    have f559 := congrArg Int32.toInt (hF524.1 59 9 rfl)
    have f560 := congrArg Int32.toInt (hF524.1 116 0 rfl)
    have f561 := congrArg Int32.toInt (hF524.1 116 12 rfl)
    have f562 := congrArg Int32.toInt (hF524.1 116 10 rfl)
    have f563 := congrArg Int32.toInt (hF524.1 116 11 rfl)
    have f564 := congrArg Int32.toInt (hF524.1 116 4 rfl)
    have f565 := congrArg Int32.toInt (hF524.1 116 6 rfl)
    have f566 := congrArg Int32.toInt (hF524.1 116 9 rfl)
    have f567 := congrArg Int32.toInt (eA_c (j := 0) (hF524.2.1 173 rfl))
    have f568 := congrArg Int32.toInt (eA_c (j := 1) (hF524.2.1 173 rfl))
    have f569 := congrArg Int32.toInt (hF524.1 174 1 rfl)
    have f570 := congrArg Int32.toInt (hF524.1 0 16 rfl)
    have f571 := congrArg Int32.toInt (hF524.1 176 2 rfl)
    have f579 := congrArg Int32.toInt (eA_c (j := 0) (hF524.2.1 234 rfl))
    have f580 := congrArg Int32.toInt (eA_c (j := 4) (hF524.2.1 234 rfl))
    have f581 := congrArg Int32.toInt (eA_c (j := 5) (hF524.2.1 234 rfl))
    have f582 := congrArg Int32.toInt (eA_c (j := 6) (hF524.2.1 234 rfl))
    have f583 := congrArg Int32.toInt (eA_c (j := 1) (hF524.2.1 234 rfl))
    have f584 := congrArg Int32.toInt (eA_c (j := 2) (hF524.2.1 234 rfl))
    have f585 := congrArg Int32.toInt (eA_c (j := 3) (hF524.2.1 234 rfl))
    have f586 := congrArg Int32.toInt (eA_c (j := 5510) (hF524.2.1 234 rfl))
    have f587 := congrArg Int32.toInt (eA_c (j := 5514) (hF524.2.1 234 rfl))
    have f588 := congrArg Int32.toInt (eA_c (j := 5515) (hF524.2.1 234 rfl))
    have f589 := congrArg Int32.toInt (eA_c (j := 5516) (hF524.2.1 234 rfl))
    have f590 := congrArg Int32.toInt (eA_c (j := 5511) (hF524.2.1 234 rfl))
    have f591 := congrArg Int32.toInt (eA_c (j := 5512) (hF524.2.1 234 rfl))
    have f592 := congrArg Int32.toInt (eA_c (j := 5513) (hF524.2.1 234 rfl))
    have f593 := congrArg Int32.toInt (eA_c (j := 0) (hF524.2.1 235 rfl))
    have f594 := congrArg Int32.toInt (eA_c (j := 1) (hF524.2.1 235 rfl))
    have f595 := congrArg Int32.toInt (hF524.1 231 8 rfl)
    have f596 := congrArg Int32.toInt (hF524.1 231 6 rfl)
    have f597 := congrArg Int32.toInt (hF524.1 231 13 rfl)
    refine At.enter rfl ?_
    refine r_pop rfl ?_
    refine r_goto ?_
    exact K _ hI523 (show LwR _ from ⟨by first | (clear f468 f469 f470 f471 f472 f473 f474 f475 f476 f477 f478 f479 f480 f481 f482 f483 f484 f485 f486 f487 f488 f489 f490 f491 f493 f494 f495 f496 f497 f498 f499 f500 f501 f502 f503 f504 f505 f506 f507 f508 f509 f510 f511 f512 f513 f514 f515 f516 f517 f547 f548 f549 f550 f551 f552 f553 f554 f555 f556 f557 f558 f559 f560 f561 f562 f563 f564 f565 f566 f567 f568 f569 f570 f571 f579 f580 f581 f582 f583 f584 f585 f586 f587 f588 f589 f590 f591 f592 f593 f594 f595 f596 f597; omega) | omega, by first | (clear f466 f468 f469 f470 f471 f472 f473 f474 f475 f476 f477 f478 f479 f480 f481 f482 f483 f484 f485 f486 f487 f488 f489 f490 f491 f492 f494 f495 f496 f497 f498 f499 f500 f501 f502 f503 f504 f505 f506 f507 f508 f509 f510 f511 f512 f513 f514 f515 f516 f517 f546 f548 f549 f550 f551 f552 f553 f554 f555 f556 f557 f558 f559 f560 f561 f562 f563 f564 f565 f566 f567 f568 f569 f570 f571 f579 f580 f581 f582 f583 f584 f585 f586 f587 f588 f589 f590 f591 f592 f593 f594 f595 f596 f597; omega) | omega, by first | (clear f466 f469 f470 f471 f472 f473 f474 f475 f476 f477 f478 f479 f480 f481 f482 f483 f484 f485 f486 f487 f488 f489 f490 f491 f492 f493 f495 f496 f497 f498 f499 f500 f501 f502 f503 f504 f505 f506 f507 f508 f509 f510 f511 f512 f513 f514 f515 f516 f517 f546 f547 f549 f550 f551 f552 f553 f554 f555 f556 f557 f558 f559 f560 f561 f562 f563 f564 f565 f566 f567 f568 f569 f570 f571 f579 f580 f581 f582 f583 f584 f585 f586 f587 f588 f589 f590 f591 f592 f593 f594 f595 f596 f597; omega) | omega, by first | (clear f466 f468 f470 f471 f472 f473 f474 f475 f476 f477 f478 f479 f480 f481 f482 f483 f484 f485 f486 f487 f488 f489 f490 f491 f492 f493 f494 f496 f497 f498 f499 f500 f501 f502 f503 f504 f505 f506 f507 f508 f509 f510 f511 f512 f513 f514 f515 f516 f517 f546 f547 f548 f550 f551 f552 f553 f554 f555 f556 f557 f558 f559 f560 f561 f562 f563 f564 f565 f566 f567 f568 f569 f570 f571 f579 f580 f581 f582 f583 f584 f585 f586 f587 f588 f589 f590 f591 f592 f593 f594 f595 f596 f597; omega) | omega, by first | (clear f466 f468 f469 f471 f472 f473 f474 f475 f476 f477 f478 f479 f480 f481 f482 f483 f484 f485 f486 f487 f488 f489 f490 f491 f492 f493 f494 f495 f497 f498 f499 f500 f501 f502 f503 f504 f505 f506 f507 f508 f509 f510 f511 f512 f513 f514 f515 f516 f517 f546 f547 f548 f549 f551 f552 f553 f554 f555 f556 f557 f558 f559 f560 f561 f562 f563 f564 f565 f566 f567 f568 f569 f570 f571 f579 f580 f581 f582 f583 f584 f585 f586 f587 f588 f589 f590 f591 f592 f593 f594 f595 f596 f597; omega) | omega, by first | (clear f466 f468 f469 f470 f472 f473 f474 f475 f476 f477 f478 f479 f480 f481 f482 f483 f484 f485 f486 f487 f488 f489 f490 f491 f492 f493 f494 f495 f496 f498 f499 f500 f501 f502 f503 f504 f505 f506 f507 f508 f509 f510 f511 f512 f513 f514 f515 f516 f517 f546 f547 f548 f549 f550 f552 f553 f554 f555 f556 f557 f558 f559 f560 f561 f562 f563 f564 f565 f566 f567 f568 f569 f570 f571 f579 f580 f581 f582 f583 f584 f585 f586 f587 f588 f589 f590 f591 f592 f593 f594 f595 f596 f597; omega) | omega, by first | (clear f466 f468 f469 f470 f471 f473 f474 f475 f476 f477 f478 f479 f480 f481 f482 f483 f484 f485 f486 f487 f488 f489 f490 f491 f492 f493 f494 f495 f496 f497 f499 f500 f501 f502 f503 f504 f505 f506 f507 f508 f509 f510 f511 f512 f513 f514 f515 f516 f517 f546 f547 f548 f549 f550 f551 f553 f554 f555 f556 f557 f558 f559 f560 f561 f562 f563 f564 f565 f566 f567 f568 f569 f570 f571 f579 f580 f581 f582 f583 f584 f585 f586 f587 f588 f589 f590 f591 f592 f593 f594 f595 f596 f597; omega) | omega, (eA_ti (j := 0) (((hF524.2.1 173 (by decide)).trans (hF452.2.1 173 (by decide))))).trans (hR_7.trans (eA_ti (j := 0) (((hF524.2.1 235 (by decide)).trans (hF452.2.1 235 (by decide))))).symm), (eA_ti (j := 1) (((hF524.2.1 173 (by decide)).trans (hF452.2.1 173 (by decide))))).trans (hR_8.trans (eA_ti (j := 1) (((hF524.2.1 235 (by decide)).trans (hF452.2.1 235 (by decide))))).symm), (congrArg Int32.toInt (((hF524.1 174 1 (by decide)).trans (hF452.1 174 1 (by decide))))).trans (hR_9.trans (congrArg Int32.toInt (((hF524.1 231 8 (by decide)).trans (hF452.1 231 8 (by decide))))).symm), (congrArg Int32.toInt (((hF524.1 0 16 (by decide)).trans (hF452.1 0 16 (by decide))))).trans (hR_10.trans (congrArg Int32.toInt (((hF524.1 231 6 (by decide)).trans (hF452.1 231 6 (by decide))))).symm), (congrArg Int32.toInt (((hF524.1 176 2 (by decide)).trans (hF452.1 176 2 (by decide))))).trans (hR_11.trans (congrArg Int32.toInt (((hF524.1 231 13 (by decide)).trans (hF452.1 231 13 (by decide))))).symm), IM0.cong hR_12 (eA_ti (j := 0) (((hF524.2.1 173 (by decide)).trans (hF452.2.1 173 (by decide))))) (congrArg Int32.toInt (((hF524.1 59 0 (by decide)).trans (hF452.1 59 0 (by decide))))) (eA_ti (j := 0) (((hF524.2.1 234 (by decide)).trans (hF452.2.1 234 (by decide))))) (congrArg Int32.toInt (((hF524.1 59 12 (by decide)).trans (hF452.1 59 12 (by decide))))) (eA_ti (j := 4) (((hF524.2.1 234 (by decide)).trans (hF452.2.1 234 (by decide))))) (congrArg Int32.toInt (((hF524.1 59 10 (by decide)).trans (hF452.1 59 10 (by decide))))) (eA_ti (j := 5) (((hF524.2.1 234 (by decide)).trans (hF452.2.1 234 (by decide))))) (congrArg Int32.toInt (((hF524.1 59 11 (by decide)).trans (hF452.1 59 11 (by decide))))) (eA_ti (j := 6) (((hF524.2.1 234 (by decide)).trans (hF452.2.1 234 (by decide))))) (congrArg Int32.toInt (((hF524.1 59 4 (by decide)).trans (hF452.1 59 4 (by decide))))) (eA_ti (j := 1) (((hF524.2.1 234 (by decide)).trans (hF452.2.1 234 (by decide))))) (congrArg Int32.toInt (((hF524.1 59 6 (by decide)).trans (hF452.1 59 6 (by decide))))) (eA_ti (j := 2) (((hF524.2.1 234 (by decide)).trans (hF452.2.1 234 (by decide))))) (congrArg Int32.toInt (((hF524.1 59 9 (by decide)).trans (hF452.1 59 9 (by decide))))) (eA_ti (j := 3) (((hF524.2.1 234 (by decide)).trans (hF452.2.1 234 (by decide))))), IM1.cong hR_13 (eA_ti (j := 1) (((hF524.2.1 173 (by decide)).trans (hF452.2.1 173 (by decide))))) (congrArg Int32.toInt (((hF524.1 116 0 (by decide)).trans (hF452.1 116 0 (by decide))))) (eA_ti (j := 5510) (((hF524.2.1 234 (by decide)).trans (hF452.2.1 234 (by decide))))) (congrArg Int32.toInt (((hF524.1 116 12 (by decide)).trans (hF452.1 116 12 (by decide))))) (eA_ti (j := 5514) (((hF524.2.1 234 (by decide)).trans (hF452.2.1 234 (by decide))))) (congrArg Int32.toInt (((hF524.1 116 10 (by decide)).trans (hF452.1 116 10 (by decide))))) (eA_ti (j := 5515) (((hF524.2.1 234 (by decide)).trans (hF452.2.1 234 (by decide))))) (congrArg Int32.toInt (((hF524.1 116 11 (by decide)).trans (hF452.1 116 11 (by decide))))) (eA_ti (j := 5516) (((hF524.2.1 234 (by decide)).trans (hF452.2.1 234 (by decide))))) (congrArg Int32.toInt (((hF524.1 116 4 (by decide)).trans (hF452.1 116 4 (by decide))))) (eA_ti (j := 5511) (((hF524.2.1 234 (by decide)).trans (hF452.2.1 234 (by decide))))) (congrArg Int32.toInt (((hF524.1 116 6 (by decide)).trans (hF452.1 116 6 (by decide))))) (eA_ti (j := 5512) (((hF524.2.1 234 (by decide)).trans (hF452.2.1 234 (by decide))))) (congrArg Int32.toInt (((hF524.1 116 9 (by decide)).trans (hF452.1 116 9 (by decide))))) (eA_ti (j := 5513) (((hF524.2.1 234 (by decide)).trans (hF452.2.1 234 (by decide))))), (show CT _ from ⟨fun i i0 i1 => ⟨(by first | (clear f473 f474 f475 f476 f477 f478 f479 f480 f481 f482 f483 f484 f485 f486 f489 f490 f491 f499 f500 f501 f502 f503 f504 f505 f506 f507 f508 f509 f510 f511 f512 f515 f516 f517 f553 f554 f555 f556 f557 f558 f559 f560 f561 f562 f563 f564 f565 f566 f569 f570 f571 f579 f580 f581 f582 f583 f584 f585 f586 f587 f588 f589 f590 f591 f592 f595 f596 f597; have t0_ := hI0.t0; have t1_ := hI0.t1; have t4_ := hI0.t4; have o := (hR_14.1 i i0 i1).1; have x := eA_ti (j := i) (((hF524.2.1 2 (by decide)).trans (hF452.2.1 2 (by decide)))); have m := q531 (10 + 3 * i) (by omega) (by omega); have y1 := eA_ti (j := ((10 + 3 * i))) (hF452.2.1 233 (by decide)); (try split at m) <;> (try split at m) <;> omega) | (have t0_ := hI0.t0; have t1_ := hI0.t1; have t4_ := hI0.t4; have o := (hR_14.1 i i0 i1).1; have x := eA_ti (j := i) (((hF524.2.1 2 (by decide)).trans (hF452.2.1 2 (by decide)))); have m := q531 (10 + 3 * i) (by omega) (by omega); have y1 := eA_ti (j := ((10 + 3 * i))) (hF452.2.1 233 (by decide)); (try split at m) <;> (try split at m) <;> omega)), (by first | (clear f473 f474 f475 f476 f477 f478 f479 f480 f481 f482 f483 f484 f485 f486 f489 f490 f491 f499 f500 f501 f502 f503 f504 f505 f506 f507 f508 f509 f510 f511 f512 f515 f516 f517 f553 f554 f555 f556 f557 f558 f559 f560 f561 f562 f563 f564 f565 f566 f569 f570 f571 f579 f580 f581 f582 f583 f584 f585 f586 f587 f588 f589 f590 f591 f592 f595 f596 f597; have t0_ := hI0.t0; have t1_ := hI0.t1; have t4_ := hI0.t4; have o := (hR_14.1 i i0 i1).2.1; have x := eA_ti (j := i) (((hF524.2.1 3 (by decide)).trans (hF452.2.1 3 (by decide)))); have m := q531 (10 + 3 * i + 1) (by omega) (by omega); have y1 := eA_ti (j := ((10 + 3 * i + 1))) (hF452.2.1 233 (by decide)); (try split at m) <;> (try split at m) <;> omega) | (have t0_ := hI0.t0; have t1_ := hI0.t1; have t4_ := hI0.t4; have o := (hR_14.1 i i0 i1).2.1; have x := eA_ti (j := i) (((hF524.2.1 3 (by decide)).trans (hF452.2.1 3 (by decide)))); have m := q531 (10 + 3 * i + 1) (by omega) (by omega); have y1 := eA_ti (j := ((10 + 3 * i + 1))) (hF452.2.1 233 (by decide)); (try split at m) <;> (try split at m) <;> omega)), (by first | (clear f473 f474 f475 f476 f477 f478 f479 f480 f481 f482 f483 f484 f485 f486 f489 f490 f491 f499 f500 f501 f502 f503 f504 f505 f506 f507 f508 f509 f510 f511 f512 f515 f516 f517 f553 f554 f555 f556 f557 f558 f559 f560 f561 f562 f563 f564 f565 f566 f569 f570 f571 f579 f580 f581 f582 f583 f584 f585 f586 f587 f588 f589 f590 f591 f592 f595 f596 f597; have t0_ := hI0.t0; have t1_ := hI0.t1; have t4_ := hI0.t4; have o := (hR_14.1 i i0 i1).2.2; have x := eA_ti (j := i) (((hF524.2.1 4 (by decide)).trans (hF452.2.1 4 (by decide)))); have m := q531 (10 + 3 * i + 2) (by omega) (by omega); have y1 := eA_ti (j := ((10 + 3 * i + 2))) (hF452.2.1 233 (by decide)); (try split at m) <;> (try split at m) <;> omega) | (have t0_ := hI0.t0; have t1_ := hI0.t1; have t4_ := hI0.t4; have o := (hR_14.1 i i0 i1).2.2; have x := eA_ti (j := i) (((hF524.2.1 4 (by decide)).trans (hF452.2.1 4 (by decide)))); have m := q531 (10 + 3 * i + 2) (by omega) (by omega); have y1 := eA_ti (j := ((10 + 3 * i + 2))) (hF452.2.1 233 (by decide)); (try split at m) <;> (try split at m) <;> omega))⟩, fun i i0 i1 => ⟨(by first | (clear f473 f474 f475 f476 f477 f478 f479 f480 f481 f482 f483 f484 f485 f486 f489 f490 f491 f499 f500 f501 f502 f503 f504 f505 f506 f507 f508 f509 f510 f511 f512 f515 f516 f517 f553 f554 f555 f556 f557 f558 f559 f560 f561 f562 f563 f564 f565 f566 f569 f570 f571 f579 f580 f581 f582 f583 f584 f585 f586 f587 f588 f589 f590 f591 f592 f595 f596 f597; have t0_ := hI0.t0; have t1_ := hI0.t1; have t4_ := hI0.t4; have o := (hR_14.2.1 i i0 i1).1; have x := (eA_ti (j := i) (hF524.2.1 14 (by decide))).trans (q459 i i0 i1); have m := q531 (94 + 2 * i) (by omega) (by omega); have y1 := eA_ti (j := ((94 + 2 * i))) (hF452.2.1 233 (by decide)); (try split at x) <;> (try split at m) <;> (try split at m) <;> omega) | (have t0_ := hI0.t0; have t1_ := hI0.t1; have t4_ := hI0.t4; have o := (hR_14.2.1 i i0 i1).1; have x := (eA_ti (j := i) (hF524.2.1 14 (by decide))).trans (q459 i i0 i1); have m := q531 (94 + 2 * i) (by omega) (by omega); have y1 := eA_ti (j := ((94 + 2 * i))) (hF452.2.1 233 (by decide)); (try split at x) <;> (try split at m) <;> (try split at m) <;> omega)), (by first | (clear f473 f474 f475 f476 f477 f478 f479 f480 f481 f482 f483 f484 f485 f486 f489 f490 f491 f499 f500 f501 f502 f503 f504 f505 f506 f507 f508 f509 f510 f511 f512 f515 f516 f517 f553 f554 f555 f556 f557 f558 f559 f560 f561 f562 f563 f564 f565 f566 f569 f570 f571 f579 f580 f581 f582 f583 f584 f585 f586 f587 f588 f589 f590 f591 f592 f595 f596 f597; have t0_ := hI0.t0; have t1_ := hI0.t1; have t4_ := hI0.t4; have o := (hR_14.2.1 i i0 i1).2; have x := (eA_ti (j := i) (hF524.2.1 15 (by decide))).trans (q460 i i0 i1); have m := q531 (94 + 2 * i + 1) (by omega) (by omega); have y1 := eA_ti (j := ((94 + 2 * i + 1))) (hF452.2.1 233 (by decide)); (try split at x) <;> (try split at m) <;> (try split at m) <;> omega) | (have t0_ := hI0.t0; have t1_ := hI0.t1; have t4_ := hI0.t4; have o := (hR_14.2.1 i i0 i1).2; have x := (eA_ti (j := i) (hF524.2.1 15 (by decide))).trans (q460 i i0 i1); have m := q531 (94 + 2 * i + 1) (by omega) (by omega); have y1 := eA_ti (j := ((94 + 2 * i + 1))) (hF452.2.1 233 (by decide)); (try split at x) <;> (try split at m) <;> (try split at m) <;> omega))⟩, fun i i0 i1 => (by first | (clear f473 f474 f475 f476 f477 f478 f479 f480 f481 f482 f483 f484 f485 f486 f489 f490 f491 f499 f500 f501 f502 f503 f504 f505 f506 f507 f508 f509 f510 f511 f512 f515 f516 f517 f553 f554 f555 f556 f557 f558 f559 f560 f561 f562 f563 f564 f565 f566 f569 f570 f571 f579 f580 f581 f582 f583 f584 f585 f586 f587 f588 f589 f590 f591 f592 f595 f596 f597; have t0_ := hI0.t0; have t1_ := hI0.t1; have t4_ := hI0.t4; have o : i < 6 * (gI g0 1 4).toInt → _ := fun hz => hR_14.2.2 i i0 hz; have x := eA_ti (j := i) (((hF524.2.1 5 (by decide)).trans (hF452.2.1 5 (by decide)))); have m := q531 (46 + i) (by omega) (by omega); have y1 := eA_ti (j := ((46 + i))) (hF452.2.1 233 (by decide)); (try split at m) <;> (try split at m) <;> omega) | (have t0_ := hI0.t0; have t1_ := hI0.t1; have t4_ := hI0.t4; have o : i < 6 * (gI g0 1 4).toInt → _ := fun hz => hR_14.2.2 i i0 hz; have x := eA_ti (j := i) (((hF524.2.1 5 (by decide)).trans (hF452.2.1 5 (by decide)))); have m := q531 (46 + i) (by omega) (by omega); have y1 := eA_ti (j := ((46 + i))) (hF452.2.1 233 (by decide)); (try split at m) <;> (try split at m) <;> omega))⟩), CI0.cong hR_15 (((hF524.2.1 60 (by decide)).trans (hF452.2.1 60 (by decide)))) (((hF524.2.1 61 (by decide)).trans (hF452.2.1 61 (by decide)))) (((hF524.2.1 62 (by decide)).trans (hF452.2.1 62 (by decide)))) (((hF524.2.1 72 (by decide)).trans (hF452.2.1 72 (by decide)))) (((hF524.2.1 73 (by decide)).trans (hF452.2.1 73 (by decide)))) (((hF524.2.1 63 (by decide)).trans (hF452.2.1 63 (by decide)))) (((hF524.2.1 234 (by decide)).trans (hF452.2.1 234 (by decide)))) (congrArg Int32.toInt (((hF524.1 59 4 (by decide)).trans (hF452.1 59 4 (by decide))))), CI1.cong hR_16 (((hF524.2.1 117 (by decide)).trans (hF452.2.1 117 (by decide)))) (((hF524.2.1 118 (by decide)).trans (hF452.2.1 118 (by decide)))) (((hF524.2.1 119 (by decide)).trans (hF452.2.1 119 (by decide)))) (((hF524.2.1 129 (by decide)).trans (hF452.2.1 129 (by decide)))) (((hF524.2.1 130 (by decide)).trans (hF452.2.1 130 (by decide)))) (((hF524.2.1 120 (by decide)).trans (hF452.2.1 120 (by decide)))) (((hF524.2.1 234 (by decide)).trans (hF452.2.1 234 (by decide)))) (congrArg Int32.toInt (((hF524.1 116 4 (by decide)).trans (hF452.1 116 4 (by decide))))), (show RT _ from fun i i0 i1 => (eA_ti (((hF524.2.1 175 (by decide)).trans (hF452.2.1 175 (by decide))))).trans ((hR_17 i i0 (by omega)).trans (eA_ti (((hF524.2.1 236 (by decide)).trans (hF452.2.1 236 (by decide))))).symm)), (show BYX _ from fun i i0 i1 => by rw [TX.c (((hF524.2.1 175 (by decide)).trans (hF452.2.1 175 (by decide))))]; exact hR_18 i i0 (by have i2 : i < (gI _ 174 1).toInt := i1; show i < (gI g0 174 1).toInt; omega)), (LAWR_c hR_19 (LSA_tr (LSA_tr LSA_rf (LSA_fr hF452 rfl)) (LSA_fr hF524 rfl)) (((hF524.1 1 6 (by decide)).trans (hF452.1 1 6 (by decide)))) (((hF524.1 59 6 (by decide)).trans (hF452.1 59 6 (by decide)))) (((hF524.1 116 6 (by decide)).trans (hF452.1 116 6 (by decide)))) (((hF524.2.1 173 (by decide)).trans (hF452.2.1 173 (by decide)))) (fun i i0 i1 => (R3_sign hI451 q531 i i0 i1).trans (eA_ti (hF452.2.1 233 (by decide)))) (((hF524.2.1 234 (by decide)).trans (hF452.2.1 234 (by decide)))) (TOLDX_fr hF524 rfl rfl rfl rfl (TOLDX_fr hF452 rfl rfl rfl rfl hR_19.2.2.2.2))), (SETX_fr hF524 rfl rfl rfl rfl rfl (SETX_fr hF452 rfl rfl rfl rfl rfl hR_20))⟩)
