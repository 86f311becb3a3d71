set_option maxRecDepth 100000 in
set_option maxHeartbeats 8000000 in
theorem lq_c30 (d : Nat) {N : Nat} {g0 : List en_E} (hI0 : HI g0) (hR0 : LwR g0) {ys : List Int32} {L : Nat} (hL : ys.length = L) (hL2 : L ≤ 3584) {l : en_L} {i : Int32} (e0 : en_get 0 l = some (.float 0)) (e1 : en_get 1 l = some (.ref 0)) (e2 : en_get 2 l = some (.ref 231)) (e3 : en_get 3 l = some (.int i)) (hi : 0 ≤ i.toInt ∧ i.toInt + 7 ≤ L) {Ph : Option Value → en_H → Prop} (K : ∀ g1 : List en_E, HI g1 → LwR g1 → At (d + 423) (some ys) (some .boolean) bs_L_law (1330, l, [], (g1, N)) Ph) : At (d + 423) (some ys) (some .boolean) bs_L_law (1090, l, [], (g0, N)) Ph := by
  have hF0 : Fr F_law A_law g0 g0 := Fr.rf
  have hx_1 : -2147483648 ≤ i.toInt + 1 ∧ i.toInt + 1 ≤ 2147483647 := by omega
  have hx_2 : -2147483648 ≤ i.toInt + 2 ∧ i.toInt + 2 ≤ 2147483647 := by omega
  have hx_3 : -2147483648 ≤ i.toInt + 3 ∧ i.toInt + 3 ≤ 2147483647 := by omega
  have hx_4 : -2147483648 ≤ i.toInt + 4 ∧ i.toInt + 4 ≤ 2147483647 := by omega
  have hx_5 : -2147483648 ≤ i.toInt + 5 ∧ i.toInt + 5 ≤ 2147483647 := by omega
  have hx_6 : -2147483648 ≤ i.toInt + 6 ∧ i.toInt + 6 ≤ 2147483647 := by omega
  have hy_0 : 0 ≤ i.toInt ∧ i.toInt < (L : Int) := by omega
  have hy_1 : 0 ≤ i.toInt + 1 ∧ i.toInt + 1 < (L : Int) := by omega
  have hy_2 : 0 ≤ i.toInt + 2 ∧ i.toInt + 2 < (L : Int) := by omega
  have hy_3 : 0 ≤ i.toInt + 3 ∧ i.toInt + 3 < (L : Int) := by omega
  have hy_4 : 0 ≤ i.toInt + 4 ∧ i.toInt + 4 < (L : Int) := by omega
  have hy_5 : 0 ≤ i.toInt + 5 ∧ i.toInt + 5 < (L : Int) := by omega
  have hy_6 : 0 ≤ i.toInt + 6 ∧ i.toInt + 6 < (L : Int) := by omega
  unfold LwR at hR0
  obtain ⟨hR_0, hR_1, hR_2, hR_3, hR_4, hR_5, hR_6, hR_7, hR_8, hR_9, hR_10, hR_11, hR_12, hR_13, hR_14, hR_15, hR_16, hR_17, hR_18, hR_19⟩ := hR0
  refine At.enter rfl ?_
  refine r_aload_n e1 ?_
  refine r_sload_n e0 ?_
  refine r_iload_n e3 ?_
  refine r_iconst 1 rfl ?_
  refine q_iadd (i.toInt + 1) rfl hx_1 (fun v1 hv1 => ?_)
  refine q_scald (m := L) hL (i.toInt + 1) hv1 hy_1 (fun v2 hv2 => ?_)
  refine r_sload_n e0 ?_
  refine r_iload_n e3 ?_
  refine r_iconst 2 rfl ?_
  refine q_iadd (i.toInt + 2) rfl hx_2 (fun v3 hv3 => ?_)
  refine q_scald (m := L) hL (i.toInt + 2) hv3 hy_2 (fun v4 hv4 => ?_)
  rcases cs4 (0 ≤ v4.toInt ∧ v4.toInt ≤ 99) (0 ≤ v2.toInt ∧ v2.toInt < (gI g0 1 0).toInt) (8 ≤ (gI g0 1 12).toInt) with pk5 | pk5 | pk5 | pk5
  · refine r_callV 1104 rfl [.ref 0, .int v2, .int v4] [] (Nat.le_of_ble_eq_true rfl) rfl (T_X10_sign_0 _ hI0 v2 v4) ?_
    rintro _ _ ⟨g6, rfl, hI7, hF8, v9, rfl, hr10⟩
    refine At.sti ?_
    have hF11 := Fr.tr hF0 hF8 rfl rfl
    have su12 := hr10.2.2
    obtain ⟨q13, q14, q15, q16⟩ := (And.intro hr10.1 hr10.2.1)
    obtain ⟨i18, i19, i20, i21⟩ := q14
    have w17 := i18 pk5
    clear i18 i19 i20 i21
    have f22 := congrArg Int32.toInt (hF8.1 1 0 rfl)
    have f24 := congrArg Int32.toInt (hF8.1 1 10 rfl)
    have f25 := congrArg Int32.toInt (hF8.1 1 11 rfl)
    have f26 := congrArg Int32.toInt (hF8.1 1 4 rfl)
    have f27 := congrArg Int32.toInt (hF8.1 1 6 rfl)
    have f28 := congrArg Int32.toInt (hF8.1 1 9 rfl)
    have f29 := congrArg Int32.toInt (hF8.1 59 0 rfl)
    have f30 := congrArg Int32.toInt (hF8.1 59 12 rfl)
    have f31 := congrArg Int32.toInt (hF8.1 59 10 rfl)
    have f32 := congrArg Int32.toInt (hF8.1 59 11 rfl)
    have f33 := congrArg Int32.toInt (hF8.1 59 4 rfl)
    have f34 := congrArg Int32.toInt (hF8.1 59 6 rfl)
    have f35 := congrArg Int32.toInt (hF8.1 59 9 rfl)
    have f36 := congrArg Int32.toInt (hF8.1 116 0 rfl)
    have f37 := congrArg Int32.toInt (hF8.1 116 12 rfl)
    have f38 := congrArg Int32.toInt (hF8.1 116 10 rfl)
    have f39 := congrArg Int32.toInt (hF8.1 116 11 rfl)
    have f40 := congrArg Int32.toInt (hF8.1 116 4 rfl)
    have f41 := congrArg Int32.toInt (hF8.1 116 6 rfl)
    have f42 := congrArg Int32.toInt (hF8.1 116 9 rfl)
    have f43 := congrArg Int32.toInt (eA_c (j := 0) (hF8.2.1 173 rfl))
    have f44 := congrArg Int32.toInt (eA_c (j := 1) (hF8.2.1 173 rfl))
    have f45 := congrArg Int32.toInt (hF8.1 174 1 rfl)
    have f46 := congrArg Int32.toInt (hF8.1 0 16 rfl)
    have f47 := congrArg Int32.toInt (hF8.1 176 2 rfl)
    have f49 := congrArg Int32.toInt (eA_c (j := 0) (hF8.2.1 233 rfl))
    have f50 := congrArg Int32.toInt (eA_c (j := 4) (hF8.2.1 233 rfl))
    have f51 := congrArg Int32.toInt (eA_c (j := 5) (hF8.2.1 233 rfl))
    have f52 := congrArg Int32.toInt (eA_c (j := 6) (hF8.2.1 233 rfl))
    have f53 := congrArg Int32.toInt (eA_c (j := 1) (hF8.2.1 233 rfl))
    have f54 := congrArg Int32.toInt (eA_c (j := 2) (hF8.2.1 233 rfl))
    have f55 := congrArg Int32.toInt (eA_c (j := 3) (hF8.2.1 233 rfl))
    have f56 := congrArg Int32.toInt (eA_c (j := 0) (hF8.2.1 234 rfl))
    have f57 := congrArg Int32.toInt (eA_c (j := 4) (hF8.2.1 234 rfl))
    have f58 := congrArg Int32.toInt (eA_c (j := 5) (hF8.2.1 234 rfl))
    have f59 := congrArg Int32.toInt (eA_c (j := 6) (hF8.2.1 234 rfl))
    have f60 := congrArg Int32.toInt (eA_c (j := 1) (hF8.2.1 234 rfl))
    have f61 := congrArg Int32.toInt (eA_c (j := 2) (hF8.2.1 234 rfl))
    have f62 := congrArg Int32.toInt (eA_c (j := 3) (hF8.2.1 234 rfl))
    have f63 := congrArg Int32.toInt (eA_c (j := 5510) (hF8.2.1 234 rfl))
    have f64 := congrArg Int32.toInt (eA_c (j := 5514) (hF8.2.1 234 rfl))
    have f65 := congrArg Int32.toInt (eA_c (j := 5515) (hF8.2.1 234 rfl))
    have f66 := congrArg Int32.toInt (eA_c (j := 5516) (hF8.2.1 234 rfl))
    have f67 := congrArg Int32.toInt (eA_c (j := 5511) (hF8.2.1 234 rfl))
    have f68 := congrArg Int32.toInt (eA_c (j := 5512) (hF8.2.1 234 rfl))
    have f69 := congrArg Int32.toInt (eA_c (j := 5513) (hF8.2.1 234 rfl))
    have f70 := congrArg Int32.toInt (eA_c (j := 0) (hF8.2.1 235 rfl))
    have f71 := congrArg Int32.toInt (eA_c (j := 1) (hF8.2.1 235 rfl))
    have f72 := congrArg Int32.toInt (hF8.1 231 8 rfl)
    have f73 := congrArg Int32.toInt (hF8.1 231 6 rfl)
    have f74 := congrArg Int32.toInt (hF8.1 231 13 rfl)
    have f75 := congrArg Int32.toInt (hF8.1 231 1 rfl)
    refine At.enter rfl ?_
    refine r_pop rfl ?_
    refine r_aload_n e2 ?_
    refine r_sload_n e0 ?_
    refine r_iload_n e3 ?_
    refine r_iconst 1 rfl ?_
    refine q_iadd (i.toInt + 1) rfl hx_1 (fun v76 hv76 => ?_)
    refine q_scald (m := L) hL (i.toInt + 1) hv76 hy_1 (fun v77 hv77 => ?_)
    have sv77 := hv2.symm.trans hv77
    subst sv77
    refine r_sload_n e0 ?_
    refine r_iload_n e3 ?_
    refine r_iconst 2 rfl ?_
    refine q_iadd (i.toInt + 2) rfl hx_2 (fun v78 hv78 => ?_)
    refine q_scald (m := L) hL (i.toInt + 2) hv78 hy_2 (fun v79 hv79 => ?_)
    have sv79 := hv4.symm.trans hv79
    subst sv79
    refine r_callV 1119 rfl [.ref 231, .int v2, .int v4] [] (Nat.le_of_ble_eq_true rfl) rfl (T_X11_sign_231 _ hI7 v2 v4) ?_
    rintro _ _ ⟨g80, rfl, hI81, hF82, v83, rfl, hr84⟩
    refine At.sti ?_
    have hF85 := Fr.tr hF11 hF82 rfl rfl
    have su86 := hr84.2.2
    obtain ⟨q87, q88, q89⟩ := (And.intro hr84.1 hr84.2.1)
    have ek101 : (eA g6 233 0).toInt = (gI g0 1 0).toInt := (eA_ti (j := 0) (hF8.2.1 233 (by decide))).trans hR_0.symm
    have ek102 : (eA g6 233 1).toInt = (gI g0 1 4).toInt := (eA_ti (j := 1) (hF8.2.1 233 (by decide))).trans hR_4.symm
    have ek103 : (eA g6 233 4).toInt = (gI g0 1 12).toInt := (eA_ti (j := 4) (hF8.2.1 233 (by decide))).trans hR_1.symm
    obtain ⟨⟨i91, i92, i93, i94⟩, sm95, sm96, sm97, sm98, sm99, sm100⟩ := q88
    have w90 := i91 pk5
    clear i91 i92 i93 i94
    have f104 := congrArg Int32.toInt (hF82.1 1 0 rfl)
    have f105 := congrArg Int32.toInt (hF82.1 1 12 rfl)
    have f106 := congrArg Int32.toInt (hF82.1 1 10 rfl)
    have f107 := congrArg Int32.toInt (hF82.1 1 11 rfl)
    have f108 := congrArg Int32.toInt (hF82.1 1 4 rfl)
    have f109 := congrArg Int32.toInt (hF82.1 1 6 rfl)
    have f110 := congrArg Int32.toInt (hF82.1 1 9 rfl)
    have f111 := congrArg Int32.toInt (hF82.1 59 0 rfl)
    have f112 := congrArg Int32.toInt (hF82.1 59 12 rfl)
    have f113 := congrArg Int32.toInt (hF82.1 59 10 rfl)
    have f114 := congrArg Int32.toInt (hF82.1 59 11 rfl)
    have f115 := congrArg Int32.toInt (hF82.1 59 4 rfl)
    have f116 := congrArg Int32.toInt (hF82.1 59 6 rfl)
    have f117 := congrArg Int32.toInt (hF82.1 59 9 rfl)
    have f118 := congrArg Int32.toInt (hF82.1 116 0 rfl)
    have f119 := congrArg Int32.toInt (hF82.1 116 12 rfl)
    have f120 := congrArg Int32.toInt (hF82.1 116 10 rfl)
    have f121 := congrArg Int32.toInt (hF82.1 116 11 rfl)
    have f122 := congrArg Int32.toInt (hF82.1 116 4 rfl)
    have f123 := congrArg Int32.toInt (hF82.1 116 6 rfl)
    have f124 := congrArg Int32.toInt (hF82.1 116 9 rfl)
    have f125 := congrArg Int32.toInt (eA_c (j := 0) (hF82.2.1 173 rfl))
    have f126 := congrArg Int32.toInt (eA_c (j := 1) (hF82.2.1 173 rfl))
    have f127 := congrArg Int32.toInt (hF82.1 174 1 rfl)
    have f128 := congrArg Int32.toInt (hF82.1 0 16 rfl)
    have f129 := congrArg Int32.toInt (hF82.1 176 2 rfl)
    have f130 := congrArg Int32.toInt (hF82.1 0 17 rfl)
    have f138 := congrArg Int32.toInt (eA_c (j := 0) (hF82.2.1 234 rfl))
    have f139 := congrArg Int32.toInt (eA_c (j := 4) (hF82.2.1 234 rfl))
    have f140 := congrArg Int32.toInt (eA_c (j := 5) (hF82.2.1 234 rfl))
    have f141 := congrArg Int32.toInt (eA_c (j := 6) (hF82.2.1 234 rfl))
    have f142 := congrArg Int32.toInt (eA_c (j := 1) (hF82.2.1 234 rfl))
    have f143 := congrArg Int32.toInt (eA_c (j := 2) (hF82.2.1 234 rfl))
    have f144 := congrArg Int32.toInt (eA_c (j := 3) (hF82.2.1 234 rfl))
    have f145 := congrArg Int32.toInt (eA_c (j := 5510) (hF82.2.1 234 rfl))
    have f146 := congrArg Int32.toInt (eA_c (j := 5514) (hF82.2.1 234 rfl))
    have f147 := congrArg Int32.toInt (eA_c (j := 5515) (hF82.2.1 234 rfl))
    have f148 := congrArg Int32.toInt (eA_c (j := 5516) (hF82.2.1 234 rfl))
    have f149 := congrArg Int32.toInt (eA_c (j := 5511) (hF82.2.1 234 rfl))
    have f150 := congrArg Int32.toInt (eA_c (j := 5512) (hF82.2.1 234 rfl))
    have f151 := congrArg Int32.toInt (eA_c (j := 5513) (hF82.2.1 234 rfl))
    have f152 := congrArg Int32.toInt (eA_c (j := 0) (hF82.2.1 235 rfl))
    have f153 := congrArg Int32.toInt (eA_c (j := 1) (hF82.2.1 235 rfl))
    have f154 := congrArg Int32.toInt (hF82.1 231 8 rfl)
    have f155 := congrArg Int32.toInt (hF82.1 231 6 rfl)
    have f156 := congrArg Int32.toInt (hF82.1 231 13 rfl)
    refine At.enter rfl ?_
    refine r_pop rfl ?_
    refine r_goto ?_
    have zr : v9.toInt = v83.toInt := by
      apply Decidable.byContradiction
      intro hne
      exfalso
      omega
    have zsu := SU.eq su12 su86 zr
    exact K _ hI81 (show LwR _ from ⟨by first | (clear f24 f25 f26 f27 f28 f29 f30 f31 f32 f33 f34 f35 f36 f37 f38 f39 f40 f41 f42 f43 f44 f45 f46 f47 f50 f51 f52 f53 f54 f55 f56 f57 f58 f59 f60 f61 f62 f63 f64 f65 f66 f67 f68 f69 f70 f71 f72 f73 f74 f75 f105 f106 f107 f108 f109 f110 f111 f112 f113 f114 f115 f116 f117 f118 f119 f120 f121 f122 f123 f124 f125 f126 f127 f128 f129 f130 f138 f139 f140 f141 f142 f143 f144 f145 f146 f147 f148 f149 f150 f151 f152 f153 f154 f155 f156; omega) | omega, by first | (clear f22 f24 f25 f26 f27 f28 f29 f30 f31 f32 f33 f34 f35 f36 f37 f38 f39 f40 f41 f42 f43 f44 f45 f46 f47 f49 f51 f52 f53 f54 f55 f56 f57 f58 f59 f60 f61 f62 f63 f64 f65 f66 f67 f68 f69 f70 f71 f72 f73 f74 f75 f104 f106 f107 f108 f109 f110 f111 f112 f113 f114 f115 f116 f117 f118 f119 f120 f121 f122 f123 f124 f125 f126 f127 f128 f129 f130 f138 f139 f140 f141 f142 f143 f144 f145 f146 f147 f148 f149 f150 f151 f152 f153 f154 f155 f156; omega) | omega, by first | (clear f22 f25 f26 f27 f28 f29 f30 f31 f32 f33 f34 f35 f36 f37 f38 f39 f40 f41 f42 f43 f44 f45 f46 f47 f49 f50 f52 f53 f54 f55 f56 f57 f58 f59 f60 f61 f62 f63 f64 f65 f66 f67 f68 f69 f70 f71 f72 f73 f74 f75 f104 f105 f107 f108 f109 f110 f111 f112 f113 f114 f115 f116 f117 f118 f119 f120 f121 f122 f123 f124 f125 f126 f127 f128 f129 f130 f138 f139 f140 f141 f142 f143 f144 f145 f146 f147 f148 f149 f150 f151 f152 f153 f154 f155 f156; omega) | omega, by first | (clear f22 f24 f26 f27 f28 f29 f30 f31 f32 f33 f34 f35 f36 f37 f38 f39 f40 f41 f42 f43 f44 f45 f46 f47 f49 f50 f51 f53 f54 f55 f56 f57 f58 f59 f60 f61 f62 f63 f64 f65 f66 f67 f68 f69 f70 f71 f72 f73 f74 f75 f104 f105 f106 f108 f109 f110 f111 f112 f113 f114 f115 f116 f117 f118 f119 f120 f121 f122 f123 f124 f125 f126 f127 f128 f129 f130 f138 f139 f140 f141 f142 f143 f144 f145 f146 f147 f148 f149 f150 f151 f152 f153 f154 f155 f156; omega) | omega, by first | (clear f22 f24 f25 f27 f28 f29 f30 f31 f32 f33 f34 f35 f36 f37 f38 f39 f40 f41 f42 f43 f44 f45 f46 f47 f49 f50 f51 f52 f54 f55 f56 f57 f58 f59 f60 f61 f62 f63 f64 f65 f66 f67 f68 f69 f70 f71 f72 f73 f74 f75 f104 f105 f106 f107 f109 f110 f111 f112 f113 f114 f115 f116 f117 f118 f119 f120 f121 f122 f123 f124 f125 f126 f127 f128 f129 f130 f138 f139 f140 f141 f142 f143 f144 f145 f146 f147 f148 f149 f150 f151 f152 f153 f154 f155 f156; omega) | omega, by first | (clear f22 f24 f25 f26 f28 f29 f30 f31 f32 f33 f34 f35 f36 f37 f38 f39 f40 f41 f42 f43 f44 f45 f46 f47 f49 f50 f51 f52 f53 f55 f56 f57 f58 f59 f60 f61 f62 f63 f64 f65 f66 f67 f68 f69 f70 f71 f72 f73 f74 f75 f104 f105 f106 f107 f108 f110 f111 f112 f113 f114 f115 f116 f117 f118 f119 f120 f121 f122 f123 f124 f125 f126 f127 f128 f129 f130 f138 f139 f140 f141 f142 f143 f144 f145 f146 f147 f148 f149 f150 f151 f152 f153 f154 f155 f156; omega) | omega, by first | (clear f22 f24 f25 f26 f27 f29 f30 f31 f32 f33 f34 f35 f36 f37 f38 f39 f40 f41 f42 f43 f44 f45 f46 f47 f49 f50 f51 f52 f53 f54 f56 f57 f58 f59 f60 f61 f62 f63 f64 f65 f66 f67 f68 f69 f70 f71 f72 f73 f74 f75 f104 f105 f106 f107 f108 f109 f111 f112 f113 f114 f115 f116 f117 f118 f119 f120 f121 f122 f123 f124 f125 f126 f127 f128 f129 f130 f138 f139 f140 f141 f142 f143 f144 f145 f146 f147 f148 f149 f150 f151 f152 f153 f154 f155 f156; omega) | omega, (eA_ti (j := 0) (((hF82.2.1 173 (by decide)).trans (hF8.2.1 173 (by decide))))).trans (hR_7.trans (eA_ti (j := 0) (((hF82.2.1 235 (by decide)).trans (hF8.2.1 235 (by decide))))).symm), (eA_ti (j := 1) (((hF82.2.1 173 (by decide)).trans (hF8.2.1 173 (by decide))))).trans (hR_8.trans (eA_ti (j := 1) (((hF82.2.1 235 (by decide)).trans (hF8.2.1 235 (by decide))))).symm), (congrArg Int32.toInt (((hF82.1 174 1 (by decide)).trans (hF8.1 174 1 (by decide))))).trans (hR_9.trans (congrArg Int32.toInt (((hF82.1 231 8 (by decide)).trans (hF8.1 231 8 (by decide))))).symm), (congrArg Int32.toInt (((hF82.1 0 16 (by decide)).trans (hF8.1 0 16 (by decide))))).trans (hR_10.trans (congrArg Int32.toInt (((hF82.1 231 6 (by decide)).trans (hF8.1 231 6 (by decide))))).symm), (congrArg Int32.toInt (((hF82.1 176 2 (by decide)).trans (hF8.1 176 2 (by decide))))).trans (hR_11.trans (congrArg Int32.toInt (((hF82.1 231 13 (by decide)).trans (hF8.1 231 13 (by decide))))).symm), by first | (clear f22 f24 f25 f26 f27 f28 f29 f30 f31 f32 f33 f34 f35 f36 f37 f38 f39 f40 f41 f42 f43 f44 f45 f46 f47 f49 f50 f51 f52 f53 f54 f55 f56 f57 f58 f59 f60 f61 f62 f63 f64 f65 f66 f67 f68 f69 f70 f71 f72 f73 f74 f104 f105 f106 f107 f108 f109 f110 f111 f112 f113 f114 f115 f116 f117 f118 f119 f120 f121 f122 f123 f124 f125 f126 f127 f128 f129 f138 f139 f140 f141 f142 f143 f144 f145 f146 f147 f148 f149 f150 f151 f152 f153 f154 f155 f156; omega) | omega, IM0.cong hR_13 (eA_ti (j := 0) (((hF82.2.1 173 (by decide)).trans (hF8.2.1 173 (by decide))))) (congrArg Int32.toInt (((hF82.1 59 0 (by decide)).trans (hF8.1 59 0 (by decide))))) (eA_ti (j := 0) (((hF82.2.1 234 (by decide)).trans (hF8.2.1 234 (by decide))))) (congrArg Int32.toInt (((hF82.1 59 12 (by decide)).trans (hF8.1 59 12 (by decide))))) (eA_ti (j := 4) (((hF82.2.1 234 (by decide)).trans (hF8.2.1 234 (by decide))))) (congrArg Int32.toInt (((hF82.1 59 10 (by decide)).trans (hF8.1 59 10 (by decide))))) (eA_ti (j := 5) (((hF82.2.1 234 (by decide)).trans (hF8.2.1 234 (by decide))))) (congrArg Int32.toInt (((hF82.1 59 11 (by decide)).trans (hF8.1 59 11 (by decide))))) (eA_ti (j := 6) (((hF82.2.1 234 (by decide)).trans (hF8.2.1 234 (by decide))))) (congrArg Int32.toInt (((hF82.1 59 4 (by decide)).trans (hF8.1 59 4 (by decide))))) (eA_ti (j := 1) (((hF82.2.1 234 (by decide)).trans (hF8.2.1 234 (by decide))))) (congrArg Int32.toInt (((hF82.1 59 6 (by decide)).trans (hF8.1 59 6 (by decide))))) (eA_ti (j := 2) (((hF82.2.1 234 (by decide)).trans (hF8.2.1 234 (by decide))))) (congrArg Int32.toInt (((hF82.1 59 9 (by decide)).trans (hF8.1 59 9 (by decide))))) (eA_ti (j := 3) (((hF82.2.1 234 (by decide)).trans (hF8.2.1 234 (by decide))))), IM1.cong hR_14 (eA_ti (j := 1) (((hF82.2.1 173 (by decide)).trans (hF8.2.1 173 (by decide))))) (congrArg Int32.toInt (((hF82.1 116 0 (by decide)).trans (hF8.1 116 0 (by decide))))) (eA_ti (j := 5510) (((hF82.2.1 234 (by decide)).trans (hF8.2.1 234 (by decide))))) (congrArg Int32.toInt (((hF82.1 116 12 (by decide)).trans (hF8.1 116 12 (by decide))))) (eA_ti (j := 5514) (((hF82.2.1 234 (by decide)).trans (hF8.2.1 234 (by decide))))) (congrArg Int32.toInt (((hF82.1 116 10 (by decide)).trans (hF8.1 116 10 (by decide))))) (eA_ti (j := 5515) (((hF82.2.1 234 (by decide)).trans (hF8.2.1 234 (by decide))))) (congrArg Int32.toInt (((hF82.1 116 11 (by decide)).trans (hF8.1 116 11 (by decide))))) (eA_ti (j := 5516) (((hF82.2.1 234 (by decide)).trans (hF8.2.1 234 (by decide))))) (congrArg Int32.toInt (((hF82.1 116 4 (by decide)).trans (hF8.1 116 4 (by decide))))) (eA_ti (j := 5511) (((hF82.2.1 234 (by decide)).trans (hF8.2.1 234 (by decide))))) (congrArg Int32.toInt (((hF82.1 116 6 (by decide)).trans (hF8.1 116 6 (by decide))))) (eA_ti (j := 5512) (((hF82.2.1 234 (by decide)).trans (hF8.2.1 234 (by decide))))) (congrArg Int32.toInt (((hF82.1 116 9 (by decide)).trans (hF8.1 116 9 (by decide))))) (eA_ti (j := 5513) (((hF82.2.1 234 (by decide)).trans (hF8.2.1 234 (by decide))))), (show CT _ from ⟨fun i i0 i1 => ⟨(by first | (clear f29 f30 f31 f32 f33 f34 f35 f36 f37 f38 f39 f40 f41 f42 f45 f46 f47 f56 f57 f58 f59 f60 f61 f62 f63 f64 f65 f66 f67 f68 f69 f72 f73 f74 f75 f111 f112 f113 f114 f115 f116 f117 f118 f119 f120 f121 f122 f123 f124 f127 f128 f129 f130 f138 f139 f140 f141 f142 f143 f144 f145 f146 f147 f148 f149 f150 f151 f154 f155 f156; have t0_ := hI0.t0; have t1_ := hI0.t1; have t4_ := hI0.t4; have o := (hR_15.1 i i0 i1).1; have x := eA_ti (j := i) (((hF82.2.1 2 (by decide)).trans (hF8.2.1 2 (by decide)))); have m := q89 (10 + 3 * i) (by omega) (by omega); have y1 := eA_ti (j := ((10 + 3 * i))) (hF8.2.1 233 (by decide)); (try split at m) <;> (try split at m) <;> omega) | (have t0_ := hI0.t0; have t1_ := hI0.t1; have t4_ := hI0.t4; have o := (hR_15.1 i i0 i1).1; have x := eA_ti (j := i) (((hF82.2.1 2 (by decide)).trans (hF8.2.1 2 (by decide)))); have m := q89 (10 + 3 * i) (by omega) (by omega); have y1 := eA_ti (j := ((10 + 3 * i))) (hF8.2.1 233 (by decide)); (try split at m) <;> (try split at m) <;> omega)), (by first | (clear f29 f30 f31 f32 f33 f34 f35 f36 f37 f38 f39 f40 f41 f42 f45 f46 f47 f56 f57 f58 f59 f60 f61 f62 f63 f64 f65 f66 f67 f68 f69 f72 f73 f74 f75 f111 f112 f113 f114 f115 f116 f117 f118 f119 f120 f121 f122 f123 f124 f127 f128 f129 f130 f138 f139 f140 f141 f142 f143 f144 f145 f146 f147 f148 f149 f150 f151 f154 f155 f156; have t0_ := hI0.t0; have t1_ := hI0.t1; have t4_ := hI0.t4; have o := (hR_15.1 i i0 i1).2.1; have x := eA_ti (j := i) (((hF82.2.1 3 (by decide)).trans (hF8.2.1 3 (by decide)))); have m := q89 (10 + 3 * i + 1) (by omega) (by omega); have y1 := eA_ti (j := ((10 + 3 * i + 1))) (hF8.2.1 233 (by decide)); (try split at m) <;> (try split at m) <;> omega) | (have t0_ := hI0.t0; have t1_ := hI0.t1; have t4_ := hI0.t4; have o := (hR_15.1 i i0 i1).2.1; have x := eA_ti (j := i) (((hF82.2.1 3 (by decide)).trans (hF8.2.1 3 (by decide)))); have m := q89 (10 + 3 * i + 1) (by omega) (by omega); have y1 := eA_ti (j := ((10 + 3 * i + 1))) (hF8.2.1 233 (by decide)); (try split at m) <;> (try split at m) <;> omega)), (by first | (clear f29 f30 f31 f32 f33 f34 f35 f36 f37 f38 f39 f40 f41 f42 f45 f46 f47 f56 f57 f58 f59 f60 f61 f62 f63 f64 f65 f66 f67 f68 f69 f72 f73 f74 f75 f111 f112 f113 f114 f115 f116 f117 f118 f119 f120 f121 f122 f123 f124 f127 f128 f129 f130 f138 f139 f140 f141 f142 f143 f144 f145 f146 f147 f148 f149 f150 f151 f154 f155 f156; have t0_ := hI0.t0; have t1_ := hI0.t1; have t4_ := hI0.t4; have o := (hR_15.1 i i0 i1).2.2; have x := eA_ti (j := i) (((hF82.2.1 4 (by decide)).trans (hF8.2.1 4 (by decide)))); have m := q89 (10 + 3 * i + 2) (by omega) (by omega); have y1 := eA_ti (j := ((10 + 3 * i + 2))) (hF8.2.1 233 (by decide)); (try split at m) <;> (try split at m) <;> omega) | (have t0_ := hI0.t0; have t1_ := hI0.t1; have t4_ := hI0.t4; have o := (hR_15.1 i i0 i1).2.2; have x := eA_ti (j := i) (((hF82.2.1 4 (by decide)).trans (hF8.2.1 4 (by decide)))); have m := q89 (10 + 3 * i + 2) (by omega) (by omega); have y1 := eA_ti (j := ((10 + 3 * i + 2))) (hF8.2.1 233 (by decide)); (try split at m) <;> (try split at m) <;> omega))⟩, fun i i0 i1 => ⟨(by first | (clear f29 f30 f31 f32 f33 f34 f35 f36 f37 f38 f39 f40 f41 f42 f45 f46 f47 f56 f57 f58 f59 f60 f61 f62 f63 f64 f65 f66 f67 f68 f69 f72 f73 f74 f75 f111 f112 f113 f114 f115 f116 f117 f118 f119 f120 f121 f122 f123 f124 f127 f128 f129 f130 f138 f139 f140 f141 f142 f143 f144 f145 f146 f147 f148 f149 f150 f151 f154 f155 f156; have t0_ := hI0.t0; have t1_ := hI0.t1; have t4_ := hI0.t4; have o := (hR_15.2.1 i i0 i1).1; have x := (eA_ti (j := i) (hF82.2.1 14 (by decide))).trans (q15 i i0 i1); have m := q89 (94 + 2 * i) (by omega) (by omega); have y1 := eA_ti (j := ((94 + 2 * i))) (hF8.2.1 233 (by decide)); (try split at x) <;> (try split at m) <;> (try split at m) <;> omega) | (have t0_ := hI0.t0; have t1_ := hI0.t1; have t4_ := hI0.t4; have o := (hR_15.2.1 i i0 i1).1; have x := (eA_ti (j := i) (hF82.2.1 14 (by decide))).trans (q15 i i0 i1); have m := q89 (94 + 2 * i) (by omega) (by omega); have y1 := eA_ti (j := ((94 + 2 * i))) (hF8.2.1 233 (by decide)); (try split at x) <;> (try split at m) <;> (try split at m) <;> omega)), (by first | (clear f29 f30 f31 f32 f33 f34 f35 f36 f37 f38 f39 f40 f41 f42 f45 f46 f47 f56 f57 f58 f59 f60 f61 f62 f63 f64 f65 f66 f67 f68 f69 f72 f73 f74 f75 f111 f112 f113 f114 f115 f116 f117 f118 f119 f120 f121 f122 f123 f124 f127 f128 f129 f130 f138 f139 f140 f141 f142 f143 f144 f145 f146 f147 f148 f149 f150 f151 f154 f155 f156; have t0_ := hI0.t0; have t1_ := hI0.t1; have t4_ := hI0.t4; have o := (hR_15.2.1 i i0 i1).2; have x := (eA_ti (j := i) (hF82.2.1 15 (by decide))).trans (q16 i i0 i1); have m := q89 (94 + 2 * i + 1) (by omega) (by omega); have y1 := eA_ti (j := ((94 + 2 * i + 1))) (hF8.2.1 233 (by decide)); (try split at x) <;> (try split at m) <;> (try split at m) <;> omega) | (have t0_ := hI0.t0; have t1_ := hI0.t1; have t4_ := hI0.t4; have o := (hR_15.2.1 i i0 i1).2; have x := (eA_ti (j := i) (hF82.2.1 15 (by decide))).trans (q16 i i0 i1); have m := q89 (94 + 2 * i + 1) (by omega) (by omega); have y1 := eA_ti (j := ((94 + 2 * i + 1))) (hF8.2.1 233 (by decide)); (try split at x) <;> (try split at m) <;> (try split at m) <;> omega))⟩, fun i i0 i1 => (by first | (clear f29 f30 f31 f32 f33 f34 f35 f36 f37 f38 f39 f40 f41 f42 f45 f46 f47 f56 f57 f58 f59 f60 f61 f62 f63 f64 f65 f66 f67 f68 f69 f72 f73 f74 f75 f111 f112 f113 f114 f115 f116 f117 f118 f119 f120 f121 f122 f123 f124 f127 f128 f129 f130 f138 f139 f140 f141 f142 f143 f144 f145 f146 f147 f148 f149 f150 f151 f154 f155 f156; have t0_ := hI0.t0; have t1_ := hI0.t1; have t4_ := hI0.t4; have o : i < 6 * (gI g0 1 4).toInt → _ := fun hz => hR_15.2.2 i i0 hz; have x := eA_ti (j := i) (((hF82.2.1 5 (by decide)).trans (hF8.2.1 5 (by decide)))); have m := q89 (46 + i) (by omega) (by omega); have y1 := eA_ti (j := ((46 + i))) (hF8.2.1 233 (by decide)); (try split at m) <;> (try split at m) <;> omega) | (have t0_ := hI0.t0; have t1_ := hI0.t1; have t4_ := hI0.t4; have o : i < 6 * (gI g0 1 4).toInt → _ := fun hz => hR_15.2.2 i i0 hz; have x := eA_ti (j := i) (((hF82.2.1 5 (by decide)).trans (hF8.2.1 5 (by decide)))); have m := q89 (46 + i) (by omega) (by omega); have y1 := eA_ti (j := ((46 + i))) (hF8.2.1 233 (by decide)); (try split at m) <;> (try split at m) <;> omega))⟩), CI0.cong hR_16 (((hF82.2.1 60 (by decide)).trans (hF8.2.1 60 (by decide)))) (((hF82.2.1 61 (by decide)).trans (hF8.2.1 61 (by decide)))) (((hF82.2.1 62 (by decide)).trans (hF8.2.1 62 (by decide)))) (((hF82.2.1 72 (by decide)).trans (hF8.2.1 72 (by decide)))) (((hF82.2.1 73 (by decide)).trans (hF8.2.1 73 (by decide)))) (((hF82.2.1 63 (by decide)).trans (hF8.2.1 63 (by decide)))) (((hF82.2.1 234 (by decide)).trans (hF8.2.1 234 (by decide)))) (congrArg Int32.toInt (((hF82.1 59 4 (by decide)).trans (hF8.1 59 4 (by decide))))), CI1.cong hR_17 (((hF82.2.1 117 (by decide)).trans (hF8.2.1 117 (by decide)))) (((hF82.2.1 118 (by decide)).trans (hF8.2.1 118 (by decide)))) (((hF82.2.1 119 (by decide)).trans (hF8.2.1 119 (by decide)))) (((hF82.2.1 129 (by decide)).trans (hF8.2.1 129 (by decide)))) (((hF82.2.1 130 (by decide)).trans (hF8.2.1 130 (by decide)))) (((hF82.2.1 120 (by decide)).trans (hF8.2.1 120 (by decide)))) (((hF82.2.1 234 (by decide)).trans (hF8.2.1 234 (by decide)))) (congrArg Int32.toInt (((hF82.1 116 4 (by decide)).trans (hF8.1 116 4 (by decide))))), (show RT _ from fun i i0 i1 => (eA_ti (((hF82.2.1 175 (by decide)).trans (hF8.2.1 175 (by decide))))).trans ((hR_18 i i0 (by omega)).trans (eA_ti (((hF82.2.1 236 (by decide)).trans (hF8.2.1 236 (by decide))))).symm)), (show BYX _ from fun i i0 i1 => by rw [TX.c (((hF82.2.1 175 (by decide)).trans (hF8.2.1 175 (by decide))))]; exact hR_19 i i0 (by have i2 : i < (gI _ 174 1).toInt := i1; show i < (gI g0 174 1).toInt; omega))⟩)
  · refine r_callV 1104 rfl [.ref 0, .int v2, .int v4] [] (Nat.le_of_ble_eq_true rfl) rfl (T_X10_sign_0 _ hI0 v2 v4) ?_
    rintro _ _ ⟨g158, rfl, hI159, hF160, v161, rfl, hr162⟩
    refine At.sti ?_
    have hF163 := Fr.tr hF0 hF160 rfl rfl
    have su164 := hr162.2.2
    obtain ⟨q165, q166, q167, q168⟩ := (And.intro hr162.1 hr162.2.1)
    obtain ⟨i170, i171, i172, i173⟩ := q166
    have w169 := i171 ⟨pk5.1, pk5.2⟩
    clear i170 i171 i172 i173
    have f174 := congrArg Int32.toInt (hF160.1 1 0 rfl)
    have f176 := congrArg Int32.toInt (hF160.1 1 10 rfl)
    have f177 := congrArg Int32.toInt (hF160.1 1 11 rfl)
    have f178 := congrArg Int32.toInt (hF160.1 1 4 rfl)
    have f179 := congrArg Int32.toInt (hF160.1 1 6 rfl)
    have f180 := congrArg Int32.toInt (hF160.1 1 9 rfl)
    have f181 := congrArg Int32.toInt (hF160.1 59 0 rfl)
    have f182 := congrArg Int32.toInt (hF160.1 59 12 rfl)
    have f183 := congrArg Int32.toInt (hF160.1 59 10 rfl)
    have f184 := congrArg Int32.toInt (hF160.1 59 11 rfl)
    have f185 := congrArg Int32.toInt (hF160.1 59 4 rfl)
    have f186 := congrArg Int32.toInt (hF160.1 59 6 rfl)
    have f187 := congrArg Int32.toInt (hF160.1 59 9 rfl)
    have f188 := congrArg Int32.toInt (hF160.1 116 0 rfl)
    have f189 := congrArg Int32.toInt (hF160.1 116 12 rfl)
    have f190 := congrArg Int32.toInt (hF160.1 116 10 rfl)
    have f191 := congrArg Int32.toInt (hF160.1 116 11 rfl)
    have f192 := congrArg Int32.toInt (hF160.1 116 4 rfl)
    have f193 := congrArg Int32.toInt (hF160.1 116 6 rfl)
    have f194 := congrArg Int32.toInt (hF160.1 116 9 rfl)
    have f195 := congrArg Int32.toInt (eA_c (j := 0) (hF160.2.1 173 rfl))
    have f196 := congrArg Int32.toInt (eA_c (j := 1) (hF160.2.1 173 rfl))
    have f197 := congrArg Int32.toInt (hF160.1 174 1 rfl)
    have f198 := congrArg Int32.toInt (hF160.1 0 16 rfl)
    have f199 := congrArg Int32.toInt (hF160.1 176 2 rfl)
    have f201 := congrArg Int32.toInt (eA_c (j := 0) (hF160.2.1 233 rfl))
    have f202 := congrArg Int32.toInt (eA_c (j := 4) (hF160.2.1 233 rfl))
    have f203 := congrArg Int32.toInt (eA_c (j := 5) (hF160.2.1 233 rfl))
    have f204 := congrArg Int32.toInt (eA_c (j := 6) (hF160.2.1 233 rfl))
    have f205 := congrArg Int32.toInt (eA_c (j := 1) (hF160.2.1 233 rfl))
    have f206 := congrArg Int32.toInt (eA_c (j := 2) (hF160.2.1 233 rfl))
    have f207 := congrArg Int32.toInt (eA_c (j := 3) (hF160.2.1 233 rfl))
    have f208 := congrArg Int32.toInt (eA_c (j := 0) (hF160.2.1 234 rfl))
    have f209 := congrArg Int32.toInt (eA_c (j := 4) (hF160.2.1 234 rfl))
    have f210 := congrArg Int32.toInt (eA_c (j := 5) (hF160.2.1 234 rfl))
    have f211 := congrArg Int32.toInt (eA_c (j := 6) (hF160.2.1 234 rfl))
    have f212 := congrArg Int32.toInt (eA_c (j := 1) (hF160.2.1 234 rfl))
    have f213 := congrArg Int32.toInt (eA_c (j := 2) (hF160.2.1 234 rfl))
    have f214 := congrArg Int32.toInt (eA_c (j := 3) (hF160.2.1 234 rfl))
    have f215 := congrArg Int32.toInt (eA_c (j := 5510) (hF160.2.1 234 rfl))
    have f216 := congrArg Int32.toInt (eA_c (j := 5514) (hF160.2.1 234 rfl))
    have f217 := congrArg Int32.toInt (eA_c (j := 5515) (hF160.2.1 234 rfl))
    have f218 := congrArg Int32.toInt (eA_c (j := 5516) (hF160.2.1 234 rfl))
    have f219 := congrArg Int32.toInt (eA_c (j := 5511) (hF160.2.1 234 rfl))
    have f220 := congrArg Int32.toInt (eA_c (j := 5512) (hF160.2.1 234 rfl))
    have f221 := congrArg Int32.toInt (eA_c (j := 5513) (hF160.2.1 234 rfl))
    have f222 := congrArg Int32.toInt (eA_c (j := 0) (hF160.2.1 235 rfl))
    have f223 := congrArg Int32.toInt (eA_c (j := 1) (hF160.2.1 235 rfl))
    have f224 := congrArg Int32.toInt (hF160.1 231 8 rfl)
    have f225 := congrArg Int32.toInt (hF160.1 231 6 rfl)
    have f226 := congrArg Int32.toInt (hF160.1 231 13 rfl)
    have f227 := congrArg Int32.toInt (hF160.1 231 1 rfl)
    refine At.enter rfl ?_
    refine r_pop rfl ?_
    refine r_aload_n e2 ?_
    refine r_sload_n e0 ?_
    refine r_iload_n e3 ?_
    refine r_iconst 1 rfl ?_
    refine q_iadd (i.toInt + 1) rfl hx_1 (fun v228 hv228 => ?_)
    refine q_scald (m := L) hL (i.toInt + 1) hv228 hy_1 (fun v229 hv229 => ?_)
    have sv229 := hv2.symm.trans hv229
    subst sv229
    refine r_sload_n e0 ?_
    refine r_iload_n e3 ?_
    refine r_iconst 2 rfl ?_
    refine q_iadd (i.toInt + 2) rfl hx_2 (fun v230 hv230 => ?_)
    refine q_scald (m := L) hL (i.toInt + 2) hv230 hy_2 (fun v231 hv231 => ?_)
    have sv231 := hv4.symm.trans hv231
    subst sv231
    refine r_callV 1119 rfl [.ref 231, .int v2, .int v4] [] (Nat.le_of_ble_eq_true rfl) rfl (T_X11_sign_231 _ hI159 v2 v4) ?_
    rintro _ _ ⟨g232, rfl, hI233, hF234, v235, rfl, hr236⟩
    refine At.sti ?_
    have hF237 := Fr.tr hF163 hF234 rfl rfl
    have su238 := hr236.2.2
    obtain ⟨q239, q240, q241⟩ := (And.intro hr236.1 hr236.2.1)
    have ek253 : (eA g158 233 0).toInt = (gI g0 1 0).toInt := (eA_ti (j := 0) (hF160.2.1 233 (by decide))).trans hR_0.symm
    have ek254 : (eA g158 233 1).toInt = (gI g0 1 4).toInt := (eA_ti (j := 1) (hF160.2.1 233 (by decide))).trans hR_4.symm
    have ek255 : (eA g158 233 4).toInt = (gI g0 1 12).toInt := (eA_ti (j := 4) (hF160.2.1 233 (by decide))).trans hR_1.symm
    obtain ⟨⟨i243, i244, i245, i246⟩, sm247, sm248, sm249, sm250, sm251, sm252⟩ := q240
    have w242 := i244 ⟨pk5.1, (by rw [ek253]; exact pk5.2)⟩
    clear i243 i244 i245 i246
    have f256 := congrArg Int32.toInt (hF234.1 1 0 rfl)
    have f257 := congrArg Int32.toInt (hF234.1 1 12 rfl)
    have f258 := congrArg Int32.toInt (hF234.1 1 10 rfl)
    have f259 := congrArg Int32.toInt (hF234.1 1 11 rfl)
    have f260 := congrArg Int32.toInt (hF234.1 1 4 rfl)
    have f261 := congrArg Int32.toInt (hF234.1 1 6 rfl)
    have f262 := congrArg Int32.toInt (hF234.1 1 9 rfl)
    have f263 := congrArg Int32.toInt (hF234.1 59 0 rfl)
    have f264 := congrArg Int32.toInt (hF234.1 59 12 rfl)
    have f265 := congrArg Int32.toInt (hF234.1 59 10 rfl)
    have f266 := congrArg Int32.toInt (hF234.1 59 11 rfl)
    have f267 := congrArg Int32.toInt (hF234.1 59 4 rfl)
    have f268 := congrArg Int32.toInt (hF234.1 59 6 rfl)
    have f269 := congrArg Int32.toInt (hF234.1 59 9 rfl)
    have f270 := congrArg Int32.toInt (hF234.1 116 0 rfl)
    have f271 := congrArg Int32.toInt (hF234.1 116 12 rfl)
    have f272 := congrArg Int32.toInt (hF234.1 116 10 rfl)
    have f273 := congrArg Int32.toInt (hF234.1 116 11 rfl)
    have f274 := congrArg Int32.toInt (hF234.1 116 4 rfl)
    have f275 := congrArg Int32.toInt (hF234.1 116 6 rfl)
    have f276 := congrArg Int32.toInt (hF234.1 116 9 rfl)
    have f277 := congrArg Int32.toInt (eA_c (j := 0) (hF234.2.1 173 rfl))
    have f278 := congrArg Int32.toInt (eA_c (j := 1) (hF234.2.1 173 rfl))
    have f279 := congrArg Int32.toInt (hF234.1 174 1 rfl)
    have f280 := congrArg Int32.toInt (hF234.1 0 16 rfl)
    have f281 := congrArg Int32.toInt (hF234.1 176 2 rfl)
    have f282 := congrArg Int32.toInt (hF234.1 0 17 rfl)
    have f290 := congrArg Int32.toInt (eA_c (j := 0) (hF234.2.1 234 rfl))
    have f291 := congrArg Int32.toInt (eA_c (j := 4) (hF234.2.1 234 rfl))
    have f292 := congrArg Int32.toInt (eA_c (j := 5) (hF234.2.1 234 rfl))
    have f293 := congrArg Int32.toInt (eA_c (j := 6) (hF234.2.1 234 rfl))
    have f294 := congrArg Int32.toInt (eA_c (j := 1) (hF234.2.1 234 rfl))
    have f295 := congrArg Int32.toInt (eA_c (j := 2) (hF234.2.1 234 rfl))
    have f296 := congrArg Int32.toInt (eA_c (j := 3) (hF234.2.1 234 rfl))
    have f297 := congrArg Int32.toInt (eA_c (j := 5510) (hF234.2.1 234 rfl))
    have f298 := congrArg Int32.toInt (eA_c (j := 5514) (hF234.2.1 234 rfl))
    have f299 := congrArg Int32.toInt (eA_c (j := 5515) (hF234.2.1 234 rfl))
    have f300 := congrArg Int32.toInt (eA_c (j := 5516) (hF234.2.1 234 rfl))
    have f301 := congrArg Int32.toInt (eA_c (j := 5511) (hF234.2.1 234 rfl))
    have f302 := congrArg Int32.toInt (eA_c (j := 5512) (hF234.2.1 234 rfl))
    have f303 := congrArg Int32.toInt (eA_c (j := 5513) (hF234.2.1 234 rfl))
    have f304 := congrArg Int32.toInt (eA_c (j := 0) (hF234.2.1 235 rfl))
    have f305 := congrArg Int32.toInt (eA_c (j := 1) (hF234.2.1 235 rfl))
    have f306 := congrArg Int32.toInt (hF234.1 231 8 rfl)
    have f307 := congrArg Int32.toInt (hF234.1 231 6 rfl)
    have f308 := congrArg Int32.toInt (hF234.1 231 13 rfl)
    refine At.enter rfl ?_
    refine r_pop rfl ?_
    refine r_goto ?_
    have zr : v161.toInt = v235.toInt := by
      apply Decidable.byContradiction
      intro hne
      exfalso
      omega
    have zsu := SU.eq su164 su238 zr
    exact K _ hI233 (show LwR _ from ⟨by first | (clear f176 f177 f178 f179 f180 f181 f182 f183 f184 f185 f186 f187 f188 f189 f190 f191 f192 f193 f194 f195 f196 f197 f198 f199 f202 f203 f204 f205 f206 f207 f208 f209 f210 f211 f212 f213 f214 f215 f216 f217 f218 f219 f220 f221 f222 f223 f224 f225 f226 f227 f257 f258 f259 f260 f261 f262 f263 f264 f265 f266 f267 f268 f269 f270 f271 f272 f273 f274 f275 f276 f277 f278 f279 f280 f281 f282 f290 f291 f292 f293 f294 f295 f296 f297 f298 f299 f300 f301 f302 f303 f304 f305 f306 f307 f308; omega) | omega, by first | (clear f174 f176 f177 f178 f179 f180 f181 f182 f183 f184 f185 f186 f187 f188 f189 f190 f191 f192 f193 f194 f195 f196 f197 f198 f199 f201 f203 f204 f205 f206 f207 f208 f209 f210 f211 f212 f213 f214 f215 f216 f217 f218 f219 f220 f221 f222 f223 f224 f225 f226 f227 f256 f258 f259 f260 f261 f262 f263 f264 f265 f266 f267 f268 f269 f270 f271 f272 f273 f274 f275 f276 f277 f278 f279 f280 f281 f282 f290 f291 f292 f293 f294 f295 f296 f297 f298 f299 f300 f301 f302 f303 f304 f305 f306 f307 f308; omega) | omega, by first | (clear f174 f177 f178 f179 f180 f181 f182 f183 f184 f185 f186 f187 f188 f189 f190 f191 f192 f193 f194 f195 f196 f197 f198 f199 f201 f202 f204 f205 f206 f207 f208 f209 f210 f211 f212 f213 f214 f215 f216 f217 f218 f219 f220 f221 f222 f223 f224 f225 f226 f227 f256 f257 f259 f260 f261 f262 f263 f264 f265 f266 f267 f268 f269 f270 f271 f272 f273 f274 f275 f276 f277 f278 f279 f280 f281 f282 f290 f291 f292 f293 f294 f295 f296 f297 f298 f299 f300 f301 f302 f303 f304 f305 f306 f307 f308; omega) | omega, by first | (clear f174 f176 f178 f179 f180 f181 f182 f183 f184 f185 f186 f187 f188 f189 f190 f191 f192 f193 f194 f195 f196 f197 f198 f199 f201 f202 f203 f205 f206 f207 f208 f209 f210 f211 f212 f213 f214 f215 f216 f217 f218 f219 f220 f221 f222 f223 f224 f225 f226 f227 f256 f257 f258 f260 f261 f262 f263 f264 f265 f266 f267 f268 f269 f270 f271 f272 f273 f274 f275 f276 f277 f278 f279 f280 f281 f282 f290 f291 f292 f293 f294 f295 f296 f297 f298 f299 f300 f301 f302 f303 f304 f305 f306 f307 f308; omega) | omega, by first | (clear f174 f176 f177 f179 f180 f181 f182 f183 f184 f185 f186 f187 f188 f189 f190 f191 f192 f193 f194 f195 f196 f197 f198 f199 f201 f202 f203 f204 f206 f207 f208 f209 f210 f211 f212 f213 f214 f215 f216 f217 f218 f219 f220 f221 f222 f223 f224 f225 f226 f227 f256 f257 f258 f259 f261 f262 f263 f264 f265 f266 f267 f268 f269 f270 f271 f272 f273 f274 f275 f276 f277 f278 f279 f280 f281 f282 f290 f291 f292 f293 f294 f295 f296 f297 f298 f299 f300 f301 f302 f303 f304 f305 f306 f307 f308; omega) | omega, by first | (clear f174 f176 f177 f178 f180 f181 f182 f183 f184 f185 f186 f187 f188 f189 f190 f191 f192 f193 f194 f195 f196 f197 f198 f199 f201 f202 f203 f204 f205 f207 f208 f209 f210 f211 f212 f213 f214 f215 f216 f217 f218 f219 f220 f221 f222 f223 f224 f225 f226 f227 f256 f257 f258 f259 f260 f262 f263 f264 f265 f266 f267 f268 f269 f270 f271 f272 f273 f274 f275 f276 f277 f278 f279 f280 f281 f282 f290 f291 f292 f293 f294 f295 f296 f297 f298 f299 f300 f301 f302 f303 f304 f305 f306 f307 f308; omega) | omega, by first | (clear f174 f176 f177 f178 f179 f181 f182 f183 f184 f185 f186 f187 f188 f189 f190 f191 f192 f193 f194 f195 f196 f197 f198 f199 f201 f202 f203 f204 f205 f206 f208 f209 f210 f211 f212 f213 f214 f215 f216 f217 f218 f219 f220 f221 f222 f223 f224 f225 f226 f227 f256 f257 f258 f259 f260 f261 f263 f264 f265 f266 f267 f268 f269 f270 f271 f272 f273 f274 f275 f276 f277 f278 f279 f280 f281 f282 f290 f291 f292 f293 f294 f295 f296 f297 f298 f299 f300 f301 f302 f303 f304 f305 f306 f307 f308; omega) | omega, (eA_ti (j := 0) (((hF234.2.1 173 (by decide)).trans (hF160.2.1 173 (by decide))))).trans (hR_7.trans (eA_ti (j := 0) (((hF234.2.1 235 (by decide)).trans (hF160.2.1 235 (by decide))))).symm), (eA_ti (j := 1) (((hF234.2.1 173 (by decide)).trans (hF160.2.1 173 (by decide))))).trans (hR_8.trans (eA_ti (j := 1) (((hF234.2.1 235 (by decide)).trans (hF160.2.1 235 (by decide))))).symm), (congrArg Int32.toInt (((hF234.1 174 1 (by decide)).trans (hF160.1 174 1 (by decide))))).trans (hR_9.trans (congrArg Int32.toInt (((hF234.1 231 8 (by decide)).trans (hF160.1 231 8 (by decide))))).symm), (congrArg Int32.toInt (((hF234.1 0 16 (by decide)).trans (hF160.1 0 16 (by decide))))).trans (hR_10.trans (congrArg Int32.toInt (((hF234.1 231 6 (by decide)).trans (hF160.1 231 6 (by decide))))).symm), (congrArg Int32.toInt (((hF234.1 176 2 (by decide)).trans (hF160.1 176 2 (by decide))))).trans (hR_11.trans (congrArg Int32.toInt (((hF234.1 231 13 (by decide)).trans (hF160.1 231 13 (by decide))))).symm), by first | (clear f174 f176 f177 f178 f179 f180 f181 f182 f183 f184 f185 f186 f187 f188 f189 f190 f191 f192 f193 f194 f195 f196 f197 f198 f199 f201 f202 f203 f204 f205 f206 f207 f208 f209 f210 f211 f212 f213 f214 f215 f216 f217 f218 f219 f220 f221 f222 f223 f224 f225 f226 f256 f257 f258 f259 f260 f261 f262 f263 f264 f265 f266 f267 f268 f269 f270 f271 f272 f273 f274 f275 f276 f277 f278 f279 f280 f281 f290 f291 f292 f293 f294 f295 f296 f297 f298 f299 f300 f301 f302 f303 f304 f305 f306 f307 f308; omega) | omega, IM0.cong hR_13 (eA_ti (j := 0) (((hF234.2.1 173 (by decide)).trans (hF160.2.1 173 (by decide))))) (congrArg Int32.toInt (((hF234.1 59 0 (by decide)).trans (hF160.1 59 0 (by decide))))) (eA_ti (j := 0) (((hF234.2.1 234 (by decide)).trans (hF160.2.1 234 (by decide))))) (congrArg Int32.toInt (((hF234.1 59 12 (by decide)).trans (hF160.1 59 12 (by decide))))) (eA_ti (j := 4) (((hF234.2.1 234 (by decide)).trans (hF160.2.1 234 (by decide))))) (congrArg Int32.toInt (((hF234.1 59 10 (by decide)).trans (hF160.1 59 10 (by decide))))) (eA_ti (j := 5) (((hF234.2.1 234 (by decide)).trans (hF160.2.1 234 (by decide))))) (congrArg Int32.toInt (((hF234.1 59 11 (by decide)).trans (hF160.1 59 11 (by decide))))) (eA_ti (j := 6) (((hF234.2.1 234 (by decide)).trans (hF160.2.1 234 (by decide))))) (congrArg Int32.toInt (((hF234.1 59 4 (by decide)).trans (hF160.1 59 4 (by decide))))) (eA_ti (j := 1) (((hF234.2.1 234 (by decide)).trans (hF160.2.1 234 (by decide))))) (congrArg Int32.toInt (((hF234.1 59 6 (by decide)).trans (hF160.1 59 6 (by decide))))) (eA_ti (j := 2) (((hF234.2.1 234 (by decide)).trans (hF160.2.1 234 (by decide))))) (congrArg Int32.toInt (((hF234.1 59 9 (by decide)).trans (hF160.1 59 9 (by decide))))) (eA_ti (j := 3) (((hF234.2.1 234 (by decide)).trans (hF160.2.1 234 (by decide))))), IM1.cong hR_14 (eA_ti (j := 1) (((hF234.2.1 173 (by decide)).trans (hF160.2.1 173 (by decide))))) (congrArg Int32.toInt (((hF234.1 116 0 (by decide)).trans (hF160.1 116 0 (by decide))))) (eA_ti (j := 5510) (((hF234.2.1 234 (by decide)).trans (hF160.2.1 234 (by decide))))) (congrArg Int32.toInt (((hF234.1 116 12 (by decide)).trans (hF160.1 116 12 (by decide))))) (eA_ti (j := 5514) (((hF234.2.1 234 (by decide)).trans (hF160.2.1 234 (by decide))))) (congrArg Int32.toInt (((hF234.1 116 10 (by decide)).trans (hF160.1 116 10 (by decide))))) (eA_ti (j := 5515) (((hF234.2.1 234 (by decide)).trans (hF160.2.1 234 (by decide))))) (congrArg Int32.toInt (((hF234.1 116 11 (by decide)).trans (hF160.1 116 11 (by decide))))) (eA_ti (j := 5516) (((hF234.2.1 234 (by decide)).trans (hF160.2.1 234 (by decide))))) (congrArg Int32.toInt (((hF234.1 116 4 (by decide)).trans (hF160.1 116 4 (by decide))))) (eA_ti (j := 5511) (((hF234.2.1 234 (by decide)).trans (hF160.2.1 234 (by decide))))) (congrArg Int32.toInt (((hF234.1 116 6 (by decide)).trans (hF160.1 116 6 (by decide))))) (eA_ti (j := 5512) (((hF234.2.1 234 (by decide)).trans (hF160.2.1 234 (by decide))))) (congrArg Int32.toInt (((hF234.1 116 9 (by decide)).trans (hF160.1 116 9 (by decide))))) (eA_ti (j := 5513) (((hF234.2.1 234 (by decide)).trans (hF160.2.1 234 (by decide))))), (show CT _ from ⟨fun i i0 i1 => ⟨(by first | (clear f181 f182 f183 f184 f185 f186 f187 f188 f189 f190 f191 f192 f193 f194 f197 f198 f199 f208 f209 f210 f211 f212 f213 f214 f215 f216 f217 f218 f219 f220 f221 f224 f225 f226 f227 f263 f264 f265 f266 f267 f268 f269 f270 f271 f272 f273 f274 f275 f276 f279 f280 f281 f282 f290 f291 f292 f293 f294 f295 f296 f297 f298 f299 f300 f301 f302 f303 f306 f307 f308; have t0_ := hI0.t0; have t1_ := hI0.t1; have t4_ := hI0.t4; have o := (hR_15.1 i i0 i1).1; have x := eA_ti (j := i) (((hF234.2.1 2 (by decide)).trans (hF160.2.1 2 (by decide)))); have m := q241 (10 + 3 * i) (by omega) (by omega); have y1 := eA_ti (j := ((10 + 3 * i))) (hF160.2.1 233 (by decide)); (try split at m) <;> (try split at m) <;> omega) | (have t0_ := hI0.t0; have t1_ := hI0.t1; have t4_ := hI0.t4; have o := (hR_15.1 i i0 i1).1; have x := eA_ti (j := i) (((hF234.2.1 2 (by decide)).trans (hF160.2.1 2 (by decide)))); have m := q241 (10 + 3 * i) (by omega) (by omega); have y1 := eA_ti (j := ((10 + 3 * i))) (hF160.2.1 233 (by decide)); (try split at m) <;> (try split at m) <;> omega)), (by first | (clear f181 f182 f183 f184 f185 f186 f187 f188 f189 f190 f191 f192 f193 f194 f197 f198 f199 f208 f209 f210 f211 f212 f213 f214 f215 f216 f217 f218 f219 f220 f221 f224 f225 f226 f227 f263 f264 f265 f266 f267 f268 f269 f270 f271 f272 f273 f274 f275 f276 f279 f280 f281 f282 f290 f291 f292 f293 f294 f295 f296 f297 f298 f299 f300 f301 f302 f303 f306 f307 f308; have t0_ := hI0.t0; have t1_ := hI0.t1; have t4_ := hI0.t4; have o := (hR_15.1 i i0 i1).2.1; have x := eA_ti (j := i) (((hF234.2.1 3 (by decide)).trans (hF160.2.1 3 (by decide)))); have m := q241 (10 + 3 * i + 1) (by omega) (by omega); have y1 := eA_ti (j := ((10 + 3 * i + 1))) (hF160.2.1 233 (by decide)); (try split at m) <;> (try split at m) <;> omega) | (have t0_ := hI0.t0; have t1_ := hI0.t1; have t4_ := hI0.t4; have o := (hR_15.1 i i0 i1).2.1; have x := eA_ti (j := i) (((hF234.2.1 3 (by decide)).trans (hF160.2.1 3 (by decide)))); have m := q241 (10 + 3 * i + 1) (by omega) (by omega); have y1 := eA_ti (j := ((10 + 3 * i + 1))) (hF160.2.1 233 (by decide)); (try split at m) <;> (try split at m) <;> omega)), (by first | (clear f181 f182 f183 f184 f185 f186 f187 f188 f189 f190 f191 f192 f193 f194 f197 f198 f199 f208 f209 f210 f211 f212 f213 f214 f215 f216 f217 f218 f219 f220 f221 f224 f225 f226 f227 f263 f264 f265 f266 f267 f268 f269 f270 f271 f272 f273 f274 f275 f276 f279 f280 f281 f282 f290 f291 f292 f293 f294 f295 f296 f297 f298 f299 f300 f301 f302 f303 f306 f307 f308; have t0_ := hI0.t0; have t1_ := hI0.t1; have t4_ := hI0.t4; have o := (hR_15.1 i i0 i1).2.2; have x := eA_ti (j := i) (((hF234.2.1 4 (by decide)).trans (hF160.2.1 4 (by decide)))); have m := q241 (10 + 3 * i + 2) (by omega) (by omega); have y1 := eA_ti (j := ((10 + 3 * i + 2))) (hF160.2.1 233 (by decide)); (try split at m) <;> (try split at m) <;> omega) | (have t0_ := hI0.t0; have t1_ := hI0.t1; have t4_ := hI0.t4; have o := (hR_15.1 i i0 i1).2.2; have x := eA_ti (j := i) (((hF234.2.1 4 (by decide)).trans (hF160.2.1 4 (by decide)))); have m := q241 (10 + 3 * i + 2) (by omega) (by omega); have y1 := eA_ti (j := ((10 + 3 * i + 2))) (hF160.2.1 233 (by decide)); (try split at m) <;> (try split at m) <;> omega))⟩, fun i i0 i1 => ⟨(by first | (clear f181 f182 f183 f184 f185 f186 f187 f188 f189 f190 f191 f192 f193 f194 f197 f198 f199 f208 f209 f210 f211 f212 f213 f214 f215 f216 f217 f218 f219 f220 f221 f224 f225 f226 f227 f263 f264 f265 f266 f267 f268 f269 f270 f271 f272 f273 f274 f275 f276 f279 f280 f281 f282 f290 f291 f292 f293 f294 f295 f296 f297 f298 f299 f300 f301 f302 f303 f306 f307 f308; have t0_ := hI0.t0; have t1_ := hI0.t1; have t4_ := hI0.t4; have o := (hR_15.2.1 i i0 i1).1; have x := (eA_ti (j := i) (hF234.2.1 14 (by decide))).trans (q167 i i0 i1); have m := q241 (94 + 2 * i) (by omega) (by omega); have y1 := eA_ti (j := ((94 + 2 * i))) (hF160.2.1 233 (by decide)); (try split at x) <;> (try split at m) <;> (try split at m) <;> omega) | (have t0_ := hI0.t0; have t1_ := hI0.t1; have t4_ := hI0.t4; have o := (hR_15.2.1 i i0 i1).1; have x := (eA_ti (j := i) (hF234.2.1 14 (by decide))).trans (q167 i i0 i1); have m := q241 (94 + 2 * i) (by omega) (by omega); have y1 := eA_ti (j := ((94 + 2 * i))) (hF160.2.1 233 (by decide)); (try split at x) <;> (try split at m) <;> (try split at m) <;> omega)), (by first | (clear f181 f182 f183 f184 f185 f186 f187 f188 f189 f190 f191 f192 f193 f194 f197 f198 f199 f208 f209 f210 f211 f212 f213 f214 f215 f216 f217 f218 f219 f220 f221 f224 f225 f226 f227 f263 f264 f265 f266 f267 f268 f269 f270 f271 f272 f273 f274 f275 f276 f279 f280 f281 f282 f290 f291 f292 f293 f294 f295 f296 f297 f298 f299 f300 f301 f302 f303 f306 f307 f308; have t0_ := hI0.t0; have t1_ := hI0.t1; have t4_ := hI0.t4; have o := (hR_15.2.1 i i0 i1).2; have x := (eA_ti (j := i) (hF234.2.1 15 (by decide))).trans (q168 i i0 i1); have m := q241 (94 + 2 * i + 1) (by omega) (by omega); have y1 := eA_ti (j := ((94 + 2 * i + 1))) (hF160.2.1 233 (by decide)); (try split at x) <;> (try split at m) <;> (try split at m) <;> omega) | (have t0_ := hI0.t0; have t1_ := hI0.t1; have t4_ := hI0.t4; have o := (hR_15.2.1 i i0 i1).2; have x := (eA_ti (j := i) (hF234.2.1 15 (by decide))).trans (q168 i i0 i1); have m := q241 (94 + 2 * i + 1) (by omega) (by omega); have y1 := eA_ti (j := ((94 + 2 * i + 1))) (hF160.2.1 233 (by decide)); (try split at x) <;> (try split at m) <;> (try split at m) <;> omega))⟩, fun i i0 i1 => (by first | (clear f181 f182 f183 f184 f185 f186 f187 f188 f189 f190 f191 f192 f193 f194 f197 f198 f199 f208 f209 f210 f211 f212 f213 f214 f215 f216 f217 f218 f219 f220 f221 f224 f225 f226 f227 f263 f264 f265 f266 f267 f268 f269 f270 f271 f272 f273 f274 f275 f276 f279 f280 f281 f282 f290 f291 f292 f293 f294 f295 f296 f297 f298 f299 f300 f301 f302 f303 f306 f307 f308; have t0_ := hI0.t0; have t1_ := hI0.t1; have t4_ := hI0.t4; have o : i < 6 * (gI g0 1 4).toInt → _ := fun hz => hR_15.2.2 i i0 hz; have x := eA_ti (j := i) (((hF234.2.1 5 (by decide)).trans (hF160.2.1 5 (by decide)))); have m := q241 (46 + i) (by omega) (by omega); have y1 := eA_ti (j := ((46 + i))) (hF160.2.1 233 (by decide)); (try split at m) <;> (try split at m) <;> omega) | (have t0_ := hI0.t0; have t1_ := hI0.t1; have t4_ := hI0.t4; have o : i < 6 * (gI g0 1 4).toInt → _ := fun hz => hR_15.2.2 i i0 hz; have x := eA_ti (j := i) (((hF234.2.1 5 (by decide)).trans (hF160.2.1 5 (by decide)))); have m := q241 (46 + i) (by omega) (by omega); have y1 := eA_ti (j := ((46 + i))) (hF160.2.1 233 (by decide)); (try split at m) <;> (try split at m) <;> omega))⟩), CI0.cong hR_16 (((hF234.2.1 60 (by decide)).trans (hF160.2.1 60 (by decide)))) (((hF234.2.1 61 (by decide)).trans (hF160.2.1 61 (by decide)))) (((hF234.2.1 62 (by decide)).trans (hF160.2.1 62 (by decide)))) (((hF234.2.1 72 (by decide)).trans (hF160.2.1 72 (by decide)))) (((hF234.2.1 73 (by decide)).trans (hF160.2.1 73 (by decide)))) (((hF234.2.1 63 (by decide)).trans (hF160.2.1 63 (by decide)))) (((hF234.2.1 234 (by decide)).trans (hF160.2.1 234 (by decide)))) (congrArg Int32.toInt (((hF234.1 59 4 (by decide)).trans (hF160.1 59 4 (by decide))))), CI1.cong hR_17 (((hF234.2.1 117 (by decide)).trans (hF160.2.1 117 (by decide)))) (((hF234.2.1 118 (by decide)).trans (hF160.2.1 118 (by decide)))) (((hF234.2.1 119 (by decide)).trans (hF160.2.1 119 (by decide)))) (((hF234.2.1 129 (by decide)).trans (hF160.2.1 129 (by decide)))) (((hF234.2.1 130 (by decide)).trans (hF160.2.1 130 (by decide)))) (((hF234.2.1 120 (by decide)).trans (hF160.2.1 120 (by decide)))) (((hF234.2.1 234 (by decide)).trans (hF160.2.1 234 (by decide)))) (congrArg Int32.toInt (((hF234.1 116 4 (by decide)).trans (hF160.1 116 4 (by decide))))), (show RT _ from fun i i0 i1 => (eA_ti (((hF234.2.1 175 (by decide)).trans (hF160.2.1 175 (by decide))))).trans ((hR_18 i i0 (by omega)).trans (eA_ti (((hF234.2.1 236 (by decide)).trans (hF160.2.1 236 (by decide))))).symm)), (show BYX _ from fun i i0 i1 => by rw [TX.c (((hF234.2.1 175 (by decide)).trans (hF160.2.1 175 (by decide))))]; exact hR_19 i i0 (by have i2 : i < (gI _ 174 1).toInt := i1; show i < (gI g0 174 1).toInt; omega))⟩)
  · refine r_callV 1104 rfl [.ref 0, .int v2, .int v4] [] (Nat.le_of_ble_eq_true rfl) rfl (T_X10_sign_0 _ hI0 v2 v4) ?_
    rintro _ _ ⟨g310, rfl, hI311, hF312, v313, rfl, hr314⟩
    refine At.sti ?_
    have hF315 := Fr.tr hF0 hF312 rfl rfl
    have su316 := hr314.2.2
    obtain ⟨q317, q318, q319, q320⟩ := (And.intro hr314.1 hr314.2.1)
    obtain ⟨i322, i323, i324, i325⟩ := q318
    have w321 := i324 ⟨pk5.1, pk5.2.1, pk5.2.2⟩
    clear i322 i323 i324 i325
    have f326 := congrArg Int32.toInt (hF312.1 1 0 rfl)
    have f328 := congrArg Int32.toInt (hF312.1 1 10 rfl)
    have f329 := congrArg Int32.toInt (hF312.1 1 11 rfl)
    have f330 := congrArg Int32.toInt (hF312.1 1 4 rfl)
    have f331 := congrArg Int32.toInt (hF312.1 1 6 rfl)
    have f332 := congrArg Int32.toInt (hF312.1 1 9 rfl)
    have f333 := congrArg Int32.toInt (hF312.1 59 0 rfl)
    have f334 := congrArg Int32.toInt (hF312.1 59 12 rfl)
    have f335 := congrArg Int32.toInt (hF312.1 59 10 rfl)
    have f336 := congrArg Int32.toInt (hF312.1 59 11 rfl)
    have f337 := congrArg Int32.toInt (hF312.1 59 4 rfl)
    have f338 := congrArg Int32.toInt (hF312.1 59 6 rfl)
    have f339 := congrArg Int32.toInt (hF312.1 59 9 rfl)
    have f340 := congrArg Int32.toInt (hF312.1 116 0 rfl)
    have f341 := congrArg Int32.toInt (hF312.1 116 12 rfl)
    have f342 := congrArg Int32.toInt (hF312.1 116 10 rfl)
    have f343 := congrArg Int32.toInt (hF312.1 116 11 rfl)
    have f344 := congrArg Int32.toInt (hF312.1 116 4 rfl)
    have f345 := congrArg Int32.toInt (hF312.1 116 6 rfl)
    have f346 := congrArg Int32.toInt (hF312.1 116 9 rfl)
    have f347 := congrArg Int32.toInt (eA_c (j := 0) (hF312.2.1 173 rfl))
    have f348 := congrArg Int32.toInt (eA_c (j := 1) (hF312.2.1 173 rfl))
    have f349 := congrArg Int32.toInt (hF312.1 174 1 rfl)
    have f350 := congrArg Int32.toInt (hF312.1 0 16 rfl)
    have f351 := congrArg Int32.toInt (hF312.1 176 2 rfl)
    have f353 := congrArg Int32.toInt (eA_c (j := 0) (hF312.2.1 233 rfl))
    have f354 := congrArg Int32.toInt (eA_c (j := 4) (hF312.2.1 233 rfl))
    have f355 := congrArg Int32.toInt (eA_c (j := 5) (hF312.2.1 233 rfl))
    have f356 := congrArg Int32.toInt (eA_c (j := 6) (hF312.2.1 233 rfl))
    have f357 := congrArg Int32.toInt (eA_c (j := 1) (hF312.2.1 233 rfl))
    have f358 := congrArg Int32.toInt (eA_c (j := 2) (hF312.2.1 233 rfl))
    have f359 := congrArg Int32.toInt (eA_c (j := 3) (hF312.2.1 233 rfl))
    have f360 := congrArg Int32.toInt (eA_c (j := 0) (hF312.2.1 234 rfl))
    have f361 := congrArg Int32.toInt (eA_c (j := 4) (hF312.2.1 234 rfl))
    have f362 := congrArg Int32.toInt (eA_c (j := 5) (hF312.2.1 234 rfl))
    have f363 := congrArg Int32.toInt (eA_c (j := 6) (hF312.2.1 234 rfl))
    have f364 := congrArg Int32.toInt (eA_c (j := 1) (hF312.2.1 234 rfl))
    have f365 := congrArg Int32.toInt (eA_c (j := 2) (hF312.2.1 234 rfl))
    have f366 := congrArg Int32.toInt (eA_c (j := 3) (hF312.2.1 234 rfl))
    have f367 := congrArg Int32.toInt (eA_c (j := 5510) (hF312.2.1 234 rfl))
    have f368 := congrArg Int32.toInt (eA_c (j := 5514) (hF312.2.1 234 rfl))
    have f369 := congrArg Int32.toInt (eA_c (j := 5515) (hF312.2.1 234 rfl))
    have f370 := congrArg Int32.toInt (eA_c (j := 5516) (hF312.2.1 234 rfl))
    have f371 := congrArg Int32.toInt (eA_c (j := 5511) (hF312.2.1 234 rfl))
    have f372 := congrArg Int32.toInt (eA_c (j := 5512) (hF312.2.1 234 rfl))
    have f373 := congrArg Int32.toInt (eA_c (j := 5513) (hF312.2.1 234 rfl))
    have f374 := congrArg Int32.toInt (eA_c (j := 0) (hF312.2.1 235 rfl))
    have f375 := congrArg Int32.toInt (eA_c (j := 1) (hF312.2.1 235 rfl))
    have f376 := congrArg Int32.toInt (hF312.1 231 8 rfl)
    have f377 := congrArg Int32.toInt (hF312.1 231 6 rfl)
    have f378 := congrArg Int32.toInt (hF312.1 231 13 rfl)
    have f379 := congrArg Int32.toInt (hF312.1 231 1 rfl)
    refine At.enter rfl ?_
    refine r_pop rfl ?_
    refine r_aload_n e2 ?_
    refine r_sload_n e0 ?_
    refine r_iload_n e3 ?_
    refine r_iconst 1 rfl ?_
    refine q_iadd (i.toInt + 1) rfl hx_1 (fun v380 hv380 => ?_)
    refine q_scald (m := L) hL (i.toInt + 1) hv380 hy_1 (fun v381 hv381 => ?_)
    have sv381 := hv2.symm.trans hv381
    subst sv381
    refine r_sload_n e0 ?_
    refine r_iload_n e3 ?_
    refine r_iconst 2 rfl ?_
    refine q_iadd (i.toInt + 2) rfl hx_2 (fun v382 hv382 => ?_)
    refine q_scald (m := L) hL (i.toInt + 2) hv382 hy_2 (fun v383 hv383 => ?_)
    have sv383 := hv4.symm.trans hv383
    subst sv383
    refine r_callV 1119 rfl [.ref 231, .int v2, .int v4] [] (Nat.le_of_ble_eq_true rfl) rfl (T_X11_sign_231 _ hI311 v2 v4) ?_
    rintro _ _ ⟨g384, rfl, hI385, hF386, v387, rfl, hr388⟩
    refine At.sti ?_
    have hF389 := Fr.tr hF315 hF386 rfl rfl
    have su390 := hr388.2.2
    obtain ⟨q391, q392, q393⟩ := (And.intro hr388.1 hr388.2.1)
    have ek405 : (eA g310 233 0).toInt = (gI g0 1 0).toInt := (eA_ti (j := 0) (hF312.2.1 233 (by decide))).trans hR_0.symm
    have ek406 : (eA g310 233 1).toInt = (gI g0 1 4).toInt := (eA_ti (j := 1) (hF312.2.1 233 (by decide))).trans hR_4.symm
    have ek407 : (eA g310 233 4).toInt = (gI g0 1 12).toInt := (eA_ti (j := 4) (hF312.2.1 233 (by decide))).trans hR_1.symm
    obtain ⟨⟨i395, i396, i397, i398⟩, sm399, sm400, sm401, sm402, sm403, sm404⟩ := q392
    have w394 := i397 ⟨pk5.1, (by rw [ek405]; exact pk5.2.1), (by rw [ek407]; exact pk5.2.2)⟩
    clear i395 i396 i397 i398
    have f408 := congrArg Int32.toInt (hF386.1 1 0 rfl)
    have f409 := congrArg Int32.toInt (hF386.1 1 12 rfl)
    have f410 := congrArg Int32.toInt (hF386.1 1 10 rfl)
    have f411 := congrArg Int32.toInt (hF386.1 1 11 rfl)
    have f412 := congrArg Int32.toInt (hF386.1 1 4 rfl)
    have f413 := congrArg Int32.toInt (hF386.1 1 6 rfl)
    have f414 := congrArg Int32.toInt (hF386.1 1 9 rfl)
    have f415 := congrArg Int32.toInt (hF386.1 59 0 rfl)
    have f416 := congrArg Int32.toInt (hF386.1 59 12 rfl)
    have f417 := congrArg Int32.toInt (hF386.1 59 10 rfl)
    have f418 := congrArg Int32.toInt (hF386.1 59 11 rfl)
    have f419 := congrArg Int32.toInt (hF386.1 59 4 rfl)
    have f420 := congrArg Int32.toInt (hF386.1 59 6 rfl)
    have f421 := congrArg Int32.toInt (hF386.1 59 9 rfl)
    have f422 := congrArg Int32.toInt (hF386.1 116 0 rfl)
    have f423 := congrArg Int32.toInt (hF386.1 116 12 rfl)
    have f424 := congrArg Int32.toInt (hF386.1 116 10 rfl)
    have f425 := congrArg Int32.toInt (hF386.1 116 11 rfl)
    have f426 := congrArg Int32.toInt (hF386.1 116 4 rfl)
    have f427 := congrArg Int32.toInt (hF386.1 116 6 rfl)
    have f428 := congrArg Int32.toInt (hF386.1 116 9 rfl)
    have f429 := congrArg Int32.toInt (eA_c (j := 0) (hF386.2.1 173 rfl))
    have f430 := congrArg Int32.toInt (eA_c (j := 1) (hF386.2.1 173 rfl))
    have f431 := congrArg Int32.toInt (hF386.1 174 1 rfl)
    have f432 := congrArg Int32.toInt (hF386.1 0 16 rfl)
    have f433 := congrArg Int32.toInt (hF386.1 176 2 rfl)
    have f434 := congrArg Int32.toInt (hF386.1 0 17 rfl)
    have f442 := congrArg Int32.toInt (eA_c (j := 0) (hF386.2.1 234 rfl))
    have f443 := congrArg Int32.toInt (eA_c (j := 4) (hF386.2.1 234 rfl))
    have f444 := congrArg Int32.toInt (eA_c (j := 5) (hF386.2.1 234 rfl))
    have f445 := congrArg Int32.toInt (eA_c (j := 6) (hF386.2.1 234 rfl))
    have f446 := congrArg Int32.toInt (eA_c (j := 1) (hF386.2.1 234 rfl))
    have f447 := congrArg Int32.toInt (eA_c (j := 2) (hF386.2.1 234 rfl))
    have f448 := congrArg Int32.toInt (eA_c (j := 3) (hF386.2.1 234 rfl))
    have f449 := congrArg Int32.toInt (eA_c (j := 5510) (hF386.2.1 234 rfl))
    have f450 := congrArg Int32.toInt (eA_c (j := 5514) (hF386.2.1 234 rfl))
    have f451 := congrArg Int32.toInt (eA_c (j := 5515) (hF386.2.1 234 rfl))
    have f452 := congrArg Int32.toInt (eA_c (j := 5516) (hF386.2.1 234 rfl))
    have f453 := congrArg Int32.toInt (eA_c (j := 5511) (hF386.2.1 234 rfl))
    have f454 := congrArg Int32.toInt (eA_c (j := 5512) (hF386.2.1 234 rfl))
    have f455 := congrArg Int32.toInt (eA_c (j := 5513) (hF386.2.1 234 rfl))
    have f456 := congrArg Int32.toInt (eA_c (j := 0) (hF386.2.1 235 rfl))
    have f457 := congrArg Int32.toInt (eA_c (j := 1) (hF386.2.1 235 rfl))
    have f458 := congrArg Int32.toInt (hF386.1 231 8 rfl)
    have f459 := congrArg Int32.toInt (hF386.1 231 6 rfl)
    have f460 := congrArg Int32.toInt (hF386.1 231 13 rfl)
    refine At.enter rfl ?_
    refine r_pop rfl ?_
    refine r_goto ?_
    have zr : v313.toInt = v387.toInt := by
      apply Decidable.byContradiction
      intro hne
      exfalso
      omega
    have zsu := SU.eq su316 su390 zr
    exact K _ hI385 (show LwR _ from ⟨by first | (clear f328 f329 f330 f331 f332 f333 f334 f335 f336 f337 f338 f339 f340 f341 f342 f343 f344 f345 f346 f347 f348 f349 f350 f351 f354 f355 f356 f357 f358 f359 f360 f361 f362 f363 f364 f365 f366 f367 f368 f369 f370 f371 f372 f373 f374 f375 f376 f377 f378 f379 f409 f410 f411 f412 f413 f414 f415 f416 f417 f418 f419 f420 f421 f422 f423 f424 f425 f426 f427 f428 f429 f430 f431 f432 f433 f434 f442 f443 f444 f445 f446 f447 f448 f449 f450 f451 f452 f453 f454 f455 f456 f457 f458 f459 f460; omega) | omega, by first | (clear f326 f328 f329 f330 f331 f332 f333 f334 f335 f336 f337 f338 f339 f340 f341 f342 f343 f344 f345 f346 f347 f348 f349 f350 f351 f353 f355 f356 f357 f358 f359 f360 f361 f362 f363 f364 f365 f366 f367 f368 f369 f370 f371 f372 f373 f374 f375 f376 f377 f378 f379 f408 f410 f411 f412 f413 f414 f415 f416 f417 f418 f419 f420 f421 f422 f423 f424 f425 f426 f427 f428 f429 f430 f431 f432 f433 f434 f442 f443 f444 f445 f446 f447 f448 f449 f450 f451 f452 f453 f454 f455 f456 f457 f458 f459 f460; omega) | omega, by first | (clear f326 f329 f330 f331 f332 f333 f334 f335 f336 f337 f338 f339 f340 f341 f342 f343 f344 f345 f346 f347 f348 f349 f350 f351 f353 f354 f356 f357 f358 f359 f360 f361 f362 f363 f364 f365 f366 f367 f368 f369 f370 f371 f372 f373 f374 f375 f376 f377 f378 f379 f408 f409 f411 f412 f413 f414 f415 f416 f417 f418 f419 f420 f421 f422 f423 f424 f425 f426 f427 f428 f429 f430 f431 f432 f433 f434 f442 f443 f444 f445 f446 f447 f448 f449 f450 f451 f452 f453 f454 f455 f456 f457 f458 f459 f460; omega) | omega, by first | (clear f326 f328 f330 f331 f332 f333 f334 f335 f336 f337 f338 f339 f340 f341 f342 f343 f344 f345 f346 f347 f348 f349 f350 f351 f353 f354 f355 f357 f358 f359 f360 f361 f362 f363 f364 f365 f366 f367 f368 f369 f370 f371 f372 f373 f374 f375 f376 f377 f378 f379 f408 f409 f410 f412 f413 f414 f415 f416 f417 f418 f419 f420 f421 f422 f423 f424 f425 f426 f427 f428 f429 f430 f431 f432 f433 f434 f442 f443 f444 f445 f446 f447 f448 f449 f450 f451 f452 f453 f454 f455 f456 f457 f458 f459 f460; omega) | omega, by first | (clear f326 f328 f329 f331 f332 f333 f334 f335 f336 f337 f338 f339 f340 f341 f342 f343 f344 f345 f346 f347 f348 f349 f350 f351 f353 f354 f355 f356 f358 f359 f360 f361 f362 f363 f364 f365 f366 f367 f368 f369 f370 f371 f372 f373 f374 f375 f376 f377 f378 f379 f408 f409 f410 f411 f413 f414 f415 f416 f417 f418 f419 f420 f421 f422 f423 f424 f425 f426 f427 f428 f429 f430 f431 f432 f433 f434 f442 f443 f444 f445 f446 f447 f448 f449 f450 f451 f452 f453 f454 f455 f456 f457 f458 f459 f460; omega) | omega, by first | (clear f326 f328 f329 f330 f332 f333 f334 f335 f336 f337 f338 f339 f340 f341 f342 f343 f344 f345 f346 f347 f348 f349 f350 f351 f353 f354 f355 f356 f357 f359 f360 f361 f362 f363 f364 f365 f366 f367 f368 f369 f370 f371 f372 f373 f374 f375 f376 f377 f378 f379 f408 f409 f410 f411 f412 f414 f415 f416 f417 f418 f419 f420 f421 f422 f423 f424 f425 f426 f427 f428 f429 f430 f431 f432 f433 f434 f442 f443 f444 f445 f446 f447 f448 f449 f450 f451 f452 f453 f454 f455 f456 f457 f458 f459 f460; omega) | omega, by first | (clear f326 f328 f329 f330 f331 f333 f334 f335 f336 f337 f338 f339 f340 f341 f342 f343 f344 f345 f346 f347 f348 f349 f350 f351 f353 f354 f355 f356 f357 f358 f360 f361 f362 f363 f364 f365 f366 f367 f368 f369 f370 f371 f372 f373 f374 f375 f376 f377 f378 f379 f408 f409 f410 f411 f412 f413 f415 f416 f417 f418 f419 f420 f421 f422 f423 f424 f425 f426 f427 f428 f429 f430 f431 f432 f433 f434 f442 f443 f444 f445 f446 f447 f448 f449 f450 f451 f452 f453 f454 f455 f456 f457 f458 f459 f460; omega) | omega, (eA_ti (j := 0) (((hF386.2.1 173 (by decide)).trans (hF312.2.1 173 (by decide))))).trans (hR_7.trans (eA_ti (j := 0) (((hF386.2.1 235 (by decide)).trans (hF312.2.1 235 (by decide))))).symm), (eA_ti (j := 1) (((hF386.2.1 173 (by decide)).trans (hF312.2.1 173 (by decide))))).trans (hR_8.trans (eA_ti (j := 1) (((hF386.2.1 235 (by decide)).trans (hF312.2.1 235 (by decide))))).symm), (congrArg Int32.toInt (((hF386.1 174 1 (by decide)).trans (hF312.1 174 1 (by decide))))).trans (hR_9.trans (congrArg Int32.toInt (((hF386.1 231 8 (by decide)).trans (hF312.1 231 8 (by decide))))).symm), (congrArg Int32.toInt (((hF386.1 0 16 (by decide)).trans (hF312.1 0 16 (by decide))))).trans (hR_10.trans (congrArg Int32.toInt (((hF386.1 231 6 (by decide)).trans (hF312.1 231 6 (by decide))))).symm), (congrArg Int32.toInt (((hF386.1 176 2 (by decide)).trans (hF312.1 176 2 (by decide))))).trans (hR_11.trans (congrArg Int32.toInt (((hF386.1 231 13 (by decide)).trans (hF312.1 231 13 (by decide))))).symm), by first | (clear f326 f328 f329 f330 f331 f332 f333 f334 f335 f336 f337 f338 f339 f340 f341 f342 f343 f344 f345 f346 f347 f348 f349 f350 f351 f353 f354 f355 f356 f357 f358 f359 f360 f361 f362 f363 f364 f365 f366 f367 f368 f369 f370 f371 f372 f373 f374 f375 f376 f377 f378 f408 f409 f410 f411 f412 f413 f414 f415 f416 f417 f418 f419 f420 f421 f422 f423 f424 f425 f426 f427 f428 f429 f430 f431 f432 f433 f442 f443 f444 f445 f446 f447 f448 f449 f450 f451 f452 f453 f454 f455 f456 f457 f458 f459 f460; omega) | omega, IM0.cong hR_13 (eA_ti (j := 0) (((hF386.2.1 173 (by decide)).trans (hF312.2.1 173 (by decide))))) (congrArg Int32.toInt (((hF386.1 59 0 (by decide)).trans (hF312.1 59 0 (by decide))))) (eA_ti (j := 0) (((hF386.2.1 234 (by decide)).trans (hF312.2.1 234 (by decide))))) (congrArg Int32.toInt (((hF386.1 59 12 (by decide)).trans (hF312.1 59 12 (by decide))))) (eA_ti (j := 4) (((hF386.2.1 234 (by decide)).trans (hF312.2.1 234 (by decide))))) (congrArg Int32.toInt (((hF386.1 59 10 (by decide)).trans (hF312.1 59 10 (by decide))))) (eA_ti (j := 5) (((hF386.2.1 234 (by decide)).trans (hF312.2.1 234 (by decide))))) (congrArg Int32.toInt (((hF386.1 59 11 (by decide)).trans (hF312.1 59 11 (by decide))))) (eA_ti (j := 6) (((hF386.2.1 234 (by decide)).trans (hF312.2.1 234 (by decide))))) (congrArg Int32.toInt (((hF386.1 59 4 (by decide)).trans (hF312.1 59 4 (by decide))))) (eA_ti (j := 1) (((hF386.2.1 234 (by decide)).trans (hF312.2.1 234 (by decide))))) (congrArg Int32.toInt (((hF386.1 59 6 (by decide)).trans (hF312.1 59 6 (by decide))))) (eA_ti (j := 2) (((hF386.2.1 234 (by decide)).trans (hF312.2.1 234 (by decide))))) (congrArg Int32.toInt (((hF386.1 59 9 (by decide)).trans (hF312.1 59 9 (by decide))))) (eA_ti (j := 3) (((hF386.2.1 234 (by decide)).trans (hF312.2.1 234 (by decide))))), IM1.cong hR_14 (eA_ti (j := 1) (((hF386.2.1 173 (by decide)).trans (hF312.2.1 173 (by decide))))) (congrArg Int32.toInt (((hF386.1 116 0 (by decide)).trans (hF312.1 116 0 (by decide))))) (eA_ti (j := 5510) (((hF386.2.1 234 (by decide)).trans (hF312.2.1 234 (by decide))))) (congrArg Int32.toInt (((hF386.1 116 12 (by decide)).trans (hF312.1 116 12 (by decide))))) (eA_ti (j := 5514) (((hF386.2.1 234 (by decide)).trans (hF312.2.1 234 (by decide))))) (congrArg Int32.toInt (((hF386.1 116 10 (by decide)).trans (hF312.1 116 10 (by decide))))) (eA_ti (j := 5515) (((hF386.2.1 234 (by decide)).trans (hF312.2.1 234 (by decide))))) (congrArg Int32.toInt (((hF386.1 116 11 (by decide)).trans (hF312.1 116 11 (by decide))))) (eA_ti (j := 5516) (((hF386.2.1 234 (by decide)).trans (hF312.2.1 234 (by decide))))) (congrArg Int32.toInt (((hF386.1 116 4 (by decide)).trans (hF312.1 116 4 (by decide))))) (eA_ti (j := 5511) (((hF386.2.1 234 (by decide)).trans (hF312.2.1 234 (by decide))))) (congrArg Int32.toInt (((hF386.1 116 6 (by decide)).trans (hF312.1 116 6 (by decide))))) (eA_ti (j := 5512) (((hF386.2.1 234 (by decide)).trans (hF312.2.1 234 (by decide))))) (congrArg Int32.toInt (((hF386.1 116 9 (by decide)).trans (hF312.1 116 9 (by decide))))) (eA_ti (j := 5513) (((hF386.2.1 234 (by decide)).trans (hF312.2.1 234 (by decide))))), (show CT _ from ⟨fun i i0 i1 => ⟨(by first | (clear f333 f334 f335 f336 f337 f338 f339 f340 f341 f342 f343 f344 f345 f346 f349 f350 f351 f360 f361 f362 f363 f364 f365 f366 f367 f368 f369 f370 f371 f372 f373 f376 f377 f378 f379 f415 f416 f417 f418 f419 f420 f421 f422 f423 f424 f425 f426 f427 f428 f431 f432 f433 f434 f442 f443 f444 f445 f446 f447 f448 f449 f450 f451 f452 f453 f454 f455 f458 f459 f460; have t0_ := hI0.t0; have t1_ := hI0.t1; have t4_ := hI0.t4; have o := (hR_15.1 i i0 i1).1; have x := eA_ti (j := i) (((hF386.2.1 2 (by decide)).trans (hF312.2.1 2 (by decide)))); have m := q393 (10 + 3 * i) (by omega) (by omega); have y1 := eA_ti (j := ((10 + 3 * i))) (hF312.2.1 233 (by decide)); (try split at m) <;> (try split at m) <;> omega) | (have t0_ := hI0.t0; have t1_ := hI0.t1; have t4_ := hI0.t4; have o := (hR_15.1 i i0 i1).1; have x := eA_ti (j := i) (((hF386.2.1 2 (by decide)).trans (hF312.2.1 2 (by decide)))); have m := q393 (10 + 3 * i) (by omega) (by omega); have y1 := eA_ti (j := ((10 + 3 * i))) (hF312.2.1 233 (by decide)); (try split at m) <;> (try split at m) <;> omega)), (by first | (clear f333 f334 f335 f336 f337 f338 f339 f340 f341 f342 f343 f344 f345 f346 f349 f350 f351 f360 f361 f362 f363 f364 f365 f366 f367 f368 f369 f370 f371 f372 f373 f376 f377 f378 f379 f415 f416 f417 f418 f419 f420 f421 f422 f423 f424 f425 f426 f427 f428 f431 f432 f433 f434 f442 f443 f444 f445 f446 f447 f448 f449 f450 f451 f452 f453 f454 f455 f458 f459 f460; have t0_ := hI0.t0; have t1_ := hI0.t1; have t4_ := hI0.t4; have o := (hR_15.1 i i0 i1).2.1; have x := eA_ti (j := i) (((hF386.2.1 3 (by decide)).trans (hF312.2.1 3 (by decide)))); have m := q393 (10 + 3 * i + 1) (by omega) (by omega); have y1 := eA_ti (j := ((10 + 3 * i + 1))) (hF312.2.1 233 (by decide)); (try split at m) <;> (try split at m) <;> omega) | (have t0_ := hI0.t0; have t1_ := hI0.t1; have t4_ := hI0.t4; have o := (hR_15.1 i i0 i1).2.1; have x := eA_ti (j := i) (((hF386.2.1 3 (by decide)).trans (hF312.2.1 3 (by decide)))); have m := q393 (10 + 3 * i + 1) (by omega) (by omega); have y1 := eA_ti (j := ((10 + 3 * i + 1))) (hF312.2.1 233 (by decide)); (try split at m) <;> (try split at m) <;> omega)), (by first | (clear f333 f334 f335 f336 f337 f338 f339 f340 f341 f342 f343 f344 f345 f346 f349 f350 f351 f360 f361 f362 f363 f364 f365 f366 f367 f368 f369 f370 f371 f372 f373 f376 f377 f378 f379 f415 f416 f417 f418 f419 f420 f421 f422 f423 f424 f425 f426 f427 f428 f431 f432 f433 f434 f442 f443 f444 f445 f446 f447 f448 f449 f450 f451 f452 f453 f454 f455 f458 f459 f460; have t0_ := hI0.t0; have t1_ := hI0.t1; have t4_ := hI0.t4; have o := (hR_15.1 i i0 i1).2.2; have x := eA_ti (j := i) (((hF386.2.1 4 (by decide)).trans (hF312.2.1 4 (by decide)))); have m := q393 (10 + 3 * i + 2) (by omega) (by omega); have y1 := eA_ti (j := ((10 + 3 * i + 2))) (hF312.2.1 233 (by decide)); (try split at m) <;> (try split at m) <;> omega) | (have t0_ := hI0.t0; have t1_ := hI0.t1; have t4_ := hI0.t4; have o := (hR_15.1 i i0 i1).2.2; have x := eA_ti (j := i) (((hF386.2.1 4 (by decide)).trans (hF312.2.1 4 (by decide)))); have m := q393 (10 + 3 * i + 2) (by omega) (by omega); have y1 := eA_ti (j := ((10 + 3 * i + 2))) (hF312.2.1 233 (by decide)); (try split at m) <;> (try split at m) <;> omega))⟩, fun i i0 i1 => ⟨(by first | (clear f333 f334 f335 f336 f337 f338 f339 f340 f341 f342 f343 f344 f345 f346 f349 f350 f351 f360 f361 f362 f363 f364 f365 f366 f367 f368 f369 f370 f371 f372 f373 f376 f377 f378 f379 f415 f416 f417 f418 f419 f420 f421 f422 f423 f424 f425 f426 f427 f428 f431 f432 f433 f434 f442 f443 f444 f445 f446 f447 f448 f449 f450 f451 f452 f453 f454 f455 f458 f459 f460; have t0_ := hI0.t0; have t1_ := hI0.t1; have t4_ := hI0.t4; have o := (hR_15.2.1 i i0 i1).1; have x := (eA_ti (j := i) (hF386.2.1 14 (by decide))).trans (q319 i i0 i1); have m := q393 (94 + 2 * i) (by omega) (by omega); have y1 := eA_ti (j := ((94 + 2 * i))) (hF312.2.1 233 (by decide)); (try split at x) <;> (try split at m) <;> (try split at m) <;> omega) | (have t0_ := hI0.t0; have t1_ := hI0.t1; have t4_ := hI0.t4; have o := (hR_15.2.1 i i0 i1).1; have x := (eA_ti (j := i) (hF386.2.1 14 (by decide))).trans (q319 i i0 i1); have m := q393 (94 + 2 * i) (by omega) (by omega); have y1 := eA_ti (j := ((94 + 2 * i))) (hF312.2.1 233 (by decide)); (try split at x) <;> (try split at m) <;> (try split at m) <;> omega)), (by first | (clear f333 f334 f335 f336 f337 f338 f339 f340 f341 f342 f343 f344 f345 f346 f349 f350 f351 f360 f361 f362 f363 f364 f365 f366 f367 f368 f369 f370 f371 f372 f373 f376 f377 f378 f379 f415 f416 f417 f418 f419 f420 f421 f422 f423 f424 f425 f426 f427 f428 f431 f432 f433 f434 f442 f443 f444 f445 f446 f447 f448 f449 f450 f451 f452 f453 f454 f455 f458 f459 f460; have t0_ := hI0.t0; have t1_ := hI0.t1; have t4_ := hI0.t4; have o := (hR_15.2.1 i i0 i1).2; have x := (eA_ti (j := i) (hF386.2.1 15 (by decide))).trans (q320 i i0 i1); have m := q393 (94 + 2 * i + 1) (by omega) (by omega); have y1 := eA_ti (j := ((94 + 2 * i + 1))) (hF312.2.1 233 (by decide)); (try split at x) <;> (try split at m) <;> (try split at m) <;> omega) | (have t0_ := hI0.t0; have t1_ := hI0.t1; have t4_ := hI0.t4; have o := (hR_15.2.1 i i0 i1).2; have x := (eA_ti (j := i) (hF386.2.1 15 (by decide))).trans (q320 i i0 i1); have m := q393 (94 + 2 * i + 1) (by omega) (by omega); have y1 := eA_ti (j := ((94 + 2 * i + 1))) (hF312.2.1 233 (by decide)); (try split at x) <;> (try split at m) <;> (try split at m) <;> omega))⟩, fun i i0 i1 => (by first | (clear f333 f334 f335 f336 f337 f338 f339 f340 f341 f342 f343 f344 f345 f346 f349 f350 f351 f360 f361 f362 f363 f364 f365 f366 f367 f368 f369 f370 f371 f372 f373 f376 f377 f378 f379 f415 f416 f417 f418 f419 f420 f421 f422 f423 f424 f425 f426 f427 f428 f431 f432 f433 f434 f442 f443 f444 f445 f446 f447 f448 f449 f450 f451 f452 f453 f454 f455 f458 f459 f460; have t0_ := hI0.t0; have t1_ := hI0.t1; have t4_ := hI0.t4; have o : i < 6 * (gI g0 1 4).toInt → _ := fun hz => hR_15.2.2 i i0 hz; have x := eA_ti (j := i) (((hF386.2.1 5 (by decide)).trans (hF312.2.1 5 (by decide)))); have m := q393 (46 + i) (by omega) (by omega); have y1 := eA_ti (j := ((46 + i))) (hF312.2.1 233 (by decide)); (try split at m) <;> (try split at m) <;> omega) | (have t0_ := hI0.t0; have t1_ := hI0.t1; have t4_ := hI0.t4; have o : i < 6 * (gI g0 1 4).toInt → _ := fun hz => hR_15.2.2 i i0 hz; have x := eA_ti (j := i) (((hF386.2.1 5 (by decide)).trans (hF312.2.1 5 (by decide)))); have m := q393 (46 + i) (by omega) (by omega); have y1 := eA_ti (j := ((46 + i))) (hF312.2.1 233 (by decide)); (try split at m) <;> (try split at m) <;> omega))⟩), CI0.cong hR_16 (((hF386.2.1 60 (by decide)).trans (hF312.2.1 60 (by decide)))) (((hF386.2.1 61 (by decide)).trans (hF312.2.1 61 (by decide)))) (((hF386.2.1 62 (by decide)).trans (hF312.2.1 62 (by decide)))) (((hF386.2.1 72 (by decide)).trans (hF312.2.1 72 (by decide)))) (((hF386.2.1 73 (by decide)).trans (hF312.2.1 73 (by decide)))) (((hF386.2.1 63 (by decide)).trans (hF312.2.1 63 (by decide)))) (((hF386.2.1 234 (by decide)).trans (hF312.2.1 234 (by decide)))) (congrArg Int32.toInt (((hF386.1 59 4 (by decide)).trans (hF312.1 59 4 (by decide))))), CI1.cong hR_17 (((hF386.2.1 117 (by decide)).trans (hF312.2.1 117 (by decide)))) (((hF386.2.1 118 (by decide)).trans (hF312.2.1 118 (by decide)))) (((hF386.2.1 119 (by decide)).trans (hF312.2.1 119 (by decide)))) (((hF386.2.1 129 (by decide)).trans (hF312.2.1 129 (by decide)))) (((hF386.2.1 130 (by decide)).trans (hF312.2.1 130 (by decide)))) (((hF386.2.1 120 (by decide)).trans (hF312.2.1 120 (by decide)))) (((hF386.2.1 234 (by decide)).trans (hF312.2.1 234 (by decide)))) (congrArg Int32.toInt (((hF386.1 116 4 (by decide)).trans (hF312.1 116 4 (by decide))))), (show RT _ from fun i i0 i1 => (eA_ti (((hF386.2.1 175 (by decide)).trans (hF312.2.1 175 (by decide))))).trans ((hR_18 i i0 (by omega)).trans (eA_ti (((hF386.2.1 236 (by decide)).trans (hF312.2.1 236 (by decide))))).symm)), (show BYX _ from fun i i0 i1 => by rw [TX.c (((hF386.2.1 175 (by decide)).trans (hF312.2.1 175 (by decide))))]; exact hR_19 i i0 (by have i2 : i < (gI _ 174 1).toInt := i1; show i < (gI g0 174 1).toInt; omega))⟩)
  · refine r_callV 1104 rfl [.ref 0, .int v2, .int v4] [] (Nat.le_of_ble_eq_true rfl) rfl (T_X10_sign_0 _ hI0 v2 v4) ?_
    rintro _ _ ⟨g462, rfl, hI463, hF464, v465, rfl, hr466⟩
    refine At.sti ?_
    have hF467 := Fr.tr hF0 hF464 rfl rfl
    have su468 := hr466.2.2
    obtain ⟨q469, q470, q471, q472⟩ := (And.intro hr466.1 hr466.2.1)
    obtain ⟨i474, i475, i476, i477⟩ := q470
    have w473 := i477 ⟨pk5.1, pk5.2.1, Int.not_le.mp pk5.2.2⟩
    clear i474 i475 i476 i477
    have f478 := congrArg Int32.toInt (hF464.1 1 0 rfl)
    have f480 := congrArg Int32.toInt (hF464.1 1 10 rfl)
    have f481 := congrArg Int32.toInt (hF464.1 1 11 rfl)
    have f482 := congrArg Int32.toInt (hF464.1 1 4 rfl)
    have f483 := congrArg Int32.toInt (hF464.1 1 6 rfl)
    have f484 := congrArg Int32.toInt (hF464.1 1 9 rfl)
    have f485 := congrArg Int32.toInt (hF464.1 59 0 rfl)
    have f486 := congrArg Int32.toInt (hF464.1 59 12 rfl)
    have f487 := congrArg Int32.toInt (hF464.1 59 10 rfl)
    have f488 := congrArg Int32.toInt (hF464.1 59 11 rfl)
    have f489 := congrArg Int32.toInt (hF464.1 59 4 rfl)
    have f490 := congrArg Int32.toInt (hF464.1 59 6 rfl)
    have f491 := congrArg Int32.toInt (hF464.1 59 9 rfl)
    have f492 := congrArg Int32.toInt (hF464.1 116 0 rfl)
    have f493 := congrArg Int32.toInt (hF464.1 116 12 rfl)
    have f494 := congrArg Int32.toInt (hF464.1 116 10 rfl)
    have f495 := congrArg Int32.toInt (hF464.1 116 11 rfl)
    have f496 := congrArg Int32.toInt (hF464.1 116 4 rfl)
    have f497 := congrArg Int32.toInt (hF464.1 116 6 rfl)
    have f498 := congrArg Int32.toInt (hF464.1 116 9 rfl)
    have f499 := congrArg Int32.toInt (eA_c (j := 0) (hF464.2.1 173 rfl))
    have f500 := congrArg Int32.toInt (eA_c (j := 1) (hF464.2.1 173 rfl))
    have f501 := congrArg Int32.toInt (hF464.1 174 1 rfl)
    have f502 := congrArg Int32.toInt (hF464.1 0 16 rfl)
    have f503 := congrArg Int32.toInt (hF464.1 176 2 rfl)
    have f505 := congrArg Int32.toInt (eA_c (j := 0) (hF464.2.1 233 rfl))
    have f506 := congrArg Int32.toInt (eA_c (j := 4) (hF464.2.1 233 rfl))
    have f507 := congrArg Int32.toInt (eA_c (j := 5) (hF464.2.1 233 rfl))
    have f508 := congrArg Int32.toInt (eA_c (j := 6) (hF464.2.1 233 rfl))
    have f509 := congrArg Int32.toInt (eA_c (j := 1) (hF464.2.1 233 rfl))
    have f510 := congrArg Int32.toInt (eA_c (j := 2) (hF464.2.1 233 rfl))
    have f511 := congrArg Int32.toInt (eA_c (j := 3) (hF464.2.1 233 rfl))
    have f512 := congrArg Int32.toInt (eA_c (j := 0) (hF464.2.1 234 rfl))
    have f513 := congrArg Int32.toInt (eA_c (j := 4) (hF464.2.1 234 rfl))
    have f514 := congrArg Int32.toInt (eA_c (j := 5) (hF464.2.1 234 rfl))
    have f515 := congrArg Int32.toInt (eA_c (j := 6) (hF464.2.1 234 rfl))
    have f516 := congrArg Int32.toInt (eA_c (j := 1) (hF464.2.1 234 rfl))
    have f517 := congrArg Int32.toInt (eA_c (j := 2) (hF464.2.1 234 rfl))
    have f518 := congrArg Int32.toInt (eA_c (j := 3) (hF464.2.1 234 rfl))
    have f519 := congrArg Int32.toInt (eA_c (j := 5510) (hF464.2.1 234 rfl))
    have f520 := congrArg Int32.toInt (eA_c (j := 5514) (hF464.2.1 234 rfl))
    have f521 := congrArg Int32.toInt (eA_c (j := 5515) (hF464.2.1 234 rfl))
    have f522 := congrArg Int32.toInt (eA_c (j := 5516) (hF464.2.1 234 rfl))
    have f523 := congrArg Int32.toInt (eA_c (j := 5511) (hF464.2.1 234 rfl))
    have f524 := congrArg Int32.toInt (eA_c (j := 5512) (hF464.2.1 234 rfl))
    have f525 := congrArg Int32.toInt (eA_c (j := 5513) (hF464.2.1 234 rfl))
    have f526 := congrArg Int32.toInt (eA_c (j := 0) (hF464.2.1 235 rfl))
    have f527 := congrArg Int32.toInt (eA_c (j := 1) (hF464.2.1 235 rfl))
    have f528 := congrArg Int32.toInt (hF464.1 231 8 rfl)
    have f529 := congrArg Int32.toInt (hF464.1 231 6 rfl)
    have f530 := congrArg Int32.toInt (hF464.1 231 13 rfl)
    have f531 := congrArg Int32.toInt (hF464.1 231 1 rfl)
    refine At.enter rfl ?_
    refine r_pop rfl ?_
    refine r_aload_n e2 ?_
    refine r_sload_n e0 ?_
    refine r_iload_n e3 ?_
    refine r_iconst 1 rfl ?_
    refine q_iadd (i.toInt + 1) rfl hx_1 (fun v532 hv532 => ?_)
    refine q_scald (m := L) hL (i.toInt + 1) hv532 hy_1 (fun v533 hv533 => ?_)
    have sv533 := hv2.symm.trans hv533
    subst sv533
    refine r_sload_n e0 ?_
    refine r_iload_n e3 ?_
    refine r_iconst 2 rfl ?_
    refine q_iadd (i.toInt + 2) rfl hx_2 (fun v534 hv534 => ?_)
    refine q_scald (m := L) hL (i.toInt + 2) hv534 hy_2 (fun v535 hv535 => ?_)
    have sv535 := hv4.symm.trans hv535
    subst sv535
    refine r_callV 1119 rfl [.ref 231, .int v2, .int v4] [] (Nat.le_of_ble_eq_true rfl) rfl (T_X11_sign_231 _ hI463 v2 v4) ?_
    rintro _ _ ⟨g536, rfl, hI537, hF538, v539, rfl, hr540⟩
    refine At.sti ?_
    have hF541 := Fr.tr hF467 hF538 rfl rfl
    have su542 := hr540.2.2
    obtain ⟨q543, q544, q545⟩ := (And.intro hr540.1 hr540.2.1)
    have ek557 : (eA g462 233 0).toInt = (gI g0 1 0).toInt := (eA_ti (j := 0) (hF464.2.1 233 (by decide))).trans hR_0.symm
    have ek558 : (eA g462 233 1).toInt = (gI g0 1 4).toInt := (eA_ti (j := 1) (hF464.2.1 233 (by decide))).trans hR_4.symm
    have ek559 : (eA g462 233 4).toInt = (gI g0 1 12).toInt := (eA_ti (j := 4) (hF464.2.1 233 (by decide))).trans hR_1.symm
    obtain ⟨⟨i547, i548, i549, i550⟩, sm551, sm552, sm553, sm554, sm555, sm556⟩ := q544
    have w546 := i550 ⟨pk5.1, (by rw [ek557]; exact pk5.2.1), Int.not_le.mp (by rw [ek559]; exact pk5.2.2)⟩
    clear i547 i548 i549 i550
    have f560 := congrArg Int32.toInt (hF538.1 1 0 rfl)
    have f561 := congrArg Int32.toInt (hF538.1 1 12 rfl)
    have f562 := congrArg Int32.toInt (hF538.1 1 10 rfl)
    have f563 := congrArg Int32.toInt (hF538.1 1 11 rfl)
    have f564 := congrArg Int32.toInt (hF538.1 1 4 rfl)
    have f565 := congrArg Int32.toInt (hF538.1 1 6 rfl)
    have f566 := congrArg Int32.toInt (hF538.1 1 9 rfl)
    have f567 := congrArg Int32.toInt (hF538.1 59 0 rfl)
    have f568 := congrArg Int32.toInt (hF538.1 59 12 rfl)
    have f569 := congrArg Int32.toInt (hF538.1 59 10 rfl)
    have f570 := congrArg Int32.toInt (hF538.1 59 11 rfl)
    have f571 := congrArg Int32.toInt (hF538.1 59 4 rfl)
    have f572 := congrArg Int32.toInt (hF538.1 59 6 rfl)
    have f573 := congrArg Int32.toInt (hF538.1 59 9 rfl)
    have f574 := congrArg Int32.toInt (hF538.1 116 0 rfl)
    have f575 := congrArg Int32.toInt (hF538.1 116 12 rfl)
    have f576 := congrArg Int32.toInt (hF538.1 116 10 rfl)
    have f577 := congrArg Int32.toInt (hF538.1 116 11 rfl)
    have f578 := congrArg Int32.toInt (hF538.1 116 4 rfl)
    have f579 := congrArg Int32.toInt (hF538.1 116 6 rfl)
    have f580 := congrArg Int32.toInt (hF538.1 116 9 rfl)
    have f581 := congrArg Int32.toInt (eA_c (j := 0) (hF538.2.1 173 rfl))
    have f582 := congrArg Int32.toInt (eA_c (j := 1) (hF538.2.1 173 rfl))
    have f583 := congrArg Int32.toInt (hF538.1 174 1 rfl)
    have f584 := congrArg Int32.toInt (hF538.1 0 16 rfl)
    have f585 := congrArg Int32.toInt (hF538.1 176 2 rfl)
    have f586 := congrArg Int32.toInt (hF538.1 0 17 rfl)
    have f594 := congrArg Int32.toInt (eA_c (j := 0) (hF538.2.1 234 rfl))
    have f595 := congrArg Int32.toInt (eA_c (j := 4) (hF538.2.1 234 rfl))
    have f596 := congrArg Int32.toInt (eA_c (j := 5) (hF538.2.1 234 rfl))
    have f597 := congrArg Int32.toInt (eA_c (j := 6) (hF538.2.1 234 rfl))
    have f598 := congrArg Int32.toInt (eA_c (j := 1) (hF538.2.1 234 rfl))
    have f599 := congrArg Int32.toInt (eA_c (j := 2) (hF538.2.1 234 rfl))
    have f600 := congrArg Int32.toInt (eA_c (j := 3) (hF538.2.1 234 rfl))
    have f601 := congrArg Int32.toInt (eA_c (j := 5510) (hF538.2.1 234 rfl))
    have f602 := congrArg Int32.toInt (eA_c (j := 5514) (hF538.2.1 234 rfl))
    have f603 := congrArg Int32.toInt (eA_c (j := 5515) (hF538.2.1 234 rfl))
    have f604 := congrArg Int32.toInt (eA_c (j := 5516) (hF538.2.1 234 rfl))
    have f605 := congrArg Int32.toInt (eA_c (j := 5511) (hF538.2.1 234 rfl))
    have f606 := congrArg Int32.toInt (eA_c (j := 5512) (hF538.2.1 234 rfl))
    have f607 := congrArg Int32.toInt (eA_c (j := 5513) (hF538.2.1 234 rfl))
    have f608 := congrArg Int32.toInt (eA_c (j := 0) (hF538.2.1 235 rfl))
    have f609 := congrArg Int32.toInt (eA_c (j := 1) (hF538.2.1 235 rfl))
    have f610 := congrArg Int32.toInt (hF538.1 231 8 rfl)
    have f611 := congrArg Int32.toInt (hF538.1 231 6 rfl)
    have f612 := congrArg Int32.toInt (hF538.1 231 13 rfl)
    refine At.enter rfl ?_
    refine r_pop rfl ?_
    refine r_goto ?_
    have zr : v465.toInt = v539.toInt := by
      apply Decidable.byContradiction
      intro hne
      exfalso
      omega
    have zsu := SU.eq su468 su542 zr
    exact K _ hI537 (show LwR _ from ⟨by first | (clear f480 f481 f482 f483 f484 f485 f486 f487 f488 f489 f490 f491 f492 f493 f494 f495 f496 f497 f498 f499 f500 f501 f502 f503 f506 f507 f508 f509 f510 f511 f512 f513 f514 f515 f516 f517 f518 f519 f520 f521 f522 f523 f524 f525 f526 f527 f528 f529 f530 f531 f561 f562 f563 f564 f565 f566 f567 f568 f569 f570 f571 f572 f573 f574 f575 f576 f577 f578 f579 f580 f581 f582 f583 f584 f585 f586 f594 f595 f596 f597 f598 f599 f600 f601 f602 f603 f604 f605 f606 f607 f608 f609 f610 f611 f612; omega) | omega, by first | (clear f478 f480 f481 f482 f483 f484 f485 f486 f487 f488 f489 f490 f491 f492 f493 f494 f495 f496 f497 f498 f499 f500 f501 f502 f503 f505 f507 f508 f509 f510 f511 f512 f513 f514 f515 f516 f517 f518 f519 f520 f521 f522 f523 f524 f525 f526 f527 f528 f529 f530 f531 f560 f562 f563 f564 f565 f566 f567 f568 f569 f570 f571 f572 f573 f574 f575 f576 f577 f578 f579 f580 f581 f582 f583 f584 f585 f586 f594 f595 f596 f597 f598 f599 f600 f601 f602 f603 f604 f605 f606 f607 f608 f609 f610 f611 f612; omega) | omega, by first | (clear f478 f481 f482 f483 f484 f485 f486 f487 f488 f489 f490 f491 f492 f493 f494 f495 f496 f497 f498 f499 f500 f501 f502 f503 f505 f506 f508 f509 f510 f511 f512 f513 f514 f515 f516 f517 f518 f519 f520 f521 f522 f523 f524 f525 f526 f527 f528 f529 f530 f531 f560 f561 f563 f564 f565 f566 f567 f568 f569 f570 f571 f572 f573 f574 f575 f576 f577 f578 f579 f580 f581 f582 f583 f584 f585 f586 f594 f595 f596 f597 f598 f599 f600 f601 f602 f603 f604 f605 f606 f607 f608 f609 f610 f611 f612; omega) | omega, by first | (clear f478 f480 f482 f483 f484 f485 f486 f487 f488 f489 f490 f491 f492 f493 f494 f495 f496 f497 f498 f499 f500 f501 f502 f503 f505 f506 f507 f509 f510 f511 f512 f513 f514 f515 f516 f517 f518 f519 f520 f521 f522 f523 f524 f525 f526 f527 f528 f529 f530 f531 f560 f561 f562 f564 f565 f566 f567 f568 f569 f570 f571 f572 f573 f574 f575 f576 f577 f578 f579 f580 f581 f582 f583 f584 f585 f586 f594 f595 f596 f597 f598 f599 f600 f601 f602 f603 f604 f605 f606 f607 f608 f609 f610 f611 f612; omega) | omega, by first | (clear f478 f480 f481 f483 f484 f485 f486 f487 f488 f489 f490 f491 f492 f493 f494 f495 f496 f497 f498 f499 f500 f501 f502 f503 f505 f506 f507 f508 f510 f511 f512 f513 f514 f515 f516 f517 f518 f519 f520 f521 f522 f523 f524 f525 f526 f527 f528 f529 f530 f531 f560 f561 f562 f563 f565 f566 f567 f568 f569 f570 f571 f572 f573 f574 f575 f576 f577 f578 f579 f580 f581 f582 f583 f584 f585 f586 f594 f595 f596 f597 f598 f599 f600 f601 f602 f603 f604 f605 f606 f607 f608 f609 f610 f611 f612; omega) | omega, by first | (clear f478 f480 f481 f482 f484 f485 f486 f487 f488 f489 f490 f491 f492 f493 f494 f495 f496 f497 f498 f499 f500 f501 f502 f503 f505 f506 f507 f508 f509 f511 f512 f513 f514 f515 f516 f517 f518 f519 f520 f521 f522 f523 f524 f525 f526 f527 f528 f529 f530 f531 f560 f561 f562 f563 f564 f566 f567 f568 f569 f570 f571 f572 f573 f574 f575 f576 f577 f578 f579 f580 f581 f582 f583 f584 f585 f586 f594 f595 f596 f597 f598 f599 f600 f601 f602 f603 f604 f605 f606 f607 f608 f609 f610 f611 f612; omega) | omega, by first | (clear f478 f480 f481 f482 f483 f485 f486 f487 f488 f489 f490 f491 f492 f493 f494 f495 f496 f497 f498 f499 f500 f501 f502 f503 f505 f506 f507 f508 f509 f510 f512 f513 f514 f515 f516 f517 f518 f519 f520 f521 f522 f523 f524 f525 f526 f527 f528 f529 f530 f531 f560 f561 f562 f563 f564 f565 f567 f568 f569 f570 f571 f572 f573 f574 f575 f576 f577 f578 f579 f580 f581 f582 f583 f584 f585 f586 f594 f595 f596 f597 f598 f599 f600 f601 f602 f603 f604 f605 f606 f607 f608 f609 f610 f611 f612; omega) | omega, (eA_ti (j := 0) (((hF538.2.1 173 (by decide)).trans (hF464.2.1 173 (by decide))))).trans (hR_7.trans (eA_ti (j := 0) (((hF538.2.1 235 (by decide)).trans (hF464.2.1 235 (by decide))))).symm), (eA_ti (j := 1) (((hF538.2.1 173 (by decide)).trans (hF464.2.1 173 (by decide))))).trans (hR_8.trans (eA_ti (j := 1) (((hF538.2.1 235 (by decide)).trans (hF464.2.1 235 (by decide))))).symm), (congrArg Int32.toInt (((hF538.1 174 1 (by decide)).trans (hF464.1 174 1 (by decide))))).trans (hR_9.trans (congrArg Int32.toInt (((hF538.1 231 8 (by decide)).trans (hF464.1 231 8 (by decide))))).symm), (congrArg Int32.toInt (((hF538.1 0 16 (by decide)).trans (hF464.1 0 16 (by decide))))).trans (hR_10.trans (congrArg Int32.toInt (((hF538.1 231 6 (by decide)).trans (hF464.1 231 6 (by decide))))).symm), (congrArg Int32.toInt (((hF538.1 176 2 (by decide)).trans (hF464.1 176 2 (by decide))))).trans (hR_11.trans (congrArg Int32.toInt (((hF538.1 231 13 (by decide)).trans (hF464.1 231 13 (by decide))))).symm), by first | (clear f478 f480 f481 f482 f483 f484 f485 f486 f487 f488 f489 f490 f491 f492 f493 f494 f495 f496 f497 f498 f499 f500 f501 f502 f503 f505 f506 f507 f508 f509 f510 f511 f512 f513 f514 f515 f516 f517 f518 f519 f520 f521 f522 f523 f524 f525 f526 f527 f528 f529 f530 f560 f561 f562 f563 f564 f565 f566 f567 f568 f569 f570 f571 f572 f573 f574 f575 f576 f577 f578 f579 f580 f581 f582 f583 f584 f585 f594 f595 f596 f597 f598 f599 f600 f601 f602 f603 f604 f605 f606 f607 f608 f609 f610 f611 f612; omega) | omega, IM0.cong hR_13 (eA_ti (j := 0) (((hF538.2.1 173 (by decide)).trans (hF464.2.1 173 (by decide))))) (congrArg Int32.toInt (((hF538.1 59 0 (by decide)).trans (hF464.1 59 0 (by decide))))) (eA_ti (j := 0) (((hF538.2.1 234 (by decide)).trans (hF464.2.1 234 (by decide))))) (congrArg Int32.toInt (((hF538.1 59 12 (by decide)).trans (hF464.1 59 12 (by decide))))) (eA_ti (j := 4) (((hF538.2.1 234 (by decide)).trans (hF464.2.1 234 (by decide))))) (congrArg Int32.toInt (((hF538.1 59 10 (by decide)).trans (hF464.1 59 10 (by decide))))) (eA_ti (j := 5) (((hF538.2.1 234 (by decide)).trans (hF464.2.1 234 (by decide))))) (congrArg Int32.toInt (((hF538.1 59 11 (by decide)).trans (hF464.1 59 11 (by decide))))) (eA_ti (j := 6) (((hF538.2.1 234 (by decide)).trans (hF464.2.1 234 (by decide))))) (congrArg Int32.toInt (((hF538.1 59 4 (by decide)).trans (hF464.1 59 4 (by decide))))) (eA_ti (j := 1) (((hF538.2.1 234 (by decide)).trans (hF464.2.1 234 (by decide))))) (congrArg Int32.toInt (((hF538.1 59 6 (by decide)).trans (hF464.1 59 6 (by decide))))) (eA_ti (j := 2) (((hF538.2.1 234 (by decide)).trans (hF464.2.1 234 (by decide))))) (congrArg Int32.toInt (((hF538.1 59 9 (by decide)).trans (hF464.1 59 9 (by decide))))) (eA_ti (j := 3) (((hF538.2.1 234 (by decide)).trans (hF464.2.1 234 (by decide))))), IM1.cong hR_14 (eA_ti (j := 1) (((hF538.2.1 173 (by decide)).trans (hF464.2.1 173 (by decide))))) (congrArg Int32.toInt (((hF538.1 116 0 (by decide)).trans (hF464.1 116 0 (by decide))))) (eA_ti (j := 5510) (((hF538.2.1 234 (by decide)).trans (hF464.2.1 234 (by decide))))) (congrArg Int32.toInt (((hF538.1 116 12 (by decide)).trans (hF464.1 116 12 (by decide))))) (eA_ti (j := 5514) (((hF538.2.1 234 (by decide)).trans (hF464.2.1 234 (by decide))))) (congrArg Int32.toInt (((hF538.1 116 10 (by decide)).trans (hF464.1 116 10 (by decide))))) (eA_ti (j := 5515) (((hF538.2.1 234 (by decide)).trans (hF464.2.1 234 (by decide))))) (congrArg Int32.toInt (((hF538.1 116 11 (by decide)).trans (hF464.1 116 11 (by decide))))) (eA_ti (j := 5516) (((hF538.2.1 234 (by decide)).trans (hF464.2.1 234 (by decide))))) (congrArg Int32.toInt (((hF538.1 116 4 (by decide)).trans (hF464.1 116 4 (by decide))))) (eA_ti (j := 5511) (((hF538.2.1 234 (by decide)).trans (hF464.2.1 234 (by decide))))) (congrArg Int32.toInt (((hF538.1 116 6 (by decide)).trans (hF464.1 116 6 (by decide))))) (eA_ti (j := 5512) (((hF538.2.1 234 (by decide)).trans (hF464.2.1 234 (by decide))))) (congrArg Int32.toInt (((hF538.1 116 9 (by decide)).trans (hF464.1 116 9 (by decide))))) (eA_ti (j := 5513) (((hF538.2.1 234 (by decide)).trans (hF464.2.1 234 (by decide))))), (show CT _ from ⟨fun i i0 i1 => ⟨(by first | (clear f485 f486 f487 f488 f489 f490 f491 f492 f493 f494 f495 f496 f497 f498 f501 f502 f503 f512 f513 f514 f515 f516 f517 f518 f519 f520 f521 f522 f523 f524 f525 f528 f529 f530 f531 f567 f568 f569 f570 f571 f572 f573 f574 f575 f576 f577 f578 f579 f580 f583 f584 f585 f586 f594 f595 f596 f597 f598 f599 f600 f601 f602 f603 f604 f605 f606 f607 f610 f611 f612; have t0_ := hI0.t0; have t1_ := hI0.t1; have t4_ := hI0.t4; have o := (hR_15.1 i i0 i1).1; have x := eA_ti (j := i) (((hF538.2.1 2 (by decide)).trans (hF464.2.1 2 (by decide)))); have m := q545 (10 + 3 * i) (by omega) (by omega); have y1 := eA_ti (j := ((10 + 3 * i))) (hF464.2.1 233 (by decide)); (try split at m) <;> (try split at m) <;> omega) | (have t0_ := hI0.t0; have t1_ := hI0.t1; have t4_ := hI0.t4; have o := (hR_15.1 i i0 i1).1; have x := eA_ti (j := i) (((hF538.2.1 2 (by decide)).trans (hF464.2.1 2 (by decide)))); have m := q545 (10 + 3 * i) (by omega) (by omega); have y1 := eA_ti (j := ((10 + 3 * i))) (hF464.2.1 233 (by decide)); (try split at m) <;> (try split at m) <;> omega)), (by first | (clear f485 f486 f487 f488 f489 f490 f491 f492 f493 f494 f495 f496 f497 f498 f501 f502 f503 f512 f513 f514 f515 f516 f517 f518 f519 f520 f521 f522 f523 f524 f525 f528 f529 f530 f531 f567 f568 f569 f570 f571 f572 f573 f574 f575 f576 f577 f578 f579 f580 f583 f584 f585 f586 f594 f595 f596 f597 f598 f599 f600 f601 f602 f603 f604 f605 f606 f607 f610 f611 f612; have t0_ := hI0.t0; have t1_ := hI0.t1; have t4_ := hI0.t4; have o := (hR_15.1 i i0 i1).2.1; have x := eA_ti (j := i) (((hF538.2.1 3 (by decide)).trans (hF464.2.1 3 (by decide)))); have m := q545 (10 + 3 * i + 1) (by omega) (by omega); have y1 := eA_ti (j := ((10 + 3 * i + 1))) (hF464.2.1 233 (by decide)); (try split at m) <;> (try split at m) <;> omega) | (have t0_ := hI0.t0; have t1_ := hI0.t1; have t4_ := hI0.t4; have o := (hR_15.1 i i0 i1).2.1; have x := eA_ti (j := i) (((hF538.2.1 3 (by decide)).trans (hF464.2.1 3 (by decide)))); have m := q545 (10 + 3 * i + 1) (by omega) (by omega); have y1 := eA_ti (j := ((10 + 3 * i + 1))) (hF464.2.1 233 (by decide)); (try split at m) <;> (try split at m) <;> omega)), (by first | (clear f485 f486 f487 f488 f489 f490 f491 f492 f493 f494 f495 f496 f497 f498 f501 f502 f503 f512 f513 f514 f515 f516 f517 f518 f519 f520 f521 f522 f523 f524 f525 f528 f529 f530 f531 f567 f568 f569 f570 f571 f572 f573 f574 f575 f576 f577 f578 f579 f580 f583 f584 f585 f586 f594 f595 f596 f597 f598 f599 f600 f601 f602 f603 f604 f605 f606 f607 f610 f611 f612; have t0_ := hI0.t0; have t1_ := hI0.t1; have t4_ := hI0.t4; have o := (hR_15.1 i i0 i1).2.2; have x := eA_ti (j := i) (((hF538.2.1 4 (by decide)).trans (hF464.2.1 4 (by decide)))); have m := q545 (10 + 3 * i + 2) (by omega) (by omega); have y1 := eA_ti (j := ((10 + 3 * i + 2))) (hF464.2.1 233 (by decide)); (try split at m) <;> (try split at m) <;> omega) | (have t0_ := hI0.t0; have t1_ := hI0.t1; have t4_ := hI0.t4; have o := (hR_15.1 i i0 i1).2.2; have x := eA_ti (j := i) (((hF538.2.1 4 (by decide)).trans (hF464.2.1 4 (by decide)))); have m := q545 (10 + 3 * i + 2) (by omega) (by omega); have y1 := eA_ti (j := ((10 + 3 * i + 2))) (hF464.2.1 233 (by decide)); (try split at m) <;> (try split at m) <;> omega))⟩, fun i i0 i1 => ⟨(by first | (clear f485 f486 f487 f488 f489 f490 f491 f492 f493 f494 f495 f496 f497 f498 f501 f502 f503 f512 f513 f514 f515 f516 f517 f518 f519 f520 f521 f522 f523 f524 f525 f528 f529 f530 f531 f567 f568 f569 f570 f571 f572 f573 f574 f575 f576 f577 f578 f579 f580 f583 f584 f585 f586 f594 f595 f596 f597 f598 f599 f600 f601 f602 f603 f604 f605 f606 f607 f610 f611 f612; have t0_ := hI0.t0; have t1_ := hI0.t1; have t4_ := hI0.t4; have o := (hR_15.2.1 i i0 i1).1; have x := (eA_ti (j := i) (hF538.2.1 14 (by decide))).trans (q471 i i0 i1); have m := q545 (94 + 2 * i) (by omega) (by omega); have y1 := eA_ti (j := ((94 + 2 * i))) (hF464.2.1 233 (by decide)); (try split at x) <;> (try split at m) <;> (try split at m) <;> omega) | (have t0_ := hI0.t0; have t1_ := hI0.t1; have t4_ := hI0.t4; have o := (hR_15.2.1 i i0 i1).1; have x := (eA_ti (j := i) (hF538.2.1 14 (by decide))).trans (q471 i i0 i1); have m := q545 (94 + 2 * i) (by omega) (by omega); have y1 := eA_ti (j := ((94 + 2 * i))) (hF464.2.1 233 (by decide)); (try split at x) <;> (try split at m) <;> (try split at m) <;> omega)), (by first | (clear f485 f486 f487 f488 f489 f490 f491 f492 f493 f494 f495 f496 f497 f498 f501 f502 f503 f512 f513 f514 f515 f516 f517 f518 f519 f520 f521 f522 f523 f524 f525 f528 f529 f530 f531 f567 f568 f569 f570 f571 f572 f573 f574 f575 f576 f577 f578 f579 f580 f583 f584 f585 f586 f594 f595 f596 f597 f598 f599 f600 f601 f602 f603 f604 f605 f606 f607 f610 f611 f612; have t0_ := hI0.t0; have t1_ := hI0.t1; have t4_ := hI0.t4; have o := (hR_15.2.1 i i0 i1).2; have x := (eA_ti (j := i) (hF538.2.1 15 (by decide))).trans (q472 i i0 i1); have m := q545 (94 + 2 * i + 1) (by omega) (by omega); have y1 := eA_ti (j := ((94 + 2 * i + 1))) (hF464.2.1 233 (by decide)); (try split at x) <;> (try split at m) <;> (try split at m) <;> omega) | (have t0_ := hI0.t0; have t1_ := hI0.t1; have t4_ := hI0.t4; have o := (hR_15.2.1 i i0 i1).2; have x := (eA_ti (j := i) (hF538.2.1 15 (by decide))).trans (q472 i i0 i1); have m := q545 (94 + 2 * i + 1) (by omega) (by omega); have y1 := eA_ti (j := ((94 + 2 * i + 1))) (hF464.2.1 233 (by decide)); (try split at x) <;> (try split at m) <;> (try split at m) <;> omega))⟩, fun i i0 i1 => (by first | (clear f485 f486 f487 f488 f489 f490 f491 f492 f493 f494 f495 f496 f497 f498 f501 f502 f503 f512 f513 f514 f515 f516 f517 f518 f519 f520 f521 f522 f523 f524 f525 f528 f529 f530 f531 f567 f568 f569 f570 f571 f572 f573 f574 f575 f576 f577 f578 f579 f580 f583 f584 f585 f586 f594 f595 f596 f597 f598 f599 f600 f601 f602 f603 f604 f605 f606 f607 f610 f611 f612; have t0_ := hI0.t0; have t1_ := hI0.t1; have t4_ := hI0.t4; have o : i < 6 * (gI g0 1 4).toInt → _ := fun hz => hR_15.2.2 i i0 hz; have x := eA_ti (j := i) (((hF538.2.1 5 (by decide)).trans (hF464.2.1 5 (by decide)))); have m := q545 (46 + i) (by omega) (by omega); have y1 := eA_ti (j := ((46 + i))) (hF464.2.1 233 (by decide)); (try split at m) <;> (try split at m) <;> omega) | (have t0_ := hI0.t0; have t1_ := hI0.t1; have t4_ := hI0.t4; have o : i < 6 * (gI g0 1 4).toInt → _ := fun hz => hR_15.2.2 i i0 hz; have x := eA_ti (j := i) (((hF538.2.1 5 (by decide)).trans (hF464.2.1 5 (by decide)))); have m := q545 (46 + i) (by omega) (by omega); have y1 := eA_ti (j := ((46 + i))) (hF464.2.1 233 (by decide)); (try split at m) <;> (try split at m) <;> omega))⟩), CI0.cong hR_16 (((hF538.2.1 60 (by decide)).trans (hF464.2.1 60 (by decide)))) (((hF538.2.1 61 (by decide)).trans (hF464.2.1 61 (by decide)))) (((hF538.2.1 62 (by decide)).trans (hF464.2.1 62 (by decide)))) (((hF538.2.1 72 (by decide)).trans (hF464.2.1 72 (by decide)))) (((hF538.2.1 73 (by decide)).trans (hF464.2.1 73 (by decide)))) (((hF538.2.1 63 (by decide)).trans (hF464.2.1 63 (by decide)))) (((hF538.2.1 234 (by decide)).trans (hF464.2.1 234 (by decide)))) (congrArg Int32.toInt (((hF538.1 59 4 (by decide)).trans (hF464.1 59 4 (by decide))))), CI1.cong hR_17 (((hF538.2.1 117 (by decide)).trans (hF464.2.1 117 (by decide)))) (((hF538.2.1 118 (by decide)).trans (hF464.2.1 118 (by decide)))) (((hF538.2.1 119 (by decide)).trans (hF464.2.1 119 (by decide)))) (((hF538.2.1 129 (by decide)).trans (hF464.2.1 129 (by decide)))) (((hF538.2.1 130 (by decide)).trans (hF464.2.1 130 (by decide)))) (((hF538.2.1 120 (by decide)).trans (hF464.2.1 120 (by decide)))) (((hF538.2.1 234 (by decide)).trans (hF464.2.1 234 (by decide)))) (congrArg Int32.toInt (((hF538.1 116 4 (by decide)).trans (hF464.1 116 4 (by decide))))), (show RT _ from fun i i0 i1 => (eA_ti (((hF538.2.1 175 (by decide)).trans (hF464.2.1 175 (by decide))))).trans ((hR_18 i i0 (by omega)).trans (eA_ti (((hF538.2.1 236 (by decide)).trans (hF464.2.1 236 (by decide))))).symm)), (show BYX _ from fun i i0 i1 => by rw [TX.c (((hF538.2.1 175 (by decide)).trans (hF464.2.1 175 (by decide))))]; exact hR_19 i i0 (by have i2 : i < (gI _ 174 1).toInt := i1; show i < (gI g0 174 1).toInt; omega))⟩)
