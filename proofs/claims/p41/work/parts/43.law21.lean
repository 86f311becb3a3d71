set_option maxRecDepth 100000 in
set_option maxHeartbeats 8000000 in
theorem lq_c21 (d : Nat) {N : Nat} {g0 : List en_E} (hI0 : HI g0) (hR0 : LwR g0) {ys : List Int32} {L : Nat} (hL : ys.length = L) (hL2 : L ≤ 3584) {l : en_L} {i : Int32} (e0 : en_get 0 l = some (.float 0)) (e1 : en_get 1 l = some (.ref 0)) (e2 : en_get 2 l = some (.ref 231)) (e3 : en_get 3 l = some (.int i)) (hi : 0 ≤ i.toInt ∧ i.toInt + 7 ≤ L) {Ph : Option Value → en_H → Prop} (K : ∀ g1 : List en_E, HI g1 → LwR g1 → At (d + 423) (some ys) (some .boolean) bs_L_law (1330, l, [], (g1, N)) Ph) : At (d + 423) (some ys) (some .boolean) bs_L_law (873, l, [], (g0, N)) Ph := by
  have hF0 : Fr F_law A_law g0 g0 := Fr.rf
  have hx_1 : -2147483648 ≤ i.toInt + 1 ∧ i.toInt + 1 ≤ 2147483647 := by omega
  have hx_2 : -2147483648 ≤ i.toInt + 2 ∧ i.toInt + 2 ≤ 2147483647 := by omega
  have hx_3 : -2147483648 ≤ i.toInt + 3 ∧ i.toInt + 3 ≤ 2147483647 := by omega
  have hx_4 : -2147483648 ≤ i.toInt + 4 ∧ i.toInt + 4 ≤ 2147483647 := by omega
  have hx_5 : -2147483648 ≤ i.toInt + 5 ∧ i.toInt + 5 ≤ 2147483647 := by omega
  have hx_6 : -2147483648 ≤ i.toInt + 6 ∧ i.toInt + 6 ≤ 2147483647 := by omega
  have hy_0 : 0 ≤ i.toInt ∧ i.toInt < (L : Int) := by omega
  have hy_1 : 0 ≤ i.toInt + 1 ∧ i.toInt + 1 < (L : Int) := by omega
  have hy_2 : 0 ≤ i.toInt + 2 ∧ i.toInt + 2 < (L : Int) := by omega
  have hy_3 : 0 ≤ i.toInt + 3 ∧ i.toInt + 3 < (L : Int) := by omega
  have hy_4 : 0 ≤ i.toInt + 4 ∧ i.toInt + 4 < (L : Int) := by omega
  have hy_5 : 0 ≤ i.toInt + 5 ∧ i.toInt + 5 < (L : Int) := by omega
  have hy_6 : 0 ≤ i.toInt + 6 ∧ i.toInt + 6 < (L : Int) := by omega
  unfold LwR at hR0
  obtain ⟨hR_0, hR_1, hR_2, hR_3, hR_4, hR_5, hR_6, hR_7, hR_8, hR_9, hR_10, hR_11, hR_12, hR_13, hR_14, hR_15, hR_16, hR_17, hR_18, hR_19⟩ := hR0
  refine At.enter rfl ?_
  refine r_aload_n e1 ?_
  refine r_sload_n e0 ?_
  refine r_iload_n e3 ?_
  refine r_iconst 1 rfl ?_
  refine q_iadd (i.toInt + 1) rfl hx_1 (fun v1 hv1 => ?_)
  refine q_scald (m := L) hL (i.toInt + 1) hv1 hy_1 (fun v2 hv2 => ?_)
  refine r_sload_n e0 ?_
  refine r_iload_n e3 ?_
  refine r_iconst 2 rfl ?_
  refine q_iadd (i.toInt + 2) rfl hx_2 (fun v3 hv3 => ?_)
  refine q_scald (m := L) hL (i.toInt + 2) hv3 hy_2 (fun v4 hv4 => ?_)
  rcases cs3 (0 ≤ v2.toInt ∧ v2.toInt < (gI g0 1 0).toInt ∧ 0 ≤ v4.toInt ∧ v4.toInt < (gI g0 1 0).toInt) (v2.toInt = v4.toInt) with pk5 | pk5 | pk5
  · refine r_callV 887 rfl [.ref 0, .int v2, .int v4] [] (Nat.le_of_ble_eq_true rfl) rfl (T_X10_swap_0 _ hI0 v2 v4) ?_
    rintro _ _ ⟨g6, rfl, hI7, hF8, v9, rfl, hr10⟩
    refine At.sti ?_
    have hF11 := Fr.tr hF0 hF8 rfl rfl
    have su12 := hr10.2.2
    obtain ⟨q13, q14, q15, q16⟩ := (And.intro hr10.1 hr10.2.1)
    obtain ⟨i18, i19, i20⟩ := q14
    have w17 := i18 pk5
    clear i18 i19 i20
    have f21 := congrArg Int32.toInt (hF8.1 1 0 rfl)
    have f22 := congrArg Int32.toInt (hF8.1 1 12 rfl)
    have f23 := congrArg Int32.toInt (hF8.1 1 10 rfl)
    have f24 := congrArg Int32.toInt (hF8.1 1 11 rfl)
    have f25 := congrArg Int32.toInt (hF8.1 1 4 rfl)
    have f26 := congrArg Int32.toInt (hF8.1 1 6 rfl)
    have f27 := congrArg Int32.toInt (hF8.1 1 9 rfl)
    have f28 := congrArg Int32.toInt (hF8.1 59 0 rfl)
    have f29 := congrArg Int32.toInt (hF8.1 59 12 rfl)
    have f30 := congrArg Int32.toInt (hF8.1 59 10 rfl)
    have f31 := congrArg Int32.toInt (hF8.1 59 11 rfl)
    have f32 := congrArg Int32.toInt (hF8.1 59 4 rfl)
    have f33 := congrArg Int32.toInt (hF8.1 59 6 rfl)
    have f34 := congrArg Int32.toInt (hF8.1 59 9 rfl)
    have f35 := congrArg Int32.toInt (hF8.1 116 0 rfl)
    have f36 := congrArg Int32.toInt (hF8.1 116 12 rfl)
    have f37 := congrArg Int32.toInt (hF8.1 116 10 rfl)
    have f38 := congrArg Int32.toInt (hF8.1 116 11 rfl)
    have f39 := congrArg Int32.toInt (hF8.1 116 4 rfl)
    have f40 := congrArg Int32.toInt (hF8.1 116 6 rfl)
    have f41 := congrArg Int32.toInt (hF8.1 116 9 rfl)
    have f42 := congrArg Int32.toInt (eA_c (j := 0) (hF8.2.1 173 rfl))
    have f43 := congrArg Int32.toInt (eA_c (j := 1) (hF8.2.1 173 rfl))
    have f44 := congrArg Int32.toInt (hF8.1 174 1 rfl)
    have f45 := congrArg Int32.toInt (hF8.1 0 16 rfl)
    have f46 := congrArg Int32.toInt (hF8.1 176 2 rfl)
    have f48 := congrArg Int32.toInt (eA_c (j := 0) (hF8.2.1 233 rfl))
    have f49 := congrArg Int32.toInt (eA_c (j := 4) (hF8.2.1 233 rfl))
    have f50 := congrArg Int32.toInt (eA_c (j := 5) (hF8.2.1 233 rfl))
    have f51 := congrArg Int32.toInt (eA_c (j := 6) (hF8.2.1 233 rfl))
    have f52 := congrArg Int32.toInt (eA_c (j := 1) (hF8.2.1 233 rfl))
    have f53 := congrArg Int32.toInt (eA_c (j := 2) (hF8.2.1 233 rfl))
    have f54 := congrArg Int32.toInt (eA_c (j := 3) (hF8.2.1 233 rfl))
    have f55 := congrArg Int32.toInt (eA_c (j := 0) (hF8.2.1 234 rfl))
    have f56 := congrArg Int32.toInt (eA_c (j := 4) (hF8.2.1 234 rfl))
    have f57 := congrArg Int32.toInt (eA_c (j := 5) (hF8.2.1 234 rfl))
    have f58 := congrArg Int32.toInt (eA_c (j := 6) (hF8.2.1 234 rfl))
    have f59 := congrArg Int32.toInt (eA_c (j := 1) (hF8.2.1 234 rfl))
    have f60 := congrArg Int32.toInt (eA_c (j := 2) (hF8.2.1 234 rfl))
    have f61 := congrArg Int32.toInt (eA_c (j := 3) (hF8.2.1 234 rfl))
    have f62 := congrArg Int32.toInt (eA_c (j := 5510) (hF8.2.1 234 rfl))
    have f63 := congrArg Int32.toInt (eA_c (j := 5514) (hF8.2.1 234 rfl))
    have f64 := congrArg Int32.toInt (eA_c (j := 5515) (hF8.2.1 234 rfl))
    have f65 := congrArg Int32.toInt (eA_c (j := 5516) (hF8.2.1 234 rfl))
    have f66 := congrArg Int32.toInt (eA_c (j := 5511) (hF8.2.1 234 rfl))
    have f67 := congrArg Int32.toInt (eA_c (j := 5512) (hF8.2.1 234 rfl))
    have f68 := congrArg Int32.toInt (eA_c (j := 5513) (hF8.2.1 234 rfl))
    have f69 := congrArg Int32.toInt (eA_c (j := 0) (hF8.2.1 235 rfl))
    have f70 := congrArg Int32.toInt (eA_c (j := 1) (hF8.2.1 235 rfl))
    have f71 := congrArg Int32.toInt (hF8.1 231 8 rfl)
    have f72 := congrArg Int32.toInt (hF8.1 231 6 rfl)
    have f73 := congrArg Int32.toInt (hF8.1 231 13 rfl)
    have f74 := congrArg Int32.toInt (hF8.1 231 1 rfl)
    refine At.enter rfl ?_
    refine r_pop rfl ?_
    refine r_aload_n e2 ?_
    refine r_sload_n e0 ?_
    refine r_iload_n e3 ?_
    refine r_iconst 1 rfl ?_
    refine q_iadd (i.toInt + 1) rfl hx_1 (fun v75 hv75 => ?_)
    refine q_scald (m := L) hL (i.toInt + 1) hv75 hy_1 (fun v76 hv76 => ?_)
    have sv76 := hv2.symm.trans hv76
    subst sv76
    refine r_sload_n e0 ?_
    refine r_iload_n e3 ?_
    refine r_iconst 2 rfl ?_
    refine q_iadd (i.toInt + 2) rfl hx_2 (fun v77 hv77 => ?_)
    refine q_scald (m := L) hL (i.toInt + 2) hv77 hy_2 (fun v78 hv78 => ?_)
    have sv78 := hv4.symm.trans hv78
    subst sv78
    refine r_callV 902 rfl [.ref 231, .int v2, .int v4] [] (Nat.le_of_ble_eq_true rfl) rfl (T_X11_swap_231 _ hI7 v2 v4) ?_
    rintro _ _ ⟨g79, rfl, hI80, hF81, v82, rfl, hr83⟩
    refine At.sti ?_
    have hF84 := Fr.tr hF11 hF81 rfl rfl
    have su85 := hr83.2.2
    obtain ⟨q86, q87, q88⟩ := (And.intro hr83.1 hr83.2.1)
    have ek100 : (eA g6 233 0).toInt = (gI g0 1 0).toInt := (eA_ti (j := 0) (hF8.2.1 233 (by decide))).trans hR_0.symm
    have ek101 : (eA g6 233 1).toInt = (gI g0 1 4).toInt := (eA_ti (j := 1) (hF8.2.1 233 (by decide))).trans hR_4.symm
    obtain ⟨⟨i90, i91, i92⟩, sm93, sm94, sm95, sm96, sm97, sm98, sm99⟩ := q87
    have w89 := i90 (by rw [ek100]; exact pk5)
    clear i90 i91 i92
    have f102 := congrArg Int32.toInt (hF81.1 1 0 rfl)
    have f103 := congrArg Int32.toInt (hF81.1 1 12 rfl)
    have f104 := congrArg Int32.toInt (hF81.1 1 10 rfl)
    have f105 := congrArg Int32.toInt (hF81.1 1 11 rfl)
    have f106 := congrArg Int32.toInt (hF81.1 1 4 rfl)
    have f107 := congrArg Int32.toInt (hF81.1 1 6 rfl)
    have f108 := congrArg Int32.toInt (hF81.1 1 9 rfl)
    have f109 := congrArg Int32.toInt (hF81.1 59 0 rfl)
    have f110 := congrArg Int32.toInt (hF81.1 59 12 rfl)
    have f111 := congrArg Int32.toInt (hF81.1 59 10 rfl)
    have f112 := congrArg Int32.toInt (hF81.1 59 11 rfl)
    have f113 := congrArg Int32.toInt (hF81.1 59 4 rfl)
    have f114 := congrArg Int32.toInt (hF81.1 59 6 rfl)
    have f115 := congrArg Int32.toInt (hF81.1 59 9 rfl)
    have f116 := congrArg Int32.toInt (hF81.1 116 0 rfl)
    have f117 := congrArg Int32.toInt (hF81.1 116 12 rfl)
    have f118 := congrArg Int32.toInt (hF81.1 116 10 rfl)
    have f119 := congrArg Int32.toInt (hF81.1 116 11 rfl)
    have f120 := congrArg Int32.toInt (hF81.1 116 4 rfl)
    have f121 := congrArg Int32.toInt (hF81.1 116 6 rfl)
    have f122 := congrArg Int32.toInt (hF81.1 116 9 rfl)
    have f123 := congrArg Int32.toInt (eA_c (j := 0) (hF81.2.1 173 rfl))
    have f124 := congrArg Int32.toInt (eA_c (j := 1) (hF81.2.1 173 rfl))
    have f125 := congrArg Int32.toInt (hF81.1 174 1 rfl)
    have f126 := congrArg Int32.toInt (hF81.1 0 16 rfl)
    have f127 := congrArg Int32.toInt (hF81.1 176 2 rfl)
    have f128 := congrArg Int32.toInt (hF81.1 0 17 rfl)
    have f136 := congrArg Int32.toInt (eA_c (j := 0) (hF81.2.1 234 rfl))
    have f137 := congrArg Int32.toInt (eA_c (j := 4) (hF81.2.1 234 rfl))
    have f138 := congrArg Int32.toInt (eA_c (j := 5) (hF81.2.1 234 rfl))
    have f139 := congrArg Int32.toInt (eA_c (j := 6) (hF81.2.1 234 rfl))
    have f140 := congrArg Int32.toInt (eA_c (j := 1) (hF81.2.1 234 rfl))
    have f141 := congrArg Int32.toInt (eA_c (j := 2) (hF81.2.1 234 rfl))
    have f142 := congrArg Int32.toInt (eA_c (j := 3) (hF81.2.1 234 rfl))
    have f143 := congrArg Int32.toInt (eA_c (j := 5510) (hF81.2.1 234 rfl))
    have f144 := congrArg Int32.toInt (eA_c (j := 5514) (hF81.2.1 234 rfl))
    have f145 := congrArg Int32.toInt (eA_c (j := 5515) (hF81.2.1 234 rfl))
    have f146 := congrArg Int32.toInt (eA_c (j := 5516) (hF81.2.1 234 rfl))
    have f147 := congrArg Int32.toInt (eA_c (j := 5511) (hF81.2.1 234 rfl))
    have f148 := congrArg Int32.toInt (eA_c (j := 5512) (hF81.2.1 234 rfl))
    have f149 := congrArg Int32.toInt (eA_c (j := 5513) (hF81.2.1 234 rfl))
    have f150 := congrArg Int32.toInt (eA_c (j := 0) (hF81.2.1 235 rfl))
    have f151 := congrArg Int32.toInt (eA_c (j := 1) (hF81.2.1 235 rfl))
    have f152 := congrArg Int32.toInt (hF81.1 231 8 rfl)
    have f153 := congrArg Int32.toInt (hF81.1 231 6 rfl)
    have f154 := congrArg Int32.toInt (hF81.1 231 13 rfl)
    refine At.enter rfl ?_
    refine r_pop rfl ?_
    refine r_goto ?_
    have zr : v9.toInt = v82.toInt := by
      apply Decidable.byContradiction
      intro hne
      exfalso
      omega
    have zsu := SU.eq su12 su85 zr
    exact K _ hI80 (show LwR _ from ⟨by first | (clear f22 f23 f24 f25 f26 f27 f28 f29 f30 f31 f32 f33 f34 f35 f36 f37 f38 f39 f40 f41 f42 f43 f44 f45 f46 f49 f50 f51 f52 f53 f54 f55 f56 f57 f58 f59 f60 f61 f62 f63 f64 f65 f66 f67 f68 f69 f70 f71 f72 f73 f74 f103 f104 f105 f106 f107 f108 f109 f110 f111 f112 f113 f114 f115 f116 f117 f118 f119 f120 f121 f122 f123 f124 f125 f126 f127 f128 f136 f137 f138 f139 f140 f141 f142 f143 f144 f145 f146 f147 f148 f149 f150 f151 f152 f153 f154; omega) | omega, by first | (clear f21 f23 f24 f25 f26 f27 f28 f29 f30 f31 f32 f33 f34 f35 f36 f37 f38 f39 f40 f41 f42 f43 f44 f45 f46 f48 f50 f51 f52 f53 f54 f55 f56 f57 f58 f59 f60 f61 f62 f63 f64 f65 f66 f67 f68 f69 f70 f71 f72 f73 f74 f102 f104 f105 f106 f107 f108 f109 f110 f111 f112 f113 f114 f115 f116 f117 f118 f119 f120 f121 f122 f123 f124 f125 f126 f127 f128 f136 f137 f138 f139 f140 f141 f142 f143 f144 f145 f146 f147 f148 f149 f150 f151 f152 f153 f154; omega) | omega, by first | (clear f21 f22 f24 f25 f26 f27 f28 f29 f30 f31 f32 f33 f34 f35 f36 f37 f38 f39 f40 f41 f42 f43 f44 f45 f46 f48 f49 f51 f52 f53 f54 f55 f56 f57 f58 f59 f60 f61 f62 f63 f64 f65 f66 f67 f68 f69 f70 f71 f72 f73 f74 f102 f103 f105 f106 f107 f108 f109 f110 f111 f112 f113 f114 f115 f116 f117 f118 f119 f120 f121 f122 f123 f124 f125 f126 f127 f128 f136 f137 f138 f139 f140 f141 f142 f143 f144 f145 f146 f147 f148 f149 f150 f151 f152 f153 f154; omega) | omega, by first | (clear f21 f22 f23 f25 f26 f27 f28 f29 f30 f31 f32 f33 f34 f35 f36 f37 f38 f39 f40 f41 f42 f43 f44 f45 f46 f48 f49 f50 f52 f53 f54 f55 f56 f57 f58 f59 f60 f61 f62 f63 f64 f65 f66 f67 f68 f69 f70 f71 f72 f73 f74 f102 f103 f104 f106 f107 f108 f109 f110 f111 f112 f113 f114 f115 f116 f117 f118 f119 f120 f121 f122 f123 f124 f125 f126 f127 f128 f136 f137 f138 f139 f140 f141 f142 f143 f144 f145 f146 f147 f148 f149 f150 f151 f152 f153 f154; omega) | omega, by first | (clear f21 f22 f23 f24 f26 f27 f28 f29 f30 f31 f32 f33 f34 f35 f36 f37 f38 f39 f40 f41 f42 f43 f44 f45 f46 f48 f49 f50 f51 f53 f54 f55 f56 f57 f58 f59 f60 f61 f62 f63 f64 f65 f66 f67 f68 f69 f70 f71 f72 f73 f74 f102 f103 f104 f105 f107 f108 f109 f110 f111 f112 f113 f114 f115 f116 f117 f118 f119 f120 f121 f122 f123 f124 f125 f126 f127 f128 f136 f137 f138 f139 f140 f141 f142 f143 f144 f145 f146 f147 f148 f149 f150 f151 f152 f153 f154; omega) | omega, by first | (clear f21 f22 f23 f24 f25 f27 f28 f29 f30 f31 f32 f33 f34 f35 f36 f37 f38 f39 f40 f41 f42 f43 f44 f45 f46 f48 f49 f50 f51 f52 f54 f55 f56 f57 f58 f59 f60 f61 f62 f63 f64 f65 f66 f67 f68 f69 f70 f71 f72 f73 f74 f102 f103 f104 f105 f106 f108 f109 f110 f111 f112 f113 f114 f115 f116 f117 f118 f119 f120 f121 f122 f123 f124 f125 f126 f127 f128 f136 f137 f138 f139 f140 f141 f142 f143 f144 f145 f146 f147 f148 f149 f150 f151 f152 f153 f154; omega) | omega, by first | (clear f21 f22 f23 f24 f25 f26 f28 f29 f30 f31 f32 f33 f34 f35 f36 f37 f38 f39 f40 f41 f42 f43 f44 f45 f46 f48 f49 f50 f51 f52 f53 f55 f56 f57 f58 f59 f60 f61 f62 f63 f64 f65 f66 f67 f68 f69 f70 f71 f72 f73 f74 f102 f103 f104 f105 f106 f107 f109 f110 f111 f112 f113 f114 f115 f116 f117 f118 f119 f120 f121 f122 f123 f124 f125 f126 f127 f128 f136 f137 f138 f139 f140 f141 f142 f143 f144 f145 f146 f147 f148 f149 f150 f151 f152 f153 f154; omega) | omega, (eA_ti (j := 0) (((hF81.2.1 173 (by decide)).trans (hF8.2.1 173 (by decide))))).trans (hR_7.trans (eA_ti (j := 0) (((hF81.2.1 235 (by decide)).trans (hF8.2.1 235 (by decide))))).symm), (eA_ti (j := 1) (((hF81.2.1 173 (by decide)).trans (hF8.2.1 173 (by decide))))).trans (hR_8.trans (eA_ti (j := 1) (((hF81.2.1 235 (by decide)).trans (hF8.2.1 235 (by decide))))).symm), (congrArg Int32.toInt (((hF81.1 174 1 (by decide)).trans (hF8.1 174 1 (by decide))))).trans (hR_9.trans (congrArg Int32.toInt (((hF81.1 231 8 (by decide)).trans (hF8.1 231 8 (by decide))))).symm), (congrArg Int32.toInt (((hF81.1 0 16 (by decide)).trans (hF8.1 0 16 (by decide))))).trans (hR_10.trans (congrArg Int32.toInt (((hF81.1 231 6 (by decide)).trans (hF8.1 231 6 (by decide))))).symm), (congrArg Int32.toInt (((hF81.1 176 2 (by decide)).trans (hF8.1 176 2 (by decide))))).trans (hR_11.trans (congrArg Int32.toInt (((hF81.1 231 13 (by decide)).trans (hF8.1 231 13 (by decide))))).symm), by first | (clear f21 f22 f23 f24 f25 f26 f27 f28 f29 f30 f31 f32 f33 f34 f35 f36 f37 f38 f39 f40 f41 f42 f43 f44 f45 f46 f48 f49 f50 f51 f52 f53 f54 f55 f56 f57 f58 f59 f60 f61 f62 f63 f64 f65 f66 f67 f68 f69 f70 f71 f72 f73 f102 f103 f104 f105 f106 f107 f108 f109 f110 f111 f112 f113 f114 f115 f116 f117 f118 f119 f120 f121 f122 f123 f124 f125 f126 f127 f136 f137 f138 f139 f140 f141 f142 f143 f144 f145 f146 f147 f148 f149 f150 f151 f152 f153 f154; omega) | omega, IM0.cong hR_13 (eA_ti (j := 0) (((hF81.2.1 173 (by decide)).trans (hF8.2.1 173 (by decide))))) (congrArg Int32.toInt (((hF81.1 59 0 (by decide)).trans (hF8.1 59 0 (by decide))))) (eA_ti (j := 0) (((hF81.2.1 234 (by decide)).trans (hF8.2.1 234 (by decide))))) (congrArg Int32.toInt (((hF81.1 59 12 (by decide)).trans (hF8.1 59 12 (by decide))))) (eA_ti (j := 4) (((hF81.2.1 234 (by decide)).trans (hF8.2.1 234 (by decide))))) (congrArg Int32.toInt (((hF81.1 59 10 (by decide)).trans (hF8.1 59 10 (by decide))))) (eA_ti (j := 5) (((hF81.2.1 234 (by decide)).trans (hF8.2.1 234 (by decide))))) (congrArg Int32.toInt (((hF81.1 59 11 (by decide)).trans (hF8.1 59 11 (by decide))))) (eA_ti (j := 6) (((hF81.2.1 234 (by decide)).trans (hF8.2.1 234 (by decide))))) (congrArg Int32.toInt (((hF81.1 59 4 (by decide)).trans (hF8.1 59 4 (by decide))))) (eA_ti (j := 1) (((hF81.2.1 234 (by decide)).trans (hF8.2.1 234 (by decide))))) (congrArg Int32.toInt (((hF81.1 59 6 (by decide)).trans (hF8.1 59 6 (by decide))))) (eA_ti (j := 2) (((hF81.2.1 234 (by decide)).trans (hF8.2.1 234 (by decide))))) (congrArg Int32.toInt (((hF81.1 59 9 (by decide)).trans (hF8.1 59 9 (by decide))))) (eA_ti (j := 3) (((hF81.2.1 234 (by decide)).trans (hF8.2.1 234 (by decide))))), IM1.cong hR_14 (eA_ti (j := 1) (((hF81.2.1 173 (by decide)).trans (hF8.2.1 173 (by decide))))) (congrArg Int32.toInt (((hF81.1 116 0 (by decide)).trans (hF8.1 116 0 (by decide))))) (eA_ti (j := 5510) (((hF81.2.1 234 (by decide)).trans (hF8.2.1 234 (by decide))))) (congrArg Int32.toInt (((hF81.1 116 12 (by decide)).trans (hF8.1 116 12 (by decide))))) (eA_ti (j := 5514) (((hF81.2.1 234 (by decide)).trans (hF8.2.1 234 (by decide))))) (congrArg Int32.toInt (((hF81.1 116 10 (by decide)).trans (hF8.1 116 10 (by decide))))) (eA_ti (j := 5515) (((hF81.2.1 234 (by decide)).trans (hF8.2.1 234 (by decide))))) (congrArg Int32.toInt (((hF81.1 116 11 (by decide)).trans (hF8.1 116 11 (by decide))))) (eA_ti (j := 5516) (((hF81.2.1 234 (by decide)).trans (hF8.2.1 234 (by decide))))) (congrArg Int32.toInt (((hF81.1 116 4 (by decide)).trans (hF8.1 116 4 (by decide))))) (eA_ti (j := 5511) (((hF81.2.1 234 (by decide)).trans (hF8.2.1 234 (by decide))))) (congrArg Int32.toInt (((hF81.1 116 6 (by decide)).trans (hF8.1 116 6 (by decide))))) (eA_ti (j := 5512) (((hF81.2.1 234 (by decide)).trans (hF8.2.1 234 (by decide))))) (congrArg Int32.toInt (((hF81.1 116 9 (by decide)).trans (hF8.1 116 9 (by decide))))) (eA_ti (j := 5513) (((hF81.2.1 234 (by decide)).trans (hF8.2.1 234 (by decide))))), (show CT _ from ⟨fun i i0 i1 => ⟨(by first | (clear f28 f29 f30 f31 f32 f33 f34 f35 f36 f37 f38 f39 f40 f41 f44 f45 f46 f55 f56 f57 f58 f59 f60 f61 f62 f63 f64 f65 f66 f67 f68 f71 f72 f73 f74 f109 f110 f111 f112 f113 f114 f115 f116 f117 f118 f119 f120 f121 f122 f125 f126 f127 f128 f136 f137 f138 f139 f140 f141 f142 f143 f144 f145 f146 f147 f148 f149 f152 f153 f154; have t0_ := hI0.t0; have t1_ := hI0.t1; have ek0 : (eA g6 233 0).toInt = (gI g0 1 0).toInt := (eA_ti (j := 0) (hF8.2.1 233 (by decide))).trans hR_0.symm; have x := eA_ti (j := i) (((hF81.2.1 2 (by decide)).trans (hF8.2.1 2 (by decide)))); have m := q88 (10 + 3 * i) (by omega) (by omega); have y := eA_ti (j := (10 + 3 * i)) (hF8.2.1 233 (by decide)); have k : ¬ (0 ≤ v2.toInt ∧ v2.toInt < (gI g0 1 0).toInt ∧ 0 ≤ v4.toInt ∧ v4.toInt < (gI g0 1 0).toInt ∧ v2.toInt ≠ v4.toInt) := (fun z => (show ¬ _ from pk5) ⟨z.1, z.2.1, z.2.2.1, z.2.2.2.1⟩); have k2 : ¬ (0 ≤ v2.toInt ∧ v2.toInt < (eA g6 233 0).toInt ∧ 0 ≤ v4.toInt ∧ v4.toInt < (eA g6 233 0).toInt ∧ v2.toInt ≠ v4.toInt) := (fun z => k (by rw [← ek0]; exact z)); rw [ite_an k2, ite_an k2, ite_an k2, ite_an k2] at m; exact x.trans ((hR_15.1 i i0 i1).1.trans (m.trans y).symm)) | (have t0_ := hI0.t0; have t1_ := hI0.t1; have ek0 : (eA g6 233 0).toInt = (gI g0 1 0).toInt := (eA_ti (j := 0) (hF8.2.1 233 (by decide))).trans hR_0.symm; have x := eA_ti (j := i) (((hF81.2.1 2 (by decide)).trans (hF8.2.1 2 (by decide)))); have m := q88 (10 + 3 * i) (by omega) (by omega); have y := eA_ti (j := (10 + 3 * i)) (hF8.2.1 233 (by decide)); have k : ¬ (0 ≤ v2.toInt ∧ v2.toInt < (gI g0 1 0).toInt ∧ 0 ≤ v4.toInt ∧ v4.toInt < (gI g0 1 0).toInt ∧ v2.toInt ≠ v4.toInt) := (fun z => (show ¬ _ from pk5) ⟨z.1, z.2.1, z.2.2.1, z.2.2.2.1⟩); have k2 : ¬ (0 ≤ v2.toInt ∧ v2.toInt < (eA g6 233 0).toInt ∧ 0 ≤ v4.toInt ∧ v4.toInt < (eA g6 233 0).toInt ∧ v2.toInt ≠ v4.toInt) := (fun z => k (by rw [← ek0]; exact z)); rw [ite_an k2, ite_an k2, ite_an k2, ite_an k2] at m; exact x.trans ((hR_15.1 i i0 i1).1.trans (m.trans y).symm))), (by first | (clear f28 f29 f30 f31 f32 f33 f34 f35 f36 f37 f38 f39 f40 f41 f44 f45 f46 f55 f56 f57 f58 f59 f60 f61 f62 f63 f64 f65 f66 f67 f68 f71 f72 f73 f74 f109 f110 f111 f112 f113 f114 f115 f116 f117 f118 f119 f120 f121 f122 f125 f126 f127 f128 f136 f137 f138 f139 f140 f141 f142 f143 f144 f145 f146 f147 f148 f149 f152 f153 f154; have t0_ := hI0.t0; have t1_ := hI0.t1; have ek0 : (eA g6 233 0).toInt = (gI g0 1 0).toInt := (eA_ti (j := 0) (hF8.2.1 233 (by decide))).trans hR_0.symm; have x := (eA_ti (j := i) (hF81.2.1 3 (by decide))).trans (q15 i i0 i1); have m := q88 (10 + 3 * i + 1) (by omega) (by omega); have y := eA_ti (j := (10 + 3 * i + 1)) (hF8.2.1 233 (by decide)); have k : ¬ (0 ≤ v2.toInt ∧ v2.toInt < (gI g0 1 0).toInt ∧ 0 ≤ v4.toInt ∧ v4.toInt < (gI g0 1 0).toInt ∧ v2.toInt ≠ v4.toInt) := (fun z => (show ¬ _ from pk5) ⟨z.1, z.2.1, z.2.2.1, z.2.2.2.1⟩); have k2 : ¬ (0 ≤ v2.toInt ∧ v2.toInt < (eA g6 233 0).toInt ∧ 0 ≤ v4.toInt ∧ v4.toInt < (eA g6 233 0).toInt ∧ v2.toInt ≠ v4.toInt) := (fun z => k (by rw [← ek0]; exact z)); rw [ite_an k, ite_an k] at x; rw [ite_an k2, ite_an k2, ite_an k2, ite_an k2] at m; exact x.trans ((hR_15.1 i i0 i1).2.1.trans (m.trans y).symm)) | (have t0_ := hI0.t0; have t1_ := hI0.t1; have ek0 : (eA g6 233 0).toInt = (gI g0 1 0).toInt := (eA_ti (j := 0) (hF8.2.1 233 (by decide))).trans hR_0.symm; have x := (eA_ti (j := i) (hF81.2.1 3 (by decide))).trans (q15 i i0 i1); have m := q88 (10 + 3 * i + 1) (by omega) (by omega); have y := eA_ti (j := (10 + 3 * i + 1)) (hF8.2.1 233 (by decide)); have k : ¬ (0 ≤ v2.toInt ∧ v2.toInt < (gI g0 1 0).toInt ∧ 0 ≤ v4.toInt ∧ v4.toInt < (gI g0 1 0).toInt ∧ v2.toInt ≠ v4.toInt) := (fun z => (show ¬ _ from pk5) ⟨z.1, z.2.1, z.2.2.1, z.2.2.2.1⟩); have k2 : ¬ (0 ≤ v2.toInt ∧ v2.toInt < (eA g6 233 0).toInt ∧ 0 ≤ v4.toInt ∧ v4.toInt < (eA g6 233 0).toInt ∧ v2.toInt ≠ v4.toInt) := (fun z => k (by rw [← ek0]; exact z)); rw [ite_an k, ite_an k] at x; rw [ite_an k2, ite_an k2, ite_an k2, ite_an k2] at m; exact x.trans ((hR_15.1 i i0 i1).2.1.trans (m.trans y).symm))), (by first | (clear f28 f29 f30 f31 f32 f33 f34 f35 f36 f37 f38 f39 f40 f41 f44 f45 f46 f55 f56 f57 f58 f59 f60 f61 f62 f63 f64 f65 f66 f67 f68 f71 f72 f73 f74 f109 f110 f111 f112 f113 f114 f115 f116 f117 f118 f119 f120 f121 f122 f125 f126 f127 f128 f136 f137 f138 f139 f140 f141 f142 f143 f144 f145 f146 f147 f148 f149 f152 f153 f154; have t0_ := hI0.t0; have t1_ := hI0.t1; have ek0 : (eA g6 233 0).toInt = (gI g0 1 0).toInt := (eA_ti (j := 0) (hF8.2.1 233 (by decide))).trans hR_0.symm; have x := (eA_ti (j := i) (hF81.2.1 4 (by decide))).trans (q16 i i0 i1); have m := q88 (10 + 3 * i + 2) (by omega) (by omega); have y := eA_ti (j := (10 + 3 * i + 2)) (hF8.2.1 233 (by decide)); have k : ¬ (0 ≤ v2.toInt ∧ v2.toInt < (gI g0 1 0).toInt ∧ 0 ≤ v4.toInt ∧ v4.toInt < (gI g0 1 0).toInt ∧ v2.toInt ≠ v4.toInt) := (fun z => (show ¬ _ from pk5) ⟨z.1, z.2.1, z.2.2.1, z.2.2.2.1⟩); have k2 : ¬ (0 ≤ v2.toInt ∧ v2.toInt < (eA g6 233 0).toInt ∧ 0 ≤ v4.toInt ∧ v4.toInt < (eA g6 233 0).toInt ∧ v2.toInt ≠ v4.toInt) := (fun z => k (by rw [← ek0]; exact z)); rw [ite_an k, ite_an k] at x; rw [ite_an k2, ite_an k2, ite_an k2, ite_an k2] at m; exact x.trans ((hR_15.1 i i0 i1).2.2.trans (m.trans y).symm)) | (have t0_ := hI0.t0; have t1_ := hI0.t1; have ek0 : (eA g6 233 0).toInt = (gI g0 1 0).toInt := (eA_ti (j := 0) (hF8.2.1 233 (by decide))).trans hR_0.symm; have x := (eA_ti (j := i) (hF81.2.1 4 (by decide))).trans (q16 i i0 i1); have m := q88 (10 + 3 * i + 2) (by omega) (by omega); have y := eA_ti (j := (10 + 3 * i + 2)) (hF8.2.1 233 (by decide)); have k : ¬ (0 ≤ v2.toInt ∧ v2.toInt < (gI g0 1 0).toInt ∧ 0 ≤ v4.toInt ∧ v4.toInt < (gI g0 1 0).toInt ∧ v2.toInt ≠ v4.toInt) := (fun z => (show ¬ _ from pk5) ⟨z.1, z.2.1, z.2.2.1, z.2.2.2.1⟩); have k2 : ¬ (0 ≤ v2.toInt ∧ v2.toInt < (eA g6 233 0).toInt ∧ 0 ≤ v4.toInt ∧ v4.toInt < (eA g6 233 0).toInt ∧ v2.toInt ≠ v4.toInt) := (fun z => k (by rw [← ek0]; exact z)); rw [ite_an k, ite_an k] at x; rw [ite_an k2, ite_an k2, ite_an k2, ite_an k2] at m; exact x.trans ((hR_15.1 i i0 i1).2.2.trans (m.trans y).symm)))⟩, fun i i0 i1 => ⟨(by first | (clear f28 f29 f30 f31 f32 f33 f34 f35 f36 f37 f38 f39 f40 f41 f44 f45 f46 f55 f56 f57 f58 f59 f60 f61 f62 f63 f64 f65 f66 f67 f68 f71 f72 f73 f74 f109 f110 f111 f112 f113 f114 f115 f116 f117 f118 f119 f120 f121 f122 f125 f126 f127 f128 f136 f137 f138 f139 f140 f141 f142 f143 f144 f145 f146 f147 f148 f149 f152 f153 f154; have t0_ := hI0.t0; have t1_ := hI0.t1; have ek0 : (eA g6 233 0).toInt = (gI g0 1 0).toInt := (eA_ti (j := 0) (hF8.2.1 233 (by decide))).trans hR_0.symm; have x := eA_ti (j := i) (((hF81.2.1 14 (by decide)).trans (hF8.2.1 14 (by decide)))); have m := q88 (94 + 2 * i) (by omega) (by omega); have y := eA_ti (j := (94 + 2 * i)) (hF8.2.1 233 (by decide)); have k : ¬ (0 ≤ v2.toInt ∧ v2.toInt < (gI g0 1 0).toInt ∧ 0 ≤ v4.toInt ∧ v4.toInt < (gI g0 1 0).toInt ∧ v2.toInt ≠ v4.toInt) := (fun z => (show ¬ _ from pk5) ⟨z.1, z.2.1, z.2.2.1, z.2.2.2.1⟩); have k2 : ¬ (0 ≤ v2.toInt ∧ v2.toInt < (eA g6 233 0).toInt ∧ 0 ≤ v4.toInt ∧ v4.toInt < (eA g6 233 0).toInt ∧ v2.toInt ≠ v4.toInt) := (fun z => k (by rw [← ek0]; exact z)); rw [ite_an k2, ite_an k2, ite_an k2, ite_an k2] at m; exact x.trans ((hR_15.2.1 i i0 i1).1.trans (m.trans y).symm)) | (have t0_ := hI0.t0; have t1_ := hI0.t1; have ek0 : (eA g6 233 0).toInt = (gI g0 1 0).toInt := (eA_ti (j := 0) (hF8.2.1 233 (by decide))).trans hR_0.symm; have x := eA_ti (j := i) (((hF81.2.1 14 (by decide)).trans (hF8.2.1 14 (by decide)))); have m := q88 (94 + 2 * i) (by omega) (by omega); have y := eA_ti (j := (94 + 2 * i)) (hF8.2.1 233 (by decide)); have k : ¬ (0 ≤ v2.toInt ∧ v2.toInt < (gI g0 1 0).toInt ∧ 0 ≤ v4.toInt ∧ v4.toInt < (gI g0 1 0).toInt ∧ v2.toInt ≠ v4.toInt) := (fun z => (show ¬ _ from pk5) ⟨z.1, z.2.1, z.2.2.1, z.2.2.2.1⟩); have k2 : ¬ (0 ≤ v2.toInt ∧ v2.toInt < (eA g6 233 0).toInt ∧ 0 ≤ v4.toInt ∧ v4.toInt < (eA g6 233 0).toInt ∧ v2.toInt ≠ v4.toInt) := (fun z => k (by rw [← ek0]; exact z)); rw [ite_an k2, ite_an k2, ite_an k2, ite_an k2] at m; exact x.trans ((hR_15.2.1 i i0 i1).1.trans (m.trans y).symm))), (by first | (clear f28 f29 f30 f31 f32 f33 f34 f35 f36 f37 f38 f39 f40 f41 f44 f45 f46 f55 f56 f57 f58 f59 f60 f61 f62 f63 f64 f65 f66 f67 f68 f71 f72 f73 f74 f109 f110 f111 f112 f113 f114 f115 f116 f117 f118 f119 f120 f121 f122 f125 f126 f127 f128 f136 f137 f138 f139 f140 f141 f142 f143 f144 f145 f146 f147 f148 f149 f152 f153 f154; have t0_ := hI0.t0; have t1_ := hI0.t1; have ek0 : (eA g6 233 0).toInt = (gI g0 1 0).toInt := (eA_ti (j := 0) (hF8.2.1 233 (by decide))).trans hR_0.symm; have x := eA_ti (j := i) (((hF81.2.1 15 (by decide)).trans (hF8.2.1 15 (by decide)))); have m := q88 (94 + 2 * i + 1) (by omega) (by omega); have y := eA_ti (j := (94 + 2 * i + 1)) (hF8.2.1 233 (by decide)); have k : ¬ (0 ≤ v2.toInt ∧ v2.toInt < (gI g0 1 0).toInt ∧ 0 ≤ v4.toInt ∧ v4.toInt < (gI g0 1 0).toInt ∧ v2.toInt ≠ v4.toInt) := (fun z => (show ¬ _ from pk5) ⟨z.1, z.2.1, z.2.2.1, z.2.2.2.1⟩); have k2 : ¬ (0 ≤ v2.toInt ∧ v2.toInt < (eA g6 233 0).toInt ∧ 0 ≤ v4.toInt ∧ v4.toInt < (eA g6 233 0).toInt ∧ v2.toInt ≠ v4.toInt) := (fun z => k (by rw [← ek0]; exact z)); rw [ite_an k2, ite_an k2, ite_an k2, ite_an k2] at m; exact x.trans ((hR_15.2.1 i i0 i1).2.trans (m.trans y).symm)) | (have t0_ := hI0.t0; have t1_ := hI0.t1; have ek0 : (eA g6 233 0).toInt = (gI g0 1 0).toInt := (eA_ti (j := 0) (hF8.2.1 233 (by decide))).trans hR_0.symm; have x := eA_ti (j := i) (((hF81.2.1 15 (by decide)).trans (hF8.2.1 15 (by decide)))); have m := q88 (94 + 2 * i + 1) (by omega) (by omega); have y := eA_ti (j := (94 + 2 * i + 1)) (hF8.2.1 233 (by decide)); have k : ¬ (0 ≤ v2.toInt ∧ v2.toInt < (gI g0 1 0).toInt ∧ 0 ≤ v4.toInt ∧ v4.toInt < (gI g0 1 0).toInt ∧ v2.toInt ≠ v4.toInt) := (fun z => (show ¬ _ from pk5) ⟨z.1, z.2.1, z.2.2.1, z.2.2.2.1⟩); have k2 : ¬ (0 ≤ v2.toInt ∧ v2.toInt < (eA g6 233 0).toInt ∧ 0 ≤ v4.toInt ∧ v4.toInt < (eA g6 233 0).toInt ∧ v2.toInt ≠ v4.toInt) := (fun z => k (by rw [← ek0]; exact z)); rw [ite_an k2, ite_an k2, ite_an k2, ite_an k2] at m; exact x.trans ((hR_15.2.1 i i0 i1).2.trans (m.trans y).symm)))⟩, fun i i0 i1 => (by first | (clear f28 f29 f30 f31 f32 f33 f34 f35 f36 f37 f38 f39 f40 f41 f44 f45 f46 f55 f56 f57 f58 f59 f60 f61 f62 f63 f64 f65 f66 f67 f68 f71 f72 f73 f74 f109 f110 f111 f112 f113 f114 f115 f116 f117 f118 f119 f120 f121 f122 f125 f126 f127 f128 f136 f137 f138 f139 f140 f141 f142 f143 f144 f145 f146 f147 f148 f149 f152 f153 f154; have t0_ := hI0.t0; have t1_ := hI0.t1; have ek0 : (eA g6 233 0).toInt = (gI g0 1 0).toInt := (eA_ti (j := 0) (hF8.2.1 233 (by decide))).trans hR_0.symm; have x := eA_ti (j := i) (((hF81.2.1 5 (by decide)).trans (hF8.2.1 5 (by decide)))); have m := q88 (46 + i) (by omega) (by omega); have y := eA_ti (j := (46 + i)) (hF8.2.1 233 (by decide)); have k : ¬ (0 ≤ v2.toInt ∧ v2.toInt < (gI g0 1 0).toInt ∧ 0 ≤ v4.toInt ∧ v4.toInt < (gI g0 1 0).toInt ∧ v2.toInt ≠ v4.toInt) := (fun z => (show ¬ _ from pk5) ⟨z.1, z.2.1, z.2.2.1, z.2.2.2.1⟩); have k2 : ¬ (0 ≤ v2.toInt ∧ v2.toInt < (eA g6 233 0).toInt ∧ 0 ≤ v4.toInt ∧ v4.toInt < (eA g6 233 0).toInt ∧ v2.toInt ≠ v4.toInt) := (fun z => k (by rw [← ek0]; exact z)); rw [ite_an k2, ite_an k2, ite_an k2, ite_an k2] at m; exact x.trans ((hR_15.2.2 i i0 (by omega)).trans (m.trans y).symm)) | (have t0_ := hI0.t0; have t1_ := hI0.t1; have ek0 : (eA g6 233 0).toInt = (gI g0 1 0).toInt := (eA_ti (j := 0) (hF8.2.1 233 (by decide))).trans hR_0.symm; have x := eA_ti (j := i) (((hF81.2.1 5 (by decide)).trans (hF8.2.1 5 (by decide)))); have m := q88 (46 + i) (by omega) (by omega); have y := eA_ti (j := (46 + i)) (hF8.2.1 233 (by decide)); have k : ¬ (0 ≤ v2.toInt ∧ v2.toInt < (gI g0 1 0).toInt ∧ 0 ≤ v4.toInt ∧ v4.toInt < (gI g0 1 0).toInt ∧ v2.toInt ≠ v4.toInt) := (fun z => (show ¬ _ from pk5) ⟨z.1, z.2.1, z.2.2.1, z.2.2.2.1⟩); have k2 : ¬ (0 ≤ v2.toInt ∧ v2.toInt < (eA g6 233 0).toInt ∧ 0 ≤ v4.toInt ∧ v4.toInt < (eA g6 233 0).toInt ∧ v2.toInt ≠ v4.toInt) := (fun z => k (by rw [← ek0]; exact z)); rw [ite_an k2, ite_an k2, ite_an k2, ite_an k2] at m; exact x.trans ((hR_15.2.2 i i0 (by omega)).trans (m.trans y).symm)))⟩), CI0.cong hR_16 (((hF81.2.1 60 (by decide)).trans (hF8.2.1 60 (by decide)))) (((hF81.2.1 61 (by decide)).trans (hF8.2.1 61 (by decide)))) (((hF81.2.1 62 (by decide)).trans (hF8.2.1 62 (by decide)))) (((hF81.2.1 72 (by decide)).trans (hF8.2.1 72 (by decide)))) (((hF81.2.1 73 (by decide)).trans (hF8.2.1 73 (by decide)))) (((hF81.2.1 63 (by decide)).trans (hF8.2.1 63 (by decide)))) (((hF81.2.1 234 (by decide)).trans (hF8.2.1 234 (by decide)))) (congrArg Int32.toInt (((hF81.1 59 4 (by decide)).trans (hF8.1 59 4 (by decide))))), CI1.cong hR_17 (((hF81.2.1 117 (by decide)).trans (hF8.2.1 117 (by decide)))) (((hF81.2.1 118 (by decide)).trans (hF8.2.1 118 (by decide)))) (((hF81.2.1 119 (by decide)).trans (hF8.2.1 119 (by decide)))) (((hF81.2.1 129 (by decide)).trans (hF8.2.1 129 (by decide)))) (((hF81.2.1 130 (by decide)).trans (hF8.2.1 130 (by decide)))) (((hF81.2.1 120 (by decide)).trans (hF8.2.1 120 (by decide)))) (((hF81.2.1 234 (by decide)).trans (hF8.2.1 234 (by decide)))) (congrArg Int32.toInt (((hF81.1 116 4 (by decide)).trans (hF8.1 116 4 (by decide))))), (show RT _ from fun i i0 i1 => (eA_ti (((hF81.2.1 175 (by decide)).trans (hF8.2.1 175 (by decide))))).trans ((hR_18 i i0 (by omega)).trans (eA_ti (((hF81.2.1 236 (by decide)).trans (hF8.2.1 236 (by decide))))).symm)), (show BYX _ from fun i i0 i1 => by rw [TX.c (((hF81.2.1 175 (by decide)).trans (hF8.2.1 175 (by decide))))]; exact hR_19 i i0 (by have i2 : i < (gI _ 174 1).toInt := i1; show i < (gI g0 174 1).toInt; omega))⟩)
  · refine r_callV 887 rfl [.ref 0, .int v2, .int v4] [] (Nat.le_of_ble_eq_true rfl) rfl (T_X10_swap_0 _ hI0 v2 v4) ?_
    rintro _ _ ⟨g156, rfl, hI157, hF158, v159, rfl, hr160⟩
    refine At.sti ?_
    have hF161 := Fr.tr hF0 hF158 rfl rfl
    have su162 := hr160.2.2
    obtain ⟨q163, q164, q165, q166⟩ := (And.intro hr160.1 hr160.2.1)
    obtain ⟨i168, i169, i170⟩ := q164
    have w167 := i169 ⟨pk5.1, pk5.2⟩
    clear i168 i169 i170
    have f171 := congrArg Int32.toInt (hF158.1 1 0 rfl)
    have f172 := congrArg Int32.toInt (hF158.1 1 12 rfl)
    have f173 := congrArg Int32.toInt (hF158.1 1 10 rfl)
    have f174 := congrArg Int32.toInt (hF158.1 1 11 rfl)
    have f175 := congrArg Int32.toInt (hF158.1 1 4 rfl)
    have f176 := congrArg Int32.toInt (hF158.1 1 6 rfl)
    have f177 := congrArg Int32.toInt (hF158.1 1 9 rfl)
    have f178 := congrArg Int32.toInt (hF158.1 59 0 rfl)
    have f179 := congrArg Int32.toInt (hF158.1 59 12 rfl)
    have f180 := congrArg Int32.toInt (hF158.1 59 10 rfl)
    have f181 := congrArg Int32.toInt (hF158.1 59 11 rfl)
    have f182 := congrArg Int32.toInt (hF158.1 59 4 rfl)
    have f183 := congrArg Int32.toInt (hF158.1 59 6 rfl)
    have f184 := congrArg Int32.toInt (hF158.1 59 9 rfl)
    have f185 := congrArg Int32.toInt (hF158.1 116 0 rfl)
    have f186 := congrArg Int32.toInt (hF158.1 116 12 rfl)
    have f187 := congrArg Int32.toInt (hF158.1 116 10 rfl)
    have f188 := congrArg Int32.toInt (hF158.1 116 11 rfl)
    have f189 := congrArg Int32.toInt (hF158.1 116 4 rfl)
    have f190 := congrArg Int32.toInt (hF158.1 116 6 rfl)
    have f191 := congrArg Int32.toInt (hF158.1 116 9 rfl)
    have f192 := congrArg Int32.toInt (eA_c (j := 0) (hF158.2.1 173 rfl))
    have f193 := congrArg Int32.toInt (eA_c (j := 1) (hF158.2.1 173 rfl))
    have f194 := congrArg Int32.toInt (hF158.1 174 1 rfl)
    have f195 := congrArg Int32.toInt (hF158.1 0 16 rfl)
    have f196 := congrArg Int32.toInt (hF158.1 176 2 rfl)
    have f198 := congrArg Int32.toInt (eA_c (j := 0) (hF158.2.1 233 rfl))
    have f199 := congrArg Int32.toInt (eA_c (j := 4) (hF158.2.1 233 rfl))
    have f200 := congrArg Int32.toInt (eA_c (j := 5) (hF158.2.1 233 rfl))
    have f201 := congrArg Int32.toInt (eA_c (j := 6) (hF158.2.1 233 rfl))
    have f202 := congrArg Int32.toInt (eA_c (j := 1) (hF158.2.1 233 rfl))
    have f203 := congrArg Int32.toInt (eA_c (j := 2) (hF158.2.1 233 rfl))
    have f204 := congrArg Int32.toInt (eA_c (j := 3) (hF158.2.1 233 rfl))
    have f205 := congrArg Int32.toInt (eA_c (j := 0) (hF158.2.1 234 rfl))
    have f206 := congrArg Int32.toInt (eA_c (j := 4) (hF158.2.1 234 rfl))
    have f207 := congrArg Int32.toInt (eA_c (j := 5) (hF158.2.1 234 rfl))
    have f208 := congrArg Int32.toInt (eA_c (j := 6) (hF158.2.1 234 rfl))
    have f209 := congrArg Int32.toInt (eA_c (j := 1) (hF158.2.1 234 rfl))
    have f210 := congrArg Int32.toInt (eA_c (j := 2) (hF158.2.1 234 rfl))
    have f211 := congrArg Int32.toInt (eA_c (j := 3) (hF158.2.1 234 rfl))
    have f212 := congrArg Int32.toInt (eA_c (j := 5510) (hF158.2.1 234 rfl))
    have f213 := congrArg Int32.toInt (eA_c (j := 5514) (hF158.2.1 234 rfl))
    have f214 := congrArg Int32.toInt (eA_c (j := 5515) (hF158.2.1 234 rfl))
    have f215 := congrArg Int32.toInt (eA_c (j := 5516) (hF158.2.1 234 rfl))
    have f216 := congrArg Int32.toInt (eA_c (j := 5511) (hF158.2.1 234 rfl))
    have f217 := congrArg Int32.toInt (eA_c (j := 5512) (hF158.2.1 234 rfl))
    have f218 := congrArg Int32.toInt (eA_c (j := 5513) (hF158.2.1 234 rfl))
    have f219 := congrArg Int32.toInt (eA_c (j := 0) (hF158.2.1 235 rfl))
    have f220 := congrArg Int32.toInt (eA_c (j := 1) (hF158.2.1 235 rfl))
    have f221 := congrArg Int32.toInt (hF158.1 231 8 rfl)
    have f222 := congrArg Int32.toInt (hF158.1 231 6 rfl)
    have f223 := congrArg Int32.toInt (hF158.1 231 13 rfl)
    have f224 := congrArg Int32.toInt (hF158.1 231 1 rfl)
    refine At.enter rfl ?_
    refine r_pop rfl ?_
    refine r_aload_n e2 ?_
    refine r_sload_n e0 ?_
    refine r_iload_n e3 ?_
    refine r_iconst 1 rfl ?_
    refine q_iadd (i.toInt + 1) rfl hx_1 (fun v225 hv225 => ?_)
    refine q_scald (m := L) hL (i.toInt + 1) hv225 hy_1 (fun v226 hv226 => ?_)
    have sv226 := hv2.symm.trans hv226
    subst sv226
    refine r_sload_n e0 ?_
    refine r_iload_n e3 ?_
    refine r_iconst 2 rfl ?_
    refine q_iadd (i.toInt + 2) rfl hx_2 (fun v227 hv227 => ?_)
    refine q_scald (m := L) hL (i.toInt + 2) hv227 hy_2 (fun v228 hv228 => ?_)
    have sv228 := hv4.symm.trans hv228
    subst sv228
    refine r_callV 902 rfl [.ref 231, .int v2, .int v4] [] (Nat.le_of_ble_eq_true rfl) rfl (T_X11_swap_231 _ hI157 v2 v4) ?_
    rintro _ _ ⟨g229, rfl, hI230, hF231, v232, rfl, hr233⟩
    refine At.sti ?_
    have hF234 := Fr.tr hF161 hF231 rfl rfl
    have su235 := hr233.2.2
    obtain ⟨q236, q237, q238⟩ := (And.intro hr233.1 hr233.2.1)
    have ek250 : (eA g156 233 0).toInt = (gI g0 1 0).toInt := (eA_ti (j := 0) (hF158.2.1 233 (by decide))).trans hR_0.symm
    have ek251 : (eA g156 233 1).toInt = (gI g0 1 4).toInt := (eA_ti (j := 1) (hF158.2.1 233 (by decide))).trans hR_4.symm
    obtain ⟨⟨i240, i241, i242⟩, sm243, sm244, sm245, sm246, sm247, sm248, sm249⟩ := q237
    have w239 := i241 ⟨(by rw [ek250]; exact pk5.1), pk5.2⟩
    clear i240 i241 i242
    have f252 := congrArg Int32.toInt (hF231.1 1 0 rfl)
    have f253 := congrArg Int32.toInt (hF231.1 1 12 rfl)
    have f254 := congrArg Int32.toInt (hF231.1 1 10 rfl)
    have f255 := congrArg Int32.toInt (hF231.1 1 11 rfl)
    have f256 := congrArg Int32.toInt (hF231.1 1 4 rfl)
    have f257 := congrArg Int32.toInt (hF231.1 1 6 rfl)
    have f258 := congrArg Int32.toInt (hF231.1 1 9 rfl)
    have f259 := congrArg Int32.toInt (hF231.1 59 0 rfl)
    have f260 := congrArg Int32.toInt (hF231.1 59 12 rfl)
    have f261 := congrArg Int32.toInt (hF231.1 59 10 rfl)
    have f262 := congrArg Int32.toInt (hF231.1 59 11 rfl)
    have f263 := congrArg Int32.toInt (hF231.1 59 4 rfl)
    have f264 := congrArg Int32.toInt (hF231.1 59 6 rfl)
    have f265 := congrArg Int32.toInt (hF231.1 59 9 rfl)
    have f266 := congrArg Int32.toInt (hF231.1 116 0 rfl)
    have f267 := congrArg Int32.toInt (hF231.1 116 12 rfl)
    have f268 := congrArg Int32.toInt (hF231.1 116 10 rfl)
    have f269 := congrArg Int32.toInt (hF231.1 116 11 rfl)
    have f270 := congrArg Int32.toInt (hF231.1 116 4 rfl)
    have f271 := congrArg Int32.toInt (hF231.1 116 6 rfl)
    have f272 := congrArg Int32.toInt (hF231.1 116 9 rfl)
    have f273 := congrArg Int32.toInt (eA_c (j := 0) (hF231.2.1 173 rfl))
    have f274 := congrArg Int32.toInt (eA_c (j := 1) (hF231.2.1 173 rfl))
    have f275 := congrArg Int32.toInt (hF231.1 174 1 rfl)
    have f276 := congrArg Int32.toInt (hF231.1 0 16 rfl)
    have f277 := congrArg Int32.toInt (hF231.1 176 2 rfl)
    have f278 := congrArg Int32.toInt (hF231.1 0 17 rfl)
    have f286 := congrArg Int32.toInt (eA_c (j := 0) (hF231.2.1 234 rfl))
    have f287 := congrArg Int32.toInt (eA_c (j := 4) (hF231.2.1 234 rfl))
    have f288 := congrArg Int32.toInt (eA_c (j := 5) (hF231.2.1 234 rfl))
    have f289 := congrArg Int32.toInt (eA_c (j := 6) (hF231.2.1 234 rfl))
    have f290 := congrArg Int32.toInt (eA_c (j := 1) (hF231.2.1 234 rfl))
    have f291 := congrArg Int32.toInt (eA_c (j := 2) (hF231.2.1 234 rfl))
    have f292 := congrArg Int32.toInt (eA_c (j := 3) (hF231.2.1 234 rfl))
    have f293 := congrArg Int32.toInt (eA_c (j := 5510) (hF231.2.1 234 rfl))
    have f294 := congrArg Int32.toInt (eA_c (j := 5514) (hF231.2.1 234 rfl))
    have f295 := congrArg Int32.toInt (eA_c (j := 5515) (hF231.2.1 234 rfl))
    have f296 := congrArg Int32.toInt (eA_c (j := 5516) (hF231.2.1 234 rfl))
    have f297 := congrArg Int32.toInt (eA_c (j := 5511) (hF231.2.1 234 rfl))
    have f298 := congrArg Int32.toInt (eA_c (j := 5512) (hF231.2.1 234 rfl))
    have f299 := congrArg Int32.toInt (eA_c (j := 5513) (hF231.2.1 234 rfl))
    have f300 := congrArg Int32.toInt (eA_c (j := 0) (hF231.2.1 235 rfl))
    have f301 := congrArg Int32.toInt (eA_c (j := 1) (hF231.2.1 235 rfl))
    have f302 := congrArg Int32.toInt (hF231.1 231 8 rfl)
    have f303 := congrArg Int32.toInt (hF231.1 231 6 rfl)
    have f304 := congrArg Int32.toInt (hF231.1 231 13 rfl)
    refine At.enter rfl ?_
    refine r_pop rfl ?_
    refine r_goto ?_
    have zr : v159.toInt = v232.toInt := by
      apply Decidable.byContradiction
      intro hne
      exfalso
      omega
    have zsu := SU.eq su162 su235 zr
    exact K _ hI230 (show LwR _ from ⟨by first | (clear f172 f173 f174 f175 f176 f177 f178 f179 f180 f181 f182 f183 f184 f185 f186 f187 f188 f189 f190 f191 f192 f193 f194 f195 f196 f199 f200 f201 f202 f203 f204 f205 f206 f207 f208 f209 f210 f211 f212 f213 f214 f215 f216 f217 f218 f219 f220 f221 f222 f223 f224 f253 f254 f255 f256 f257 f258 f259 f260 f261 f262 f263 f264 f265 f266 f267 f268 f269 f270 f271 f272 f273 f274 f275 f276 f277 f278 f286 f287 f288 f289 f290 f291 f292 f293 f294 f295 f296 f297 f298 f299 f300 f301 f302 f303 f304; omega) | omega, by first | (clear f171 f173 f174 f175 f176 f177 f178 f179 f180 f181 f182 f183 f184 f185 f186 f187 f188 f189 f190 f191 f192 f193 f194 f195 f196 f198 f200 f201 f202 f203 f204 f205 f206 f207 f208 f209 f210 f211 f212 f213 f214 f215 f216 f217 f218 f219 f220 f221 f222 f223 f224 f252 f254 f255 f256 f257 f258 f259 f260 f261 f262 f263 f264 f265 f266 f267 f268 f269 f270 f271 f272 f273 f274 f275 f276 f277 f278 f286 f287 f288 f289 f290 f291 f292 f293 f294 f295 f296 f297 f298 f299 f300 f301 f302 f303 f304; omega) | omega, by first | (clear f171 f172 f174 f175 f176 f177 f178 f179 f180 f181 f182 f183 f184 f185 f186 f187 f188 f189 f190 f191 f192 f193 f194 f195 f196 f198 f199 f201 f202 f203 f204 f205 f206 f207 f208 f209 f210 f211 f212 f213 f214 f215 f216 f217 f218 f219 f220 f221 f222 f223 f224 f252 f253 f255 f256 f257 f258 f259 f260 f261 f262 f263 f264 f265 f266 f267 f268 f269 f270 f271 f272 f273 f274 f275 f276 f277 f278 f286 f287 f288 f289 f290 f291 f292 f293 f294 f295 f296 f297 f298 f299 f300 f301 f302 f303 f304; omega) | omega, by first | (clear f171 f172 f173 f175 f176 f177 f178 f179 f180 f181 f182 f183 f184 f185 f186 f187 f188 f189 f190 f191 f192 f193 f194 f195 f196 f198 f199 f200 f202 f203 f204 f205 f206 f207 f208 f209 f210 f211 f212 f213 f214 f215 f216 f217 f218 f219 f220 f221 f222 f223 f224 f252 f253 f254 f256 f257 f258 f259 f260 f261 f262 f263 f264 f265 f266 f267 f268 f269 f270 f271 f272 f273 f274 f275 f276 f277 f278 f286 f287 f288 f289 f290 f291 f292 f293 f294 f295 f296 f297 f298 f299 f300 f301 f302 f303 f304; omega) | omega, by first | (clear f171 f172 f173 f174 f176 f177 f178 f179 f180 f181 f182 f183 f184 f185 f186 f187 f188 f189 f190 f191 f192 f193 f194 f195 f196 f198 f199 f200 f201 f203 f204 f205 f206 f207 f208 f209 f210 f211 f212 f213 f214 f215 f216 f217 f218 f219 f220 f221 f222 f223 f224 f252 f253 f254 f255 f257 f258 f259 f260 f261 f262 f263 f264 f265 f266 f267 f268 f269 f270 f271 f272 f273 f274 f275 f276 f277 f278 f286 f287 f288 f289 f290 f291 f292 f293 f294 f295 f296 f297 f298 f299 f300 f301 f302 f303 f304; omega) | omega, by first | (clear f171 f172 f173 f174 f175 f177 f178 f179 f180 f181 f182 f183 f184 f185 f186 f187 f188 f189 f190 f191 f192 f193 f194 f195 f196 f198 f199 f200 f201 f202 f204 f205 f206 f207 f208 f209 f210 f211 f212 f213 f214 f215 f216 f217 f218 f219 f220 f221 f222 f223 f224 f252 f253 f254 f255 f256 f258 f259 f260 f261 f262 f263 f264 f265 f266 f267 f268 f269 f270 f271 f272 f273 f274 f275 f276 f277 f278 f286 f287 f288 f289 f290 f291 f292 f293 f294 f295 f296 f297 f298 f299 f300 f301 f302 f303 f304; omega) | omega, by first | (clear f171 f172 f173 f174 f175 f176 f178 f179 f180 f181 f182 f183 f184 f185 f186 f187 f188 f189 f190 f191 f192 f193 f194 f195 f196 f198 f199 f200 f201 f202 f203 f205 f206 f207 f208 f209 f210 f211 f212 f213 f214 f215 f216 f217 f218 f219 f220 f221 f222 f223 f224 f252 f253 f254 f255 f256 f257 f259 f260 f261 f262 f263 f264 f265 f266 f267 f268 f269 f270 f271 f272 f273 f274 f275 f276 f277 f278 f286 f287 f288 f289 f290 f291 f292 f293 f294 f295 f296 f297 f298 f299 f300 f301 f302 f303 f304; omega) | omega, (eA_ti (j := 0) (((hF231.2.1 173 (by decide)).trans (hF158.2.1 173 (by decide))))).trans (hR_7.trans (eA_ti (j := 0) (((hF231.2.1 235 (by decide)).trans (hF158.2.1 235 (by decide))))).symm), (eA_ti (j := 1) (((hF231.2.1 173 (by decide)).trans (hF158.2.1 173 (by decide))))).trans (hR_8.trans (eA_ti (j := 1) (((hF231.2.1 235 (by decide)).trans (hF158.2.1 235 (by decide))))).symm), (congrArg Int32.toInt (((hF231.1 174 1 (by decide)).trans (hF158.1 174 1 (by decide))))).trans (hR_9.trans (congrArg Int32.toInt (((hF231.1 231 8 (by decide)).trans (hF158.1 231 8 (by decide))))).symm), (congrArg Int32.toInt (((hF231.1 0 16 (by decide)).trans (hF158.1 0 16 (by decide))))).trans (hR_10.trans (congrArg Int32.toInt (((hF231.1 231 6 (by decide)).trans (hF158.1 231 6 (by decide))))).symm), (congrArg Int32.toInt (((hF231.1 176 2 (by decide)).trans (hF158.1 176 2 (by decide))))).trans (hR_11.trans (congrArg Int32.toInt (((hF231.1 231 13 (by decide)).trans (hF158.1 231 13 (by decide))))).symm), by first | (clear f171 f172 f173 f174 f175 f176 f177 f178 f179 f180 f181 f182 f183 f184 f185 f186 f187 f188 f189 f190 f191 f192 f193 f194 f195 f196 f198 f199 f200 f201 f202 f203 f204 f205 f206 f207 f208 f209 f210 f211 f212 f213 f214 f215 f216 f217 f218 f219 f220 f221 f222 f223 f252 f253 f254 f255 f256 f257 f258 f259 f260 f261 f262 f263 f264 f265 f266 f267 f268 f269 f270 f271 f272 f273 f274 f275 f276 f277 f286 f287 f288 f289 f290 f291 f292 f293 f294 f295 f296 f297 f298 f299 f300 f301 f302 f303 f304; omega) | omega, IM0.cong hR_13 (eA_ti (j := 0) (((hF231.2.1 173 (by decide)).trans (hF158.2.1 173 (by decide))))) (congrArg Int32.toInt (((hF231.1 59 0 (by decide)).trans (hF158.1 59 0 (by decide))))) (eA_ti (j := 0) (((hF231.2.1 234 (by decide)).trans (hF158.2.1 234 (by decide))))) (congrArg Int32.toInt (((hF231.1 59 12 (by decide)).trans (hF158.1 59 12 (by decide))))) (eA_ti (j := 4) (((hF231.2.1 234 (by decide)).trans (hF158.2.1 234 (by decide))))) (congrArg Int32.toInt (((hF231.1 59 10 (by decide)).trans (hF158.1 59 10 (by decide))))) (eA_ti (j := 5) (((hF231.2.1 234 (by decide)).trans (hF158.2.1 234 (by decide))))) (congrArg Int32.toInt (((hF231.1 59 11 (by decide)).trans (hF158.1 59 11 (by decide))))) (eA_ti (j := 6) (((hF231.2.1 234 (by decide)).trans (hF158.2.1 234 (by decide))))) (congrArg Int32.toInt (((hF231.1 59 4 (by decide)).trans (hF158.1 59 4 (by decide))))) (eA_ti (j := 1) (((hF231.2.1 234 (by decide)).trans (hF158.2.1 234 (by decide))))) (congrArg Int32.toInt (((hF231.1 59 6 (by decide)).trans (hF158.1 59 6 (by decide))))) (eA_ti (j := 2) (((hF231.2.1 234 (by decide)).trans (hF158.2.1 234 (by decide))))) (congrArg Int32.toInt (((hF231.1 59 9 (by decide)).trans (hF158.1 59 9 (by decide))))) (eA_ti (j := 3) (((hF231.2.1 234 (by decide)).trans (hF158.2.1 234 (by decide))))), IM1.cong hR_14 (eA_ti (j := 1) (((hF231.2.1 173 (by decide)).trans (hF158.2.1 173 (by decide))))) (congrArg Int32.toInt (((hF231.1 116 0 (by decide)).trans (hF158.1 116 0 (by decide))))) (eA_ti (j := 5510) (((hF231.2.1 234 (by decide)).trans (hF158.2.1 234 (by decide))))) (congrArg Int32.toInt (((hF231.1 116 12 (by decide)).trans (hF158.1 116 12 (by decide))))) (eA_ti (j := 5514) (((hF231.2.1 234 (by decide)).trans (hF158.2.1 234 (by decide))))) (congrArg Int32.toInt (((hF231.1 116 10 (by decide)).trans (hF158.1 116 10 (by decide))))) (eA_ti (j := 5515) (((hF231.2.1 234 (by decide)).trans (hF158.2.1 234 (by decide))))) (congrArg Int32.toInt (((hF231.1 116 11 (by decide)).trans (hF158.1 116 11 (by decide))))) (eA_ti (j := 5516) (((hF231.2.1 234 (by decide)).trans (hF158.2.1 234 (by decide))))) (congrArg Int32.toInt (((hF231.1 116 4 (by decide)).trans (hF158.1 116 4 (by decide))))) (eA_ti (j := 5511) (((hF231.2.1 234 (by decide)).trans (hF158.2.1 234 (by decide))))) (congrArg Int32.toInt (((hF231.1 116 6 (by decide)).trans (hF158.1 116 6 (by decide))))) (eA_ti (j := 5512) (((hF231.2.1 234 (by decide)).trans (hF158.2.1 234 (by decide))))) (congrArg Int32.toInt (((hF231.1 116 9 (by decide)).trans (hF158.1 116 9 (by decide))))) (eA_ti (j := 5513) (((hF231.2.1 234 (by decide)).trans (hF158.2.1 234 (by decide))))), (show CT _ from ⟨fun i i0 i1 => ⟨(by first | (clear f178 f179 f180 f181 f182 f183 f184 f185 f186 f187 f188 f189 f190 f191 f194 f195 f196 f205 f206 f207 f208 f209 f210 f211 f212 f213 f214 f215 f216 f217 f218 f221 f222 f223 f224 f259 f260 f261 f262 f263 f264 f265 f266 f267 f268 f269 f270 f271 f272 f275 f276 f277 f278 f286 f287 f288 f289 f290 f291 f292 f293 f294 f295 f296 f297 f298 f299 f302 f303 f304; have t0_ := hI0.t0; have t1_ := hI0.t1; have ek0 : (eA g156 233 0).toInt = (gI g0 1 0).toInt := (eA_ti (j := 0) (hF158.2.1 233 (by decide))).trans hR_0.symm; have x := eA_ti (j := i) (((hF231.2.1 2 (by decide)).trans (hF158.2.1 2 (by decide)))); have m := q238 (10 + 3 * i) (by omega) (by omega); have y := eA_ti (j := (10 + 3 * i)) (hF158.2.1 233 (by decide)); have k : ¬ (0 ≤ v2.toInt ∧ v2.toInt < (gI g0 1 0).toInt ∧ 0 ≤ v4.toInt ∧ v4.toInt < (gI g0 1 0).toInt ∧ v2.toInt ≠ v4.toInt) := (fun z => z.2.2.2.2 pk5.2); have k2 : ¬ (0 ≤ v2.toInt ∧ v2.toInt < (eA g156 233 0).toInt ∧ 0 ≤ v4.toInt ∧ v4.toInt < (eA g156 233 0).toInt ∧ v2.toInt ≠ v4.toInt) := (fun z => k (by rw [← ek0]; exact z)); rw [ite_an k2, ite_an k2, ite_an k2, ite_an k2] at m; exact x.trans ((hR_15.1 i i0 i1).1.trans (m.trans y).symm)) | (have t0_ := hI0.t0; have t1_ := hI0.t1; have ek0 : (eA g156 233 0).toInt = (gI g0 1 0).toInt := (eA_ti (j := 0) (hF158.2.1 233 (by decide))).trans hR_0.symm; have x := eA_ti (j := i) (((hF231.2.1 2 (by decide)).trans (hF158.2.1 2 (by decide)))); have m := q238 (10 + 3 * i) (by omega) (by omega); have y := eA_ti (j := (10 + 3 * i)) (hF158.2.1 233 (by decide)); have k : ¬ (0 ≤ v2.toInt ∧ v2.toInt < (gI g0 1 0).toInt ∧ 0 ≤ v4.toInt ∧ v4.toInt < (gI g0 1 0).toInt ∧ v2.toInt ≠ v4.toInt) := (fun z => z.2.2.2.2 pk5.2); have k2 : ¬ (0 ≤ v2.toInt ∧ v2.toInt < (eA g156 233 0).toInt ∧ 0 ≤ v4.toInt ∧ v4.toInt < (eA g156 233 0).toInt ∧ v2.toInt ≠ v4.toInt) := (fun z => k (by rw [← ek0]; exact z)); rw [ite_an k2, ite_an k2, ite_an k2, ite_an k2] at m; exact x.trans ((hR_15.1 i i0 i1).1.trans (m.trans y).symm))), (by first | (clear f178 f179 f180 f181 f182 f183 f184 f185 f186 f187 f188 f189 f190 f191 f194 f195 f196 f205 f206 f207 f208 f209 f210 f211 f212 f213 f214 f215 f216 f217 f218 f221 f222 f223 f224 f259 f260 f261 f262 f263 f264 f265 f266 f267 f268 f269 f270 f271 f272 f275 f276 f277 f278 f286 f287 f288 f289 f290 f291 f292 f293 f294 f295 f296 f297 f298 f299 f302 f303 f304; have t0_ := hI0.t0; have t1_ := hI0.t1; have ek0 : (eA g156 233 0).toInt = (gI g0 1 0).toInt := (eA_ti (j := 0) (hF158.2.1 233 (by decide))).trans hR_0.symm; have x := (eA_ti (j := i) (hF231.2.1 3 (by decide))).trans (q165 i i0 i1); have m := q238 (10 + 3 * i + 1) (by omega) (by omega); have y := eA_ti (j := (10 + 3 * i + 1)) (hF158.2.1 233 (by decide)); have k : ¬ (0 ≤ v2.toInt ∧ v2.toInt < (gI g0 1 0).toInt ∧ 0 ≤ v4.toInt ∧ v4.toInt < (gI g0 1 0).toInt ∧ v2.toInt ≠ v4.toInt) := (fun z => z.2.2.2.2 pk5.2); have k2 : ¬ (0 ≤ v2.toInt ∧ v2.toInt < (eA g156 233 0).toInt ∧ 0 ≤ v4.toInt ∧ v4.toInt < (eA g156 233 0).toInt ∧ v2.toInt ≠ v4.toInt) := (fun z => k (by rw [← ek0]; exact z)); rw [ite_an k, ite_an k] at x; rw [ite_an k2, ite_an k2, ite_an k2, ite_an k2] at m; exact x.trans ((hR_15.1 i i0 i1).2.1.trans (m.trans y).symm)) | (have t0_ := hI0.t0; have t1_ := hI0.t1; have ek0 : (eA g156 233 0).toInt = (gI g0 1 0).toInt := (eA_ti (j := 0) (hF158.2.1 233 (by decide))).trans hR_0.symm; have x := (eA_ti (j := i) (hF231.2.1 3 (by decide))).trans (q165 i i0 i1); have m := q238 (10 + 3 * i + 1) (by omega) (by omega); have y := eA_ti (j := (10 + 3 * i + 1)) (hF158.2.1 233 (by decide)); have k : ¬ (0 ≤ v2.toInt ∧ v2.toInt < (gI g0 1 0).toInt ∧ 0 ≤ v4.toInt ∧ v4.toInt < (gI g0 1 0).toInt ∧ v2.toInt ≠ v4.toInt) := (fun z => z.2.2.2.2 pk5.2); have k2 : ¬ (0 ≤ v2.toInt ∧ v2.toInt < (eA g156 233 0).toInt ∧ 0 ≤ v4.toInt ∧ v4.toInt < (eA g156 233 0).toInt ∧ v2.toInt ≠ v4.toInt) := (fun z => k (by rw [← ek0]; exact z)); rw [ite_an k, ite_an k] at x; rw [ite_an k2, ite_an k2, ite_an k2, ite_an k2] at m; exact x.trans ((hR_15.1 i i0 i1).2.1.trans (m.trans y).symm))), (by first | (clear f178 f179 f180 f181 f182 f183 f184 f185 f186 f187 f188 f189 f190 f191 f194 f195 f196 f205 f206 f207 f208 f209 f210 f211 f212 f213 f214 f215 f216 f217 f218 f221 f222 f223 f224 f259 f260 f261 f262 f263 f264 f265 f266 f267 f268 f269 f270 f271 f272 f275 f276 f277 f278 f286 f287 f288 f289 f290 f291 f292 f293 f294 f295 f296 f297 f298 f299 f302 f303 f304; have t0_ := hI0.t0; have t1_ := hI0.t1; have ek0 : (eA g156 233 0).toInt = (gI g0 1 0).toInt := (eA_ti (j := 0) (hF158.2.1 233 (by decide))).trans hR_0.symm; have x := (eA_ti (j := i) (hF231.2.1 4 (by decide))).trans (q166 i i0 i1); have m := q238 (10 + 3 * i + 2) (by omega) (by omega); have y := eA_ti (j := (10 + 3 * i + 2)) (hF158.2.1 233 (by decide)); have k : ¬ (0 ≤ v2.toInt ∧ v2.toInt < (gI g0 1 0).toInt ∧ 0 ≤ v4.toInt ∧ v4.toInt < (gI g0 1 0).toInt ∧ v2.toInt ≠ v4.toInt) := (fun z => z.2.2.2.2 pk5.2); have k2 : ¬ (0 ≤ v2.toInt ∧ v2.toInt < (eA g156 233 0).toInt ∧ 0 ≤ v4.toInt ∧ v4.toInt < (eA g156 233 0).toInt ∧ v2.toInt ≠ v4.toInt) := (fun z => k (by rw [← ek0]; exact z)); rw [ite_an k, ite_an k] at x; rw [ite_an k2, ite_an k2, ite_an k2, ite_an k2] at m; exact x.trans ((hR_15.1 i i0 i1).2.2.trans (m.trans y).symm)) | (have t0_ := hI0.t0; have t1_ := hI0.t1; have ek0 : (eA g156 233 0).toInt = (gI g0 1 0).toInt := (eA_ti (j := 0) (hF158.2.1 233 (by decide))).trans hR_0.symm; have x := (eA_ti (j := i) (hF231.2.1 4 (by decide))).trans (q166 i i0 i1); have m := q238 (10 + 3 * i + 2) (by omega) (by omega); have y := eA_ti (j := (10 + 3 * i + 2)) (hF158.2.1 233 (by decide)); have k : ¬ (0 ≤ v2.toInt ∧ v2.toInt < (gI g0 1 0).toInt ∧ 0 ≤ v4.toInt ∧ v4.toInt < (gI g0 1 0).toInt ∧ v2.toInt ≠ v4.toInt) := (fun z => z.2.2.2.2 pk5.2); have k2 : ¬ (0 ≤ v2.toInt ∧ v2.toInt < (eA g156 233 0).toInt ∧ 0 ≤ v4.toInt ∧ v4.toInt < (eA g156 233 0).toInt ∧ v2.toInt ≠ v4.toInt) := (fun z => k (by rw [← ek0]; exact z)); rw [ite_an k, ite_an k] at x; rw [ite_an k2, ite_an k2, ite_an k2, ite_an k2] at m; exact x.trans ((hR_15.1 i i0 i1).2.2.trans (m.trans y).symm)))⟩, fun i i0 i1 => ⟨(by first | (clear f178 f179 f180 f181 f182 f183 f184 f185 f186 f187 f188 f189 f190 f191 f194 f195 f196 f205 f206 f207 f208 f209 f210 f211 f212 f213 f214 f215 f216 f217 f218 f221 f222 f223 f224 f259 f260 f261 f262 f263 f264 f265 f266 f267 f268 f269 f270 f271 f272 f275 f276 f277 f278 f286 f287 f288 f289 f290 f291 f292 f293 f294 f295 f296 f297 f298 f299 f302 f303 f304; have t0_ := hI0.t0; have t1_ := hI0.t1; have ek0 : (eA g156 233 0).toInt = (gI g0 1 0).toInt := (eA_ti (j := 0) (hF158.2.1 233 (by decide))).trans hR_0.symm; have x := eA_ti (j := i) (((hF231.2.1 14 (by decide)).trans (hF158.2.1 14 (by decide)))); have m := q238 (94 + 2 * i) (by omega) (by omega); have y := eA_ti (j := (94 + 2 * i)) (hF158.2.1 233 (by decide)); have k : ¬ (0 ≤ v2.toInt ∧ v2.toInt < (gI g0 1 0).toInt ∧ 0 ≤ v4.toInt ∧ v4.toInt < (gI g0 1 0).toInt ∧ v2.toInt ≠ v4.toInt) := (fun z => z.2.2.2.2 pk5.2); have k2 : ¬ (0 ≤ v2.toInt ∧ v2.toInt < (eA g156 233 0).toInt ∧ 0 ≤ v4.toInt ∧ v4.toInt < (eA g156 233 0).toInt ∧ v2.toInt ≠ v4.toInt) := (fun z => k (by rw [← ek0]; exact z)); rw [ite_an k2, ite_an k2, ite_an k2, ite_an k2] at m; exact x.trans ((hR_15.2.1 i i0 i1).1.trans (m.trans y).symm)) | (have t0_ := hI0.t0; have t1_ := hI0.t1; have ek0 : (eA g156 233 0).toInt = (gI g0 1 0).toInt := (eA_ti (j := 0) (hF158.2.1 233 (by decide))).trans hR_0.symm; have x := eA_ti (j := i) (((hF231.2.1 14 (by decide)).trans (hF158.2.1 14 (by decide)))); have m := q238 (94 + 2 * i) (by omega) (by omega); have y := eA_ti (j := (94 + 2 * i)) (hF158.2.1 233 (by decide)); have k : ¬ (0 ≤ v2.toInt ∧ v2.toInt < (gI g0 1 0).toInt ∧ 0 ≤ v4.toInt ∧ v4.toInt < (gI g0 1 0).toInt ∧ v2.toInt ≠ v4.toInt) := (fun z => z.2.2.2.2 pk5.2); have k2 : ¬ (0 ≤ v2.toInt ∧ v2.toInt < (eA g156 233 0).toInt ∧ 0 ≤ v4.toInt ∧ v4.toInt < (eA g156 233 0).toInt ∧ v2.toInt ≠ v4.toInt) := (fun z => k (by rw [← ek0]; exact z)); rw [ite_an k2, ite_an k2, ite_an k2, ite_an k2] at m; exact x.trans ((hR_15.2.1 i i0 i1).1.trans (m.trans y).symm))), (by first | (clear f178 f179 f180 f181 f182 f183 f184 f185 f186 f187 f188 f189 f190 f191 f194 f195 f196 f205 f206 f207 f208 f209 f210 f211 f212 f213 f214 f215 f216 f217 f218 f221 f222 f223 f224 f259 f260 f261 f262 f263 f264 f265 f266 f267 f268 f269 f270 f271 f272 f275 f276 f277 f278 f286 f287 f288 f289 f290 f291 f292 f293 f294 f295 f296 f297 f298 f299 f302 f303 f304; have t0_ := hI0.t0; have t1_ := hI0.t1; have ek0 : (eA g156 233 0).toInt = (gI g0 1 0).toInt := (eA_ti (j := 0) (hF158.2.1 233 (by decide))).trans hR_0.symm; have x := eA_ti (j := i) (((hF231.2.1 15 (by decide)).trans (hF158.2.1 15 (by decide)))); have m := q238 (94 + 2 * i + 1) (by omega) (by omega); have y := eA_ti (j := (94 + 2 * i + 1)) (hF158.2.1 233 (by decide)); have k : ¬ (0 ≤ v2.toInt ∧ v2.toInt < (gI g0 1 0).toInt ∧ 0 ≤ v4.toInt ∧ v4.toInt < (gI g0 1 0).toInt ∧ v2.toInt ≠ v4.toInt) := (fun z => z.2.2.2.2 pk5.2); have k2 : ¬ (0 ≤ v2.toInt ∧ v2.toInt < (eA g156 233 0).toInt ∧ 0 ≤ v4.toInt ∧ v4.toInt < (eA g156 233 0).toInt ∧ v2.toInt ≠ v4.toInt) := (fun z => k (by rw [← ek0]; exact z)); rw [ite_an k2, ite_an k2, ite_an k2, ite_an k2] at m; exact x.trans ((hR_15.2.1 i i0 i1).2.trans (m.trans y).symm)) | (have t0_ := hI0.t0; have t1_ := hI0.t1; have ek0 : (eA g156 233 0).toInt = (gI g0 1 0).toInt := (eA_ti (j := 0) (hF158.2.1 233 (by decide))).trans hR_0.symm; have x := eA_ti (j := i) (((hF231.2.1 15 (by decide)).trans (hF158.2.1 15 (by decide)))); have m := q238 (94 + 2 * i + 1) (by omega) (by omega); have y := eA_ti (j := (94 + 2 * i + 1)) (hF158.2.1 233 (by decide)); have k : ¬ (0 ≤ v2.toInt ∧ v2.toInt < (gI g0 1 0).toInt ∧ 0 ≤ v4.toInt ∧ v4.toInt < (gI g0 1 0).toInt ∧ v2.toInt ≠ v4.toInt) := (fun z => z.2.2.2.2 pk5.2); have k2 : ¬ (0 ≤ v2.toInt ∧ v2.toInt < (eA g156 233 0).toInt ∧ 0 ≤ v4.toInt ∧ v4.toInt < (eA g156 233 0).toInt ∧ v2.toInt ≠ v4.toInt) := (fun z => k (by rw [← ek0]; exact z)); rw [ite_an k2, ite_an k2, ite_an k2, ite_an k2] at m; exact x.trans ((hR_15.2.1 i i0 i1).2.trans (m.trans y).symm)))⟩, fun i i0 i1 => (by first | (clear f178 f179 f180 f181 f182 f183 f184 f185 f186 f187 f188 f189 f190 f191 f194 f195 f196 f205 f206 f207 f208 f209 f210 f211 f212 f213 f214 f215 f216 f217 f218 f221 f222 f223 f224 f259 f260 f261 f262 f263 f264 f265 f266 f267 f268 f269 f270 f271 f272 f275 f276 f277 f278 f286 f287 f288 f289 f290 f291 f292 f293 f294 f295 f296 f297 f298 f299 f302 f303 f304; have t0_ := hI0.t0; have t1_ := hI0.t1; have ek0 : (eA g156 233 0).toInt = (gI g0 1 0).toInt := (eA_ti (j := 0) (hF158.2.1 233 (by decide))).trans hR_0.symm; have x := eA_ti (j := i) (((hF231.2.1 5 (by decide)).trans (hF158.2.1 5 (by decide)))); have m := q238 (46 + i) (by omega) (by omega); have y := eA_ti (j := (46 + i)) (hF158.2.1 233 (by decide)); have k : ¬ (0 ≤ v2.toInt ∧ v2.toInt < (gI g0 1 0).toInt ∧ 0 ≤ v4.toInt ∧ v4.toInt < (gI g0 1 0).toInt ∧ v2.toInt ≠ v4.toInt) := (fun z => z.2.2.2.2 pk5.2); have k2 : ¬ (0 ≤ v2.toInt ∧ v2.toInt < (eA g156 233 0).toInt ∧ 0 ≤ v4.toInt ∧ v4.toInt < (eA g156 233 0).toInt ∧ v2.toInt ≠ v4.toInt) := (fun z => k (by rw [← ek0]; exact z)); rw [ite_an k2, ite_an k2, ite_an k2, ite_an k2] at m; exact x.trans ((hR_15.2.2 i i0 (by omega)).trans (m.trans y).symm)) | (have t0_ := hI0.t0; have t1_ := hI0.t1; have ek0 : (eA g156 233 0).toInt = (gI g0 1 0).toInt := (eA_ti (j := 0) (hF158.2.1 233 (by decide))).trans hR_0.symm; have x := eA_ti (j := i) (((hF231.2.1 5 (by decide)).trans (hF158.2.1 5 (by decide)))); have m := q238 (46 + i) (by omega) (by omega); have y := eA_ti (j := (46 + i)) (hF158.2.1 233 (by decide)); have k : ¬ (0 ≤ v2.toInt ∧ v2.toInt < (gI g0 1 0).toInt ∧ 0 ≤ v4.toInt ∧ v4.toInt < (gI g0 1 0).toInt ∧ v2.toInt ≠ v4.toInt) := (fun z => z.2.2.2.2 pk5.2); have k2 : ¬ (0 ≤ v2.toInt ∧ v2.toInt < (eA g156 233 0).toInt ∧ 0 ≤ v4.toInt ∧ v4.toInt < (eA g156 233 0).toInt ∧ v2.toInt ≠ v4.toInt) := (fun z => k (by rw [← ek0]; exact z)); rw [ite_an k2, ite_an k2, ite_an k2, ite_an k2] at m; exact x.trans ((hR_15.2.2 i i0 (by omega)).trans (m.trans y).symm)))⟩), CI0.cong hR_16 (((hF231.2.1 60 (by decide)).trans (hF158.2.1 60 (by decide)))) (((hF231.2.1 61 (by decide)).trans (hF158.2.1 61 (by decide)))) (((hF231.2.1 62 (by decide)).trans (hF158.2.1 62 (by decide)))) (((hF231.2.1 72 (by decide)).trans (hF158.2.1 72 (by decide)))) (((hF231.2.1 73 (by decide)).trans (hF158.2.1 73 (by decide)))) (((hF231.2.1 63 (by decide)).trans (hF158.2.1 63 (by decide)))) (((hF231.2.1 234 (by decide)).trans (hF158.2.1 234 (by decide)))) (congrArg Int32.toInt (((hF231.1 59 4 (by decide)).trans (hF158.1 59 4 (by decide))))), CI1.cong hR_17 (((hF231.2.1 117 (by decide)).trans (hF158.2.1 117 (by decide)))) (((hF231.2.1 118 (by decide)).trans (hF158.2.1 118 (by decide)))) (((hF231.2.1 119 (by decide)).trans (hF158.2.1 119 (by decide)))) (((hF231.2.1 129 (by decide)).trans (hF158.2.1 129 (by decide)))) (((hF231.2.1 130 (by decide)).trans (hF158.2.1 130 (by decide)))) (((hF231.2.1 120 (by decide)).trans (hF158.2.1 120 (by decide)))) (((hF231.2.1 234 (by decide)).trans (hF158.2.1 234 (by decide)))) (congrArg Int32.toInt (((hF231.1 116 4 (by decide)).trans (hF158.1 116 4 (by decide))))), (show RT _ from fun i i0 i1 => (eA_ti (((hF231.2.1 175 (by decide)).trans (hF158.2.1 175 (by decide))))).trans ((hR_18 i i0 (by omega)).trans (eA_ti (((hF231.2.1 236 (by decide)).trans (hF158.2.1 236 (by decide))))).symm)), (show BYX _ from fun i i0 i1 => by rw [TX.c (((hF231.2.1 175 (by decide)).trans (hF158.2.1 175 (by decide))))]; exact hR_19 i i0 (by have i2 : i < (gI _ 174 1).toInt := i1; show i < (gI g0 174 1).toInt; omega))⟩)
  · refine r_callV 887 rfl [.ref 0, .int v2, .int v4] [] (Nat.le_of_ble_eq_true rfl) rfl (T_X10_swap_0 _ hI0 v2 v4) ?_
    rintro _ _ ⟨g306, rfl, hI307, hF308, v309, rfl, hr310⟩
    refine At.sti ?_
    have hF311 := Fr.tr hF0 hF308 rfl rfl
    have su312 := hr310.2.2
    obtain ⟨q313, q314, q315, q316⟩ := (And.intro hr310.1 hr310.2.1)
    obtain ⟨i318, i319, i320⟩ := q314
    have w317 := i320 ⟨pk5.1, pk5.2⟩
    clear i318 i319 i320
    have f321 := congrArg Int32.toInt (hF308.1 1 0 rfl)
    have f322 := congrArg Int32.toInt (hF308.1 1 12 rfl)
    have f323 := congrArg Int32.toInt (hF308.1 1 10 rfl)
    have f324 := congrArg Int32.toInt (hF308.1 1 11 rfl)
    have f325 := congrArg Int32.toInt (hF308.1 1 4 rfl)
    have f326 := congrArg Int32.toInt (hF308.1 1 6 rfl)
    have f327 := congrArg Int32.toInt (hF308.1 1 9 rfl)
    have f328 := congrArg Int32.toInt (hF308.1 59 0 rfl)
    have f329 := congrArg Int32.toInt (hF308.1 59 12 rfl)
    have f330 := congrArg Int32.toInt (hF308.1 59 10 rfl)
    have f331 := congrArg Int32.toInt (hF308.1 59 11 rfl)
    have f332 := congrArg Int32.toInt (hF308.1 59 4 rfl)
    have f333 := congrArg Int32.toInt (hF308.1 59 6 rfl)
    have f334 := congrArg Int32.toInt (hF308.1 59 9 rfl)
    have f335 := congrArg Int32.toInt (hF308.1 116 0 rfl)
    have f336 := congrArg Int32.toInt (hF308.1 116 12 rfl)
    have f337 := congrArg Int32.toInt (hF308.1 116 10 rfl)
    have f338 := congrArg Int32.toInt (hF308.1 116 11 rfl)
    have f339 := congrArg Int32.toInt (hF308.1 116 4 rfl)
    have f340 := congrArg Int32.toInt (hF308.1 116 6 rfl)
    have f341 := congrArg Int32.toInt (hF308.1 116 9 rfl)
    have f342 := congrArg Int32.toInt (eA_c (j := 0) (hF308.2.1 173 rfl))
    have f343 := congrArg Int32.toInt (eA_c (j := 1) (hF308.2.1 173 rfl))
    have f344 := congrArg Int32.toInt (hF308.1 174 1 rfl)
    have f345 := congrArg Int32.toInt (hF308.1 0 16 rfl)
    have f346 := congrArg Int32.toInt (hF308.1 176 2 rfl)
    have f348 := congrArg Int32.toInt (eA_c (j := 0) (hF308.2.1 233 rfl))
    have f349 := congrArg Int32.toInt (eA_c (j := 4) (hF308.2.1 233 rfl))
    have f350 := congrArg Int32.toInt (eA_c (j := 5) (hF308.2.1 233 rfl))
    have f351 := congrArg Int32.toInt (eA_c (j := 6) (hF308.2.1 233 rfl))
    have f352 := congrArg Int32.toInt (eA_c (j := 1) (hF308.2.1 233 rfl))
    have f353 := congrArg Int32.toInt (eA_c (j := 2) (hF308.2.1 233 rfl))
    have f354 := congrArg Int32.toInt (eA_c (j := 3) (hF308.2.1 233 rfl))
    have f355 := congrArg Int32.toInt (eA_c (j := 0) (hF308.2.1 234 rfl))
    have f356 := congrArg Int32.toInt (eA_c (j := 4) (hF308.2.1 234 rfl))
    have f357 := congrArg Int32.toInt (eA_c (j := 5) (hF308.2.1 234 rfl))
    have f358 := congrArg Int32.toInt (eA_c (j := 6) (hF308.2.1 234 rfl))
    have f359 := congrArg Int32.toInt (eA_c (j := 1) (hF308.2.1 234 rfl))
    have f360 := congrArg Int32.toInt (eA_c (j := 2) (hF308.2.1 234 rfl))
    have f361 := congrArg Int32.toInt (eA_c (j := 3) (hF308.2.1 234 rfl))
    have f362 := congrArg Int32.toInt (eA_c (j := 5510) (hF308.2.1 234 rfl))
    have f363 := congrArg Int32.toInt (eA_c (j := 5514) (hF308.2.1 234 rfl))
    have f364 := congrArg Int32.toInt (eA_c (j := 5515) (hF308.2.1 234 rfl))
    have f365 := congrArg Int32.toInt (eA_c (j := 5516) (hF308.2.1 234 rfl))
    have f366 := congrArg Int32.toInt (eA_c (j := 5511) (hF308.2.1 234 rfl))
    have f367 := congrArg Int32.toInt (eA_c (j := 5512) (hF308.2.1 234 rfl))
    have f368 := congrArg Int32.toInt (eA_c (j := 5513) (hF308.2.1 234 rfl))
    have f369 := congrArg Int32.toInt (eA_c (j := 0) (hF308.2.1 235 rfl))
    have f370 := congrArg Int32.toInt (eA_c (j := 1) (hF308.2.1 235 rfl))
    have f371 := congrArg Int32.toInt (hF308.1 231 8 rfl)
    have f372 := congrArg Int32.toInt (hF308.1 231 6 rfl)
    have f373 := congrArg Int32.toInt (hF308.1 231 13 rfl)
    have f374 := congrArg Int32.toInt (hF308.1 231 1 rfl)
    refine At.enter rfl ?_
    refine r_pop rfl ?_
    refine r_aload_n e2 ?_
    refine r_sload_n e0 ?_
    refine r_iload_n e3 ?_
    refine r_iconst 1 rfl ?_
    refine q_iadd (i.toInt + 1) rfl hx_1 (fun v375 hv375 => ?_)
    refine q_scald (m := L) hL (i.toInt + 1) hv375 hy_1 (fun v376 hv376 => ?_)
    have sv376 := hv2.symm.trans hv376
    subst sv376
    refine r_sload_n e0 ?_
    refine r_iload_n e3 ?_
    refine r_iconst 2 rfl ?_
    refine q_iadd (i.toInt + 2) rfl hx_2 (fun v377 hv377 => ?_)
    refine q_scald (m := L) hL (i.toInt + 2) hv377 hy_2 (fun v378 hv378 => ?_)
    have sv378 := hv4.symm.trans hv378
    subst sv378
    refine r_callV 902 rfl [.ref 231, .int v2, .int v4] [] (Nat.le_of_ble_eq_true rfl) rfl (T_X11_swap_231 _ hI307 v2 v4) ?_
    rintro _ _ ⟨g379, rfl, hI380, hF381, v382, rfl, hr383⟩
    refine At.sti ?_
    have hF384 := Fr.tr hF311 hF381 rfl rfl
    have su385 := hr383.2.2
    obtain ⟨q386, q387, q388⟩ := (And.intro hr383.1 hr383.2.1)
    have ek400 : (eA g306 233 0).toInt = (gI g0 1 0).toInt := (eA_ti (j := 0) (hF308.2.1 233 (by decide))).trans hR_0.symm
    have ek401 : (eA g306 233 1).toInt = (gI g0 1 4).toInt := (eA_ti (j := 1) (hF308.2.1 233 (by decide))).trans hR_4.symm
    obtain ⟨⟨i390, i391, i392⟩, sm393, sm394, sm395, sm396, sm397, sm398, sm399⟩ := q387
    have w389 := i392 ⟨(by rw [ek400]; exact pk5.1), pk5.2⟩
    clear i390 i391 i392
    have f402 := congrArg Int32.toInt (hF381.1 1 0 rfl)
    have f403 := congrArg Int32.toInt (hF381.1 1 12 rfl)
    have f404 := congrArg Int32.toInt (hF381.1 1 10 rfl)
    have f405 := congrArg Int32.toInt (hF381.1 1 11 rfl)
    have f406 := congrArg Int32.toInt (hF381.1 1 4 rfl)
    have f407 := congrArg Int32.toInt (hF381.1 1 6 rfl)
    have f408 := congrArg Int32.toInt (hF381.1 1 9 rfl)
    have f409 := congrArg Int32.toInt (hF381.1 59 0 rfl)
    have f410 := congrArg Int32.toInt (hF381.1 59 12 rfl)
    have f411 := congrArg Int32.toInt (hF381.1 59 10 rfl)
    have f412 := congrArg Int32.toInt (hF381.1 59 11 rfl)
    have f413 := congrArg Int32.toInt (hF381.1 59 4 rfl)
    have f414 := congrArg Int32.toInt (hF381.1 59 6 rfl)
    have f415 := congrArg Int32.toInt (hF381.1 59 9 rfl)
    have f416 := congrArg Int32.toInt (hF381.1 116 0 rfl)
    have f417 := congrArg Int32.toInt (hF381.1 116 12 rfl)
    have f418 := congrArg Int32.toInt (hF381.1 116 10 rfl)
    have f419 := congrArg Int32.toInt (hF381.1 116 11 rfl)
    have f420 := congrArg Int32.toInt (hF381.1 116 4 rfl)
    have f421 := congrArg Int32.toInt (hF381.1 116 6 rfl)
    have f422 := congrArg Int32.toInt (hF381.1 116 9 rfl)
    have f423 := congrArg Int32.toInt (eA_c (j := 0) (hF381.2.1 173 rfl))
    have f424 := congrArg Int32.toInt (eA_c (j := 1) (hF381.2.1 173 rfl))
    have f425 := congrArg Int32.toInt (hF381.1 174 1 rfl)
    have f426 := congrArg Int32.toInt (hF381.1 0 16 rfl)
    have f427 := congrArg Int32.toInt (hF381.1 176 2 rfl)
    have f428 := congrArg Int32.toInt (hF381.1 0 17 rfl)
    have f436 := congrArg Int32.toInt (eA_c (j := 0) (hF381.2.1 234 rfl))
    have f437 := congrArg Int32.toInt (eA_c (j := 4) (hF381.2.1 234 rfl))
    have f438 := congrArg Int32.toInt (eA_c (j := 5) (hF381.2.1 234 rfl))
    have f439 := congrArg Int32.toInt (eA_c (j := 6) (hF381.2.1 234 rfl))
    have f440 := congrArg Int32.toInt (eA_c (j := 1) (hF381.2.1 234 rfl))
    have f441 := congrArg Int32.toInt (eA_c (j := 2) (hF381.2.1 234 rfl))
    have f442 := congrArg Int32.toInt (eA_c (j := 3) (hF381.2.1 234 rfl))
    have f443 := congrArg Int32.toInt (eA_c (j := 5510) (hF381.2.1 234 rfl))
    have f444 := congrArg Int32.toInt (eA_c (j := 5514) (hF381.2.1 234 rfl))
    have f445 := congrArg Int32.toInt (eA_c (j := 5515) (hF381.2.1 234 rfl))
    have f446 := congrArg Int32.toInt (eA_c (j := 5516) (hF381.2.1 234 rfl))
    have f447 := congrArg Int32.toInt (eA_c (j := 5511) (hF381.2.1 234 rfl))
    have f448 := congrArg Int32.toInt (eA_c (j := 5512) (hF381.2.1 234 rfl))
    have f449 := congrArg Int32.toInt (eA_c (j := 5513) (hF381.2.1 234 rfl))
    have f450 := congrArg Int32.toInt (eA_c (j := 0) (hF381.2.1 235 rfl))
    have f451 := congrArg Int32.toInt (eA_c (j := 1) (hF381.2.1 235 rfl))
    have f452 := congrArg Int32.toInt (hF381.1 231 8 rfl)
    have f453 := congrArg Int32.toInt (hF381.1 231 6 rfl)
    have f454 := congrArg Int32.toInt (hF381.1 231 13 rfl)
    refine At.enter rfl ?_
    refine r_pop rfl ?_
    refine r_goto ?_
    have zr : v309.toInt = v382.toInt := by
      apply Decidable.byContradiction
      intro hne
      exfalso
      omega
    have zsu := SU.eq su312 su385 zr
    exact K _ hI380 (show LwR _ from ⟨by first | (clear f322 f323 f324 f325 f326 f327 f328 f329 f330 f331 f332 f333 f334 f335 f336 f337 f338 f339 f340 f341 f342 f343 f344 f345 f346 f349 f350 f351 f352 f353 f354 f355 f356 f357 f358 f359 f360 f361 f362 f363 f364 f365 f366 f367 f368 f369 f370 f371 f372 f373 f374 f403 f404 f405 f406 f407 f408 f409 f410 f411 f412 f413 f414 f415 f416 f417 f418 f419 f420 f421 f422 f423 f424 f425 f426 f427 f428 f436 f437 f438 f439 f440 f441 f442 f443 f444 f445 f446 f447 f448 f449 f450 f451 f452 f453 f454; omega) | omega, by first | (clear f321 f323 f324 f325 f326 f327 f328 f329 f330 f331 f332 f333 f334 f335 f336 f337 f338 f339 f340 f341 f342 f343 f344 f345 f346 f348 f350 f351 f352 f353 f354 f355 f356 f357 f358 f359 f360 f361 f362 f363 f364 f365 f366 f367 f368 f369 f370 f371 f372 f373 f374 f402 f404 f405 f406 f407 f408 f409 f410 f411 f412 f413 f414 f415 f416 f417 f418 f419 f420 f421 f422 f423 f424 f425 f426 f427 f428 f436 f437 f438 f439 f440 f441 f442 f443 f444 f445 f446 f447 f448 f449 f450 f451 f452 f453 f454; omega) | omega, by first | (clear f321 f322 f324 f325 f326 f327 f328 f329 f330 f331 f332 f333 f334 f335 f336 f337 f338 f339 f340 f341 f342 f343 f344 f345 f346 f348 f349 f351 f352 f353 f354 f355 f356 f357 f358 f359 f360 f361 f362 f363 f364 f365 f366 f367 f368 f369 f370 f371 f372 f373 f374 f402 f403 f405 f406 f407 f408 f409 f410 f411 f412 f413 f414 f415 f416 f417 f418 f419 f420 f421 f422 f423 f424 f425 f426 f427 f428 f436 f437 f438 f439 f440 f441 f442 f443 f444 f445 f446 f447 f448 f449 f450 f451 f452 f453 f454; omega) | omega, by first | (clear f321 f322 f323 f325 f326 f327 f328 f329 f330 f331 f332 f333 f334 f335 f336 f337 f338 f339 f340 f341 f342 f343 f344 f345 f346 f348 f349 f350 f352 f353 f354 f355 f356 f357 f358 f359 f360 f361 f362 f363 f364 f365 f366 f367 f368 f369 f370 f371 f372 f373 f374 f402 f403 f404 f406 f407 f408 f409 f410 f411 f412 f413 f414 f415 f416 f417 f418 f419 f420 f421 f422 f423 f424 f425 f426 f427 f428 f436 f437 f438 f439 f440 f441 f442 f443 f444 f445 f446 f447 f448 f449 f450 f451 f452 f453 f454; omega) | omega, by first | (clear f321 f322 f323 f324 f326 f327 f328 f329 f330 f331 f332 f333 f334 f335 f336 f337 f338 f339 f340 f341 f342 f343 f344 f345 f346 f348 f349 f350 f351 f353 f354 f355 f356 f357 f358 f359 f360 f361 f362 f363 f364 f365 f366 f367 f368 f369 f370 f371 f372 f373 f374 f402 f403 f404 f405 f407 f408 f409 f410 f411 f412 f413 f414 f415 f416 f417 f418 f419 f420 f421 f422 f423 f424 f425 f426 f427 f428 f436 f437 f438 f439 f440 f441 f442 f443 f444 f445 f446 f447 f448 f449 f450 f451 f452 f453 f454; omega) | omega, by first | (clear f321 f322 f323 f324 f325 f327 f328 f329 f330 f331 f332 f333 f334 f335 f336 f337 f338 f339 f340 f341 f342 f343 f344 f345 f346 f348 f349 f350 f351 f352 f354 f355 f356 f357 f358 f359 f360 f361 f362 f363 f364 f365 f366 f367 f368 f369 f370 f371 f372 f373 f374 f402 f403 f404 f405 f406 f408 f409 f410 f411 f412 f413 f414 f415 f416 f417 f418 f419 f420 f421 f422 f423 f424 f425 f426 f427 f428 f436 f437 f438 f439 f440 f441 f442 f443 f444 f445 f446 f447 f448 f449 f450 f451 f452 f453 f454; omega) | omega, by first | (clear f321 f322 f323 f324 f325 f326 f328 f329 f330 f331 f332 f333 f334 f335 f336 f337 f338 f339 f340 f341 f342 f343 f344 f345 f346 f348 f349 f350 f351 f352 f353 f355 f356 f357 f358 f359 f360 f361 f362 f363 f364 f365 f366 f367 f368 f369 f370 f371 f372 f373 f374 f402 f403 f404 f405 f406 f407 f409 f410 f411 f412 f413 f414 f415 f416 f417 f418 f419 f420 f421 f422 f423 f424 f425 f426 f427 f428 f436 f437 f438 f439 f440 f441 f442 f443 f444 f445 f446 f447 f448 f449 f450 f451 f452 f453 f454; omega) | omega, (eA_ti (j := 0) (((hF381.2.1 173 (by decide)).trans (hF308.2.1 173 (by decide))))).trans (hR_7.trans (eA_ti (j := 0) (((hF381.2.1 235 (by decide)).trans (hF308.2.1 235 (by decide))))).symm), (eA_ti (j := 1) (((hF381.2.1 173 (by decide)).trans (hF308.2.1 173 (by decide))))).trans (hR_8.trans (eA_ti (j := 1) (((hF381.2.1 235 (by decide)).trans (hF308.2.1 235 (by decide))))).symm), (congrArg Int32.toInt (((hF381.1 174 1 (by decide)).trans (hF308.1 174 1 (by decide))))).trans (hR_9.trans (congrArg Int32.toInt (((hF381.1 231 8 (by decide)).trans (hF308.1 231 8 (by decide))))).symm), (congrArg Int32.toInt (((hF381.1 0 16 (by decide)).trans (hF308.1 0 16 (by decide))))).trans (hR_10.trans (congrArg Int32.toInt (((hF381.1 231 6 (by decide)).trans (hF308.1 231 6 (by decide))))).symm), (congrArg Int32.toInt (((hF381.1 176 2 (by decide)).trans (hF308.1 176 2 (by decide))))).trans (hR_11.trans (congrArg Int32.toInt (((hF381.1 231 13 (by decide)).trans (hF308.1 231 13 (by decide))))).symm), by first | (clear f321 f322 f323 f324 f325 f326 f327 f328 f329 f330 f331 f332 f333 f334 f335 f336 f337 f338 f339 f340 f341 f342 f343 f344 f345 f346 f348 f349 f350 f351 f352 f353 f354 f355 f356 f357 f358 f359 f360 f361 f362 f363 f364 f365 f366 f367 f368 f369 f370 f371 f372 f373 f402 f403 f404 f405 f406 f407 f408 f409 f410 f411 f412 f413 f414 f415 f416 f417 f418 f419 f420 f421 f422 f423 f424 f425 f426 f427 f436 f437 f438 f439 f440 f441 f442 f443 f444 f445 f446 f447 f448 f449 f450 f451 f452 f453 f454; omega) | omega, IM0.cong hR_13 (eA_ti (j := 0) (((hF381.2.1 173 (by decide)).trans (hF308.2.1 173 (by decide))))) (congrArg Int32.toInt (((hF381.1 59 0 (by decide)).trans (hF308.1 59 0 (by decide))))) (eA_ti (j := 0) (((hF381.2.1 234 (by decide)).trans (hF308.2.1 234 (by decide))))) (congrArg Int32.toInt (((hF381.1 59 12 (by decide)).trans (hF308.1 59 12 (by decide))))) (eA_ti (j := 4) (((hF381.2.1 234 (by decide)).trans (hF308.2.1 234 (by decide))))) (congrArg Int32.toInt (((hF381.1 59 10 (by decide)).trans (hF308.1 59 10 (by decide))))) (eA_ti (j := 5) (((hF381.2.1 234 (by decide)).trans (hF308.2.1 234 (by decide))))) (congrArg Int32.toInt (((hF381.1 59 11 (by decide)).trans (hF308.1 59 11 (by decide))))) (eA_ti (j := 6) (((hF381.2.1 234 (by decide)).trans (hF308.2.1 234 (by decide))))) (congrArg Int32.toInt (((hF381.1 59 4 (by decide)).trans (hF308.1 59 4 (by decide))))) (eA_ti (j := 1) (((hF381.2.1 234 (by decide)).trans (hF308.2.1 234 (by decide))))) (congrArg Int32.toInt (((hF381.1 59 6 (by decide)).trans (hF308.1 59 6 (by decide))))) (eA_ti (j := 2) (((hF381.2.1 234 (by decide)).trans (hF308.2.1 234 (by decide))))) (congrArg Int32.toInt (((hF381.1 59 9 (by decide)).trans (hF308.1 59 9 (by decide))))) (eA_ti (j := 3) (((hF381.2.1 234 (by decide)).trans (hF308.2.1 234 (by decide))))), IM1.cong hR_14 (eA_ti (j := 1) (((hF381.2.1 173 (by decide)).trans (hF308.2.1 173 (by decide))))) (congrArg Int32.toInt (((hF381.1 116 0 (by decide)).trans (hF308.1 116 0 (by decide))))) (eA_ti (j := 5510) (((hF381.2.1 234 (by decide)).trans (hF308.2.1 234 (by decide))))) (congrArg Int32.toInt (((hF381.1 116 12 (by decide)).trans (hF308.1 116 12 (by decide))))) (eA_ti (j := 5514) (((hF381.2.1 234 (by decide)).trans (hF308.2.1 234 (by decide))))) (congrArg Int32.toInt (((hF381.1 116 10 (by decide)).trans (hF308.1 116 10 (by decide))))) (eA_ti (j := 5515) (((hF381.2.1 234 (by decide)).trans (hF308.2.1 234 (by decide))))) (congrArg Int32.toInt (((hF381.1 116 11 (by decide)).trans (hF308.1 116 11 (by decide))))) (eA_ti (j := 5516) (((hF381.2.1 234 (by decide)).trans (hF308.2.1 234 (by decide))))) (congrArg Int32.toInt (((hF381.1 116 4 (by decide)).trans (hF308.1 116 4 (by decide))))) (eA_ti (j := 5511) (((hF381.2.1 234 (by decide)).trans (hF308.2.1 234 (by decide))))) (congrArg Int32.toInt (((hF381.1 116 6 (by decide)).trans (hF308.1 116 6 (by decide))))) (eA_ti (j := 5512) (((hF381.2.1 234 (by decide)).trans (hF308.2.1 234 (by decide))))) (congrArg Int32.toInt (((hF381.1 116 9 (by decide)).trans (hF308.1 116 9 (by decide))))) (eA_ti (j := 5513) (((hF381.2.1 234 (by decide)).trans (hF308.2.1 234 (by decide))))), (show CT _ from ⟨fun i i0 i1 => ⟨(by first | (clear f328 f329 f330 f331 f332 f333 f334 f335 f336 f337 f338 f339 f340 f341 f344 f345 f346 f355 f356 f357 f358 f359 f360 f361 f362 f363 f364 f365 f366 f367 f368 f371 f372 f373 f374 f409 f410 f411 f412 f413 f414 f415 f416 f417 f418 f419 f420 f421 f422 f425 f426 f427 f428 f436 f437 f438 f439 f440 f441 f442 f443 f444 f445 f446 f447 f448 f449 f452 f453 f454; have t0_ := hI0.t0; have t1_ := hI0.t1; have ek0 : (eA g306 233 0).toInt = (gI g0 1 0).toInt := (eA_ti (j := 0) (hF308.2.1 233 (by decide))).trans hR_0.symm; have x := eA_ti (j := i) (((hF381.2.1 2 (by decide)).trans (hF308.2.1 2 (by decide)))); have m := q388 (10 + 3 * i) (by omega) (by omega); have y := eA_ti (j := (10 + 3 * i)) (hF308.2.1 233 (by decide)); have k : 0 ≤ v2.toInt ∧ v2.toInt < (gI g0 1 0).toInt ∧ 0 ≤ v4.toInt ∧ v4.toInt < (gI g0 1 0).toInt ∧ v2.toInt ≠ v4.toInt := ⟨pk5.1.1, pk5.1.2.1, pk5.1.2.2.1, pk5.1.2.2.2, pk5.2⟩; have k2 : 0 ≤ v2.toInt ∧ v2.toInt < (eA g306 233 0).toInt ∧ 0 ≤ v4.toInt ∧ v4.toInt < (eA g306 233 0).toInt ∧ v2.toInt ≠ v4.toInt := (by rw [ek0]; exact k); rw [ite_ap k2, ite_ap k2, ite_ap k2, ite_ap k2] at m; exact x.trans ((hR_15.1 i i0 i1).1.trans ((m.trans (if4n (by omega) (by omega) (by omega) (by omega))).trans y).symm)) | (have t0_ := hI0.t0; have t1_ := hI0.t1; have ek0 : (eA g306 233 0).toInt = (gI g0 1 0).toInt := (eA_ti (j := 0) (hF308.2.1 233 (by decide))).trans hR_0.symm; have x := eA_ti (j := i) (((hF381.2.1 2 (by decide)).trans (hF308.2.1 2 (by decide)))); have m := q388 (10 + 3 * i) (by omega) (by omega); have y := eA_ti (j := (10 + 3 * i)) (hF308.2.1 233 (by decide)); have k : 0 ≤ v2.toInt ∧ v2.toInt < (gI g0 1 0).toInt ∧ 0 ≤ v4.toInt ∧ v4.toInt < (gI g0 1 0).toInt ∧ v2.toInt ≠ v4.toInt := ⟨pk5.1.1, pk5.1.2.1, pk5.1.2.2.1, pk5.1.2.2.2, pk5.2⟩; have k2 : 0 ≤ v2.toInt ∧ v2.toInt < (eA g306 233 0).toInt ∧ 0 ≤ v4.toInt ∧ v4.toInt < (eA g306 233 0).toInt ∧ v2.toInt ≠ v4.toInt := (by rw [ek0]; exact k); rw [ite_ap k2, ite_ap k2, ite_ap k2, ite_ap k2] at m; exact x.trans ((hR_15.1 i i0 i1).1.trans ((m.trans (if4n (by omega) (by omega) (by omega) (by omega))).trans y).symm))), (by first | (clear f328 f329 f330 f331 f332 f333 f334 f335 f336 f337 f338 f339 f340 f341 f344 f345 f346 f355 f356 f357 f358 f359 f360 f361 f362 f363 f364 f365 f366 f367 f368 f371 f372 f373 f374 f409 f410 f411 f412 f413 f414 f415 f416 f417 f418 f419 f420 f421 f422 f425 f426 f427 f428 f436 f437 f438 f439 f440 f441 f442 f443 f444 f445 f446 f447 f448 f449 f452 f453 f454; have t0_ := hI0.t0; have t1_ := hI0.t1; have ek0 : (eA g306 233 0).toInt = (gI g0 1 0).toInt := (eA_ti (j := 0) (hF308.2.1 233 (by decide))).trans hR_0.symm; have x := (eA_ti (j := i) (hF381.2.1 3 (by decide))).trans (q315 i i0 i1); have m := q388 (10 + 3 * i + 1) (by omega) (by omega); have y := eA_ti (j := (10 + 3 * i + 1)) (hF308.2.1 233 (by decide)); have k : 0 ≤ v2.toInt ∧ v2.toInt < (gI g0 1 0).toInt ∧ 0 ≤ v4.toInt ∧ v4.toInt < (gI g0 1 0).toInt ∧ v2.toInt ≠ v4.toInt := ⟨pk5.1.1, pk5.1.2.1, pk5.1.2.2.1, pk5.1.2.2.2, pk5.2⟩; have k2 : 0 ≤ v2.toInt ∧ v2.toInt < (eA g306 233 0).toInt ∧ 0 ≤ v4.toInt ∧ v4.toInt < (eA g306 233 0).toInt ∧ v2.toInt ≠ v4.toInt := (by rw [ek0]; exact k); rw [ite_ap k2, ite_ap k2, ite_ap k2, ite_ap k2] at m; rw [ite_ap k, ite_ap k] at x; exact x.trans ((swp1 (S := fun j => (eA g0 3 j).toInt) (M := fun j => (eA g306 233 j).toInt) (fun j j0 j1 => (hR_15.1 j j0 j1).2.1.trans (eA_ti (hF308.2.1 233 (by decide))).symm) ⟨by omega, by omega⟩ ⟨by omega, by omega⟩ ⟨i0, i1⟩).trans m.symm)) | (have t0_ := hI0.t0; have t1_ := hI0.t1; have ek0 : (eA g306 233 0).toInt = (gI g0 1 0).toInt := (eA_ti (j := 0) (hF308.2.1 233 (by decide))).trans hR_0.symm; have x := (eA_ti (j := i) (hF381.2.1 3 (by decide))).trans (q315 i i0 i1); have m := q388 (10 + 3 * i + 1) (by omega) (by omega); have y := eA_ti (j := (10 + 3 * i + 1)) (hF308.2.1 233 (by decide)); have k : 0 ≤ v2.toInt ∧ v2.toInt < (gI g0 1 0).toInt ∧ 0 ≤ v4.toInt ∧ v4.toInt < (gI g0 1 0).toInt ∧ v2.toInt ≠ v4.toInt := ⟨pk5.1.1, pk5.1.2.1, pk5.1.2.2.1, pk5.1.2.2.2, pk5.2⟩; have k2 : 0 ≤ v2.toInt ∧ v2.toInt < (eA g306 233 0).toInt ∧ 0 ≤ v4.toInt ∧ v4.toInt < (eA g306 233 0).toInt ∧ v2.toInt ≠ v4.toInt := (by rw [ek0]; exact k); rw [ite_ap k2, ite_ap k2, ite_ap k2, ite_ap k2] at m; rw [ite_ap k, ite_ap k] at x; exact x.trans ((swp1 (S := fun j => (eA g0 3 j).toInt) (M := fun j => (eA g306 233 j).toInt) (fun j j0 j1 => (hR_15.1 j j0 j1).2.1.trans (eA_ti (hF308.2.1 233 (by decide))).symm) ⟨by omega, by omega⟩ ⟨by omega, by omega⟩ ⟨i0, i1⟩).trans m.symm))), (by first | (clear f328 f329 f330 f331 f332 f333 f334 f335 f336 f337 f338 f339 f340 f341 f344 f345 f346 f355 f356 f357 f358 f359 f360 f361 f362 f363 f364 f365 f366 f367 f368 f371 f372 f373 f374 f409 f410 f411 f412 f413 f414 f415 f416 f417 f418 f419 f420 f421 f422 f425 f426 f427 f428 f436 f437 f438 f439 f440 f441 f442 f443 f444 f445 f446 f447 f448 f449 f452 f453 f454; have t0_ := hI0.t0; have t1_ := hI0.t1; have ek0 : (eA g306 233 0).toInt = (gI g0 1 0).toInt := (eA_ti (j := 0) (hF308.2.1 233 (by decide))).trans hR_0.symm; have x := (eA_ti (j := i) (hF381.2.1 4 (by decide))).trans (q316 i i0 i1); have m := q388 (10 + 3 * i + 2) (by omega) (by omega); have y := eA_ti (j := (10 + 3 * i + 2)) (hF308.2.1 233 (by decide)); have k : 0 ≤ v2.toInt ∧ v2.toInt < (gI g0 1 0).toInt ∧ 0 ≤ v4.toInt ∧ v4.toInt < (gI g0 1 0).toInt ∧ v2.toInt ≠ v4.toInt := ⟨pk5.1.1, pk5.1.2.1, pk5.1.2.2.1, pk5.1.2.2.2, pk5.2⟩; have k2 : 0 ≤ v2.toInt ∧ v2.toInt < (eA g306 233 0).toInt ∧ 0 ≤ v4.toInt ∧ v4.toInt < (eA g306 233 0).toInt ∧ v2.toInt ≠ v4.toInt := (by rw [ek0]; exact k); rw [ite_ap k2, ite_ap k2, ite_ap k2, ite_ap k2] at m; rw [ite_ap k, ite_ap k] at x; exact x.trans ((swp2 (S := fun j => (eA g0 4 j).toInt) (M := fun j => (eA g306 233 j).toInt) (fun j j0 j1 => (hR_15.1 j j0 j1).2.2.trans (eA_ti (hF308.2.1 233 (by decide))).symm) ⟨by omega, by omega⟩ ⟨by omega, by omega⟩ ⟨i0, i1⟩).trans m.symm)) | (have t0_ := hI0.t0; have t1_ := hI0.t1; have ek0 : (eA g306 233 0).toInt = (gI g0 1 0).toInt := (eA_ti (j := 0) (hF308.2.1 233 (by decide))).trans hR_0.symm; have x := (eA_ti (j := i) (hF381.2.1 4 (by decide))).trans (q316 i i0 i1); have m := q388 (10 + 3 * i + 2) (by omega) (by omega); have y := eA_ti (j := (10 + 3 * i + 2)) (hF308.2.1 233 (by decide)); have k : 0 ≤ v2.toInt ∧ v2.toInt < (gI g0 1 0).toInt ∧ 0 ≤ v4.toInt ∧ v4.toInt < (gI g0 1 0).toInt ∧ v2.toInt ≠ v4.toInt := ⟨pk5.1.1, pk5.1.2.1, pk5.1.2.2.1, pk5.1.2.2.2, pk5.2⟩; have k2 : 0 ≤ v2.toInt ∧ v2.toInt < (eA g306 233 0).toInt ∧ 0 ≤ v4.toInt ∧ v4.toInt < (eA g306 233 0).toInt ∧ v2.toInt ≠ v4.toInt := (by rw [ek0]; exact k); rw [ite_ap k2, ite_ap k2, ite_ap k2, ite_ap k2] at m; rw [ite_ap k, ite_ap k] at x; exact x.trans ((swp2 (S := fun j => (eA g0 4 j).toInt) (M := fun j => (eA g306 233 j).toInt) (fun j j0 j1 => (hR_15.1 j j0 j1).2.2.trans (eA_ti (hF308.2.1 233 (by decide))).symm) ⟨by omega, by omega⟩ ⟨by omega, by omega⟩ ⟨i0, i1⟩).trans m.symm)))⟩, fun i i0 i1 => ⟨(by first | (clear f328 f329 f330 f331 f332 f333 f334 f335 f336 f337 f338 f339 f340 f341 f344 f345 f346 f355 f356 f357 f358 f359 f360 f361 f362 f363 f364 f365 f366 f367 f368 f371 f372 f373 f374 f409 f410 f411 f412 f413 f414 f415 f416 f417 f418 f419 f420 f421 f422 f425 f426 f427 f428 f436 f437 f438 f439 f440 f441 f442 f443 f444 f445 f446 f447 f448 f449 f452 f453 f454; have t0_ := hI0.t0; have t1_ := hI0.t1; have ek0 : (eA g306 233 0).toInt = (gI g0 1 0).toInt := (eA_ti (j := 0) (hF308.2.1 233 (by decide))).trans hR_0.symm; have x := eA_ti (j := i) (((hF381.2.1 14 (by decide)).trans (hF308.2.1 14 (by decide)))); have m := q388 (94 + 2 * i) (by omega) (by omega); have y := eA_ti (j := (94 + 2 * i)) (hF308.2.1 233 (by decide)); have k : 0 ≤ v2.toInt ∧ v2.toInt < (gI g0 1 0).toInt ∧ 0 ≤ v4.toInt ∧ v4.toInt < (gI g0 1 0).toInt ∧ v2.toInt ≠ v4.toInt := ⟨pk5.1.1, pk5.1.2.1, pk5.1.2.2.1, pk5.1.2.2.2, pk5.2⟩; have k2 : 0 ≤ v2.toInt ∧ v2.toInt < (eA g306 233 0).toInt ∧ 0 ≤ v4.toInt ∧ v4.toInt < (eA g306 233 0).toInt ∧ v2.toInt ≠ v4.toInt := (by rw [ek0]; exact k); rw [ite_ap k2, ite_ap k2, ite_ap k2, ite_ap k2] at m; exact x.trans ((hR_15.2.1 i i0 i1).1.trans ((m.trans (if4n (by omega) (by omega) (by omega) (by omega))).trans y).symm)) | (have t0_ := hI0.t0; have t1_ := hI0.t1; have ek0 : (eA g306 233 0).toInt = (gI g0 1 0).toInt := (eA_ti (j := 0) (hF308.2.1 233 (by decide))).trans hR_0.symm; have x := eA_ti (j := i) (((hF381.2.1 14 (by decide)).trans (hF308.2.1 14 (by decide)))); have m := q388 (94 + 2 * i) (by omega) (by omega); have y := eA_ti (j := (94 + 2 * i)) (hF308.2.1 233 (by decide)); have k : 0 ≤ v2.toInt ∧ v2.toInt < (gI g0 1 0).toInt ∧ 0 ≤ v4.toInt ∧ v4.toInt < (gI g0 1 0).toInt ∧ v2.toInt ≠ v4.toInt := ⟨pk5.1.1, pk5.1.2.1, pk5.1.2.2.1, pk5.1.2.2.2, pk5.2⟩; have k2 : 0 ≤ v2.toInt ∧ v2.toInt < (eA g306 233 0).toInt ∧ 0 ≤ v4.toInt ∧ v4.toInt < (eA g306 233 0).toInt ∧ v2.toInt ≠ v4.toInt := (by rw [ek0]; exact k); rw [ite_ap k2, ite_ap k2, ite_ap k2, ite_ap k2] at m; exact x.trans ((hR_15.2.1 i i0 i1).1.trans ((m.trans (if4n (by omega) (by omega) (by omega) (by omega))).trans y).symm))), (by first | (clear f328 f329 f330 f331 f332 f333 f334 f335 f336 f337 f338 f339 f340 f341 f344 f345 f346 f355 f356 f357 f358 f359 f360 f361 f362 f363 f364 f365 f366 f367 f368 f371 f372 f373 f374 f409 f410 f411 f412 f413 f414 f415 f416 f417 f418 f419 f420 f421 f422 f425 f426 f427 f428 f436 f437 f438 f439 f440 f441 f442 f443 f444 f445 f446 f447 f448 f449 f452 f453 f454; have t0_ := hI0.t0; have t1_ := hI0.t1; have ek0 : (eA g306 233 0).toInt = (gI g0 1 0).toInt := (eA_ti (j := 0) (hF308.2.1 233 (by decide))).trans hR_0.symm; have x := eA_ti (j := i) (((hF381.2.1 15 (by decide)).trans (hF308.2.1 15 (by decide)))); have m := q388 (94 + 2 * i + 1) (by omega) (by omega); have y := eA_ti (j := (94 + 2 * i + 1)) (hF308.2.1 233 (by decide)); have k : 0 ≤ v2.toInt ∧ v2.toInt < (gI g0 1 0).toInt ∧ 0 ≤ v4.toInt ∧ v4.toInt < (gI g0 1 0).toInt ∧ v2.toInt ≠ v4.toInt := ⟨pk5.1.1, pk5.1.2.1, pk5.1.2.2.1, pk5.1.2.2.2, pk5.2⟩; have k2 : 0 ≤ v2.toInt ∧ v2.toInt < (eA g306 233 0).toInt ∧ 0 ≤ v4.toInt ∧ v4.toInt < (eA g306 233 0).toInt ∧ v2.toInt ≠ v4.toInt := (by rw [ek0]; exact k); rw [ite_ap k2, ite_ap k2, ite_ap k2, ite_ap k2] at m; exact x.trans ((hR_15.2.1 i i0 i1).2.trans ((m.trans (if4n (by omega) (by omega) (by omega) (by omega))).trans y).symm)) | (have t0_ := hI0.t0; have t1_ := hI0.t1; have ek0 : (eA g306 233 0).toInt = (gI g0 1 0).toInt := (eA_ti (j := 0) (hF308.2.1 233 (by decide))).trans hR_0.symm; have x := eA_ti (j := i) (((hF381.2.1 15 (by decide)).trans (hF308.2.1 15 (by decide)))); have m := q388 (94 + 2 * i + 1) (by omega) (by omega); have y := eA_ti (j := (94 + 2 * i + 1)) (hF308.2.1 233 (by decide)); have k : 0 ≤ v2.toInt ∧ v2.toInt < (gI g0 1 0).toInt ∧ 0 ≤ v4.toInt ∧ v4.toInt < (gI g0 1 0).toInt ∧ v2.toInt ≠ v4.toInt := ⟨pk5.1.1, pk5.1.2.1, pk5.1.2.2.1, pk5.1.2.2.2, pk5.2⟩; have k2 : 0 ≤ v2.toInt ∧ v2.toInt < (eA g306 233 0).toInt ∧ 0 ≤ v4.toInt ∧ v4.toInt < (eA g306 233 0).toInt ∧ v2.toInt ≠ v4.toInt := (by rw [ek0]; exact k); rw [ite_ap k2, ite_ap k2, ite_ap k2, ite_ap k2] at m; exact x.trans ((hR_15.2.1 i i0 i1).2.trans ((m.trans (if4n (by omega) (by omega) (by omega) (by omega))).trans y).symm)))⟩, fun i i0 i1 => (by first | (clear f328 f329 f330 f331 f332 f333 f334 f335 f336 f337 f338 f339 f340 f341 f344 f345 f346 f355 f356 f357 f358 f359 f360 f361 f362 f363 f364 f365 f366 f367 f368 f371 f372 f373 f374 f409 f410 f411 f412 f413 f414 f415 f416 f417 f418 f419 f420 f421 f422 f425 f426 f427 f428 f436 f437 f438 f439 f440 f441 f442 f443 f444 f445 f446 f447 f448 f449 f452 f453 f454; have t0_ := hI0.t0; have t1_ := hI0.t1; have ek0 : (eA g306 233 0).toInt = (gI g0 1 0).toInt := (eA_ti (j := 0) (hF308.2.1 233 (by decide))).trans hR_0.symm; have x := eA_ti (j := i) (((hF381.2.1 5 (by decide)).trans (hF308.2.1 5 (by decide)))); have m := q388 (46 + i) (by omega) (by omega); have y := eA_ti (j := (46 + i)) (hF308.2.1 233 (by decide)); have k : 0 ≤ v2.toInt ∧ v2.toInt < (gI g0 1 0).toInt ∧ 0 ≤ v4.toInt ∧ v4.toInt < (gI g0 1 0).toInt ∧ v2.toInt ≠ v4.toInt := ⟨pk5.1.1, pk5.1.2.1, pk5.1.2.2.1, pk5.1.2.2.2, pk5.2⟩; have k2 : 0 ≤ v2.toInt ∧ v2.toInt < (eA g306 233 0).toInt ∧ 0 ≤ v4.toInt ∧ v4.toInt < (eA g306 233 0).toInt ∧ v2.toInt ≠ v4.toInt := (by rw [ek0]; exact k); rw [ite_ap k2, ite_ap k2, ite_ap k2, ite_ap k2] at m; exact x.trans ((hR_15.2.2 i i0 (by omega)).trans ((m.trans (if4n (by omega) (by omega) (by omega) (by omega))).trans y).symm)) | (have t0_ := hI0.t0; have t1_ := hI0.t1; have ek0 : (eA g306 233 0).toInt = (gI g0 1 0).toInt := (eA_ti (j := 0) (hF308.2.1 233 (by decide))).trans hR_0.symm; have x := eA_ti (j := i) (((hF381.2.1 5 (by decide)).trans (hF308.2.1 5 (by decide)))); have m := q388 (46 + i) (by omega) (by omega); have y := eA_ti (j := (46 + i)) (hF308.2.1 233 (by decide)); have k : 0 ≤ v2.toInt ∧ v2.toInt < (gI g0 1 0).toInt ∧ 0 ≤ v4.toInt ∧ v4.toInt < (gI g0 1 0).toInt ∧ v2.toInt ≠ v4.toInt := ⟨pk5.1.1, pk5.1.2.1, pk5.1.2.2.1, pk5.1.2.2.2, pk5.2⟩; have k2 : 0 ≤ v2.toInt ∧ v2.toInt < (eA g306 233 0).toInt ∧ 0 ≤ v4.toInt ∧ v4.toInt < (eA g306 233 0).toInt ∧ v2.toInt ≠ v4.toInt := (by rw [ek0]; exact k); rw [ite_ap k2, ite_ap k2, ite_ap k2, ite_ap k2] at m; exact x.trans ((hR_15.2.2 i i0 (by omega)).trans ((m.trans (if4n (by omega) (by omega) (by omega) (by omega))).trans y).symm)))⟩), CI0.cong hR_16 (((hF381.2.1 60 (by decide)).trans (hF308.2.1 60 (by decide)))) (((hF381.2.1 61 (by decide)).trans (hF308.2.1 61 (by decide)))) (((hF381.2.1 62 (by decide)).trans (hF308.2.1 62 (by decide)))) (((hF381.2.1 72 (by decide)).trans (hF308.2.1 72 (by decide)))) (((hF381.2.1 73 (by decide)).trans (hF308.2.1 73 (by decide)))) (((hF381.2.1 63 (by decide)).trans (hF308.2.1 63 (by decide)))) (((hF381.2.1 234 (by decide)).trans (hF308.2.1 234 (by decide)))) (congrArg Int32.toInt (((hF381.1 59 4 (by decide)).trans (hF308.1 59 4 (by decide))))), CI1.cong hR_17 (((hF381.2.1 117 (by decide)).trans (hF308.2.1 117 (by decide)))) (((hF381.2.1 118 (by decide)).trans (hF308.2.1 118 (by decide)))) (((hF381.2.1 119 (by decide)).trans (hF308.2.1 119 (by decide)))) (((hF381.2.1 129 (by decide)).trans (hF308.2.1 129 (by decide)))) (((hF381.2.1 130 (by decide)).trans (hF308.2.1 130 (by decide)))) (((hF381.2.1 120 (by decide)).trans (hF308.2.1 120 (by decide)))) (((hF381.2.1 234 (by decide)).trans (hF308.2.1 234 (by decide)))) (congrArg Int32.toInt (((hF381.1 116 4 (by decide)).trans (hF308.1 116 4 (by decide))))), (show RT _ from fun i i0 i1 => (eA_ti (((hF381.2.1 175 (by decide)).trans (hF308.2.1 175 (by decide))))).trans ((hR_18 i i0 (by omega)).trans (eA_ti (((hF381.2.1 236 (by decide)).trans (hF308.2.1 236 (by decide))))).symm)), (show BYX _ from fun i i0 i1 => by rw [TX.c (((hF381.2.1 175 (by decide)).trans (hF308.2.1 175 (by decide))))]; exact hR_19 i i0 (by have i2 : i < (gI _ 174 1).toInt := i1; show i < (gI g0 174 1).toInt; omega))⟩)
