set_option maxRecDepth 100000 in
set_option maxHeartbeats 8000000 in
theorem lq_c6 (d : Nat) {N : Nat} {g0 : List en_E} (hI0 : HI g0) (hR0 : LwR g0) {ys : List Int32} {L : Nat} (hL : ys.length = L) (hL2 : L ≤ 3584) {l : en_L} {i : Int32} (e0 : en_get 0 l = some (.float 0)) (e1 : en_get 1 l = some (.ref 0)) (e2 : en_get 2 l = some (.ref 231)) (e3 : en_get 3 l = some (.int i)) (hi : 0 ≤ i.toInt ∧ i.toInt + 7 ≤ L) {Ph : Option Value → en_H → Prop} (K : ∀ g1 : List en_E, HI g1 → LwR g1 → At (d + 423) (some ys) (some .boolean) bs_L_law (1330, l, [], (g1, N)) Ph) : At (d + 423) (some ys) (some .boolean) bs_L_law (458, l, [], (g0, N)) Ph := by
  have hF0 : Fr F_law A_law g0 g0 := Fr.rf
  have hx_1 : -2147483648 ≤ i.toInt + 1 ∧ i.toInt + 1 ≤ 2147483647 := by omega
  have hx_2 : -2147483648 ≤ i.toInt + 2 ∧ i.toInt + 2 ≤ 2147483647 := by omega
  have hx_3 : -2147483648 ≤ i.toInt + 3 ∧ i.toInt + 3 ≤ 2147483647 := by omega
  have hx_4 : -2147483648 ≤ i.toInt + 4 ∧ i.toInt + 4 ≤ 2147483647 := by omega
  have hx_5 : -2147483648 ≤ i.toInt + 5 ∧ i.toInt + 5 ≤ 2147483647 := by omega
  have hx_6 : -2147483648 ≤ i.toInt + 6 ∧ i.toInt + 6 ≤ 2147483647 := by omega
  have hy_0 : 0 ≤ i.toInt ∧ i.toInt < (L : Int) := by omega
  have hy_1 : 0 ≤ i.toInt + 1 ∧ i.toInt + 1 < (L : Int) := by omega
  have hy_2 : 0 ≤ i.toInt + 2 ∧ i.toInt + 2 < (L : Int) := by omega
  have hy_3 : 0 ≤ i.toInt + 3 ∧ i.toInt + 3 < (L : Int) := by omega
  have hy_4 : 0 ≤ i.toInt + 4 ∧ i.toInt + 4 < (L : Int) := by omega
  have hy_5 : 0 ≤ i.toInt + 5 ∧ i.toInt + 5 < (L : Int) := by omega
  have hy_6 : 0 ≤ i.toInt + 6 ∧ i.toInt + 6 < (L : Int) := by omega
  unfold LwR at hR0
  obtain ⟨hR_0, hR_1, hR_2, hR_3, hR_4, hR_5, hR_6, hR_7, hR_8, hR_9, hR_10, hR_11, hR_12, hR_13, hR_14, hR_15, hR_16, hR_17, hR_18, hR_19⟩ := hR0
  refine At.enter rfl ?_
  refine r_aload_n e1 ?_
  refine r_sload_n e0 ?_
  refine r_iload_n e3 ?_
  refine r_iconst 1 rfl ?_
  refine q_iadd (i.toInt + 1) rfl hx_1 (fun v1 hv1 => ?_)
  refine q_scald (m := L) hL (i.toInt + 1) hv1 hy_1 (fun v2 hv2 => ?_)
  refine r_sload_n e0 ?_
  refine r_iload_n e3 ?_
  refine r_iconst 2 rfl ?_
  refine q_iadd (i.toInt + 2) rfl hx_2 (fun v3 hv3 => ?_)
  refine q_scald (m := L) hL (i.toInt + 2) hv3 hy_2 (fun v4 hv4 => ?_)
  rcases csT (v2.toInt = 0 ∧ 0 ≤ v4.toInt ∧ v4.toInt ≤ 99) (v2.toInt = 1 ∧ 1 ≤ v4.toInt ∧ v4.toInt ≤ 4) with pk5 | pk5 | pk5
  · refine r_callV 472 rfl [.ref 0, .int v2, .int v4] [] (Nat.le_of_ble_eq_true rfl) rfl (T_X10_terms_0 _ hI0 v2 v4) ?_
    rintro _ _ ⟨g6, rfl, hI7, hF8, v9, rfl, hr10⟩
    refine At.sti ?_
    have hF11 := Fr.tr hF0 hF8 rfl rfl
    have su12 := hr10.2.2
    obtain ⟨q13, q14⟩ := (And.intro hr10.1 hr10.2.1)
    obtain ⟨i16, i17, i18⟩ := q14
    have w15 := i16 pk5
    clear i16 i17 i18
    have f19 := congrArg Int32.toInt (hF8.1 1 0 rfl)
    have f20 := congrArg Int32.toInt (hF8.1 1 12 rfl)
    have f23 := congrArg Int32.toInt (hF8.1 1 4 rfl)
    have f24 := congrArg Int32.toInt (hF8.1 1 6 rfl)
    have f25 := congrArg Int32.toInt (hF8.1 1 9 rfl)
    have f26 := congrArg Int32.toInt (hF8.1 59 0 rfl)
    have f27 := congrArg Int32.toInt (hF8.1 59 12 rfl)
    have f28 := congrArg Int32.toInt (hF8.1 59 10 rfl)
    have f29 := congrArg Int32.toInt (hF8.1 59 11 rfl)
    have f30 := congrArg Int32.toInt (hF8.1 59 4 rfl)
    have f31 := congrArg Int32.toInt (hF8.1 59 6 rfl)
    have f32 := congrArg Int32.toInt (hF8.1 59 9 rfl)
    have f33 := congrArg Int32.toInt (hF8.1 116 0 rfl)
    have f34 := congrArg Int32.toInt (hF8.1 116 12 rfl)
    have f35 := congrArg Int32.toInt (hF8.1 116 10 rfl)
    have f36 := congrArg Int32.toInt (hF8.1 116 11 rfl)
    have f37 := congrArg Int32.toInt (hF8.1 116 4 rfl)
    have f38 := congrArg Int32.toInt (hF8.1 116 6 rfl)
    have f39 := congrArg Int32.toInt (hF8.1 116 9 rfl)
    have f40 := congrArg Int32.toInt (eA_c (j := 0) (hF8.2.1 173 rfl))
    have f41 := congrArg Int32.toInt (eA_c (j := 1) (hF8.2.1 173 rfl))
    have f42 := congrArg Int32.toInt (hF8.1 174 1 rfl)
    have f43 := congrArg Int32.toInt (hF8.1 0 16 rfl)
    have f44 := congrArg Int32.toInt (hF8.1 176 2 rfl)
    have f46 := congrArg Int32.toInt (eA_c (j := 0) (hF8.2.1 233 rfl))
    have f47 := congrArg Int32.toInt (eA_c (j := 4) (hF8.2.1 233 rfl))
    have f48 := congrArg Int32.toInt (eA_c (j := 5) (hF8.2.1 233 rfl))
    have f49 := congrArg Int32.toInt (eA_c (j := 6) (hF8.2.1 233 rfl))
    have f50 := congrArg Int32.toInt (eA_c (j := 1) (hF8.2.1 233 rfl))
    have f51 := congrArg Int32.toInt (eA_c (j := 2) (hF8.2.1 233 rfl))
    have f52 := congrArg Int32.toInt (eA_c (j := 3) (hF8.2.1 233 rfl))
    have f53 := congrArg Int32.toInt (eA_c (j := 0) (hF8.2.1 234 rfl))
    have f54 := congrArg Int32.toInt (eA_c (j := 4) (hF8.2.1 234 rfl))
    have f55 := congrArg Int32.toInt (eA_c (j := 5) (hF8.2.1 234 rfl))
    have f56 := congrArg Int32.toInt (eA_c (j := 6) (hF8.2.1 234 rfl))
    have f57 := congrArg Int32.toInt (eA_c (j := 1) (hF8.2.1 234 rfl))
    have f58 := congrArg Int32.toInt (eA_c (j := 2) (hF8.2.1 234 rfl))
    have f59 := congrArg Int32.toInt (eA_c (j := 3) (hF8.2.1 234 rfl))
    have f60 := congrArg Int32.toInt (eA_c (j := 5510) (hF8.2.1 234 rfl))
    have f61 := congrArg Int32.toInt (eA_c (j := 5514) (hF8.2.1 234 rfl))
    have f62 := congrArg Int32.toInt (eA_c (j := 5515) (hF8.2.1 234 rfl))
    have f63 := congrArg Int32.toInt (eA_c (j := 5516) (hF8.2.1 234 rfl))
    have f64 := congrArg Int32.toInt (eA_c (j := 5511) (hF8.2.1 234 rfl))
    have f65 := congrArg Int32.toInt (eA_c (j := 5512) (hF8.2.1 234 rfl))
    have f66 := congrArg Int32.toInt (eA_c (j := 5513) (hF8.2.1 234 rfl))
    have f67 := congrArg Int32.toInt (eA_c (j := 0) (hF8.2.1 235 rfl))
    have f68 := congrArg Int32.toInt (eA_c (j := 1) (hF8.2.1 235 rfl))
    have f69 := congrArg Int32.toInt (hF8.1 231 8 rfl)
    have f70 := congrArg Int32.toInt (hF8.1 231 6 rfl)
    have f71 := congrArg Int32.toInt (hF8.1 231 13 rfl)
    have f72 := congrArg Int32.toInt (hF8.1 231 1 rfl)
    refine At.enter rfl ?_
    refine r_pop rfl ?_
    refine r_aload_n e2 ?_
    refine r_sload_n e0 ?_
    refine r_iload_n e3 ?_
    refine r_iconst 1 rfl ?_
    refine q_iadd (i.toInt + 1) rfl hx_1 (fun v73 hv73 => ?_)
    refine q_scald (m := L) hL (i.toInt + 1) hv73 hy_1 (fun v74 hv74 => ?_)
    have sv74 := hv2.symm.trans hv74
    subst sv74
    refine r_sload_n e0 ?_
    refine r_iload_n e3 ?_
    refine r_iconst 2 rfl ?_
    refine q_iadd (i.toInt + 2) rfl hx_2 (fun v75 hv75 => ?_)
    refine q_scald (m := L) hL (i.toInt + 2) hv75 hy_2 (fun v76 hv76 => ?_)
    have sv76 := hv4.symm.trans hv76
    subst sv76
    refine r_callV 487 rfl [.ref 231, .int v2, .int v4] [] (Nat.le_of_ble_eq_true rfl) rfl (T_X11_terms_231 _ hI7 v2 v4) ?_
    rintro _ _ ⟨g77, rfl, hI78, hF79, v80, rfl, hr81⟩
    refine At.sti ?_
    have hF82 := Fr.tr hF11 hF79 rfl rfl
    have su83 := hr81.2.2
    obtain ⟨q84, q85, q86⟩ := (And.intro hr81.1 hr81.2.1)
    obtain ⟨⟨i88, i89, i90⟩, sm91, sm92, sm93, sm94, sm95⟩ := q85
    have w87 := i88 pk5
    clear i88 i89 i90
    have f96 := congrArg Int32.toInt (hF79.1 1 0 rfl)
    have f97 := congrArg Int32.toInt (hF79.1 1 12 rfl)
    have f98 := congrArg Int32.toInt (hF79.1 1 10 rfl)
    have f99 := congrArg Int32.toInt (hF79.1 1 11 rfl)
    have f100 := congrArg Int32.toInt (hF79.1 1 4 rfl)
    have f101 := congrArg Int32.toInt (hF79.1 1 6 rfl)
    have f102 := congrArg Int32.toInt (hF79.1 1 9 rfl)
    have f103 := congrArg Int32.toInt (hF79.1 59 0 rfl)
    have f104 := congrArg Int32.toInt (hF79.1 59 12 rfl)
    have f105 := congrArg Int32.toInt (hF79.1 59 10 rfl)
    have f106 := congrArg Int32.toInt (hF79.1 59 11 rfl)
    have f107 := congrArg Int32.toInt (hF79.1 59 4 rfl)
    have f108 := congrArg Int32.toInt (hF79.1 59 6 rfl)
    have f109 := congrArg Int32.toInt (hF79.1 59 9 rfl)
    have f110 := congrArg Int32.toInt (hF79.1 116 0 rfl)
    have f111 := congrArg Int32.toInt (hF79.1 116 12 rfl)
    have f112 := congrArg Int32.toInt (hF79.1 116 10 rfl)
    have f113 := congrArg Int32.toInt (hF79.1 116 11 rfl)
    have f114 := congrArg Int32.toInt (hF79.1 116 4 rfl)
    have f115 := congrArg Int32.toInt (hF79.1 116 6 rfl)
    have f116 := congrArg Int32.toInt (hF79.1 116 9 rfl)
    have f117 := congrArg Int32.toInt (eA_c (j := 0) (hF79.2.1 173 rfl))
    have f118 := congrArg Int32.toInt (eA_c (j := 1) (hF79.2.1 173 rfl))
    have f119 := congrArg Int32.toInt (hF79.1 174 1 rfl)
    have f120 := congrArg Int32.toInt (hF79.1 0 16 rfl)
    have f121 := congrArg Int32.toInt (hF79.1 176 2 rfl)
    have f122 := congrArg Int32.toInt (hF79.1 0 17 rfl)
    have f130 := congrArg Int32.toInt (eA_c (j := 0) (hF79.2.1 234 rfl))
    have f131 := congrArg Int32.toInt (eA_c (j := 4) (hF79.2.1 234 rfl))
    have f132 := congrArg Int32.toInt (eA_c (j := 5) (hF79.2.1 234 rfl))
    have f133 := congrArg Int32.toInt (eA_c (j := 6) (hF79.2.1 234 rfl))
    have f134 := congrArg Int32.toInt (eA_c (j := 1) (hF79.2.1 234 rfl))
    have f135 := congrArg Int32.toInt (eA_c (j := 2) (hF79.2.1 234 rfl))
    have f136 := congrArg Int32.toInt (eA_c (j := 3) (hF79.2.1 234 rfl))
    have f137 := congrArg Int32.toInt (eA_c (j := 5510) (hF79.2.1 234 rfl))
    have f138 := congrArg Int32.toInt (eA_c (j := 5514) (hF79.2.1 234 rfl))
    have f139 := congrArg Int32.toInt (eA_c (j := 5515) (hF79.2.1 234 rfl))
    have f140 := congrArg Int32.toInt (eA_c (j := 5516) (hF79.2.1 234 rfl))
    have f141 := congrArg Int32.toInt (eA_c (j := 5511) (hF79.2.1 234 rfl))
    have f142 := congrArg Int32.toInt (eA_c (j := 5512) (hF79.2.1 234 rfl))
    have f143 := congrArg Int32.toInt (eA_c (j := 5513) (hF79.2.1 234 rfl))
    have f144 := congrArg Int32.toInt (eA_c (j := 0) (hF79.2.1 235 rfl))
    have f145 := congrArg Int32.toInt (eA_c (j := 1) (hF79.2.1 235 rfl))
    have f146 := congrArg Int32.toInt (hF79.1 231 8 rfl)
    have f147 := congrArg Int32.toInt (hF79.1 231 6 rfl)
    have f148 := congrArg Int32.toInt (hF79.1 231 13 rfl)
    refine At.enter rfl ?_
    refine r_pop rfl ?_
    refine r_goto ?_
    have zsu := SU3.eq su12 su83 Iff.rfl Iff.rfl
    exact K _ hI78 (show LwR _ from ⟨by first | (clear f20 f23 f24 f25 f26 f27 f28 f29 f30 f31 f32 f33 f34 f35 f36 f37 f38 f39 f40 f41 f42 f43 f44 f47 f48 f49 f50 f51 f52 f53 f54 f55 f56 f57 f58 f59 f60 f61 f62 f63 f64 f65 f66 f67 f68 f69 f70 f71 f72 f97 f98 f99 f100 f101 f102 f103 f104 f105 f106 f107 f108 f109 f110 f111 f112 f113 f114 f115 f116 f117 f118 f119 f120 f121 f122 f130 f131 f132 f133 f134 f135 f136 f137 f138 f139 f140 f141 f142 f143 f144 f145 f146 f147 f148; omega) | omega, by first | (clear f19 f23 f24 f25 f26 f27 f28 f29 f30 f31 f32 f33 f34 f35 f36 f37 f38 f39 f40 f41 f42 f43 f44 f46 f48 f49 f50 f51 f52 f53 f54 f55 f56 f57 f58 f59 f60 f61 f62 f63 f64 f65 f66 f67 f68 f69 f70 f71 f72 f96 f98 f99 f100 f101 f102 f103 f104 f105 f106 f107 f108 f109 f110 f111 f112 f113 f114 f115 f116 f117 f118 f119 f120 f121 f122 f130 f131 f132 f133 f134 f135 f136 f137 f138 f139 f140 f141 f142 f143 f144 f145 f146 f147 f148; omega) | omega, by first | (clear f19 f20 f23 f24 f25 f26 f27 f28 f29 f30 f31 f32 f33 f34 f35 f36 f37 f38 f39 f40 f41 f42 f43 f44 f46 f47 f49 f50 f51 f52 f53 f54 f55 f56 f57 f58 f59 f60 f61 f62 f63 f64 f65 f66 f67 f68 f69 f70 f71 f72 f96 f97 f99 f100 f101 f102 f103 f104 f105 f106 f107 f108 f109 f110 f111 f112 f113 f114 f115 f116 f117 f118 f119 f120 f121 f122 f130 f131 f132 f133 f134 f135 f136 f137 f138 f139 f140 f141 f142 f143 f144 f145 f146 f147 f148; omega) | omega, by first | (clear f19 f20 f23 f24 f25 f26 f27 f28 f29 f30 f31 f32 f33 f34 f35 f36 f37 f38 f39 f40 f41 f42 f43 f44 f46 f47 f48 f50 f51 f52 f53 f54 f55 f56 f57 f58 f59 f60 f61 f62 f63 f64 f65 f66 f67 f68 f69 f70 f71 f72 f96 f97 f98 f100 f101 f102 f103 f104 f105 f106 f107 f108 f109 f110 f111 f112 f113 f114 f115 f116 f117 f118 f119 f120 f121 f122 f130 f131 f132 f133 f134 f135 f136 f137 f138 f139 f140 f141 f142 f143 f144 f145 f146 f147 f148; omega) | omega, by first | (clear f19 f20 f24 f25 f26 f27 f28 f29 f30 f31 f32 f33 f34 f35 f36 f37 f38 f39 f40 f41 f42 f43 f44 f46 f47 f48 f49 f51 f52 f53 f54 f55 f56 f57 f58 f59 f60 f61 f62 f63 f64 f65 f66 f67 f68 f69 f70 f71 f72 f96 f97 f98 f99 f101 f102 f103 f104 f105 f106 f107 f108 f109 f110 f111 f112 f113 f114 f115 f116 f117 f118 f119 f120 f121 f122 f130 f131 f132 f133 f134 f135 f136 f137 f138 f139 f140 f141 f142 f143 f144 f145 f146 f147 f148; omega) | omega, by first | (clear f19 f20 f23 f25 f26 f27 f28 f29 f30 f31 f32 f33 f34 f35 f36 f37 f38 f39 f40 f41 f42 f43 f44 f46 f47 f48 f49 f50 f52 f53 f54 f55 f56 f57 f58 f59 f60 f61 f62 f63 f64 f65 f66 f67 f68 f69 f70 f71 f72 f96 f97 f98 f99 f100 f102 f103 f104 f105 f106 f107 f108 f109 f110 f111 f112 f113 f114 f115 f116 f117 f118 f119 f120 f121 f122 f130 f131 f132 f133 f134 f135 f136 f137 f138 f139 f140 f141 f142 f143 f144 f145 f146 f147 f148; omega) | omega, by first | (clear f19 f20 f23 f24 f26 f27 f28 f29 f30 f31 f32 f33 f34 f35 f36 f37 f38 f39 f40 f41 f42 f43 f44 f46 f47 f48 f49 f50 f51 f53 f54 f55 f56 f57 f58 f59 f60 f61 f62 f63 f64 f65 f66 f67 f68 f69 f70 f71 f72 f96 f97 f98 f99 f100 f101 f103 f104 f105 f106 f107 f108 f109 f110 f111 f112 f113 f114 f115 f116 f117 f118 f119 f120 f121 f122 f130 f131 f132 f133 f134 f135 f136 f137 f138 f139 f140 f141 f142 f143 f144 f145 f146 f147 f148; omega) | omega, (eA_ti (j := 0) (((hF79.2.1 173 (by decide)).trans (hF8.2.1 173 (by decide))))).trans (hR_7.trans (eA_ti (j := 0) (((hF79.2.1 235 (by decide)).trans (hF8.2.1 235 (by decide))))).symm), (eA_ti (j := 1) (((hF79.2.1 173 (by decide)).trans (hF8.2.1 173 (by decide))))).trans (hR_8.trans (eA_ti (j := 1) (((hF79.2.1 235 (by decide)).trans (hF8.2.1 235 (by decide))))).symm), (congrArg Int32.toInt (((hF79.1 174 1 (by decide)).trans (hF8.1 174 1 (by decide))))).trans (hR_9.trans (congrArg Int32.toInt (((hF79.1 231 8 (by decide)).trans (hF8.1 231 8 (by decide))))).symm), (congrArg Int32.toInt (((hF79.1 0 16 (by decide)).trans (hF8.1 0 16 (by decide))))).trans (hR_10.trans (congrArg Int32.toInt (((hF79.1 231 6 (by decide)).trans (hF8.1 231 6 (by decide))))).symm), (congrArg Int32.toInt (((hF79.1 176 2 (by decide)).trans (hF8.1 176 2 (by decide))))).trans (hR_11.trans (congrArg Int32.toInt (((hF79.1 231 13 (by decide)).trans (hF8.1 231 13 (by decide))))).symm), by first | (clear f19 f20 f23 f24 f25 f26 f27 f28 f29 f30 f31 f32 f33 f34 f35 f36 f37 f38 f39 f40 f41 f42 f43 f44 f46 f47 f48 f49 f50 f51 f52 f53 f54 f55 f56 f57 f58 f59 f60 f61 f62 f63 f64 f65 f66 f67 f68 f69 f70 f71 f96 f97 f98 f99 f100 f101 f102 f103 f104 f105 f106 f107 f108 f109 f110 f111 f112 f113 f114 f115 f116 f117 f118 f119 f120 f121 f130 f131 f132 f133 f134 f135 f136 f137 f138 f139 f140 f141 f142 f143 f144 f145 f146 f147 f148; omega) | omega, IM0.cong hR_13 (eA_ti (j := 0) (((hF79.2.1 173 (by decide)).trans (hF8.2.1 173 (by decide))))) (congrArg Int32.toInt (((hF79.1 59 0 (by decide)).trans (hF8.1 59 0 (by decide))))) (eA_ti (j := 0) (((hF79.2.1 234 (by decide)).trans (hF8.2.1 234 (by decide))))) (congrArg Int32.toInt (((hF79.1 59 12 (by decide)).trans (hF8.1 59 12 (by decide))))) (eA_ti (j := 4) (((hF79.2.1 234 (by decide)).trans (hF8.2.1 234 (by decide))))) (congrArg Int32.toInt (((hF79.1 59 10 (by decide)).trans (hF8.1 59 10 (by decide))))) (eA_ti (j := 5) (((hF79.2.1 234 (by decide)).trans (hF8.2.1 234 (by decide))))) (congrArg Int32.toInt (((hF79.1 59 11 (by decide)).trans (hF8.1 59 11 (by decide))))) (eA_ti (j := 6) (((hF79.2.1 234 (by decide)).trans (hF8.2.1 234 (by decide))))) (congrArg Int32.toInt (((hF79.1 59 4 (by decide)).trans (hF8.1 59 4 (by decide))))) (eA_ti (j := 1) (((hF79.2.1 234 (by decide)).trans (hF8.2.1 234 (by decide))))) (congrArg Int32.toInt (((hF79.1 59 6 (by decide)).trans (hF8.1 59 6 (by decide))))) (eA_ti (j := 2) (((hF79.2.1 234 (by decide)).trans (hF8.2.1 234 (by decide))))) (congrArg Int32.toInt (((hF79.1 59 9 (by decide)).trans (hF8.1 59 9 (by decide))))) (eA_ti (j := 3) (((hF79.2.1 234 (by decide)).trans (hF8.2.1 234 (by decide))))), IM1.cong hR_14 (eA_ti (j := 1) (((hF79.2.1 173 (by decide)).trans (hF8.2.1 173 (by decide))))) (congrArg Int32.toInt (((hF79.1 116 0 (by decide)).trans (hF8.1 116 0 (by decide))))) (eA_ti (j := 5510) (((hF79.2.1 234 (by decide)).trans (hF8.2.1 234 (by decide))))) (congrArg Int32.toInt (((hF79.1 116 12 (by decide)).trans (hF8.1 116 12 (by decide))))) (eA_ti (j := 5514) (((hF79.2.1 234 (by decide)).trans (hF8.2.1 234 (by decide))))) (congrArg Int32.toInt (((hF79.1 116 10 (by decide)).trans (hF8.1 116 10 (by decide))))) (eA_ti (j := 5515) (((hF79.2.1 234 (by decide)).trans (hF8.2.1 234 (by decide))))) (congrArg Int32.toInt (((hF79.1 116 11 (by decide)).trans (hF8.1 116 11 (by decide))))) (eA_ti (j := 5516) (((hF79.2.1 234 (by decide)).trans (hF8.2.1 234 (by decide))))) (congrArg Int32.toInt (((hF79.1 116 4 (by decide)).trans (hF8.1 116 4 (by decide))))) (eA_ti (j := 5511) (((hF79.2.1 234 (by decide)).trans (hF8.2.1 234 (by decide))))) (congrArg Int32.toInt (((hF79.1 116 6 (by decide)).trans (hF8.1 116 6 (by decide))))) (eA_ti (j := 5512) (((hF79.2.1 234 (by decide)).trans (hF8.2.1 234 (by decide))))) (congrArg Int32.toInt (((hF79.1 116 9 (by decide)).trans (hF8.1 116 9 (by decide))))) (eA_ti (j := 5513) (((hF79.2.1 234 (by decide)).trans (hF8.2.1 234 (by decide))))), (show CT _ from ⟨fun i i0 i1 => ⟨(by first | (clear f26 f27 f28 f29 f30 f31 f32 f33 f34 f35 f36 f37 f38 f39 f42 f43 f44 f53 f54 f55 f56 f57 f58 f59 f60 f61 f62 f63 f64 f65 f66 f69 f70 f71 f72 f103 f104 f105 f106 f107 f108 f109 f110 f111 f112 f113 f114 f115 f116 f119 f120 f121 f122 f130 f131 f132 f133 f134 f135 f136 f137 f138 f139 f140 f141 f142 f143 f146 f147 f148; have t0_ := hI0.t0; have t1_ := hI0.t1; have o := (hR_15.1 i i0 i1).1; have x := eA_ti (j := i) (((hF79.2.1 2 (by decide)).trans (hF8.2.1 2 (by decide)))); have m := q86 (10 + 3 * i) (by omega) (by omega); have y1 := eA_ti (j := ((10 + 3 * i))) (hF8.2.1 233 (by decide)); first | exact x.trans (o.trans (m.trans y1).symm) | omega) | (have t0_ := hI0.t0; have t1_ := hI0.t1; have o := (hR_15.1 i i0 i1).1; have x := eA_ti (j := i) (((hF79.2.1 2 (by decide)).trans (hF8.2.1 2 (by decide)))); have m := q86 (10 + 3 * i) (by omega) (by omega); have y1 := eA_ti (j := ((10 + 3 * i))) (hF8.2.1 233 (by decide)); first | exact x.trans (o.trans (m.trans y1).symm) | omega)), (by first | (clear f26 f27 f28 f29 f30 f31 f32 f33 f34 f35 f36 f37 f38 f39 f42 f43 f44 f53 f54 f55 f56 f57 f58 f59 f60 f61 f62 f63 f64 f65 f66 f69 f70 f71 f72 f103 f104 f105 f106 f107 f108 f109 f110 f111 f112 f113 f114 f115 f116 f119 f120 f121 f122 f130 f131 f132 f133 f134 f135 f136 f137 f138 f139 f140 f141 f142 f143 f146 f147 f148; have t0_ := hI0.t0; have t1_ := hI0.t1; have o := (hR_15.1 i i0 i1).2.1; have x := eA_ti (j := i) (((hF79.2.1 3 (by decide)).trans (hF8.2.1 3 (by decide)))); have m := q86 (10 + 3 * i + 1) (by omega) (by omega); have y1 := eA_ti (j := ((10 + 3 * i + 1))) (hF8.2.1 233 (by decide)); first | exact x.trans (o.trans (m.trans y1).symm) | omega) | (have t0_ := hI0.t0; have t1_ := hI0.t1; have o := (hR_15.1 i i0 i1).2.1; have x := eA_ti (j := i) (((hF79.2.1 3 (by decide)).trans (hF8.2.1 3 (by decide)))); have m := q86 (10 + 3 * i + 1) (by omega) (by omega); have y1 := eA_ti (j := ((10 + 3 * i + 1))) (hF8.2.1 233 (by decide)); first | exact x.trans (o.trans (m.trans y1).symm) | omega)), (by first | (clear f26 f27 f28 f29 f30 f31 f32 f33 f34 f35 f36 f37 f38 f39 f42 f43 f44 f53 f54 f55 f56 f57 f58 f59 f60 f61 f62 f63 f64 f65 f66 f69 f70 f71 f72 f103 f104 f105 f106 f107 f108 f109 f110 f111 f112 f113 f114 f115 f116 f119 f120 f121 f122 f130 f131 f132 f133 f134 f135 f136 f137 f138 f139 f140 f141 f142 f143 f146 f147 f148; have t0_ := hI0.t0; have t1_ := hI0.t1; have o := (hR_15.1 i i0 i1).2.2; have x := eA_ti (j := i) (((hF79.2.1 4 (by decide)).trans (hF8.2.1 4 (by decide)))); have m := q86 (10 + 3 * i + 2) (by omega) (by omega); have y1 := eA_ti (j := ((10 + 3 * i + 2))) (hF8.2.1 233 (by decide)); first | exact x.trans (o.trans (m.trans y1).symm) | omega) | (have t0_ := hI0.t0; have t1_ := hI0.t1; have o := (hR_15.1 i i0 i1).2.2; have x := eA_ti (j := i) (((hF79.2.1 4 (by decide)).trans (hF8.2.1 4 (by decide)))); have m := q86 (10 + 3 * i + 2) (by omega) (by omega); have y1 := eA_ti (j := ((10 + 3 * i + 2))) (hF8.2.1 233 (by decide)); first | exact x.trans (o.trans (m.trans y1).symm) | omega))⟩, fun i i0 i1 => ⟨(by first | (clear f26 f27 f28 f29 f30 f31 f32 f33 f34 f35 f36 f37 f38 f39 f42 f43 f44 f53 f54 f55 f56 f57 f58 f59 f60 f61 f62 f63 f64 f65 f66 f69 f70 f71 f72 f103 f104 f105 f106 f107 f108 f109 f110 f111 f112 f113 f114 f115 f116 f119 f120 f121 f122 f130 f131 f132 f133 f134 f135 f136 f137 f138 f139 f140 f141 f142 f143 f146 f147 f148; have t0_ := hI0.t0; have t1_ := hI0.t1; have o := (hR_15.2.1 i i0 i1).1; have x := eA_ti (j := i) (((hF79.2.1 14 (by decide)).trans (hF8.2.1 14 (by decide)))); have m := q86 (94 + 2 * i) (by omega) (by omega); have y1 := eA_ti (j := ((94 + 2 * i))) (hF8.2.1 233 (by decide)); first | exact x.trans (o.trans (m.trans y1).symm) | omega) | (have t0_ := hI0.t0; have t1_ := hI0.t1; have o := (hR_15.2.1 i i0 i1).1; have x := eA_ti (j := i) (((hF79.2.1 14 (by decide)).trans (hF8.2.1 14 (by decide)))); have m := q86 (94 + 2 * i) (by omega) (by omega); have y1 := eA_ti (j := ((94 + 2 * i))) (hF8.2.1 233 (by decide)); first | exact x.trans (o.trans (m.trans y1).symm) | omega)), (by first | (clear f26 f27 f28 f29 f30 f31 f32 f33 f34 f35 f36 f37 f38 f39 f42 f43 f44 f53 f54 f55 f56 f57 f58 f59 f60 f61 f62 f63 f64 f65 f66 f69 f70 f71 f72 f103 f104 f105 f106 f107 f108 f109 f110 f111 f112 f113 f114 f115 f116 f119 f120 f121 f122 f130 f131 f132 f133 f134 f135 f136 f137 f138 f139 f140 f141 f142 f143 f146 f147 f148; have t0_ := hI0.t0; have t1_ := hI0.t1; have o := (hR_15.2.1 i i0 i1).2; have x := eA_ti (j := i) (((hF79.2.1 15 (by decide)).trans (hF8.2.1 15 (by decide)))); have m := q86 (94 + 2 * i + 1) (by omega) (by omega); have y1 := eA_ti (j := ((94 + 2 * i + 1))) (hF8.2.1 233 (by decide)); first | exact x.trans (o.trans (m.trans y1).symm) | omega) | (have t0_ := hI0.t0; have t1_ := hI0.t1; have o := (hR_15.2.1 i i0 i1).2; have x := eA_ti (j := i) (((hF79.2.1 15 (by decide)).trans (hF8.2.1 15 (by decide)))); have m := q86 (94 + 2 * i + 1) (by omega) (by omega); have y1 := eA_ti (j := ((94 + 2 * i + 1))) (hF8.2.1 233 (by decide)); first | exact x.trans (o.trans (m.trans y1).symm) | omega))⟩, fun i i0 i1 => (by first | (clear f26 f27 f28 f29 f30 f31 f32 f33 f34 f35 f36 f37 f38 f39 f42 f43 f44 f53 f54 f55 f56 f57 f58 f59 f60 f61 f62 f63 f64 f65 f66 f69 f70 f71 f72 f103 f104 f105 f106 f107 f108 f109 f110 f111 f112 f113 f114 f115 f116 f119 f120 f121 f122 f130 f131 f132 f133 f134 f135 f136 f137 f138 f139 f140 f141 f142 f143 f146 f147 f148; have t0_ := hI0.t0; have t1_ := hI0.t1; have o : i < 6 * (gI g0 1 4).toInt → _ := fun hz => hR_15.2.2 i i0 hz; have x := eA_ti (j := i) (((hF79.2.1 5 (by decide)).trans (hF8.2.1 5 (by decide)))); have m := q86 (46 + i) (by omega) (by omega); have y1 := eA_ti (j := ((46 + i))) (hF8.2.1 233 (by decide)); omega) | (have t0_ := hI0.t0; have t1_ := hI0.t1; have o : i < 6 * (gI g0 1 4).toInt → _ := fun hz => hR_15.2.2 i i0 hz; have x := eA_ti (j := i) (((hF79.2.1 5 (by decide)).trans (hF8.2.1 5 (by decide)))); have m := q86 (46 + i) (by omega) (by omega); have y1 := eA_ti (j := ((46 + i))) (hF8.2.1 233 (by decide)); omega))⟩), CI0.cong hR_16 (((hF79.2.1 60 (by decide)).trans (hF8.2.1 60 (by decide)))) (((hF79.2.1 61 (by decide)).trans (hF8.2.1 61 (by decide)))) (((hF79.2.1 62 (by decide)).trans (hF8.2.1 62 (by decide)))) (((hF79.2.1 72 (by decide)).trans (hF8.2.1 72 (by decide)))) (((hF79.2.1 73 (by decide)).trans (hF8.2.1 73 (by decide)))) (((hF79.2.1 63 (by decide)).trans (hF8.2.1 63 (by decide)))) (((hF79.2.1 234 (by decide)).trans (hF8.2.1 234 (by decide)))) (congrArg Int32.toInt (((hF79.1 59 4 (by decide)).trans (hF8.1 59 4 (by decide))))), CI1.cong hR_17 (((hF79.2.1 117 (by decide)).trans (hF8.2.1 117 (by decide)))) (((hF79.2.1 118 (by decide)).trans (hF8.2.1 118 (by decide)))) (((hF79.2.1 119 (by decide)).trans (hF8.2.1 119 (by decide)))) (((hF79.2.1 129 (by decide)).trans (hF8.2.1 129 (by decide)))) (((hF79.2.1 130 (by decide)).trans (hF8.2.1 130 (by decide)))) (((hF79.2.1 120 (by decide)).trans (hF8.2.1 120 (by decide)))) (((hF79.2.1 234 (by decide)).trans (hF8.2.1 234 (by decide)))) (congrArg Int32.toInt (((hF79.1 116 4 (by decide)).trans (hF8.1 116 4 (by decide))))), (show RT _ from fun i i0 i1 => (eA_ti (((hF79.2.1 175 (by decide)).trans (hF8.2.1 175 (by decide))))).trans ((hR_18 i i0 (by omega)).trans (eA_ti (((hF79.2.1 236 (by decide)).trans (hF8.2.1 236 (by decide))))).symm)), (show BYX _ from fun i i0 i1 => by rw [TX.c (((hF79.2.1 175 (by decide)).trans (hF8.2.1 175 (by decide))))]; exact hR_19 i i0 (by have i2 : i < (gI _ 174 1).toInt := i1; show i < (gI g0 174 1).toInt; omega))⟩)
  · refine r_callV 472 rfl [.ref 0, .int v2, .int v4] [] (Nat.le_of_ble_eq_true rfl) rfl (T_X10_terms_0 _ hI0 v2 v4) ?_
    rintro _ _ ⟨g150, rfl, hI151, hF152, v153, rfl, hr154⟩
    refine At.sti ?_
    have hF155 := Fr.tr hF0 hF152 rfl rfl
    have su156 := hr154.2.2
    obtain ⟨q157, q158⟩ := (And.intro hr154.1 hr154.2.1)
    obtain ⟨i160, i161, i162⟩ := q158
    have w159 := i161 pk5
    clear i160 i161 i162
    have f163 := congrArg Int32.toInt (hF152.1 1 0 rfl)
    have f164 := congrArg Int32.toInt (hF152.1 1 12 rfl)
    have f167 := congrArg Int32.toInt (hF152.1 1 4 rfl)
    have f168 := congrArg Int32.toInt (hF152.1 1 6 rfl)
    have f169 := congrArg Int32.toInt (hF152.1 1 9 rfl)
    have f170 := congrArg Int32.toInt (hF152.1 59 0 rfl)
    have f171 := congrArg Int32.toInt (hF152.1 59 12 rfl)
    have f172 := congrArg Int32.toInt (hF152.1 59 10 rfl)
    have f173 := congrArg Int32.toInt (hF152.1 59 11 rfl)
    have f174 := congrArg Int32.toInt (hF152.1 59 4 rfl)
    have f175 := congrArg Int32.toInt (hF152.1 59 6 rfl)
    have f176 := congrArg Int32.toInt (hF152.1 59 9 rfl)
    have f177 := congrArg Int32.toInt (hF152.1 116 0 rfl)
    have f178 := congrArg Int32.toInt (hF152.1 116 12 rfl)
    have f179 := congrArg Int32.toInt (hF152.1 116 10 rfl)
    have f180 := congrArg Int32.toInt (hF152.1 116 11 rfl)
    have f181 := congrArg Int32.toInt (hF152.1 116 4 rfl)
    have f182 := congrArg Int32.toInt (hF152.1 116 6 rfl)
    have f183 := congrArg Int32.toInt (hF152.1 116 9 rfl)
    have f184 := congrArg Int32.toInt (eA_c (j := 0) (hF152.2.1 173 rfl))
    have f185 := congrArg Int32.toInt (eA_c (j := 1) (hF152.2.1 173 rfl))
    have f186 := congrArg Int32.toInt (hF152.1 174 1 rfl)
    have f187 := congrArg Int32.toInt (hF152.1 0 16 rfl)
    have f188 := congrArg Int32.toInt (hF152.1 176 2 rfl)
    have f190 := congrArg Int32.toInt (eA_c (j := 0) (hF152.2.1 233 rfl))
    have f191 := congrArg Int32.toInt (eA_c (j := 4) (hF152.2.1 233 rfl))
    have f192 := congrArg Int32.toInt (eA_c (j := 5) (hF152.2.1 233 rfl))
    have f193 := congrArg Int32.toInt (eA_c (j := 6) (hF152.2.1 233 rfl))
    have f194 := congrArg Int32.toInt (eA_c (j := 1) (hF152.2.1 233 rfl))
    have f195 := congrArg Int32.toInt (eA_c (j := 2) (hF152.2.1 233 rfl))
    have f196 := congrArg Int32.toInt (eA_c (j := 3) (hF152.2.1 233 rfl))
    have f197 := congrArg Int32.toInt (eA_c (j := 0) (hF152.2.1 234 rfl))
    have f198 := congrArg Int32.toInt (eA_c (j := 4) (hF152.2.1 234 rfl))
    have f199 := congrArg Int32.toInt (eA_c (j := 5) (hF152.2.1 234 rfl))
    have f200 := congrArg Int32.toInt (eA_c (j := 6) (hF152.2.1 234 rfl))
    have f201 := congrArg Int32.toInt (eA_c (j := 1) (hF152.2.1 234 rfl))
    have f202 := congrArg Int32.toInt (eA_c (j := 2) (hF152.2.1 234 rfl))
    have f203 := congrArg Int32.toInt (eA_c (j := 3) (hF152.2.1 234 rfl))
    have f204 := congrArg Int32.toInt (eA_c (j := 5510) (hF152.2.1 234 rfl))
    have f205 := congrArg Int32.toInt (eA_c (j := 5514) (hF152.2.1 234 rfl))
    have f206 := congrArg Int32.toInt (eA_c (j := 5515) (hF152.2.1 234 rfl))
    have f207 := congrArg Int32.toInt (eA_c (j := 5516) (hF152.2.1 234 rfl))
    have f208 := congrArg Int32.toInt (eA_c (j := 5511) (hF152.2.1 234 rfl))
    have f209 := congrArg Int32.toInt (eA_c (j := 5512) (hF152.2.1 234 rfl))
    have f210 := congrArg Int32.toInt (eA_c (j := 5513) (hF152.2.1 234 rfl))
    have f211 := congrArg Int32.toInt (eA_c (j := 0) (hF152.2.1 235 rfl))
    have f212 := congrArg Int32.toInt (eA_c (j := 1) (hF152.2.1 235 rfl))
    have f213 := congrArg Int32.toInt (hF152.1 231 8 rfl)
    have f214 := congrArg Int32.toInt (hF152.1 231 6 rfl)
    have f215 := congrArg Int32.toInt (hF152.1 231 13 rfl)
    have f216 := congrArg Int32.toInt (hF152.1 231 1 rfl)
    refine At.enter rfl ?_
    refine r_pop rfl ?_
    refine r_aload_n e2 ?_
    refine r_sload_n e0 ?_
    refine r_iload_n e3 ?_
    refine r_iconst 1 rfl ?_
    refine q_iadd (i.toInt + 1) rfl hx_1 (fun v217 hv217 => ?_)
    refine q_scald (m := L) hL (i.toInt + 1) hv217 hy_1 (fun v218 hv218 => ?_)
    have sv218 := hv2.symm.trans hv218
    subst sv218
    refine r_sload_n e0 ?_
    refine r_iload_n e3 ?_
    refine r_iconst 2 rfl ?_
    refine q_iadd (i.toInt + 2) rfl hx_2 (fun v219 hv219 => ?_)
    refine q_scald (m := L) hL (i.toInt + 2) hv219 hy_2 (fun v220 hv220 => ?_)
    have sv220 := hv4.symm.trans hv220
    subst sv220
    refine r_callV 487 rfl [.ref 231, .int v2, .int v4] [] (Nat.le_of_ble_eq_true rfl) rfl (T_X11_terms_231 _ hI151 v2 v4) ?_
    rintro _ _ ⟨g221, rfl, hI222, hF223, v224, rfl, hr225⟩
    refine At.sti ?_
    have hF226 := Fr.tr hF155 hF223 rfl rfl
    have su227 := hr225.2.2
    obtain ⟨q228, q229, q230⟩ := (And.intro hr225.1 hr225.2.1)
    obtain ⟨⟨i232, i233, i234⟩, sm235, sm236, sm237, sm238, sm239⟩ := q229
    have w231 := i233 pk5
    clear i232 i233 i234
    have f240 := congrArg Int32.toInt (hF223.1 1 0 rfl)
    have f241 := congrArg Int32.toInt (hF223.1 1 12 rfl)
    have f242 := congrArg Int32.toInt (hF223.1 1 10 rfl)
    have f243 := congrArg Int32.toInt (hF223.1 1 11 rfl)
    have f244 := congrArg Int32.toInt (hF223.1 1 4 rfl)
    have f245 := congrArg Int32.toInt (hF223.1 1 6 rfl)
    have f246 := congrArg Int32.toInt (hF223.1 1 9 rfl)
    have f247 := congrArg Int32.toInt (hF223.1 59 0 rfl)
    have f248 := congrArg Int32.toInt (hF223.1 59 12 rfl)
    have f249 := congrArg Int32.toInt (hF223.1 59 10 rfl)
    have f250 := congrArg Int32.toInt (hF223.1 59 11 rfl)
    have f251 := congrArg Int32.toInt (hF223.1 59 4 rfl)
    have f252 := congrArg Int32.toInt (hF223.1 59 6 rfl)
    have f253 := congrArg Int32.toInt (hF223.1 59 9 rfl)
    have f254 := congrArg Int32.toInt (hF223.1 116 0 rfl)
    have f255 := congrArg Int32.toInt (hF223.1 116 12 rfl)
    have f256 := congrArg Int32.toInt (hF223.1 116 10 rfl)
    have f257 := congrArg Int32.toInt (hF223.1 116 11 rfl)
    have f258 := congrArg Int32.toInt (hF223.1 116 4 rfl)
    have f259 := congrArg Int32.toInt (hF223.1 116 6 rfl)
    have f260 := congrArg Int32.toInt (hF223.1 116 9 rfl)
    have f261 := congrArg Int32.toInt (eA_c (j := 0) (hF223.2.1 173 rfl))
    have f262 := congrArg Int32.toInt (eA_c (j := 1) (hF223.2.1 173 rfl))
    have f263 := congrArg Int32.toInt (hF223.1 174 1 rfl)
    have f264 := congrArg Int32.toInt (hF223.1 0 16 rfl)
    have f265 := congrArg Int32.toInt (hF223.1 176 2 rfl)
    have f266 := congrArg Int32.toInt (hF223.1 0 17 rfl)
    have f274 := congrArg Int32.toInt (eA_c (j := 0) (hF223.2.1 234 rfl))
    have f275 := congrArg Int32.toInt (eA_c (j := 4) (hF223.2.1 234 rfl))
    have f276 := congrArg Int32.toInt (eA_c (j := 5) (hF223.2.1 234 rfl))
    have f277 := congrArg Int32.toInt (eA_c (j := 6) (hF223.2.1 234 rfl))
    have f278 := congrArg Int32.toInt (eA_c (j := 1) (hF223.2.1 234 rfl))
    have f279 := congrArg Int32.toInt (eA_c (j := 2) (hF223.2.1 234 rfl))
    have f280 := congrArg Int32.toInt (eA_c (j := 3) (hF223.2.1 234 rfl))
    have f281 := congrArg Int32.toInt (eA_c (j := 5510) (hF223.2.1 234 rfl))
    have f282 := congrArg Int32.toInt (eA_c (j := 5514) (hF223.2.1 234 rfl))
    have f283 := congrArg Int32.toInt (eA_c (j := 5515) (hF223.2.1 234 rfl))
    have f284 := congrArg Int32.toInt (eA_c (j := 5516) (hF223.2.1 234 rfl))
    have f285 := congrArg Int32.toInt (eA_c (j := 5511) (hF223.2.1 234 rfl))
    have f286 := congrArg Int32.toInt (eA_c (j := 5512) (hF223.2.1 234 rfl))
    have f287 := congrArg Int32.toInt (eA_c (j := 5513) (hF223.2.1 234 rfl))
    have f288 := congrArg Int32.toInt (eA_c (j := 0) (hF223.2.1 235 rfl))
    have f289 := congrArg Int32.toInt (eA_c (j := 1) (hF223.2.1 235 rfl))
    have f290 := congrArg Int32.toInt (hF223.1 231 8 rfl)
    have f291 := congrArg Int32.toInt (hF223.1 231 6 rfl)
    have f292 := congrArg Int32.toInt (hF223.1 231 13 rfl)
    refine At.enter rfl ?_
    refine r_pop rfl ?_
    refine r_goto ?_
    have zsu := SU3.eq su156 su227 Iff.rfl Iff.rfl
    exact K _ hI222 (show LwR _ from ⟨by first | (clear f164 f167 f168 f169 f170 f171 f172 f173 f174 f175 f176 f177 f178 f179 f180 f181 f182 f183 f184 f185 f186 f187 f188 f191 f192 f193 f194 f195 f196 f197 f198 f199 f200 f201 f202 f203 f204 f205 f206 f207 f208 f209 f210 f211 f212 f213 f214 f215 f216 f241 f242 f243 f244 f245 f246 f247 f248 f249 f250 f251 f252 f253 f254 f255 f256 f257 f258 f259 f260 f261 f262 f263 f264 f265 f266 f274 f275 f276 f277 f278 f279 f280 f281 f282 f283 f284 f285 f286 f287 f288 f289 f290 f291 f292; omega) | omega, by first | (clear f163 f167 f168 f169 f170 f171 f172 f173 f174 f175 f176 f177 f178 f179 f180 f181 f182 f183 f184 f185 f186 f187 f188 f190 f192 f193 f194 f195 f196 f197 f198 f199 f200 f201 f202 f203 f204 f205 f206 f207 f208 f209 f210 f211 f212 f213 f214 f215 f216 f240 f242 f243 f244 f245 f246 f247 f248 f249 f250 f251 f252 f253 f254 f255 f256 f257 f258 f259 f260 f261 f262 f263 f264 f265 f266 f274 f275 f276 f277 f278 f279 f280 f281 f282 f283 f284 f285 f286 f287 f288 f289 f290 f291 f292; omega) | omega, by first | (clear f163 f164 f167 f168 f169 f170 f171 f172 f173 f174 f175 f176 f177 f178 f179 f180 f181 f182 f183 f184 f185 f186 f187 f188 f190 f191 f193 f194 f195 f196 f197 f198 f199 f200 f201 f202 f203 f204 f205 f206 f207 f208 f209 f210 f211 f212 f213 f214 f215 f216 f240 f241 f243 f244 f245 f246 f247 f248 f249 f250 f251 f252 f253 f254 f255 f256 f257 f258 f259 f260 f261 f262 f263 f264 f265 f266 f274 f275 f276 f277 f278 f279 f280 f281 f282 f283 f284 f285 f286 f287 f288 f289 f290 f291 f292; omega) | omega, by first | (clear f163 f164 f167 f168 f169 f170 f171 f172 f173 f174 f175 f176 f177 f178 f179 f180 f181 f182 f183 f184 f185 f186 f187 f188 f190 f191 f192 f194 f195 f196 f197 f198 f199 f200 f201 f202 f203 f204 f205 f206 f207 f208 f209 f210 f211 f212 f213 f214 f215 f216 f240 f241 f242 f244 f245 f246 f247 f248 f249 f250 f251 f252 f253 f254 f255 f256 f257 f258 f259 f260 f261 f262 f263 f264 f265 f266 f274 f275 f276 f277 f278 f279 f280 f281 f282 f283 f284 f285 f286 f287 f288 f289 f290 f291 f292; omega) | omega, by first | (clear f163 f164 f168 f169 f170 f171 f172 f173 f174 f175 f176 f177 f178 f179 f180 f181 f182 f183 f184 f185 f186 f187 f188 f190 f191 f192 f193 f195 f196 f197 f198 f199 f200 f201 f202 f203 f204 f205 f206 f207 f208 f209 f210 f211 f212 f213 f214 f215 f216 f240 f241 f242 f243 f245 f246 f247 f248 f249 f250 f251 f252 f253 f254 f255 f256 f257 f258 f259 f260 f261 f262 f263 f264 f265 f266 f274 f275 f276 f277 f278 f279 f280 f281 f282 f283 f284 f285 f286 f287 f288 f289 f290 f291 f292; omega) | omega, by first | (clear f163 f164 f167 f169 f170 f171 f172 f173 f174 f175 f176 f177 f178 f179 f180 f181 f182 f183 f184 f185 f186 f187 f188 f190 f191 f192 f193 f194 f196 f197 f198 f199 f200 f201 f202 f203 f204 f205 f206 f207 f208 f209 f210 f211 f212 f213 f214 f215 f216 f240 f241 f242 f243 f244 f246 f247 f248 f249 f250 f251 f252 f253 f254 f255 f256 f257 f258 f259 f260 f261 f262 f263 f264 f265 f266 f274 f275 f276 f277 f278 f279 f280 f281 f282 f283 f284 f285 f286 f287 f288 f289 f290 f291 f292; omega) | omega, by first | (clear f163 f164 f167 f168 f170 f171 f172 f173 f174 f175 f176 f177 f178 f179 f180 f181 f182 f183 f184 f185 f186 f187 f188 f190 f191 f192 f193 f194 f195 f197 f198 f199 f200 f201 f202 f203 f204 f205 f206 f207 f208 f209 f210 f211 f212 f213 f214 f215 f216 f240 f241 f242 f243 f244 f245 f247 f248 f249 f250 f251 f252 f253 f254 f255 f256 f257 f258 f259 f260 f261 f262 f263 f264 f265 f266 f274 f275 f276 f277 f278 f279 f280 f281 f282 f283 f284 f285 f286 f287 f288 f289 f290 f291 f292; omega) | omega, (eA_ti (j := 0) (((hF223.2.1 173 (by decide)).trans (hF152.2.1 173 (by decide))))).trans (hR_7.trans (eA_ti (j := 0) (((hF223.2.1 235 (by decide)).trans (hF152.2.1 235 (by decide))))).symm), (eA_ti (j := 1) (((hF223.2.1 173 (by decide)).trans (hF152.2.1 173 (by decide))))).trans (hR_8.trans (eA_ti (j := 1) (((hF223.2.1 235 (by decide)).trans (hF152.2.1 235 (by decide))))).symm), (congrArg Int32.toInt (((hF223.1 174 1 (by decide)).trans (hF152.1 174 1 (by decide))))).trans (hR_9.trans (congrArg Int32.toInt (((hF223.1 231 8 (by decide)).trans (hF152.1 231 8 (by decide))))).symm), (congrArg Int32.toInt (((hF223.1 0 16 (by decide)).trans (hF152.1 0 16 (by decide))))).trans (hR_10.trans (congrArg Int32.toInt (((hF223.1 231 6 (by decide)).trans (hF152.1 231 6 (by decide))))).symm), (congrArg Int32.toInt (((hF223.1 176 2 (by decide)).trans (hF152.1 176 2 (by decide))))).trans (hR_11.trans (congrArg Int32.toInt (((hF223.1 231 13 (by decide)).trans (hF152.1 231 13 (by decide))))).symm), by first | (clear f163 f164 f167 f168 f169 f170 f171 f172 f173 f174 f175 f176 f177 f178 f179 f180 f181 f182 f183 f184 f185 f186 f187 f188 f190 f191 f192 f193 f194 f195 f196 f197 f198 f199 f200 f201 f202 f203 f204 f205 f206 f207 f208 f209 f210 f211 f212 f213 f214 f215 f240 f241 f242 f243 f244 f245 f246 f247 f248 f249 f250 f251 f252 f253 f254 f255 f256 f257 f258 f259 f260 f261 f262 f263 f264 f265 f274 f275 f276 f277 f278 f279 f280 f281 f282 f283 f284 f285 f286 f287 f288 f289 f290 f291 f292; omega) | omega, IM0.cong hR_13 (eA_ti (j := 0) (((hF223.2.1 173 (by decide)).trans (hF152.2.1 173 (by decide))))) (congrArg Int32.toInt (((hF223.1 59 0 (by decide)).trans (hF152.1 59 0 (by decide))))) (eA_ti (j := 0) (((hF223.2.1 234 (by decide)).trans (hF152.2.1 234 (by decide))))) (congrArg Int32.toInt (((hF223.1 59 12 (by decide)).trans (hF152.1 59 12 (by decide))))) (eA_ti (j := 4) (((hF223.2.1 234 (by decide)).trans (hF152.2.1 234 (by decide))))) (congrArg Int32.toInt (((hF223.1 59 10 (by decide)).trans (hF152.1 59 10 (by decide))))) (eA_ti (j := 5) (((hF223.2.1 234 (by decide)).trans (hF152.2.1 234 (by decide))))) (congrArg Int32.toInt (((hF223.1 59 11 (by decide)).trans (hF152.1 59 11 (by decide))))) (eA_ti (j := 6) (((hF223.2.1 234 (by decide)).trans (hF152.2.1 234 (by decide))))) (congrArg Int32.toInt (((hF223.1 59 4 (by decide)).trans (hF152.1 59 4 (by decide))))) (eA_ti (j := 1) (((hF223.2.1 234 (by decide)).trans (hF152.2.1 234 (by decide))))) (congrArg Int32.toInt (((hF223.1 59 6 (by decide)).trans (hF152.1 59 6 (by decide))))) (eA_ti (j := 2) (((hF223.2.1 234 (by decide)).trans (hF152.2.1 234 (by decide))))) (congrArg Int32.toInt (((hF223.1 59 9 (by decide)).trans (hF152.1 59 9 (by decide))))) (eA_ti (j := 3) (((hF223.2.1 234 (by decide)).trans (hF152.2.1 234 (by decide))))), IM1.cong hR_14 (eA_ti (j := 1) (((hF223.2.1 173 (by decide)).trans (hF152.2.1 173 (by decide))))) (congrArg Int32.toInt (((hF223.1 116 0 (by decide)).trans (hF152.1 116 0 (by decide))))) (eA_ti (j := 5510) (((hF223.2.1 234 (by decide)).trans (hF152.2.1 234 (by decide))))) (congrArg Int32.toInt (((hF223.1 116 12 (by decide)).trans (hF152.1 116 12 (by decide))))) (eA_ti (j := 5514) (((hF223.2.1 234 (by decide)).trans (hF152.2.1 234 (by decide))))) (congrArg Int32.toInt (((hF223.1 116 10 (by decide)).trans (hF152.1 116 10 (by decide))))) (eA_ti (j := 5515) (((hF223.2.1 234 (by decide)).trans (hF152.2.1 234 (by decide))))) (congrArg Int32.toInt (((hF223.1 116 11 (by decide)).trans (hF152.1 116 11 (by decide))))) (eA_ti (j := 5516) (((hF223.2.1 234 (by decide)).trans (hF152.2.1 234 (by decide))))) (congrArg Int32.toInt (((hF223.1 116 4 (by decide)).trans (hF152.1 116 4 (by decide))))) (eA_ti (j := 5511) (((hF223.2.1 234 (by decide)).trans (hF152.2.1 234 (by decide))))) (congrArg Int32.toInt (((hF223.1 116 6 (by decide)).trans (hF152.1 116 6 (by decide))))) (eA_ti (j := 5512) (((hF223.2.1 234 (by decide)).trans (hF152.2.1 234 (by decide))))) (congrArg Int32.toInt (((hF223.1 116 9 (by decide)).trans (hF152.1 116 9 (by decide))))) (eA_ti (j := 5513) (((hF223.2.1 234 (by decide)).trans (hF152.2.1 234 (by decide))))), (show CT _ from ⟨fun i i0 i1 => ⟨(by first | (clear f170 f171 f172 f173 f174 f175 f176 f177 f178 f179 f180 f181 f182 f183 f186 f187 f188 f197 f198 f199 f200 f201 f202 f203 f204 f205 f206 f207 f208 f209 f210 f213 f214 f215 f216 f247 f248 f249 f250 f251 f252 f253 f254 f255 f256 f257 f258 f259 f260 f263 f264 f265 f266 f274 f275 f276 f277 f278 f279 f280 f281 f282 f283 f284 f285 f286 f287 f290 f291 f292; have t0_ := hI0.t0; have t1_ := hI0.t1; have o := (hR_15.1 i i0 i1).1; have x := eA_ti (j := i) (((hF223.2.1 2 (by decide)).trans (hF152.2.1 2 (by decide)))); have m := q230 (10 + 3 * i) (by omega) (by omega); have y1 := eA_ti (j := ((10 + 3 * i))) (hF152.2.1 233 (by decide)); first | exact x.trans (o.trans (m.trans y1).symm) | omega) | (have t0_ := hI0.t0; have t1_ := hI0.t1; have o := (hR_15.1 i i0 i1).1; have x := eA_ti (j := i) (((hF223.2.1 2 (by decide)).trans (hF152.2.1 2 (by decide)))); have m := q230 (10 + 3 * i) (by omega) (by omega); have y1 := eA_ti (j := ((10 + 3 * i))) (hF152.2.1 233 (by decide)); first | exact x.trans (o.trans (m.trans y1).symm) | omega)), (by first | (clear f170 f171 f172 f173 f174 f175 f176 f177 f178 f179 f180 f181 f182 f183 f186 f187 f188 f197 f198 f199 f200 f201 f202 f203 f204 f205 f206 f207 f208 f209 f210 f213 f214 f215 f216 f247 f248 f249 f250 f251 f252 f253 f254 f255 f256 f257 f258 f259 f260 f263 f264 f265 f266 f274 f275 f276 f277 f278 f279 f280 f281 f282 f283 f284 f285 f286 f287 f290 f291 f292; have t0_ := hI0.t0; have t1_ := hI0.t1; have o := (hR_15.1 i i0 i1).2.1; have x := eA_ti (j := i) (((hF223.2.1 3 (by decide)).trans (hF152.2.1 3 (by decide)))); have m := q230 (10 + 3 * i + 1) (by omega) (by omega); have y1 := eA_ti (j := ((10 + 3 * i + 1))) (hF152.2.1 233 (by decide)); first | exact x.trans (o.trans (m.trans y1).symm) | omega) | (have t0_ := hI0.t0; have t1_ := hI0.t1; have o := (hR_15.1 i i0 i1).2.1; have x := eA_ti (j := i) (((hF223.2.1 3 (by decide)).trans (hF152.2.1 3 (by decide)))); have m := q230 (10 + 3 * i + 1) (by omega) (by omega); have y1 := eA_ti (j := ((10 + 3 * i + 1))) (hF152.2.1 233 (by decide)); first | exact x.trans (o.trans (m.trans y1).symm) | omega)), (by first | (clear f170 f171 f172 f173 f174 f175 f176 f177 f178 f179 f180 f181 f182 f183 f186 f187 f188 f197 f198 f199 f200 f201 f202 f203 f204 f205 f206 f207 f208 f209 f210 f213 f214 f215 f216 f247 f248 f249 f250 f251 f252 f253 f254 f255 f256 f257 f258 f259 f260 f263 f264 f265 f266 f274 f275 f276 f277 f278 f279 f280 f281 f282 f283 f284 f285 f286 f287 f290 f291 f292; have t0_ := hI0.t0; have t1_ := hI0.t1; have o := (hR_15.1 i i0 i1).2.2; have x := eA_ti (j := i) (((hF223.2.1 4 (by decide)).trans (hF152.2.1 4 (by decide)))); have m := q230 (10 + 3 * i + 2) (by omega) (by omega); have y1 := eA_ti (j := ((10 + 3 * i + 2))) (hF152.2.1 233 (by decide)); first | exact x.trans (o.trans (m.trans y1).symm) | omega) | (have t0_ := hI0.t0; have t1_ := hI0.t1; have o := (hR_15.1 i i0 i1).2.2; have x := eA_ti (j := i) (((hF223.2.1 4 (by decide)).trans (hF152.2.1 4 (by decide)))); have m := q230 (10 + 3 * i + 2) (by omega) (by omega); have y1 := eA_ti (j := ((10 + 3 * i + 2))) (hF152.2.1 233 (by decide)); first | exact x.trans (o.trans (m.trans y1).symm) | omega))⟩, fun i i0 i1 => ⟨(by first | (clear f170 f171 f172 f173 f174 f175 f176 f177 f178 f179 f180 f181 f182 f183 f186 f187 f188 f197 f198 f199 f200 f201 f202 f203 f204 f205 f206 f207 f208 f209 f210 f213 f214 f215 f216 f247 f248 f249 f250 f251 f252 f253 f254 f255 f256 f257 f258 f259 f260 f263 f264 f265 f266 f274 f275 f276 f277 f278 f279 f280 f281 f282 f283 f284 f285 f286 f287 f290 f291 f292; have t0_ := hI0.t0; have t1_ := hI0.t1; have o := (hR_15.2.1 i i0 i1).1; have x := eA_ti (j := i) (((hF223.2.1 14 (by decide)).trans (hF152.2.1 14 (by decide)))); have m := q230 (94 + 2 * i) (by omega) (by omega); have y1 := eA_ti (j := ((94 + 2 * i))) (hF152.2.1 233 (by decide)); first | exact x.trans (o.trans (m.trans y1).symm) | omega) | (have t0_ := hI0.t0; have t1_ := hI0.t1; have o := (hR_15.2.1 i i0 i1).1; have x := eA_ti (j := i) (((hF223.2.1 14 (by decide)).trans (hF152.2.1 14 (by decide)))); have m := q230 (94 + 2 * i) (by omega) (by omega); have y1 := eA_ti (j := ((94 + 2 * i))) (hF152.2.1 233 (by decide)); first | exact x.trans (o.trans (m.trans y1).symm) | omega)), (by first | (clear f170 f171 f172 f173 f174 f175 f176 f177 f178 f179 f180 f181 f182 f183 f186 f187 f188 f197 f198 f199 f200 f201 f202 f203 f204 f205 f206 f207 f208 f209 f210 f213 f214 f215 f216 f247 f248 f249 f250 f251 f252 f253 f254 f255 f256 f257 f258 f259 f260 f263 f264 f265 f266 f274 f275 f276 f277 f278 f279 f280 f281 f282 f283 f284 f285 f286 f287 f290 f291 f292; have t0_ := hI0.t0; have t1_ := hI0.t1; have o := (hR_15.2.1 i i0 i1).2; have x := eA_ti (j := i) (((hF223.2.1 15 (by decide)).trans (hF152.2.1 15 (by decide)))); have m := q230 (94 + 2 * i + 1) (by omega) (by omega); have y1 := eA_ti (j := ((94 + 2 * i + 1))) (hF152.2.1 233 (by decide)); first | exact x.trans (o.trans (m.trans y1).symm) | omega) | (have t0_ := hI0.t0; have t1_ := hI0.t1; have o := (hR_15.2.1 i i0 i1).2; have x := eA_ti (j := i) (((hF223.2.1 15 (by decide)).trans (hF152.2.1 15 (by decide)))); have m := q230 (94 + 2 * i + 1) (by omega) (by omega); have y1 := eA_ti (j := ((94 + 2 * i + 1))) (hF152.2.1 233 (by decide)); first | exact x.trans (o.trans (m.trans y1).symm) | omega))⟩, fun i i0 i1 => (by first | (clear f170 f171 f172 f173 f174 f175 f176 f177 f178 f179 f180 f181 f182 f183 f186 f187 f188 f197 f198 f199 f200 f201 f202 f203 f204 f205 f206 f207 f208 f209 f210 f213 f214 f215 f216 f247 f248 f249 f250 f251 f252 f253 f254 f255 f256 f257 f258 f259 f260 f263 f264 f265 f266 f274 f275 f276 f277 f278 f279 f280 f281 f282 f283 f284 f285 f286 f287 f290 f291 f292; have t0_ := hI0.t0; have t1_ := hI0.t1; have o : i < 6 * (gI g0 1 4).toInt → _ := fun hz => hR_15.2.2 i i0 hz; have x := eA_ti (j := i) (((hF223.2.1 5 (by decide)).trans (hF152.2.1 5 (by decide)))); have m := q230 (46 + i) (by omega) (by omega); have y1 := eA_ti (j := ((46 + i))) (hF152.2.1 233 (by decide)); omega) | (have t0_ := hI0.t0; have t1_ := hI0.t1; have o : i < 6 * (gI g0 1 4).toInt → _ := fun hz => hR_15.2.2 i i0 hz; have x := eA_ti (j := i) (((hF223.2.1 5 (by decide)).trans (hF152.2.1 5 (by decide)))); have m := q230 (46 + i) (by omega) (by omega); have y1 := eA_ti (j := ((46 + i))) (hF152.2.1 233 (by decide)); omega))⟩), CI0.cong hR_16 (((hF223.2.1 60 (by decide)).trans (hF152.2.1 60 (by decide)))) (((hF223.2.1 61 (by decide)).trans (hF152.2.1 61 (by decide)))) (((hF223.2.1 62 (by decide)).trans (hF152.2.1 62 (by decide)))) (((hF223.2.1 72 (by decide)).trans (hF152.2.1 72 (by decide)))) (((hF223.2.1 73 (by decide)).trans (hF152.2.1 73 (by decide)))) (((hF223.2.1 63 (by decide)).trans (hF152.2.1 63 (by decide)))) (((hF223.2.1 234 (by decide)).trans (hF152.2.1 234 (by decide)))) (congrArg Int32.toInt (((hF223.1 59 4 (by decide)).trans (hF152.1 59 4 (by decide))))), CI1.cong hR_17 (((hF223.2.1 117 (by decide)).trans (hF152.2.1 117 (by decide)))) (((hF223.2.1 118 (by decide)).trans (hF152.2.1 118 (by decide)))) (((hF223.2.1 119 (by decide)).trans (hF152.2.1 119 (by decide)))) (((hF223.2.1 129 (by decide)).trans (hF152.2.1 129 (by decide)))) (((hF223.2.1 130 (by decide)).trans (hF152.2.1 130 (by decide)))) (((hF223.2.1 120 (by decide)).trans (hF152.2.1 120 (by decide)))) (((hF223.2.1 234 (by decide)).trans (hF152.2.1 234 (by decide)))) (congrArg Int32.toInt (((hF223.1 116 4 (by decide)).trans (hF152.1 116 4 (by decide))))), (show RT _ from fun i i0 i1 => (eA_ti (((hF223.2.1 175 (by decide)).trans (hF152.2.1 175 (by decide))))).trans ((hR_18 i i0 (by omega)).trans (eA_ti (((hF223.2.1 236 (by decide)).trans (hF152.2.1 236 (by decide))))).symm)), (show BYX _ from fun i i0 i1 => by rw [TX.c (((hF223.2.1 175 (by decide)).trans (hF152.2.1 175 (by decide))))]; exact hR_19 i i0 (by have i2 : i < (gI _ 174 1).toInt := i1; show i < (gI g0 174 1).toInt; omega))⟩)
  · refine r_callV 472 rfl [.ref 0, .int v2, .int v4] [] (Nat.le_of_ble_eq_true rfl) rfl (T_X10_terms_0 _ hI0 v2 v4) ?_
    rintro _ _ ⟨g294, rfl, hI295, hF296, v297, rfl, hr298⟩
    refine At.sti ?_
    have hF299 := Fr.tr hF0 hF296 rfl rfl
    have su300 := hr298.2.2
    obtain ⟨q301, q302⟩ := (And.intro hr298.1 hr298.2.1)
    obtain ⟨i304, i305, i306⟩ := q302
    have w303 := i306 pk5
    clear i304 i305 i306
    have f307 := congrArg Int32.toInt (hF296.1 1 0 rfl)
    have f308 := congrArg Int32.toInt (hF296.1 1 12 rfl)
    have f311 := congrArg Int32.toInt (hF296.1 1 4 rfl)
    have f312 := congrArg Int32.toInt (hF296.1 1 6 rfl)
    have f313 := congrArg Int32.toInt (hF296.1 1 9 rfl)
    have f314 := congrArg Int32.toInt (hF296.1 59 0 rfl)
    have f315 := congrArg Int32.toInt (hF296.1 59 12 rfl)
    have f316 := congrArg Int32.toInt (hF296.1 59 10 rfl)
    have f317 := congrArg Int32.toInt (hF296.1 59 11 rfl)
    have f318 := congrArg Int32.toInt (hF296.1 59 4 rfl)
    have f319 := congrArg Int32.toInt (hF296.1 59 6 rfl)
    have f320 := congrArg Int32.toInt (hF296.1 59 9 rfl)
    have f321 := congrArg Int32.toInt (hF296.1 116 0 rfl)
    have f322 := congrArg Int32.toInt (hF296.1 116 12 rfl)
    have f323 := congrArg Int32.toInt (hF296.1 116 10 rfl)
    have f324 := congrArg Int32.toInt (hF296.1 116 11 rfl)
    have f325 := congrArg Int32.toInt (hF296.1 116 4 rfl)
    have f326 := congrArg Int32.toInt (hF296.1 116 6 rfl)
    have f327 := congrArg Int32.toInt (hF296.1 116 9 rfl)
    have f328 := congrArg Int32.toInt (eA_c (j := 0) (hF296.2.1 173 rfl))
    have f329 := congrArg Int32.toInt (eA_c (j := 1) (hF296.2.1 173 rfl))
    have f330 := congrArg Int32.toInt (hF296.1 174 1 rfl)
    have f331 := congrArg Int32.toInt (hF296.1 0 16 rfl)
    have f332 := congrArg Int32.toInt (hF296.1 176 2 rfl)
    have f334 := congrArg Int32.toInt (eA_c (j := 0) (hF296.2.1 233 rfl))
    have f335 := congrArg Int32.toInt (eA_c (j := 4) (hF296.2.1 233 rfl))
    have f336 := congrArg Int32.toInt (eA_c (j := 5) (hF296.2.1 233 rfl))
    have f337 := congrArg Int32.toInt (eA_c (j := 6) (hF296.2.1 233 rfl))
    have f338 := congrArg Int32.toInt (eA_c (j := 1) (hF296.2.1 233 rfl))
    have f339 := congrArg Int32.toInt (eA_c (j := 2) (hF296.2.1 233 rfl))
    have f340 := congrArg Int32.toInt (eA_c (j := 3) (hF296.2.1 233 rfl))
    have f341 := congrArg Int32.toInt (eA_c (j := 0) (hF296.2.1 234 rfl))
    have f342 := congrArg Int32.toInt (eA_c (j := 4) (hF296.2.1 234 rfl))
    have f343 := congrArg Int32.toInt (eA_c (j := 5) (hF296.2.1 234 rfl))
    have f344 := congrArg Int32.toInt (eA_c (j := 6) (hF296.2.1 234 rfl))
    have f345 := congrArg Int32.toInt (eA_c (j := 1) (hF296.2.1 234 rfl))
    have f346 := congrArg Int32.toInt (eA_c (j := 2) (hF296.2.1 234 rfl))
    have f347 := congrArg Int32.toInt (eA_c (j := 3) (hF296.2.1 234 rfl))
    have f348 := congrArg Int32.toInt (eA_c (j := 5510) (hF296.2.1 234 rfl))
    have f349 := congrArg Int32.toInt (eA_c (j := 5514) (hF296.2.1 234 rfl))
    have f350 := congrArg Int32.toInt (eA_c (j := 5515) (hF296.2.1 234 rfl))
    have f351 := congrArg Int32.toInt (eA_c (j := 5516) (hF296.2.1 234 rfl))
    have f352 := congrArg Int32.toInt (eA_c (j := 5511) (hF296.2.1 234 rfl))
    have f353 := congrArg Int32.toInt (eA_c (j := 5512) (hF296.2.1 234 rfl))
    have f354 := congrArg Int32.toInt (eA_c (j := 5513) (hF296.2.1 234 rfl))
    have f355 := congrArg Int32.toInt (eA_c (j := 0) (hF296.2.1 235 rfl))
    have f356 := congrArg Int32.toInt (eA_c (j := 1) (hF296.2.1 235 rfl))
    have f357 := congrArg Int32.toInt (hF296.1 231 8 rfl)
    have f358 := congrArg Int32.toInt (hF296.1 231 6 rfl)
    have f359 := congrArg Int32.toInt (hF296.1 231 13 rfl)
    have f360 := congrArg Int32.toInt (hF296.1 231 1 rfl)
    refine At.enter rfl ?_
    refine r_pop rfl ?_
    refine r_aload_n e2 ?_
    refine r_sload_n e0 ?_
    refine r_iload_n e3 ?_
    refine r_iconst 1 rfl ?_
    refine q_iadd (i.toInt + 1) rfl hx_1 (fun v361 hv361 => ?_)
    refine q_scald (m := L) hL (i.toInt + 1) hv361 hy_1 (fun v362 hv362 => ?_)
    have sv362 := hv2.symm.trans hv362
    subst sv362
    refine r_sload_n e0 ?_
    refine r_iload_n e3 ?_
    refine r_iconst 2 rfl ?_
    refine q_iadd (i.toInt + 2) rfl hx_2 (fun v363 hv363 => ?_)
    refine q_scald (m := L) hL (i.toInt + 2) hv363 hy_2 (fun v364 hv364 => ?_)
    have sv364 := hv4.symm.trans hv364
    subst sv364
    refine r_callV 487 rfl [.ref 231, .int v2, .int v4] [] (Nat.le_of_ble_eq_true rfl) rfl (T_X11_terms_231 _ hI295 v2 v4) ?_
    rintro _ _ ⟨g365, rfl, hI366, hF367, v368, rfl, hr369⟩
    refine At.sti ?_
    have hF370 := Fr.tr hF299 hF367 rfl rfl
    have su371 := hr369.2.2
    obtain ⟨q372, q373, q374⟩ := (And.intro hr369.1 hr369.2.1)
    obtain ⟨⟨i376, i377, i378⟩, sm379, sm380, sm381, sm382, sm383⟩ := q373
    have w375 := i378 pk5
    clear i376 i377 i378
    have f384 := congrArg Int32.toInt (hF367.1 1 0 rfl)
    have f385 := congrArg Int32.toInt (hF367.1 1 12 rfl)
    have f386 := congrArg Int32.toInt (hF367.1 1 10 rfl)
    have f387 := congrArg Int32.toInt (hF367.1 1 11 rfl)
    have f388 := congrArg Int32.toInt (hF367.1 1 4 rfl)
    have f389 := congrArg Int32.toInt (hF367.1 1 6 rfl)
    have f390 := congrArg Int32.toInt (hF367.1 1 9 rfl)
    have f391 := congrArg Int32.toInt (hF367.1 59 0 rfl)
    have f392 := congrArg Int32.toInt (hF367.1 59 12 rfl)
    have f393 := congrArg Int32.toInt (hF367.1 59 10 rfl)
    have f394 := congrArg Int32.toInt (hF367.1 59 11 rfl)
    have f395 := congrArg Int32.toInt (hF367.1 59 4 rfl)
    have f396 := congrArg Int32.toInt (hF367.1 59 6 rfl)
    have f397 := congrArg Int32.toInt (hF367.1 59 9 rfl)
    have f398 := congrArg Int32.toInt (hF367.1 116 0 rfl)
    have f399 := congrArg Int32.toInt (hF367.1 116 12 rfl)
    have f400 := congrArg Int32.toInt (hF367.1 116 10 rfl)
    have f401 := congrArg Int32.toInt (hF367.1 116 11 rfl)
    have f402 := congrArg Int32.toInt (hF367.1 116 4 rfl)
    have f403 := congrArg Int32.toInt (hF367.1 116 6 rfl)
    have f404 := congrArg Int32.toInt (hF367.1 116 9 rfl)
    have f405 := congrArg Int32.toInt (eA_c (j := 0) (hF367.2.1 173 rfl))
    have f406 := congrArg Int32.toInt (eA_c (j := 1) (hF367.2.1 173 rfl))
    have f407 := congrArg Int32.toInt (hF367.1 174 1 rfl)
    have f408 := congrArg Int32.toInt (hF367.1 0 16 rfl)
    have f409 := congrArg Int32.toInt (hF367.1 176 2 rfl)
    have f410 := congrArg Int32.toInt (hF367.1 0 17 rfl)
    have f418 := congrArg Int32.toInt (eA_c (j := 0) (hF367.2.1 234 rfl))
    have f419 := congrArg Int32.toInt (eA_c (j := 4) (hF367.2.1 234 rfl))
    have f420 := congrArg Int32.toInt (eA_c (j := 5) (hF367.2.1 234 rfl))
    have f421 := congrArg Int32.toInt (eA_c (j := 6) (hF367.2.1 234 rfl))
    have f422 := congrArg Int32.toInt (eA_c (j := 1) (hF367.2.1 234 rfl))
    have f423 := congrArg Int32.toInt (eA_c (j := 2) (hF367.2.1 234 rfl))
    have f424 := congrArg Int32.toInt (eA_c (j := 3) (hF367.2.1 234 rfl))
    have f425 := congrArg Int32.toInt (eA_c (j := 5510) (hF367.2.1 234 rfl))
    have f426 := congrArg Int32.toInt (eA_c (j := 5514) (hF367.2.1 234 rfl))
    have f427 := congrArg Int32.toInt (eA_c (j := 5515) (hF367.2.1 234 rfl))
    have f428 := congrArg Int32.toInt (eA_c (j := 5516) (hF367.2.1 234 rfl))
    have f429 := congrArg Int32.toInt (eA_c (j := 5511) (hF367.2.1 234 rfl))
    have f430 := congrArg Int32.toInt (eA_c (j := 5512) (hF367.2.1 234 rfl))
    have f431 := congrArg Int32.toInt (eA_c (j := 5513) (hF367.2.1 234 rfl))
    have f432 := congrArg Int32.toInt (eA_c (j := 0) (hF367.2.1 235 rfl))
    have f433 := congrArg Int32.toInt (eA_c (j := 1) (hF367.2.1 235 rfl))
    have f434 := congrArg Int32.toInt (hF367.1 231 8 rfl)
    have f435 := congrArg Int32.toInt (hF367.1 231 6 rfl)
    have f436 := congrArg Int32.toInt (hF367.1 231 13 rfl)
    refine At.enter rfl ?_
    refine r_pop rfl ?_
    refine r_goto ?_
    have zsu := SU3.eq su300 su371 Iff.rfl Iff.rfl
    exact K _ hI366 (show LwR _ from ⟨by first | (clear f308 f311 f312 f313 f314 f315 f316 f317 f318 f319 f320 f321 f322 f323 f324 f325 f326 f327 f328 f329 f330 f331 f332 f335 f336 f337 f338 f339 f340 f341 f342 f343 f344 f345 f346 f347 f348 f349 f350 f351 f352 f353 f354 f355 f356 f357 f358 f359 f360 f385 f386 f387 f388 f389 f390 f391 f392 f393 f394 f395 f396 f397 f398 f399 f400 f401 f402 f403 f404 f405 f406 f407 f408 f409 f410 f418 f419 f420 f421 f422 f423 f424 f425 f426 f427 f428 f429 f430 f431 f432 f433 f434 f435 f436; omega) | omega, by first | (clear f307 f311 f312 f313 f314 f315 f316 f317 f318 f319 f320 f321 f322 f323 f324 f325 f326 f327 f328 f329 f330 f331 f332 f334 f336 f337 f338 f339 f340 f341 f342 f343 f344 f345 f346 f347 f348 f349 f350 f351 f352 f353 f354 f355 f356 f357 f358 f359 f360 f384 f386 f387 f388 f389 f390 f391 f392 f393 f394 f395 f396 f397 f398 f399 f400 f401 f402 f403 f404 f405 f406 f407 f408 f409 f410 f418 f419 f420 f421 f422 f423 f424 f425 f426 f427 f428 f429 f430 f431 f432 f433 f434 f435 f436; omega) | omega, by first | (clear f307 f308 f311 f312 f313 f314 f315 f316 f317 f318 f319 f320 f321 f322 f323 f324 f325 f326 f327 f328 f329 f330 f331 f332 f334 f335 f337 f338 f339 f340 f341 f342 f343 f344 f345 f346 f347 f348 f349 f350 f351 f352 f353 f354 f355 f356 f357 f358 f359 f360 f384 f385 f387 f388 f389 f390 f391 f392 f393 f394 f395 f396 f397 f398 f399 f400 f401 f402 f403 f404 f405 f406 f407 f408 f409 f410 f418 f419 f420 f421 f422 f423 f424 f425 f426 f427 f428 f429 f430 f431 f432 f433 f434 f435 f436; omega) | omega, by first | (clear f307 f308 f311 f312 f313 f314 f315 f316 f317 f318 f319 f320 f321 f322 f323 f324 f325 f326 f327 f328 f329 f330 f331 f332 f334 f335 f336 f338 f339 f340 f341 f342 f343 f344 f345 f346 f347 f348 f349 f350 f351 f352 f353 f354 f355 f356 f357 f358 f359 f360 f384 f385 f386 f388 f389 f390 f391 f392 f393 f394 f395 f396 f397 f398 f399 f400 f401 f402 f403 f404 f405 f406 f407 f408 f409 f410 f418 f419 f420 f421 f422 f423 f424 f425 f426 f427 f428 f429 f430 f431 f432 f433 f434 f435 f436; omega) | omega, by first | (clear f307 f308 f312 f313 f314 f315 f316 f317 f318 f319 f320 f321 f322 f323 f324 f325 f326 f327 f328 f329 f330 f331 f332 f334 f335 f336 f337 f339 f340 f341 f342 f343 f344 f345 f346 f347 f348 f349 f350 f351 f352 f353 f354 f355 f356 f357 f358 f359 f360 f384 f385 f386 f387 f389 f390 f391 f392 f393 f394 f395 f396 f397 f398 f399 f400 f401 f402 f403 f404 f405 f406 f407 f408 f409 f410 f418 f419 f420 f421 f422 f423 f424 f425 f426 f427 f428 f429 f430 f431 f432 f433 f434 f435 f436; omega) | omega, by first | (clear f307 f308 f311 f313 f314 f315 f316 f317 f318 f319 f320 f321 f322 f323 f324 f325 f326 f327 f328 f329 f330 f331 f332 f334 f335 f336 f337 f338 f340 f341 f342 f343 f344 f345 f346 f347 f348 f349 f350 f351 f352 f353 f354 f355 f356 f357 f358 f359 f360 f384 f385 f386 f387 f388 f390 f391 f392 f393 f394 f395 f396 f397 f398 f399 f400 f401 f402 f403 f404 f405 f406 f407 f408 f409 f410 f418 f419 f420 f421 f422 f423 f424 f425 f426 f427 f428 f429 f430 f431 f432 f433 f434 f435 f436; omega) | omega, by first | (clear f307 f308 f311 f312 f314 f315 f316 f317 f318 f319 f320 f321 f322 f323 f324 f325 f326 f327 f328 f329 f330 f331 f332 f334 f335 f336 f337 f338 f339 f341 f342 f343 f344 f345 f346 f347 f348 f349 f350 f351 f352 f353 f354 f355 f356 f357 f358 f359 f360 f384 f385 f386 f387 f388 f389 f391 f392 f393 f394 f395 f396 f397 f398 f399 f400 f401 f402 f403 f404 f405 f406 f407 f408 f409 f410 f418 f419 f420 f421 f422 f423 f424 f425 f426 f427 f428 f429 f430 f431 f432 f433 f434 f435 f436; omega) | omega, (eA_ti (j := 0) (((hF367.2.1 173 (by decide)).trans (hF296.2.1 173 (by decide))))).trans (hR_7.trans (eA_ti (j := 0) (((hF367.2.1 235 (by decide)).trans (hF296.2.1 235 (by decide))))).symm), (eA_ti (j := 1) (((hF367.2.1 173 (by decide)).trans (hF296.2.1 173 (by decide))))).trans (hR_8.trans (eA_ti (j := 1) (((hF367.2.1 235 (by decide)).trans (hF296.2.1 235 (by decide))))).symm), (congrArg Int32.toInt (((hF367.1 174 1 (by decide)).trans (hF296.1 174 1 (by decide))))).trans (hR_9.trans (congrArg Int32.toInt (((hF367.1 231 8 (by decide)).trans (hF296.1 231 8 (by decide))))).symm), (congrArg Int32.toInt (((hF367.1 0 16 (by decide)).trans (hF296.1 0 16 (by decide))))).trans (hR_10.trans (congrArg Int32.toInt (((hF367.1 231 6 (by decide)).trans (hF296.1 231 6 (by decide))))).symm), (congrArg Int32.toInt (((hF367.1 176 2 (by decide)).trans (hF296.1 176 2 (by decide))))).trans (hR_11.trans (congrArg Int32.toInt (((hF367.1 231 13 (by decide)).trans (hF296.1 231 13 (by decide))))).symm), by first | (clear f307 f308 f311 f312 f313 f314 f315 f316 f317 f318 f319 f320 f321 f322 f323 f324 f325 f326 f327 f328 f329 f330 f331 f332 f334 f335 f336 f337 f338 f339 f340 f341 f342 f343 f344 f345 f346 f347 f348 f349 f350 f351 f352 f353 f354 f355 f356 f357 f358 f359 f384 f385 f386 f387 f388 f389 f390 f391 f392 f393 f394 f395 f396 f397 f398 f399 f400 f401 f402 f403 f404 f405 f406 f407 f408 f409 f418 f419 f420 f421 f422 f423 f424 f425 f426 f427 f428 f429 f430 f431 f432 f433 f434 f435 f436; omega) | omega, IM0.cong hR_13 (eA_ti (j := 0) (((hF367.2.1 173 (by decide)).trans (hF296.2.1 173 (by decide))))) (congrArg Int32.toInt (((hF367.1 59 0 (by decide)).trans (hF296.1 59 0 (by decide))))) (eA_ti (j := 0) (((hF367.2.1 234 (by decide)).trans (hF296.2.1 234 (by decide))))) (congrArg Int32.toInt (((hF367.1 59 12 (by decide)).trans (hF296.1 59 12 (by decide))))) (eA_ti (j := 4) (((hF367.2.1 234 (by decide)).trans (hF296.2.1 234 (by decide))))) (congrArg Int32.toInt (((hF367.1 59 10 (by decide)).trans (hF296.1 59 10 (by decide))))) (eA_ti (j := 5) (((hF367.2.1 234 (by decide)).trans (hF296.2.1 234 (by decide))))) (congrArg Int32.toInt (((hF367.1 59 11 (by decide)).trans (hF296.1 59 11 (by decide))))) (eA_ti (j := 6) (((hF367.2.1 234 (by decide)).trans (hF296.2.1 234 (by decide))))) (congrArg Int32.toInt (((hF367.1 59 4 (by decide)).trans (hF296.1 59 4 (by decide))))) (eA_ti (j := 1) (((hF367.2.1 234 (by decide)).trans (hF296.2.1 234 (by decide))))) (congrArg Int32.toInt (((hF367.1 59 6 (by decide)).trans (hF296.1 59 6 (by decide))))) (eA_ti (j := 2) (((hF367.2.1 234 (by decide)).trans (hF296.2.1 234 (by decide))))) (congrArg Int32.toInt (((hF367.1 59 9 (by decide)).trans (hF296.1 59 9 (by decide))))) (eA_ti (j := 3) (((hF367.2.1 234 (by decide)).trans (hF296.2.1 234 (by decide))))), IM1.cong hR_14 (eA_ti (j := 1) (((hF367.2.1 173 (by decide)).trans (hF296.2.1 173 (by decide))))) (congrArg Int32.toInt (((hF367.1 116 0 (by decide)).trans (hF296.1 116 0 (by decide))))) (eA_ti (j := 5510) (((hF367.2.1 234 (by decide)).trans (hF296.2.1 234 (by decide))))) (congrArg Int32.toInt (((hF367.1 116 12 (by decide)).trans (hF296.1 116 12 (by decide))))) (eA_ti (j := 5514) (((hF367.2.1 234 (by decide)).trans (hF296.2.1 234 (by decide))))) (congrArg Int32.toInt (((hF367.1 116 10 (by decide)).trans (hF296.1 116 10 (by decide))))) (eA_ti (j := 5515) (((hF367.2.1 234 (by decide)).trans (hF296.2.1 234 (by decide))))) (congrArg Int32.toInt (((hF367.1 116 11 (by decide)).trans (hF296.1 116 11 (by decide))))) (eA_ti (j := 5516) (((hF367.2.1 234 (by decide)).trans (hF296.2.1 234 (by decide))))) (congrArg Int32.toInt (((hF367.1 116 4 (by decide)).trans (hF296.1 116 4 (by decide))))) (eA_ti (j := 5511) (((hF367.2.1 234 (by decide)).trans (hF296.2.1 234 (by decide))))) (congrArg Int32.toInt (((hF367.1 116 6 (by decide)).trans (hF296.1 116 6 (by decide))))) (eA_ti (j := 5512) (((hF367.2.1 234 (by decide)).trans (hF296.2.1 234 (by decide))))) (congrArg Int32.toInt (((hF367.1 116 9 (by decide)).trans (hF296.1 116 9 (by decide))))) (eA_ti (j := 5513) (((hF367.2.1 234 (by decide)).trans (hF296.2.1 234 (by decide))))), (show CT _ from ⟨fun i i0 i1 => ⟨(by first | (clear f314 f315 f316 f317 f318 f319 f320 f321 f322 f323 f324 f325 f326 f327 f330 f331 f332 f341 f342 f343 f344 f345 f346 f347 f348 f349 f350 f351 f352 f353 f354 f357 f358 f359 f360 f391 f392 f393 f394 f395 f396 f397 f398 f399 f400 f401 f402 f403 f404 f407 f408 f409 f410 f418 f419 f420 f421 f422 f423 f424 f425 f426 f427 f428 f429 f430 f431 f434 f435 f436; have t0_ := hI0.t0; have t1_ := hI0.t1; have o := (hR_15.1 i i0 i1).1; have x := eA_ti (j := i) (((hF367.2.1 2 (by decide)).trans (hF296.2.1 2 (by decide)))); have m := q374 (10 + 3 * i) (by omega) (by omega); have y1 := eA_ti (j := ((10 + 3 * i))) (hF296.2.1 233 (by decide)); first | exact x.trans (o.trans (m.trans y1).symm) | omega) | (have t0_ := hI0.t0; have t1_ := hI0.t1; have o := (hR_15.1 i i0 i1).1; have x := eA_ti (j := i) (((hF367.2.1 2 (by decide)).trans (hF296.2.1 2 (by decide)))); have m := q374 (10 + 3 * i) (by omega) (by omega); have y1 := eA_ti (j := ((10 + 3 * i))) (hF296.2.1 233 (by decide)); first | exact x.trans (o.trans (m.trans y1).symm) | omega)), (by first | (clear f314 f315 f316 f317 f318 f319 f320 f321 f322 f323 f324 f325 f326 f327 f330 f331 f332 f341 f342 f343 f344 f345 f346 f347 f348 f349 f350 f351 f352 f353 f354 f357 f358 f359 f360 f391 f392 f393 f394 f395 f396 f397 f398 f399 f400 f401 f402 f403 f404 f407 f408 f409 f410 f418 f419 f420 f421 f422 f423 f424 f425 f426 f427 f428 f429 f430 f431 f434 f435 f436; have t0_ := hI0.t0; have t1_ := hI0.t1; have o := (hR_15.1 i i0 i1).2.1; have x := eA_ti (j := i) (((hF367.2.1 3 (by decide)).trans (hF296.2.1 3 (by decide)))); have m := q374 (10 + 3 * i + 1) (by omega) (by omega); have y1 := eA_ti (j := ((10 + 3 * i + 1))) (hF296.2.1 233 (by decide)); first | exact x.trans (o.trans (m.trans y1).symm) | omega) | (have t0_ := hI0.t0; have t1_ := hI0.t1; have o := (hR_15.1 i i0 i1).2.1; have x := eA_ti (j := i) (((hF367.2.1 3 (by decide)).trans (hF296.2.1 3 (by decide)))); have m := q374 (10 + 3 * i + 1) (by omega) (by omega); have y1 := eA_ti (j := ((10 + 3 * i + 1))) (hF296.2.1 233 (by decide)); first | exact x.trans (o.trans (m.trans y1).symm) | omega)), (by first | (clear f314 f315 f316 f317 f318 f319 f320 f321 f322 f323 f324 f325 f326 f327 f330 f331 f332 f341 f342 f343 f344 f345 f346 f347 f348 f349 f350 f351 f352 f353 f354 f357 f358 f359 f360 f391 f392 f393 f394 f395 f396 f397 f398 f399 f400 f401 f402 f403 f404 f407 f408 f409 f410 f418 f419 f420 f421 f422 f423 f424 f425 f426 f427 f428 f429 f430 f431 f434 f435 f436; have t0_ := hI0.t0; have t1_ := hI0.t1; have o := (hR_15.1 i i0 i1).2.2; have x := eA_ti (j := i) (((hF367.2.1 4 (by decide)).trans (hF296.2.1 4 (by decide)))); have m := q374 (10 + 3 * i + 2) (by omega) (by omega); have y1 := eA_ti (j := ((10 + 3 * i + 2))) (hF296.2.1 233 (by decide)); first | exact x.trans (o.trans (m.trans y1).symm) | omega) | (have t0_ := hI0.t0; have t1_ := hI0.t1; have o := (hR_15.1 i i0 i1).2.2; have x := eA_ti (j := i) (((hF367.2.1 4 (by decide)).trans (hF296.2.1 4 (by decide)))); have m := q374 (10 + 3 * i + 2) (by omega) (by omega); have y1 := eA_ti (j := ((10 + 3 * i + 2))) (hF296.2.1 233 (by decide)); first | exact x.trans (o.trans (m.trans y1).symm) | omega))⟩, fun i i0 i1 => ⟨(by first | (clear f314 f315 f316 f317 f318 f319 f320 f321 f322 f323 f324 f325 f326 f327 f330 f331 f332 f341 f342 f343 f344 f345 f346 f347 f348 f349 f350 f351 f352 f353 f354 f357 f358 f359 f360 f391 f392 f393 f394 f395 f396 f397 f398 f399 f400 f401 f402 f403 f404 f407 f408 f409 f410 f418 f419 f420 f421 f422 f423 f424 f425 f426 f427 f428 f429 f430 f431 f434 f435 f436; have t0_ := hI0.t0; have t1_ := hI0.t1; have o := (hR_15.2.1 i i0 i1).1; have x := eA_ti (j := i) (((hF367.2.1 14 (by decide)).trans (hF296.2.1 14 (by decide)))); have m := q374 (94 + 2 * i) (by omega) (by omega); have y1 := eA_ti (j := ((94 + 2 * i))) (hF296.2.1 233 (by decide)); first | exact x.trans (o.trans (m.trans y1).symm) | omega) | (have t0_ := hI0.t0; have t1_ := hI0.t1; have o := (hR_15.2.1 i i0 i1).1; have x := eA_ti (j := i) (((hF367.2.1 14 (by decide)).trans (hF296.2.1 14 (by decide)))); have m := q374 (94 + 2 * i) (by omega) (by omega); have y1 := eA_ti (j := ((94 + 2 * i))) (hF296.2.1 233 (by decide)); first | exact x.trans (o.trans (m.trans y1).symm) | omega)), (by first | (clear f314 f315 f316 f317 f318 f319 f320 f321 f322 f323 f324 f325 f326 f327 f330 f331 f332 f341 f342 f343 f344 f345 f346 f347 f348 f349 f350 f351 f352 f353 f354 f357 f358 f359 f360 f391 f392 f393 f394 f395 f396 f397 f398 f399 f400 f401 f402 f403 f404 f407 f408 f409 f410 f418 f419 f420 f421 f422 f423 f424 f425 f426 f427 f428 f429 f430 f431 f434 f435 f436; have t0_ := hI0.t0; have t1_ := hI0.t1; have o := (hR_15.2.1 i i0 i1).2; have x := eA_ti (j := i) (((hF367.2.1 15 (by decide)).trans (hF296.2.1 15 (by decide)))); have m := q374 (94 + 2 * i + 1) (by omega) (by omega); have y1 := eA_ti (j := ((94 + 2 * i + 1))) (hF296.2.1 233 (by decide)); first | exact x.trans (o.trans (m.trans y1).symm) | omega) | (have t0_ := hI0.t0; have t1_ := hI0.t1; have o := (hR_15.2.1 i i0 i1).2; have x := eA_ti (j := i) (((hF367.2.1 15 (by decide)).trans (hF296.2.1 15 (by decide)))); have m := q374 (94 + 2 * i + 1) (by omega) (by omega); have y1 := eA_ti (j := ((94 + 2 * i + 1))) (hF296.2.1 233 (by decide)); first | exact x.trans (o.trans (m.trans y1).symm) | omega))⟩, fun i i0 i1 => (by first | (clear f314 f315 f316 f317 f318 f319 f320 f321 f322 f323 f324 f325 f326 f327 f330 f331 f332 f341 f342 f343 f344 f345 f346 f347 f348 f349 f350 f351 f352 f353 f354 f357 f358 f359 f360 f391 f392 f393 f394 f395 f396 f397 f398 f399 f400 f401 f402 f403 f404 f407 f408 f409 f410 f418 f419 f420 f421 f422 f423 f424 f425 f426 f427 f428 f429 f430 f431 f434 f435 f436; have t0_ := hI0.t0; have t1_ := hI0.t1; have o : i < 6 * (gI g0 1 4).toInt → _ := fun hz => hR_15.2.2 i i0 hz; have x := eA_ti (j := i) (((hF367.2.1 5 (by decide)).trans (hF296.2.1 5 (by decide)))); have m := q374 (46 + i) (by omega) (by omega); have y1 := eA_ti (j := ((46 + i))) (hF296.2.1 233 (by decide)); omega) | (have t0_ := hI0.t0; have t1_ := hI0.t1; have o : i < 6 * (gI g0 1 4).toInt → _ := fun hz => hR_15.2.2 i i0 hz; have x := eA_ti (j := i) (((hF367.2.1 5 (by decide)).trans (hF296.2.1 5 (by decide)))); have m := q374 (46 + i) (by omega) (by omega); have y1 := eA_ti (j := ((46 + i))) (hF296.2.1 233 (by decide)); omega))⟩), CI0.cong hR_16 (((hF367.2.1 60 (by decide)).trans (hF296.2.1 60 (by decide)))) (((hF367.2.1 61 (by decide)).trans (hF296.2.1 61 (by decide)))) (((hF367.2.1 62 (by decide)).trans (hF296.2.1 62 (by decide)))) (((hF367.2.1 72 (by decide)).trans (hF296.2.1 72 (by decide)))) (((hF367.2.1 73 (by decide)).trans (hF296.2.1 73 (by decide)))) (((hF367.2.1 63 (by decide)).trans (hF296.2.1 63 (by decide)))) (((hF367.2.1 234 (by decide)).trans (hF296.2.1 234 (by decide)))) (congrArg Int32.toInt (((hF367.1 59 4 (by decide)).trans (hF296.1 59 4 (by decide))))), CI1.cong hR_17 (((hF367.2.1 117 (by decide)).trans (hF296.2.1 117 (by decide)))) (((hF367.2.1 118 (by decide)).trans (hF296.2.1 118 (by decide)))) (((hF367.2.1 119 (by decide)).trans (hF296.2.1 119 (by decide)))) (((hF367.2.1 129 (by decide)).trans (hF296.2.1 129 (by decide)))) (((hF367.2.1 130 (by decide)).trans (hF296.2.1 130 (by decide)))) (((hF367.2.1 120 (by decide)).trans (hF296.2.1 120 (by decide)))) (((hF367.2.1 234 (by decide)).trans (hF296.2.1 234 (by decide)))) (congrArg Int32.toInt (((hF367.1 116 4 (by decide)).trans (hF296.1 116 4 (by decide))))), (show RT _ from fun i i0 i1 => (eA_ti (((hF367.2.1 175 (by decide)).trans (hF296.2.1 175 (by decide))))).trans ((hR_18 i i0 (by omega)).trans (eA_ti (((hF367.2.1 236 (by decide)).trans (hF296.2.1 236 (by decide))))).symm)), (show BYX _ from fun i i0 i1 => by rw [TX.c (((hF367.2.1 175 (by decide)).trans (hF296.2.1 175 (by decide))))]; exact hR_19 i i0 (by have i2 : i < (gI _ 174 1).toInt := i1; show i < (gI g0 174 1).toInt; omega))⟩)
