set_option maxRecDepth 100000 in
set_option maxHeartbeats 8000000 in
theorem lq_c5 (d : Nat) {N : Nat} {g0 : List en_E} (hI0 : HI g0) (hR0 : LwR g0) {ys : List Int32} {L : Nat} (hL : ys.length = L) (hL2 : L ≤ 3584) {l : en_L} {i : Int32} (e0 : en_get 0 l = some (.float 0)) (e1 : en_get 1 l = some (.ref 0)) (e2 : en_get 2 l = some (.ref 231)) (e3 : en_get 3 l = some (.int i)) (hi : 0 ≤ i.toInt ∧ i.toInt + 7 ≤ L) {Ph : Option Value → en_H → Prop} (K : ∀ g1 : List en_E, HI g1 → LwR g1 → At (d + 423) (some ys) (some .boolean) bs_L_law (1330, l, [], (g1, N)) Ph) : At (d + 423) (some ys) (some .boolean) bs_L_law (435, l, [], (g0, N)) Ph := by
  have hF0 : Fr F_law A_law g0 g0 := Fr.rf
  have hx_1 : -2147483648 ≤ i.toInt + 1 ∧ i.toInt + 1 ≤ 2147483647 := by omega
  have hx_2 : -2147483648 ≤ i.toInt + 2 ∧ i.toInt + 2 ≤ 2147483647 := by omega
  have hx_3 : -2147483648 ≤ i.toInt + 3 ∧ i.toInt + 3 ≤ 2147483647 := by omega
  have hx_4 : -2147483648 ≤ i.toInt + 4 ∧ i.toInt + 4 ≤ 2147483647 := by omega
  have hx_5 : -2147483648 ≤ i.toInt + 5 ∧ i.toInt + 5 ≤ 2147483647 := by omega
  have hx_6 : -2147483648 ≤ i.toInt + 6 ∧ i.toInt + 6 ≤ 2147483647 := by omega
  have hy_0 : 0 ≤ i.toInt ∧ i.toInt < (L : Int) := by omega
  have hy_1 : 0 ≤ i.toInt + 1 ∧ i.toInt + 1 < (L : Int) := by omega
  have hy_2 : 0 ≤ i.toInt + 2 ∧ i.toInt + 2 < (L : Int) := by omega
  have hy_3 : 0 ≤ i.toInt + 3 ∧ i.toInt + 3 < (L : Int) := by omega
  have hy_4 : 0 ≤ i.toInt + 4 ∧ i.toInt + 4 < (L : Int) := by omega
  have hy_5 : 0 ≤ i.toInt + 5 ∧ i.toInt + 5 < (L : Int) := by omega
  have hy_6 : 0 ≤ i.toInt + 6 ∧ i.toInt + 6 < (L : Int) := by omega
  unfold LwR at hR0
  obtain ⟨hR_0, hR_1, hR_2, hR_3, hR_4, hR_5, hR_6, hR_7, hR_8, hR_9, hR_10, hR_11, hR_12, hR_13, hR_14, hR_15, hR_16, hR_17, hR_18, hR_19, hR_20⟩ := hR0
  refine At.enter rfl ?_
  refine r_aload_n e1 ?_
  refine r_sload_n e0 ?_
  refine r_iload_n e3 ?_
  refine r_iconst 1 rfl ?_
  refine q_iadd (i.toInt + 1) rfl hx_1 (fun v1 hv1 => ?_)
  refine q_scald (m := L) hL (i.toInt + 1) hv1 hy_1 (fun v2 hv2 => ?_)
  rcases cs2 (0 ≤ v2.toInt ∧ v2.toInt < (gI g0 1 4).toInt) with pk3 | pk3
  · refine r_callV 444 rfl [.ref 0, .int v2] [] (Nat.le_of_ble_eq_true rfl) rfl (T_X10_drop_0 _ hI0 v2) ?_
    rintro _ _ ⟨g4, rfl, hI5, hF6, v7, rfl, hr8⟩
    refine At.sti ?_
    have hF9 := Fr.tr hF0 hF6 rfl rfl
    have fe10 : PH _ := hr8.2.2
    replace hr8 := And.intro hr8.1 hr8.2.1
    obtain ⟨q11, q12, q13⟩ := hr8
    obtain ⟨i15, i16⟩ := q12
    have w14 := i16 pk3
    clear i15 i16
    have f17 := congrArg Int32.toInt (hF6.1 1 0 rfl)
    have f18 := congrArg Int32.toInt (hF6.1 1 12 rfl)
    have f19 := congrArg Int32.toInt (hF6.1 1 10 rfl)
    have f20 := congrArg Int32.toInt (hF6.1 1 11 rfl)
    have f22 := congrArg Int32.toInt (hF6.1 1 6 rfl)
    have f23 := congrArg Int32.toInt (hF6.1 1 9 rfl)
    have f24 := congrArg Int32.toInt (hF6.1 59 0 rfl)
    have f25 := congrArg Int32.toInt (hF6.1 59 12 rfl)
    have f26 := congrArg Int32.toInt (hF6.1 59 10 rfl)
    have f27 := congrArg Int32.toInt (hF6.1 59 11 rfl)
    have f28 := congrArg Int32.toInt (hF6.1 59 4 rfl)
    have f29 := congrArg Int32.toInt (hF6.1 59 6 rfl)
    have f30 := congrArg Int32.toInt (hF6.1 59 9 rfl)
    have f31 := congrArg Int32.toInt (hF6.1 116 0 rfl)
    have f32 := congrArg Int32.toInt (hF6.1 116 12 rfl)
    have f33 := congrArg Int32.toInt (hF6.1 116 10 rfl)
    have f34 := congrArg Int32.toInt (hF6.1 116 11 rfl)
    have f35 := congrArg Int32.toInt (hF6.1 116 4 rfl)
    have f36 := congrArg Int32.toInt (hF6.1 116 6 rfl)
    have f37 := congrArg Int32.toInt (hF6.1 116 9 rfl)
    have f38 := congrArg Int32.toInt (eA_c (j := 0) (hF6.2.1 173 rfl))
    have f39 := congrArg Int32.toInt (eA_c (j := 1) (hF6.2.1 173 rfl))
    have f40 := congrArg Int32.toInt (hF6.1 174 1 rfl)
    have f41 := congrArg Int32.toInt (hF6.1 0 16 rfl)
    have f42 := congrArg Int32.toInt (hF6.1 176 2 rfl)
    have f43 := congrArg Int32.toInt (eA_c (j := 0) (hF6.2.1 233 rfl))
    have f44 := congrArg Int32.toInt (eA_c (j := 4) (hF6.2.1 233 rfl))
    have f45 := congrArg Int32.toInt (eA_c (j := 5) (hF6.2.1 233 rfl))
    have f46 := congrArg Int32.toInt (eA_c (j := 6) (hF6.2.1 233 rfl))
    have f47 := congrArg Int32.toInt (eA_c (j := 1) (hF6.2.1 233 rfl))
    have f48 := congrArg Int32.toInt (eA_c (j := 2) (hF6.2.1 233 rfl))
    have f49 := congrArg Int32.toInt (eA_c (j := 3) (hF6.2.1 233 rfl))
    have f50 := congrArg Int32.toInt (eA_c (j := 0) (hF6.2.1 234 rfl))
    have f51 := congrArg Int32.toInt (eA_c (j := 4) (hF6.2.1 234 rfl))
    have f52 := congrArg Int32.toInt (eA_c (j := 5) (hF6.2.1 234 rfl))
    have f53 := congrArg Int32.toInt (eA_c (j := 6) (hF6.2.1 234 rfl))
    have f54 := congrArg Int32.toInt (eA_c (j := 1) (hF6.2.1 234 rfl))
    have f55 := congrArg Int32.toInt (eA_c (j := 2) (hF6.2.1 234 rfl))
    have f56 := congrArg Int32.toInt (eA_c (j := 3) (hF6.2.1 234 rfl))
    have f57 := congrArg Int32.toInt (eA_c (j := 5510) (hF6.2.1 234 rfl))
    have f58 := congrArg Int32.toInt (eA_c (j := 5514) (hF6.2.1 234 rfl))
    have f59 := congrArg Int32.toInt (eA_c (j := 5515) (hF6.2.1 234 rfl))
    have f60 := congrArg Int32.toInt (eA_c (j := 5516) (hF6.2.1 234 rfl))
    have f61 := congrArg Int32.toInt (eA_c (j := 5511) (hF6.2.1 234 rfl))
    have f62 := congrArg Int32.toInt (eA_c (j := 5512) (hF6.2.1 234 rfl))
    have f63 := congrArg Int32.toInt (eA_c (j := 5513) (hF6.2.1 234 rfl))
    have f64 := congrArg Int32.toInt (eA_c (j := 0) (hF6.2.1 235 rfl))
    have f65 := congrArg Int32.toInt (eA_c (j := 1) (hF6.2.1 235 rfl))
    have f66 := congrArg Int32.toInt (hF6.1 231 8 rfl)
    have f67 := congrArg Int32.toInt (hF6.1 231 6 rfl)
    have f68 := congrArg Int32.toInt (hF6.1 231 13 rfl)
    refine At.enter rfl ?_
    refine r_pop rfl ?_
    refine r_aload_n e2 ?_
    refine r_sload_n e0 ?_
    refine r_iload_n e3 ?_
    refine r_iconst 1 rfl ?_
    refine q_iadd (i.toInt + 1) rfl hx_1 (fun v69 hv69 => ?_)
    refine q_scald (m := L) hL (i.toInt + 1) hv69 hy_1 (fun v70 hv70 => ?_)
    have sv70 := hv2.symm.trans hv70
    subst sv70
    refine r_callV 454 rfl [.ref 231, .int v2] [] (Nat.le_of_ble_eq_true rfl) rfl (T_X11_drop_231 _ hI5 v2) ?_
    rintro _ _ ⟨g71, rfl, hI72, hF73, v74, rfl, hr75⟩
    refine At.sti ?_
    have hF76 := Fr.tr hF9 hF73 rfl rfl
    obtain ⟨q78, q79, q80, q81, q82⟩ := hr75
    have ek92 : (eA g4 233 0).toInt = (gI g0 1 0).toInt := (eA_ti (j := 0) (hF6.2.1 233 (by decide))).trans hR_0.symm
    have ek93 : (eA g4 233 1).toInt = (gI g0 1 4).toInt := (eA_ti (j := 1) (hF6.2.1 233 (by decide))).trans hR_4.symm
    obtain ⟨i84, i85, sm86, sm87, sm88, sm89, sm90, sm91⟩ := q79
    have w83 := i85 (by rw [ek93]; exact pk3)
    clear i84 i85
    have f94 := congrArg Int32.toInt (hF73.1 1 0 rfl)
    have f95 := congrArg Int32.toInt (hF73.1 1 12 rfl)
    have f96 := congrArg Int32.toInt (hF73.1 1 10 rfl)
    have f97 := congrArg Int32.toInt (hF73.1 1 11 rfl)
    have f98 := congrArg Int32.toInt (hF73.1 1 4 rfl)
    have f99 := congrArg Int32.toInt (hF73.1 1 6 rfl)
    have f100 := congrArg Int32.toInt (hF73.1 1 9 rfl)
    have f101 := congrArg Int32.toInt (hF73.1 59 0 rfl)
    have f102 := congrArg Int32.toInt (hF73.1 59 12 rfl)
    have f103 := congrArg Int32.toInt (hF73.1 59 10 rfl)
    have f104 := congrArg Int32.toInt (hF73.1 59 11 rfl)
    have f105 := congrArg Int32.toInt (hF73.1 59 4 rfl)
    have f106 := congrArg Int32.toInt (hF73.1 59 6 rfl)
    have f107 := congrArg Int32.toInt (hF73.1 59 9 rfl)
    have f108 := congrArg Int32.toInt (hF73.1 116 0 rfl)
    have f109 := congrArg Int32.toInt (hF73.1 116 12 rfl)
    have f110 := congrArg Int32.toInt (hF73.1 116 10 rfl)
    have f111 := congrArg Int32.toInt (hF73.1 116 11 rfl)
    have f112 := congrArg Int32.toInt (hF73.1 116 4 rfl)
    have f113 := congrArg Int32.toInt (hF73.1 116 6 rfl)
    have f114 := congrArg Int32.toInt (hF73.1 116 9 rfl)
    have f115 := congrArg Int32.toInt (eA_c (j := 0) (hF73.2.1 173 rfl))
    have f116 := congrArg Int32.toInt (eA_c (j := 1) (hF73.2.1 173 rfl))
    have f117 := congrArg Int32.toInt (hF73.1 174 1 rfl)
    have f118 := congrArg Int32.toInt (hF73.1 0 16 rfl)
    have f119 := congrArg Int32.toInt (hF73.1 176 2 rfl)
    have f127 := congrArg Int32.toInt (eA_c (j := 0) (hF73.2.1 234 rfl))
    have f128 := congrArg Int32.toInt (eA_c (j := 4) (hF73.2.1 234 rfl))
    have f129 := congrArg Int32.toInt (eA_c (j := 5) (hF73.2.1 234 rfl))
    have f130 := congrArg Int32.toInt (eA_c (j := 6) (hF73.2.1 234 rfl))
    have f131 := congrArg Int32.toInt (eA_c (j := 1) (hF73.2.1 234 rfl))
    have f132 := congrArg Int32.toInt (eA_c (j := 2) (hF73.2.1 234 rfl))
    have f133 := congrArg Int32.toInt (eA_c (j := 3) (hF73.2.1 234 rfl))
    have f134 := congrArg Int32.toInt (eA_c (j := 5510) (hF73.2.1 234 rfl))
    have f135 := congrArg Int32.toInt (eA_c (j := 5514) (hF73.2.1 234 rfl))
    have f136 := congrArg Int32.toInt (eA_c (j := 5515) (hF73.2.1 234 rfl))
    have f137 := congrArg Int32.toInt (eA_c (j := 5516) (hF73.2.1 234 rfl))
    have f138 := congrArg Int32.toInt (eA_c (j := 5511) (hF73.2.1 234 rfl))
    have f139 := congrArg Int32.toInt (eA_c (j := 5512) (hF73.2.1 234 rfl))
    have f140 := congrArg Int32.toInt (eA_c (j := 5513) (hF73.2.1 234 rfl))
    have f141 := congrArg Int32.toInt (eA_c (j := 0) (hF73.2.1 235 rfl))
    have f142 := congrArg Int32.toInt (eA_c (j := 1) (hF73.2.1 235 rfl))
    have f143 := congrArg Int32.toInt (hF73.1 231 8 rfl)
    have f144 := congrArg Int32.toInt (hF73.1 231 6 rfl)
    have f145 := congrArg Int32.toInt (hF73.1 231 13 rfl)
    refine At.enter rfl ?_
    refine r_pop rfl ?_
    refine r_goto ?_
    exact K _ hI72 (show LwR _ from ⟨by first | (clear f18 f19 f20 f22 f23 f24 f25 f26 f27 f28 f29 f30 f31 f32 f33 f34 f35 f36 f37 f38 f39 f40 f41 f42 f44 f45 f46 f47 f48 f49 f50 f51 f52 f53 f54 f55 f56 f57 f58 f59 f60 f61 f62 f63 f64 f65 f66 f67 f68 f95 f96 f97 f98 f99 f100 f101 f102 f103 f104 f105 f106 f107 f108 f109 f110 f111 f112 f113 f114 f115 f116 f117 f118 f119 f127 f128 f129 f130 f131 f132 f133 f134 f135 f136 f137 f138 f139 f140 f141 f142 f143 f144 f145; omega) | omega, by first | (clear f17 f19 f20 f22 f23 f24 f25 f26 f27 f28 f29 f30 f31 f32 f33 f34 f35 f36 f37 f38 f39 f40 f41 f42 f43 f45 f46 f47 f48 f49 f50 f51 f52 f53 f54 f55 f56 f57 f58 f59 f60 f61 f62 f63 f64 f65 f66 f67 f68 f94 f96 f97 f98 f99 f100 f101 f102 f103 f104 f105 f106 f107 f108 f109 f110 f111 f112 f113 f114 f115 f116 f117 f118 f119 f127 f128 f129 f130 f131 f132 f133 f134 f135 f136 f137 f138 f139 f140 f141 f142 f143 f144 f145; omega) | omega, by first | (clear f17 f18 f20 f22 f23 f24 f25 f26 f27 f28 f29 f30 f31 f32 f33 f34 f35 f36 f37 f38 f39 f40 f41 f42 f43 f44 f46 f47 f48 f49 f50 f51 f52 f53 f54 f55 f56 f57 f58 f59 f60 f61 f62 f63 f64 f65 f66 f67 f68 f94 f95 f97 f98 f99 f100 f101 f102 f103 f104 f105 f106 f107 f108 f109 f110 f111 f112 f113 f114 f115 f116 f117 f118 f119 f127 f128 f129 f130 f131 f132 f133 f134 f135 f136 f137 f138 f139 f140 f141 f142 f143 f144 f145; omega) | omega, by first | (clear f17 f18 f19 f22 f23 f24 f25 f26 f27 f28 f29 f30 f31 f32 f33 f34 f35 f36 f37 f38 f39 f40 f41 f42 f43 f44 f45 f47 f48 f49 f50 f51 f52 f53 f54 f55 f56 f57 f58 f59 f60 f61 f62 f63 f64 f65 f66 f67 f68 f94 f95 f96 f98 f99 f100 f101 f102 f103 f104 f105 f106 f107 f108 f109 f110 f111 f112 f113 f114 f115 f116 f117 f118 f119 f127 f128 f129 f130 f131 f132 f133 f134 f135 f136 f137 f138 f139 f140 f141 f142 f143 f144 f145; omega) | omega, by first | (clear f17 f18 f19 f20 f22 f23 f24 f25 f26 f27 f28 f29 f30 f31 f32 f33 f34 f35 f36 f37 f38 f39 f40 f41 f42 f43 f44 f45 f46 f48 f49 f50 f51 f52 f53 f54 f55 f56 f57 f58 f59 f60 f61 f62 f63 f64 f65 f66 f67 f68 f94 f95 f96 f97 f99 f100 f101 f102 f103 f104 f105 f106 f107 f108 f109 f110 f111 f112 f113 f114 f115 f116 f117 f118 f119 f127 f128 f129 f130 f131 f132 f133 f134 f135 f136 f137 f138 f139 f140 f141 f142 f143 f144 f145; omega) | omega, by first | (clear f17 f18 f19 f20 f23 f24 f25 f26 f27 f28 f29 f30 f31 f32 f33 f34 f35 f36 f37 f38 f39 f40 f41 f42 f43 f44 f45 f46 f47 f49 f50 f51 f52 f53 f54 f55 f56 f57 f58 f59 f60 f61 f62 f63 f64 f65 f66 f67 f68 f94 f95 f96 f97 f98 f100 f101 f102 f103 f104 f105 f106 f107 f108 f109 f110 f111 f112 f113 f114 f115 f116 f117 f118 f119 f127 f128 f129 f130 f131 f132 f133 f134 f135 f136 f137 f138 f139 f140 f141 f142 f143 f144 f145; omega) | omega, by first | (clear f17 f18 f19 f20 f22 f24 f25 f26 f27 f28 f29 f30 f31 f32 f33 f34 f35 f36 f37 f38 f39 f40 f41 f42 f43 f44 f45 f46 f47 f48 f50 f51 f52 f53 f54 f55 f56 f57 f58 f59 f60 f61 f62 f63 f64 f65 f66 f67 f68 f94 f95 f96 f97 f98 f99 f101 f102 f103 f104 f105 f106 f107 f108 f109 f110 f111 f112 f113 f114 f115 f116 f117 f118 f119 f127 f128 f129 f130 f131 f132 f133 f134 f135 f136 f137 f138 f139 f140 f141 f142 f143 f144 f145; omega) | omega, (eA_ti (j := 0) (((hF73.2.1 173 (by decide)).trans (hF6.2.1 173 (by decide))))).trans (hR_7.trans (eA_ti (j := 0) (((hF73.2.1 235 (by decide)).trans (hF6.2.1 235 (by decide))))).symm), (eA_ti (j := 1) (((hF73.2.1 173 (by decide)).trans (hF6.2.1 173 (by decide))))).trans (hR_8.trans (eA_ti (j := 1) (((hF73.2.1 235 (by decide)).trans (hF6.2.1 235 (by decide))))).symm), (congrArg Int32.toInt (((hF73.1 174 1 (by decide)).trans (hF6.1 174 1 (by decide))))).trans (hR_9.trans (congrArg Int32.toInt (((hF73.1 231 8 (by decide)).trans (hF6.1 231 8 (by decide))))).symm), (congrArg Int32.toInt (((hF73.1 0 16 (by decide)).trans (hF6.1 0 16 (by decide))))).trans (hR_10.trans (congrArg Int32.toInt (((hF73.1 231 6 (by decide)).trans (hF6.1 231 6 (by decide))))).symm), (congrArg Int32.toInt (((hF73.1 176 2 (by decide)).trans (hF6.1 176 2 (by decide))))).trans (hR_11.trans (congrArg Int32.toInt (((hF73.1 231 13 (by decide)).trans (hF6.1 231 13 (by decide))))).symm), IM0.cong hR_12 (eA_ti (j := 0) (((hF73.2.1 173 (by decide)).trans (hF6.2.1 173 (by decide))))) (congrArg Int32.toInt (((hF73.1 59 0 (by decide)).trans (hF6.1 59 0 (by decide))))) (eA_ti (j := 0) (((hF73.2.1 234 (by decide)).trans (hF6.2.1 234 (by decide))))) (congrArg Int32.toInt (((hF73.1 59 12 (by decide)).trans (hF6.1 59 12 (by decide))))) (eA_ti (j := 4) (((hF73.2.1 234 (by decide)).trans (hF6.2.1 234 (by decide))))) (congrArg Int32.toInt (((hF73.1 59 10 (by decide)).trans (hF6.1 59 10 (by decide))))) (eA_ti (j := 5) (((hF73.2.1 234 (by decide)).trans (hF6.2.1 234 (by decide))))) (congrArg Int32.toInt (((hF73.1 59 11 (by decide)).trans (hF6.1 59 11 (by decide))))) (eA_ti (j := 6) (((hF73.2.1 234 (by decide)).trans (hF6.2.1 234 (by decide))))) (congrArg Int32.toInt (((hF73.1 59 4 (by decide)).trans (hF6.1 59 4 (by decide))))) (eA_ti (j := 1) (((hF73.2.1 234 (by decide)).trans (hF6.2.1 234 (by decide))))) (congrArg Int32.toInt (((hF73.1 59 6 (by decide)).trans (hF6.1 59 6 (by decide))))) (eA_ti (j := 2) (((hF73.2.1 234 (by decide)).trans (hF6.2.1 234 (by decide))))) (congrArg Int32.toInt (((hF73.1 59 9 (by decide)).trans (hF6.1 59 9 (by decide))))) (eA_ti (j := 3) (((hF73.2.1 234 (by decide)).trans (hF6.2.1 234 (by decide))))), IM1.cong hR_13 (eA_ti (j := 1) (((hF73.2.1 173 (by decide)).trans (hF6.2.1 173 (by decide))))) (congrArg Int32.toInt (((hF73.1 116 0 (by decide)).trans (hF6.1 116 0 (by decide))))) (eA_ti (j := 5510) (((hF73.2.1 234 (by decide)).trans (hF6.2.1 234 (by decide))))) (congrArg Int32.toInt (((hF73.1 116 12 (by decide)).trans (hF6.1 116 12 (by decide))))) (eA_ti (j := 5514) (((hF73.2.1 234 (by decide)).trans (hF6.2.1 234 (by decide))))) (congrArg Int32.toInt (((hF73.1 116 10 (by decide)).trans (hF6.1 116 10 (by decide))))) (eA_ti (j := 5515) (((hF73.2.1 234 (by decide)).trans (hF6.2.1 234 (by decide))))) (congrArg Int32.toInt (((hF73.1 116 11 (by decide)).trans (hF6.1 116 11 (by decide))))) (eA_ti (j := 5516) (((hF73.2.1 234 (by decide)).trans (hF6.2.1 234 (by decide))))) (congrArg Int32.toInt (((hF73.1 116 4 (by decide)).trans (hF6.1 116 4 (by decide))))) (eA_ti (j := 5511) (((hF73.2.1 234 (by decide)).trans (hF6.2.1 234 (by decide))))) (congrArg Int32.toInt (((hF73.1 116 6 (by decide)).trans (hF6.1 116 6 (by decide))))) (eA_ti (j := 5512) (((hF73.2.1 234 (by decide)).trans (hF6.2.1 234 (by decide))))) (congrArg Int32.toInt (((hF73.1 116 9 (by decide)).trans (hF6.1 116 9 (by decide))))) (eA_ti (j := 5513) (((hF73.2.1 234 (by decide)).trans (hF6.2.1 234 (by decide))))), (show CT _ from ⟨fun i i0 i1 => ⟨(by first | (clear f24 f25 f26 f27 f28 f29 f30 f31 f32 f33 f34 f35 f36 f37 f40 f41 f42 f50 f51 f52 f53 f54 f55 f56 f57 f58 f59 f60 f61 f62 f63 f66 f67 f68 f101 f102 f103 f104 f105 f106 f107 f108 f109 f110 f111 f112 f113 f114 f117 f118 f119 f127 f128 f129 f130 f131 f132 f133 f134 f135 f136 f137 f138 f139 f140 f143 f144 f145; have t0_ := hI0.t0; have t1_ := hI0.t1; have o := (hR_14.1 i i0 i1).1; have x := eA_ti (j := i) (((hF73.2.1 2 (by decide)).trans (hF6.2.1 2 (by decide)))); have m := q80 (10 + 3 * i) (by omega) (by omega); have y1 := eA_ti (j := ((10 + 3 * i))) (hF6.2.1 233 (by decide)); first | exact x.trans (o.trans (m.trans y1).symm) | omega) | (have t0_ := hI0.t0; have t1_ := hI0.t1; have o := (hR_14.1 i i0 i1).1; have x := eA_ti (j := i) (((hF73.2.1 2 (by decide)).trans (hF6.2.1 2 (by decide)))); have m := q80 (10 + 3 * i) (by omega) (by omega); have y1 := eA_ti (j := ((10 + 3 * i))) (hF6.2.1 233 (by decide)); first | exact x.trans (o.trans (m.trans y1).symm) | omega)), (by first | (clear f24 f25 f26 f27 f28 f29 f30 f31 f32 f33 f34 f35 f36 f37 f40 f41 f42 f50 f51 f52 f53 f54 f55 f56 f57 f58 f59 f60 f61 f62 f63 f66 f67 f68 f101 f102 f103 f104 f105 f106 f107 f108 f109 f110 f111 f112 f113 f114 f117 f118 f119 f127 f128 f129 f130 f131 f132 f133 f134 f135 f136 f137 f138 f139 f140 f143 f144 f145; have t0_ := hI0.t0; have t1_ := hI0.t1; have o := (hR_14.1 i i0 i1).2.1; have x := eA_ti (j := i) (((hF73.2.1 3 (by decide)).trans (hF6.2.1 3 (by decide)))); have m := q80 (10 + 3 * i + 1) (by omega) (by omega); have y1 := eA_ti (j := ((10 + 3 * i + 1))) (hF6.2.1 233 (by decide)); first | exact x.trans (o.trans (m.trans y1).symm) | omega) | (have t0_ := hI0.t0; have t1_ := hI0.t1; have o := (hR_14.1 i i0 i1).2.1; have x := eA_ti (j := i) (((hF73.2.1 3 (by decide)).trans (hF6.2.1 3 (by decide)))); have m := q80 (10 + 3 * i + 1) (by omega) (by omega); have y1 := eA_ti (j := ((10 + 3 * i + 1))) (hF6.2.1 233 (by decide)); first | exact x.trans (o.trans (m.trans y1).symm) | omega)), (by first | (clear f24 f25 f26 f27 f28 f29 f30 f31 f32 f33 f34 f35 f36 f37 f40 f41 f42 f50 f51 f52 f53 f54 f55 f56 f57 f58 f59 f60 f61 f62 f63 f66 f67 f68 f101 f102 f103 f104 f105 f106 f107 f108 f109 f110 f111 f112 f113 f114 f117 f118 f119 f127 f128 f129 f130 f131 f132 f133 f134 f135 f136 f137 f138 f139 f140 f143 f144 f145; have t0_ := hI0.t0; have t1_ := hI0.t1; have o := (hR_14.1 i i0 i1).2.2; have x := eA_ti (j := i) (((hF73.2.1 4 (by decide)).trans (hF6.2.1 4 (by decide)))); have m := q80 (10 + 3 * i + 2) (by omega) (by omega); have y1 := eA_ti (j := ((10 + 3 * i + 2))) (hF6.2.1 233 (by decide)); first | exact x.trans (o.trans (m.trans y1).symm) | omega) | (have t0_ := hI0.t0; have t1_ := hI0.t1; have o := (hR_14.1 i i0 i1).2.2; have x := eA_ti (j := i) (((hF73.2.1 4 (by decide)).trans (hF6.2.1 4 (by decide)))); have m := q80 (10 + 3 * i + 2) (by omega) (by omega); have y1 := eA_ti (j := ((10 + 3 * i + 2))) (hF6.2.1 233 (by decide)); first | exact x.trans (o.trans (m.trans y1).symm) | omega))⟩, fun i i0 i1 => ⟨(by first | (clear f24 f25 f26 f27 f28 f29 f30 f31 f32 f33 f34 f35 f36 f37 f40 f41 f42 f50 f51 f52 f53 f54 f55 f56 f57 f58 f59 f60 f61 f62 f63 f66 f67 f68 f101 f102 f103 f104 f105 f106 f107 f108 f109 f110 f111 f112 f113 f114 f117 f118 f119 f127 f128 f129 f130 f131 f132 f133 f134 f135 f136 f137 f138 f139 f140 f143 f144 f145; have t0_ := hI0.t0; have t1_ := hI0.t1; have o := (hR_14.2.1 i i0 i1).1; have x := eA_ti (j := i) (((hF73.2.1 14 (by decide)).trans (hF6.2.1 14 (by decide)))); have m := q81 (94 + 2 * i) (by omega) (by omega); have y1 := eA_ti (j := ((94 + 2 * i))) (hF6.2.1 233 (by decide)); first | exact x.trans (o.trans (m.trans y1).symm) | omega) | (have t0_ := hI0.t0; have t1_ := hI0.t1; have o := (hR_14.2.1 i i0 i1).1; have x := eA_ti (j := i) (((hF73.2.1 14 (by decide)).trans (hF6.2.1 14 (by decide)))); have m := q81 (94 + 2 * i) (by omega) (by omega); have y1 := eA_ti (j := ((94 + 2 * i))) (hF6.2.1 233 (by decide)); first | exact x.trans (o.trans (m.trans y1).symm) | omega)), (by first | (clear f24 f25 f26 f27 f28 f29 f30 f31 f32 f33 f34 f35 f36 f37 f40 f41 f42 f50 f51 f52 f53 f54 f55 f56 f57 f58 f59 f60 f61 f62 f63 f66 f67 f68 f101 f102 f103 f104 f105 f106 f107 f108 f109 f110 f111 f112 f113 f114 f117 f118 f119 f127 f128 f129 f130 f131 f132 f133 f134 f135 f136 f137 f138 f139 f140 f143 f144 f145; have t0_ := hI0.t0; have t1_ := hI0.t1; have o := (hR_14.2.1 i i0 i1).2; have x := eA_ti (j := i) (((hF73.2.1 15 (by decide)).trans (hF6.2.1 15 (by decide)))); have m := q81 (94 + 2 * i + 1) (by omega) (by omega); have y1 := eA_ti (j := ((94 + 2 * i + 1))) (hF6.2.1 233 (by decide)); first | exact x.trans (o.trans (m.trans y1).symm) | omega) | (have t0_ := hI0.t0; have t1_ := hI0.t1; have o := (hR_14.2.1 i i0 i1).2; have x := eA_ti (j := i) (((hF73.2.1 15 (by decide)).trans (hF6.2.1 15 (by decide)))); have m := q81 (94 + 2 * i + 1) (by omega) (by omega); have y1 := eA_ti (j := ((94 + 2 * i + 1))) (hF6.2.1 233 (by decide)); first | exact x.trans (o.trans (m.trans y1).symm) | omega))⟩, fun i i0 i1 => (by first | (clear f24 f25 f26 f27 f28 f29 f30 f31 f32 f33 f34 f35 f36 f37 f40 f41 f42 f50 f51 f52 f53 f54 f55 f56 f57 f58 f59 f60 f61 f62 f63 f66 f67 f68 f101 f102 f103 f104 f105 f106 f107 f108 f109 f110 f111 f112 f113 f114 f117 f118 f119 f127 f128 f129 f130 f131 f132 f133 f134 f135 f136 f137 f138 f139 f140 f143 f144 f145; have t0_ := hI0.t0; have t1_ := hI0.t1; have o : i < 6 * (gI g0 1 4).toInt → _ := fun hz => hR_14.2.2 i i0 hz; have o6 : i + 6 < 6 * (gI g0 1 4).toInt → _ := fun hz => hR_14.2.2 (i + 6) (by omega) hz; have x6 := eA_ix (g := g0) (p := 233) (show 46 + i + 6 = 46 + (i + 6) from by omega); have kd : ¬ (0 ≤ v2.toInt ∧ v2.toInt < (gI g0 1 4).toInt) := pk3; have t9_ := RgF.at hI72.2.1 (p := 1) (b := 4) rfl; dsimp only at t9_; have i9_ : i < 48 := (by omega); have x := (eA_ti (j := i) (hF73.2.1 5 (by decide))).trans (q13 i i0 i9_); have m := q82 (46 + i) (by omega) (by omega); have y1 := eA_ti (j := ((46 + i) + 6)) (hF6.2.1 233 (by decide)); have y2 := eA_ti (j := ((46 + i))) (hF6.2.1 233 (by decide)); (try split at x) <;> (try split at m) <;> omega) | (have t0_ := hI0.t0; have t1_ := hI0.t1; have o : i < 6 * (gI g0 1 4).toInt → _ := fun hz => hR_14.2.2 i i0 hz; have o6 : i + 6 < 6 * (gI g0 1 4).toInt → _ := fun hz => hR_14.2.2 (i + 6) (by omega) hz; have x6 := eA_ix (g := g0) (p := 233) (show 46 + i + 6 = 46 + (i + 6) from by omega); have kd : ¬ (0 ≤ v2.toInt ∧ v2.toInt < (gI g0 1 4).toInt) := pk3; have t9_ := RgF.at hI72.2.1 (p := 1) (b := 4) rfl; dsimp only at t9_; have i9_ : i < 48 := (by omega); have x := (eA_ti (j := i) (hF73.2.1 5 (by decide))).trans (q13 i i0 i9_); have m := q82 (46 + i) (by omega) (by omega); have y1 := eA_ti (j := ((46 + i) + 6)) (hF6.2.1 233 (by decide)); have y2 := eA_ti (j := ((46 + i))) (hF6.2.1 233 (by decide)); (try split at x) <;> (try split at m) <;> omega))⟩), CI0.cong hR_15 (((hF73.2.1 60 (by decide)).trans (hF6.2.1 60 (by decide)))) (((hF73.2.1 61 (by decide)).trans (hF6.2.1 61 (by decide)))) (((hF73.2.1 62 (by decide)).trans (hF6.2.1 62 (by decide)))) (((hF73.2.1 72 (by decide)).trans (hF6.2.1 72 (by decide)))) (((hF73.2.1 73 (by decide)).trans (hF6.2.1 73 (by decide)))) (((hF73.2.1 63 (by decide)).trans (hF6.2.1 63 (by decide)))) (((hF73.2.1 234 (by decide)).trans (hF6.2.1 234 (by decide)))) (congrArg Int32.toInt (((hF73.1 59 4 (by decide)).trans (hF6.1 59 4 (by decide))))), CI1.cong hR_16 (((hF73.2.1 117 (by decide)).trans (hF6.2.1 117 (by decide)))) (((hF73.2.1 118 (by decide)).trans (hF6.2.1 118 (by decide)))) (((hF73.2.1 119 (by decide)).trans (hF6.2.1 119 (by decide)))) (((hF73.2.1 129 (by decide)).trans (hF6.2.1 129 (by decide)))) (((hF73.2.1 130 (by decide)).trans (hF6.2.1 130 (by decide)))) (((hF73.2.1 120 (by decide)).trans (hF6.2.1 120 (by decide)))) (((hF73.2.1 234 (by decide)).trans (hF6.2.1 234 (by decide)))) (congrArg Int32.toInt (((hF73.1 116 4 (by decide)).trans (hF6.1 116 4 (by decide))))), (show RT _ from fun i i0 i1 => (eA_ti (((hF73.2.1 175 (by decide)).trans (hF6.2.1 175 (by decide))))).trans ((hR_17 i i0 (by omega)).trans (eA_ti (((hF73.2.1 236 (by decide)).trans (hF6.2.1 236 (by decide))))).symm)), (show BYX _ from fun i i0 i1 => by rw [TX.c (((hF73.2.1 175 (by decide)).trans (hF6.2.1 175 (by decide))))]; exact hR_18 i i0 (by have i2 : i < (gI _ 174 1).toInt := i1; show i < (gI g0 174 1).toInt; omega)), (LAWR_c hR_19 (LSA_tr (LSA_tr LSA_rf (LSA_fr hF6 rfl)) (LSA_fr hF73 rfl)) (((hF73.1 1 6 (by decide)).trans (hF6.1 1 6 (by decide)))) (((hF73.1 59 6 (by decide)).trans (hF6.1 59 6 (by decide)))) (((hF73.1 116 6 (by decide)).trans (hF6.1 116 6 (by decide)))) (((hF73.2.1 173 (by decide)).trans (hF6.2.1 173 (by decide)))) (fun i i0 i1 => (R3_drop hI5 q81 i i0 i1).trans (eA_ti (hF6.2.1 233 (by decide)))) (((hF73.2.1 234 (by decide)).trans (hF6.2.1 234 (by decide)))) (TOLDX_fr hF73 rfl rfl rfl rfl (fe10.1 hR_19.2.2.2.2))), (SETX_fr hF73 rfl rfl rfl rfl rfl (fe10.2 hR_20))⟩)
  · refine r_callV 444 rfl [.ref 0, .int v2] [] (Nat.le_of_ble_eq_true rfl) rfl (T_X10_drop_0 _ hI0 v2) ?_
    rintro _ _ ⟨g146, rfl, hI147, hF148, v149, rfl, hr150⟩
    refine At.sti ?_
    have hF151 := Fr.tr hF0 hF148 rfl rfl
    have fe152 : PH _ := hr150.2.2
    replace hr150 := And.intro hr150.1 hr150.2.1
    obtain ⟨q153, q154, q155⟩ := hr150
    obtain ⟨i157, i158⟩ := q154
    have w156 := i157 pk3
    clear i157 i158
    have f159 := congrArg Int32.toInt (hF148.1 1 0 rfl)
    have f160 := congrArg Int32.toInt (hF148.1 1 12 rfl)
    have f161 := congrArg Int32.toInt (hF148.1 1 10 rfl)
    have f162 := congrArg Int32.toInt (hF148.1 1 11 rfl)
    have f164 := congrArg Int32.toInt (hF148.1 1 6 rfl)
    have f165 := congrArg Int32.toInt (hF148.1 1 9 rfl)
    have f166 := congrArg Int32.toInt (hF148.1 59 0 rfl)
    have f167 := congrArg Int32.toInt (hF148.1 59 12 rfl)
    have f168 := congrArg Int32.toInt (hF148.1 59 10 rfl)
    have f169 := congrArg Int32.toInt (hF148.1 59 11 rfl)
    have f170 := congrArg Int32.toInt (hF148.1 59 4 rfl)
    have f171 := congrArg Int32.toInt (hF148.1 59 6 rfl)
    have f172 := congrArg Int32.toInt (hF148.1 59 9 rfl)
    have f173 := congrArg Int32.toInt (hF148.1 116 0 rfl)
    have f174 := congrArg Int32.toInt (hF148.1 116 12 rfl)
    have f175 := congrArg Int32.toInt (hF148.1 116 10 rfl)
    have f176 := congrArg Int32.toInt (hF148.1 116 11 rfl)
    have f177 := congrArg Int32.toInt (hF148.1 116 4 rfl)
    have f178 := congrArg Int32.toInt (hF148.1 116 6 rfl)
    have f179 := congrArg Int32.toInt (hF148.1 116 9 rfl)
    have f180 := congrArg Int32.toInt (eA_c (j := 0) (hF148.2.1 173 rfl))
    have f181 := congrArg Int32.toInt (eA_c (j := 1) (hF148.2.1 173 rfl))
    have f182 := congrArg Int32.toInt (hF148.1 174 1 rfl)
    have f183 := congrArg Int32.toInt (hF148.1 0 16 rfl)
    have f184 := congrArg Int32.toInt (hF148.1 176 2 rfl)
    have f185 := congrArg Int32.toInt (eA_c (j := 0) (hF148.2.1 233 rfl))
    have f186 := congrArg Int32.toInt (eA_c (j := 4) (hF148.2.1 233 rfl))
    have f187 := congrArg Int32.toInt (eA_c (j := 5) (hF148.2.1 233 rfl))
    have f188 := congrArg Int32.toInt (eA_c (j := 6) (hF148.2.1 233 rfl))
    have f189 := congrArg Int32.toInt (eA_c (j := 1) (hF148.2.1 233 rfl))
    have f190 := congrArg Int32.toInt (eA_c (j := 2) (hF148.2.1 233 rfl))
    have f191 := congrArg Int32.toInt (eA_c (j := 3) (hF148.2.1 233 rfl))
    have f192 := congrArg Int32.toInt (eA_c (j := 0) (hF148.2.1 234 rfl))
    have f193 := congrArg Int32.toInt (eA_c (j := 4) (hF148.2.1 234 rfl))
    have f194 := congrArg Int32.toInt (eA_c (j := 5) (hF148.2.1 234 rfl))
    have f195 := congrArg Int32.toInt (eA_c (j := 6) (hF148.2.1 234 rfl))
    have f196 := congrArg Int32.toInt (eA_c (j := 1) (hF148.2.1 234 rfl))
    have f197 := congrArg Int32.toInt (eA_c (j := 2) (hF148.2.1 234 rfl))
    have f198 := congrArg Int32.toInt (eA_c (j := 3) (hF148.2.1 234 rfl))
    have f199 := congrArg Int32.toInt (eA_c (j := 5510) (hF148.2.1 234 rfl))
    have f200 := congrArg Int32.toInt (eA_c (j := 5514) (hF148.2.1 234 rfl))
    have f201 := congrArg Int32.toInt (eA_c (j := 5515) (hF148.2.1 234 rfl))
    have f202 := congrArg Int32.toInt (eA_c (j := 5516) (hF148.2.1 234 rfl))
    have f203 := congrArg Int32.toInt (eA_c (j := 5511) (hF148.2.1 234 rfl))
    have f204 := congrArg Int32.toInt (eA_c (j := 5512) (hF148.2.1 234 rfl))
    have f205 := congrArg Int32.toInt (eA_c (j := 5513) (hF148.2.1 234 rfl))
    have f206 := congrArg Int32.toInt (eA_c (j := 0) (hF148.2.1 235 rfl))
    have f207 := congrArg Int32.toInt (eA_c (j := 1) (hF148.2.1 235 rfl))
    have f208 := congrArg Int32.toInt (hF148.1 231 8 rfl)
    have f209 := congrArg Int32.toInt (hF148.1 231 6 rfl)
    have f210 := congrArg Int32.toInt (hF148.1 231 13 rfl)
    refine At.enter rfl ?_
    refine r_pop rfl ?_
    refine r_aload_n e2 ?_
    refine r_sload_n e0 ?_
    refine r_iload_n e3 ?_
    refine r_iconst 1 rfl ?_
    refine q_iadd (i.toInt + 1) rfl hx_1 (fun v211 hv211 => ?_)
    refine q_scald (m := L) hL (i.toInt + 1) hv211 hy_1 (fun v212 hv212 => ?_)
    have sv212 := hv2.symm.trans hv212
    subst sv212
    refine r_callV 454 rfl [.ref 231, .int v2] [] (Nat.le_of_ble_eq_true rfl) rfl (T_X11_drop_231 _ hI147 v2) ?_
    rintro _ _ ⟨g213, rfl, hI214, hF215, v216, rfl, hr217⟩
    refine At.sti ?_
    have hF218 := Fr.tr hF151 hF215 rfl rfl
    obtain ⟨q220, q221, q222, q223, q224⟩ := hr217
    have ek234 : (eA g146 233 0).toInt = (gI g0 1 0).toInt := (eA_ti (j := 0) (hF148.2.1 233 (by decide))).trans hR_0.symm
    have ek235 : (eA g146 233 1).toInt = (gI g0 1 4).toInt := (eA_ti (j := 1) (hF148.2.1 233 (by decide))).trans hR_4.symm
    obtain ⟨i226, i227, sm228, sm229, sm230, sm231, sm232, sm233⟩ := q221
    have w225 := i226 (by rw [ek235]; exact pk3)
    clear i226 i227
    have f236 := congrArg Int32.toInt (hF215.1 1 0 rfl)
    have f237 := congrArg Int32.toInt (hF215.1 1 12 rfl)
    have f238 := congrArg Int32.toInt (hF215.1 1 10 rfl)
    have f239 := congrArg Int32.toInt (hF215.1 1 11 rfl)
    have f240 := congrArg Int32.toInt (hF215.1 1 4 rfl)
    have f241 := congrArg Int32.toInt (hF215.1 1 6 rfl)
    have f242 := congrArg Int32.toInt (hF215.1 1 9 rfl)
    have f243 := congrArg Int32.toInt (hF215.1 59 0 rfl)
    have f244 := congrArg Int32.toInt (hF215.1 59 12 rfl)
    have f245 := congrArg Int32.toInt (hF215.1 59 10 rfl)
    have f246 := congrArg Int32.toInt (hF215.1 59 11 rfl)
    have f247 := congrArg Int32.toInt (hF215.1 59 4 rfl)
    have f248 := congrArg Int32.toInt (hF215.1 59 6 rfl)
    have f249 := congrArg Int32.toInt (hF215.1 59 9 rfl)
    have f250 := congrArg Int32.toInt (hF215.1 116 0 rfl)
    have f251 := congrArg Int32.toInt (hF215.1 116 12 rfl)
    have f252 := congrArg Int32.toInt (hF215.1 116 10 rfl)
    have f253 := congrArg Int32.toInt (hF215.1 116 11 rfl)
    have f254 := congrArg Int32.toInt (hF215.1 116 4 rfl)
    have f255 := congrArg Int32.toInt (hF215.1 116 6 rfl)
    have f256 := congrArg Int32.toInt (hF215.1 116 9 rfl)
    have f257 := congrArg Int32.toInt (eA_c (j := 0) (hF215.2.1 173 rfl))
    have f258 := congrArg Int32.toInt (eA_c (j := 1) (hF215.2.1 173 rfl))
    have f259 := congrArg Int32.toInt (hF215.1 174 1 rfl)
    have f260 := congrArg Int32.toInt (hF215.1 0 16 rfl)
    have f261 := congrArg Int32.toInt (hF215.1 176 2 rfl)
    have f269 := congrArg Int32.toInt (eA_c (j := 0) (hF215.2.1 234 rfl))
    have f270 := congrArg Int32.toInt (eA_c (j := 4) (hF215.2.1 234 rfl))
    have f271 := congrArg Int32.toInt (eA_c (j := 5) (hF215.2.1 234 rfl))
    have f272 := congrArg Int32.toInt (eA_c (j := 6) (hF215.2.1 234 rfl))
    have f273 := congrArg Int32.toInt (eA_c (j := 1) (hF215.2.1 234 rfl))
    have f274 := congrArg Int32.toInt (eA_c (j := 2) (hF215.2.1 234 rfl))
    have f275 := congrArg Int32.toInt (eA_c (j := 3) (hF215.2.1 234 rfl))
    have f276 := congrArg Int32.toInt (eA_c (j := 5510) (hF215.2.1 234 rfl))
    have f277 := congrArg Int32.toInt (eA_c (j := 5514) (hF215.2.1 234 rfl))
    have f278 := congrArg Int32.toInt (eA_c (j := 5515) (hF215.2.1 234 rfl))
    have f279 := congrArg Int32.toInt (eA_c (j := 5516) (hF215.2.1 234 rfl))
    have f280 := congrArg Int32.toInt (eA_c (j := 5511) (hF215.2.1 234 rfl))
    have f281 := congrArg Int32.toInt (eA_c (j := 5512) (hF215.2.1 234 rfl))
    have f282 := congrArg Int32.toInt (eA_c (j := 5513) (hF215.2.1 234 rfl))
    have f283 := congrArg Int32.toInt (eA_c (j := 0) (hF215.2.1 235 rfl))
    have f284 := congrArg Int32.toInt (eA_c (j := 1) (hF215.2.1 235 rfl))
    have f285 := congrArg Int32.toInt (hF215.1 231 8 rfl)
    have f286 := congrArg Int32.toInt (hF215.1 231 6 rfl)
    have f287 := congrArg Int32.toInt (hF215.1 231 13 rfl)
    refine At.enter rfl ?_
    refine r_pop rfl ?_
    refine r_goto ?_
    exact K _ hI214 (show LwR _ from ⟨by first | (clear f160 f161 f162 f164 f165 f166 f167 f168 f169 f170 f171 f172 f173 f174 f175 f176 f177 f178 f179 f180 f181 f182 f183 f184 f186 f187 f188 f189 f190 f191 f192 f193 f194 f195 f196 f197 f198 f199 f200 f201 f202 f203 f204 f205 f206 f207 f208 f209 f210 f237 f238 f239 f240 f241 f242 f243 f244 f245 f246 f247 f248 f249 f250 f251 f252 f253 f254 f255 f256 f257 f258 f259 f260 f261 f269 f270 f271 f272 f273 f274 f275 f276 f277 f278 f279 f280 f281 f282 f283 f284 f285 f286 f287; omega) | omega, by first | (clear f159 f161 f162 f164 f165 f166 f167 f168 f169 f170 f171 f172 f173 f174 f175 f176 f177 f178 f179 f180 f181 f182 f183 f184 f185 f187 f188 f189 f190 f191 f192 f193 f194 f195 f196 f197 f198 f199 f200 f201 f202 f203 f204 f205 f206 f207 f208 f209 f210 f236 f238 f239 f240 f241 f242 f243 f244 f245 f246 f247 f248 f249 f250 f251 f252 f253 f254 f255 f256 f257 f258 f259 f260 f261 f269 f270 f271 f272 f273 f274 f275 f276 f277 f278 f279 f280 f281 f282 f283 f284 f285 f286 f287; omega) | omega, by first | (clear f159 f160 f162 f164 f165 f166 f167 f168 f169 f170 f171 f172 f173 f174 f175 f176 f177 f178 f179 f180 f181 f182 f183 f184 f185 f186 f188 f189 f190 f191 f192 f193 f194 f195 f196 f197 f198 f199 f200 f201 f202 f203 f204 f205 f206 f207 f208 f209 f210 f236 f237 f239 f240 f241 f242 f243 f244 f245 f246 f247 f248 f249 f250 f251 f252 f253 f254 f255 f256 f257 f258 f259 f260 f261 f269 f270 f271 f272 f273 f274 f275 f276 f277 f278 f279 f280 f281 f282 f283 f284 f285 f286 f287; omega) | omega, by first | (clear f159 f160 f161 f164 f165 f166 f167 f168 f169 f170 f171 f172 f173 f174 f175 f176 f177 f178 f179 f180 f181 f182 f183 f184 f185 f186 f187 f189 f190 f191 f192 f193 f194 f195 f196 f197 f198 f199 f200 f201 f202 f203 f204 f205 f206 f207 f208 f209 f210 f236 f237 f238 f240 f241 f242 f243 f244 f245 f246 f247 f248 f249 f250 f251 f252 f253 f254 f255 f256 f257 f258 f259 f260 f261 f269 f270 f271 f272 f273 f274 f275 f276 f277 f278 f279 f280 f281 f282 f283 f284 f285 f286 f287; omega) | omega, by first | (clear f159 f160 f161 f162 f164 f165 f166 f167 f168 f169 f170 f171 f172 f173 f174 f175 f176 f177 f178 f179 f180 f181 f182 f183 f184 f185 f186 f187 f188 f190 f191 f192 f193 f194 f195 f196 f197 f198 f199 f200 f201 f202 f203 f204 f205 f206 f207 f208 f209 f210 f236 f237 f238 f239 f241 f242 f243 f244 f245 f246 f247 f248 f249 f250 f251 f252 f253 f254 f255 f256 f257 f258 f259 f260 f261 f269 f270 f271 f272 f273 f274 f275 f276 f277 f278 f279 f280 f281 f282 f283 f284 f285 f286 f287; omega) | omega, by first | (clear f159 f160 f161 f162 f165 f166 f167 f168 f169 f170 f171 f172 f173 f174 f175 f176 f177 f178 f179 f180 f181 f182 f183 f184 f185 f186 f187 f188 f189 f191 f192 f193 f194 f195 f196 f197 f198 f199 f200 f201 f202 f203 f204 f205 f206 f207 f208 f209 f210 f236 f237 f238 f239 f240 f242 f243 f244 f245 f246 f247 f248 f249 f250 f251 f252 f253 f254 f255 f256 f257 f258 f259 f260 f261 f269 f270 f271 f272 f273 f274 f275 f276 f277 f278 f279 f280 f281 f282 f283 f284 f285 f286 f287; omega) | omega, by first | (clear f159 f160 f161 f162 f164 f166 f167 f168 f169 f170 f171 f172 f173 f174 f175 f176 f177 f178 f179 f180 f181 f182 f183 f184 f185 f186 f187 f188 f189 f190 f192 f193 f194 f195 f196 f197 f198 f199 f200 f201 f202 f203 f204 f205 f206 f207 f208 f209 f210 f236 f237 f238 f239 f240 f241 f243 f244 f245 f246 f247 f248 f249 f250 f251 f252 f253 f254 f255 f256 f257 f258 f259 f260 f261 f269 f270 f271 f272 f273 f274 f275 f276 f277 f278 f279 f280 f281 f282 f283 f284 f285 f286 f287; omega) | omega, (eA_ti (j := 0) (((hF215.2.1 173 (by decide)).trans (hF148.2.1 173 (by decide))))).trans (hR_7.trans (eA_ti (j := 0) (((hF215.2.1 235 (by decide)).trans (hF148.2.1 235 (by decide))))).symm), (eA_ti (j := 1) (((hF215.2.1 173 (by decide)).trans (hF148.2.1 173 (by decide))))).trans (hR_8.trans (eA_ti (j := 1) (((hF215.2.1 235 (by decide)).trans (hF148.2.1 235 (by decide))))).symm), (congrArg Int32.toInt (((hF215.1 174 1 (by decide)).trans (hF148.1 174 1 (by decide))))).trans (hR_9.trans (congrArg Int32.toInt (((hF215.1 231 8 (by decide)).trans (hF148.1 231 8 (by decide))))).symm), (congrArg Int32.toInt (((hF215.1 0 16 (by decide)).trans (hF148.1 0 16 (by decide))))).trans (hR_10.trans (congrArg Int32.toInt (((hF215.1 231 6 (by decide)).trans (hF148.1 231 6 (by decide))))).symm), (congrArg Int32.toInt (((hF215.1 176 2 (by decide)).trans (hF148.1 176 2 (by decide))))).trans (hR_11.trans (congrArg Int32.toInt (((hF215.1 231 13 (by decide)).trans (hF148.1 231 13 (by decide))))).symm), IM0.cong hR_12 (eA_ti (j := 0) (((hF215.2.1 173 (by decide)).trans (hF148.2.1 173 (by decide))))) (congrArg Int32.toInt (((hF215.1 59 0 (by decide)).trans (hF148.1 59 0 (by decide))))) (eA_ti (j := 0) (((hF215.2.1 234 (by decide)).trans (hF148.2.1 234 (by decide))))) (congrArg Int32.toInt (((hF215.1 59 12 (by decide)).trans (hF148.1 59 12 (by decide))))) (eA_ti (j := 4) (((hF215.2.1 234 (by decide)).trans (hF148.2.1 234 (by decide))))) (congrArg Int32.toInt (((hF215.1 59 10 (by decide)).trans (hF148.1 59 10 (by decide))))) (eA_ti (j := 5) (((hF215.2.1 234 (by decide)).trans (hF148.2.1 234 (by decide))))) (congrArg Int32.toInt (((hF215.1 59 11 (by decide)).trans (hF148.1 59 11 (by decide))))) (eA_ti (j := 6) (((hF215.2.1 234 (by decide)).trans (hF148.2.1 234 (by decide))))) (congrArg Int32.toInt (((hF215.1 59 4 (by decide)).trans (hF148.1 59 4 (by decide))))) (eA_ti (j := 1) (((hF215.2.1 234 (by decide)).trans (hF148.2.1 234 (by decide))))) (congrArg Int32.toInt (((hF215.1 59 6 (by decide)).trans (hF148.1 59 6 (by decide))))) (eA_ti (j := 2) (((hF215.2.1 234 (by decide)).trans (hF148.2.1 234 (by decide))))) (congrArg Int32.toInt (((hF215.1 59 9 (by decide)).trans (hF148.1 59 9 (by decide))))) (eA_ti (j := 3) (((hF215.2.1 234 (by decide)).trans (hF148.2.1 234 (by decide))))), IM1.cong hR_13 (eA_ti (j := 1) (((hF215.2.1 173 (by decide)).trans (hF148.2.1 173 (by decide))))) (congrArg Int32.toInt (((hF215.1 116 0 (by decide)).trans (hF148.1 116 0 (by decide))))) (eA_ti (j := 5510) (((hF215.2.1 234 (by decide)).trans (hF148.2.1 234 (by decide))))) (congrArg Int32.toInt (((hF215.1 116 12 (by decide)).trans (hF148.1 116 12 (by decide))))) (eA_ti (j := 5514) (((hF215.2.1 234 (by decide)).trans (hF148.2.1 234 (by decide))))) (congrArg Int32.toInt (((hF215.1 116 10 (by decide)).trans (hF148.1 116 10 (by decide))))) (eA_ti (j := 5515) (((hF215.2.1 234 (by decide)).trans (hF148.2.1 234 (by decide))))) (congrArg Int32.toInt (((hF215.1 116 11 (by decide)).trans (hF148.1 116 11 (by decide))))) (eA_ti (j := 5516) (((hF215.2.1 234 (by decide)).trans (hF148.2.1 234 (by decide))))) (congrArg Int32.toInt (((hF215.1 116 4 (by decide)).trans (hF148.1 116 4 (by decide))))) (eA_ti (j := 5511) (((hF215.2.1 234 (by decide)).trans (hF148.2.1 234 (by decide))))) (congrArg Int32.toInt (((hF215.1 116 6 (by decide)).trans (hF148.1 116 6 (by decide))))) (eA_ti (j := 5512) (((hF215.2.1 234 (by decide)).trans (hF148.2.1 234 (by decide))))) (congrArg Int32.toInt (((hF215.1 116 9 (by decide)).trans (hF148.1 116 9 (by decide))))) (eA_ti (j := 5513) (((hF215.2.1 234 (by decide)).trans (hF148.2.1 234 (by decide))))), (show CT _ from ⟨fun i i0 i1 => ⟨(by first | (clear f166 f167 f168 f169 f170 f171 f172 f173 f174 f175 f176 f177 f178 f179 f182 f183 f184 f192 f193 f194 f195 f196 f197 f198 f199 f200 f201 f202 f203 f204 f205 f208 f209 f210 f243 f244 f245 f246 f247 f248 f249 f250 f251 f252 f253 f254 f255 f256 f259 f260 f261 f269 f270 f271 f272 f273 f274 f275 f276 f277 f278 f279 f280 f281 f282 f285 f286 f287; have t0_ := hI0.t0; have t1_ := hI0.t1; have o := (hR_14.1 i i0 i1).1; have x := eA_ti (j := i) (((hF215.2.1 2 (by decide)).trans (hF148.2.1 2 (by decide)))); have m := q222 (10 + 3 * i) (by omega) (by omega); have y1 := eA_ti (j := ((10 + 3 * i))) (hF148.2.1 233 (by decide)); first | exact x.trans (o.trans (m.trans y1).symm) | omega) | (have t0_ := hI0.t0; have t1_ := hI0.t1; have o := (hR_14.1 i i0 i1).1; have x := eA_ti (j := i) (((hF215.2.1 2 (by decide)).trans (hF148.2.1 2 (by decide)))); have m := q222 (10 + 3 * i) (by omega) (by omega); have y1 := eA_ti (j := ((10 + 3 * i))) (hF148.2.1 233 (by decide)); first | exact x.trans (o.trans (m.trans y1).symm) | omega)), (by first | (clear f166 f167 f168 f169 f170 f171 f172 f173 f174 f175 f176 f177 f178 f179 f182 f183 f184 f192 f193 f194 f195 f196 f197 f198 f199 f200 f201 f202 f203 f204 f205 f208 f209 f210 f243 f244 f245 f246 f247 f248 f249 f250 f251 f252 f253 f254 f255 f256 f259 f260 f261 f269 f270 f271 f272 f273 f274 f275 f276 f277 f278 f279 f280 f281 f282 f285 f286 f287; have t0_ := hI0.t0; have t1_ := hI0.t1; have o := (hR_14.1 i i0 i1).2.1; have x := eA_ti (j := i) (((hF215.2.1 3 (by decide)).trans (hF148.2.1 3 (by decide)))); have m := q222 (10 + 3 * i + 1) (by omega) (by omega); have y1 := eA_ti (j := ((10 + 3 * i + 1))) (hF148.2.1 233 (by decide)); first | exact x.trans (o.trans (m.trans y1).symm) | omega) | (have t0_ := hI0.t0; have t1_ := hI0.t1; have o := (hR_14.1 i i0 i1).2.1; have x := eA_ti (j := i) (((hF215.2.1 3 (by decide)).trans (hF148.2.1 3 (by decide)))); have m := q222 (10 + 3 * i + 1) (by omega) (by omega); have y1 := eA_ti (j := ((10 + 3 * i + 1))) (hF148.2.1 233 (by decide)); first | exact x.trans (o.trans (m.trans y1).symm) | omega)), (by first | (clear f166 f167 f168 f169 f170 f171 f172 f173 f174 f175 f176 f177 f178 f179 f182 f183 f184 f192 f193 f194 f195 f196 f197 f198 f199 f200 f201 f202 f203 f204 f205 f208 f209 f210 f243 f244 f245 f246 f247 f248 f249 f250 f251 f252 f253 f254 f255 f256 f259 f260 f261 f269 f270 f271 f272 f273 f274 f275 f276 f277 f278 f279 f280 f281 f282 f285 f286 f287; have t0_ := hI0.t0; have t1_ := hI0.t1; have o := (hR_14.1 i i0 i1).2.2; have x := eA_ti (j := i) (((hF215.2.1 4 (by decide)).trans (hF148.2.1 4 (by decide)))); have m := q222 (10 + 3 * i + 2) (by omega) (by omega); have y1 := eA_ti (j := ((10 + 3 * i + 2))) (hF148.2.1 233 (by decide)); first | exact x.trans (o.trans (m.trans y1).symm) | omega) | (have t0_ := hI0.t0; have t1_ := hI0.t1; have o := (hR_14.1 i i0 i1).2.2; have x := eA_ti (j := i) (((hF215.2.1 4 (by decide)).trans (hF148.2.1 4 (by decide)))); have m := q222 (10 + 3 * i + 2) (by omega) (by omega); have y1 := eA_ti (j := ((10 + 3 * i + 2))) (hF148.2.1 233 (by decide)); first | exact x.trans (o.trans (m.trans y1).symm) | omega))⟩, fun i i0 i1 => ⟨(by first | (clear f166 f167 f168 f169 f170 f171 f172 f173 f174 f175 f176 f177 f178 f179 f182 f183 f184 f192 f193 f194 f195 f196 f197 f198 f199 f200 f201 f202 f203 f204 f205 f208 f209 f210 f243 f244 f245 f246 f247 f248 f249 f250 f251 f252 f253 f254 f255 f256 f259 f260 f261 f269 f270 f271 f272 f273 f274 f275 f276 f277 f278 f279 f280 f281 f282 f285 f286 f287; have t0_ := hI0.t0; have t1_ := hI0.t1; have o := (hR_14.2.1 i i0 i1).1; have x := eA_ti (j := i) (((hF215.2.1 14 (by decide)).trans (hF148.2.1 14 (by decide)))); have m := q223 (94 + 2 * i) (by omega) (by omega); have y1 := eA_ti (j := ((94 + 2 * i))) (hF148.2.1 233 (by decide)); first | exact x.trans (o.trans (m.trans y1).symm) | omega) | (have t0_ := hI0.t0; have t1_ := hI0.t1; have o := (hR_14.2.1 i i0 i1).1; have x := eA_ti (j := i) (((hF215.2.1 14 (by decide)).trans (hF148.2.1 14 (by decide)))); have m := q223 (94 + 2 * i) (by omega) (by omega); have y1 := eA_ti (j := ((94 + 2 * i))) (hF148.2.1 233 (by decide)); first | exact x.trans (o.trans (m.trans y1).symm) | omega)), (by first | (clear f166 f167 f168 f169 f170 f171 f172 f173 f174 f175 f176 f177 f178 f179 f182 f183 f184 f192 f193 f194 f195 f196 f197 f198 f199 f200 f201 f202 f203 f204 f205 f208 f209 f210 f243 f244 f245 f246 f247 f248 f249 f250 f251 f252 f253 f254 f255 f256 f259 f260 f261 f269 f270 f271 f272 f273 f274 f275 f276 f277 f278 f279 f280 f281 f282 f285 f286 f287; have t0_ := hI0.t0; have t1_ := hI0.t1; have o := (hR_14.2.1 i i0 i1).2; have x := eA_ti (j := i) (((hF215.2.1 15 (by decide)).trans (hF148.2.1 15 (by decide)))); have m := q223 (94 + 2 * i + 1) (by omega) (by omega); have y1 := eA_ti (j := ((94 + 2 * i + 1))) (hF148.2.1 233 (by decide)); first | exact x.trans (o.trans (m.trans y1).symm) | omega) | (have t0_ := hI0.t0; have t1_ := hI0.t1; have o := (hR_14.2.1 i i0 i1).2; have x := eA_ti (j := i) (((hF215.2.1 15 (by decide)).trans (hF148.2.1 15 (by decide)))); have m := q223 (94 + 2 * i + 1) (by omega) (by omega); have y1 := eA_ti (j := ((94 + 2 * i + 1))) (hF148.2.1 233 (by decide)); first | exact x.trans (o.trans (m.trans y1).symm) | omega))⟩, fun i i0 i1 => (by first | (clear f166 f167 f168 f169 f170 f171 f172 f173 f174 f175 f176 f177 f178 f179 f182 f183 f184 f192 f193 f194 f195 f196 f197 f198 f199 f200 f201 f202 f203 f204 f205 f208 f209 f210 f243 f244 f245 f246 f247 f248 f249 f250 f251 f252 f253 f254 f255 f256 f259 f260 f261 f269 f270 f271 f272 f273 f274 f275 f276 f277 f278 f279 f280 f281 f282 f285 f286 f287; have t0_ := hI0.t0; have t1_ := hI0.t1; have o : i < 6 * (gI g0 1 4).toInt → _ := fun hz => hR_14.2.2 i i0 hz; have o6 : i + 6 < 6 * (gI g0 1 4).toInt → _ := fun hz => hR_14.2.2 (i + 6) (by omega) hz; have x6 := eA_ix (g := g0) (p := 233) (show 46 + i + 6 = 46 + (i + 6) from by omega); have kd : (0 ≤ v2.toInt ∧ v2.toInt < (gI g0 1 4).toInt) := pk3; have t9_ := RgF.at hI214.2.1 (p := 1) (b := 4) rfl; dsimp only at t9_; have i9_ : i < 48 := (by omega); have x := (eA_ti (j := i) (hF215.2.1 5 (by decide))).trans (q155 i i0 i9_); have m := q224 (46 + i) (by omega) (by omega); have y1 := eA_ti (j := ((46 + i) + 6)) (hF148.2.1 233 (by decide)); have y2 := eA_ti (j := ((46 + i))) (hF148.2.1 233 (by decide)); (try split at x) <;> (try split at m) <;> omega) | (have t0_ := hI0.t0; have t1_ := hI0.t1; have o : i < 6 * (gI g0 1 4).toInt → _ := fun hz => hR_14.2.2 i i0 hz; have o6 : i + 6 < 6 * (gI g0 1 4).toInt → _ := fun hz => hR_14.2.2 (i + 6) (by omega) hz; have x6 := eA_ix (g := g0) (p := 233) (show 46 + i + 6 = 46 + (i + 6) from by omega); have kd : (0 ≤ v2.toInt ∧ v2.toInt < (gI g0 1 4).toInt) := pk3; have t9_ := RgF.at hI214.2.1 (p := 1) (b := 4) rfl; dsimp only at t9_; have i9_ : i < 48 := (by omega); have x := (eA_ti (j := i) (hF215.2.1 5 (by decide))).trans (q155 i i0 i9_); have m := q224 (46 + i) (by omega) (by omega); have y1 := eA_ti (j := ((46 + i) + 6)) (hF148.2.1 233 (by decide)); have y2 := eA_ti (j := ((46 + i))) (hF148.2.1 233 (by decide)); (try split at x) <;> (try split at m) <;> omega))⟩), CI0.cong hR_15 (((hF215.2.1 60 (by decide)).trans (hF148.2.1 60 (by decide)))) (((hF215.2.1 61 (by decide)).trans (hF148.2.1 61 (by decide)))) (((hF215.2.1 62 (by decide)).trans (hF148.2.1 62 (by decide)))) (((hF215.2.1 72 (by decide)).trans (hF148.2.1 72 (by decide)))) (((hF215.2.1 73 (by decide)).trans (hF148.2.1 73 (by decide)))) (((hF215.2.1 63 (by decide)).trans (hF148.2.1 63 (by decide)))) (((hF215.2.1 234 (by decide)).trans (hF148.2.1 234 (by decide)))) (congrArg Int32.toInt (((hF215.1 59 4 (by decide)).trans (hF148.1 59 4 (by decide))))), CI1.cong hR_16 (((hF215.2.1 117 (by decide)).trans (hF148.2.1 117 (by decide)))) (((hF215.2.1 118 (by decide)).trans (hF148.2.1 118 (by decide)))) (((hF215.2.1 119 (by decide)).trans (hF148.2.1 119 (by decide)))) (((hF215.2.1 129 (by decide)).trans (hF148.2.1 129 (by decide)))) (((hF215.2.1 130 (by decide)).trans (hF148.2.1 130 (by decide)))) (((hF215.2.1 120 (by decide)).trans (hF148.2.1 120 (by decide)))) (((hF215.2.1 234 (by decide)).trans (hF148.2.1 234 (by decide)))) (congrArg Int32.toInt (((hF215.1 116 4 (by decide)).trans (hF148.1 116 4 (by decide))))), (show RT _ from fun i i0 i1 => (eA_ti (((hF215.2.1 175 (by decide)).trans (hF148.2.1 175 (by decide))))).trans ((hR_17 i i0 (by omega)).trans (eA_ti (((hF215.2.1 236 (by decide)).trans (hF148.2.1 236 (by decide))))).symm)), (show BYX _ from fun i i0 i1 => by rw [TX.c (((hF215.2.1 175 (by decide)).trans (hF148.2.1 175 (by decide))))]; exact hR_18 i i0 (by have i2 : i < (gI _ 174 1).toInt := i1; show i < (gI g0 174 1).toInt; omega)), (LAWR_c hR_19 (LSA_tr (LSA_tr LSA_rf (LSA_fr hF148 rfl)) (LSA_fr hF215 rfl)) (((hF215.1 1 6 (by decide)).trans (hF148.1 1 6 (by decide)))) (((hF215.1 59 6 (by decide)).trans (hF148.1 59 6 (by decide)))) (((hF215.1 116 6 (by decide)).trans (hF148.1 116 6 (by decide)))) (((hF215.2.1 173 (by decide)).trans (hF148.2.1 173 (by decide)))) (fun i i0 i1 => (R3_drop hI147 q223 i i0 i1).trans (eA_ti (hF148.2.1 233 (by decide)))) (((hF215.2.1 234 (by decide)).trans (hF148.2.1 234 (by decide)))) (TOLDX_fr hF215 rfl rfl rfl rfl (fe152.1 hR_19.2.2.2.2))), (SETX_fr hF215 rfl rfl rfl rfl rfl (fe152.2 hR_20))⟩)
