set_option maxRecDepth 100000 in
set_option maxHeartbeats 8000000 in
theorem lq_c6 (d : Nat) {N : Nat} {g0 : List en_E} (hI0 : HI g0) (hR0 : LwR g0) {ys : List Int32} {L : Nat} (hL : ys.length = L) (hL2 : L ≤ 3584) {l : en_L} {i : Int32} (e0 : en_get 0 l = some (.float 0)) (e1 : en_get 1 l = some (.ref 0)) (e2 : en_get 2 l = some (.ref 231)) (e3 : en_get 3 l = some (.int i)) (hi : 0 ≤ i.toInt ∧ i.toInt + 7 ≤ L) {Ph : Option Value → en_H → Prop} (K : ∀ g1 : List en_E, HI g1 → LwR g1 → At (d + 423) (some ys) (some .boolean) bs_L_law (1330, l, [], (g1, N)) Ph) : At (d + 423) (some ys) (some .boolean) bs_L_law (458, l, [], (g0, N)) Ph := by
  have hF0 : Fr F_law A_law g0 g0 := Fr.rf
  have hx_1 : -2147483648 ≤ i.toInt + 1 ∧ i.toInt + 1 ≤ 2147483647 := by omega
  have hx_2 : -2147483648 ≤ i.toInt + 2 ∧ i.toInt + 2 ≤ 2147483647 := by omega
  have hx_3 : -2147483648 ≤ i.toInt + 3 ∧ i.toInt + 3 ≤ 2147483647 := by omega
  have hx_4 : -2147483648 ≤ i.toInt + 4 ∧ i.toInt + 4 ≤ 2147483647 := by omega
  have hx_5 : -2147483648 ≤ i.toInt + 5 ∧ i.toInt + 5 ≤ 2147483647 := by omega
  have hx_6 : -2147483648 ≤ i.toInt + 6 ∧ i.toInt + 6 ≤ 2147483647 := by omega
  have hy_0 : 0 ≤ i.toInt ∧ i.toInt < (L : Int) := by omega
  have hy_1 : 0 ≤ i.toInt + 1 ∧ i.toInt + 1 < (L : Int) := by omega
  have hy_2 : 0 ≤ i.toInt + 2 ∧ i.toInt + 2 < (L : Int) := by omega
  have hy_3 : 0 ≤ i.toInt + 3 ∧ i.toInt + 3 < (L : Int) := by omega
  have hy_4 : 0 ≤ i.toInt + 4 ∧ i.toInt + 4 < (L : Int) := by omega
  have hy_5 : 0 ≤ i.toInt + 5 ∧ i.toInt + 5 < (L : Int) := by omega
  have hy_6 : 0 ≤ i.toInt + 6 ∧ i.toInt + 6 < (L : Int) := by omega
  unfold LwR at hR0
  obtain ⟨hR_0, hR_1, hR_2, hR_3, hR_4, hR_5, hR_6, hR_7, hR_8, hR_9, hR_10, hR_11, hR_12, hR_13, hR_14, hR_15, hR_16, hR_17, hR_18, hR_19, hR_20⟩ := hR0
  refine At.enter rfl ?_
  refine r_aload_n e1 ?_
  refine r_sload_n e0 ?_
  refine r_iload_n e3 ?_
  refine r_iconst 1 rfl ?_
  refine q_iadd (i.toInt + 1) rfl hx_1 (fun v1 hv1 => ?_)
  refine q_scald (m := L) hL (i.toInt + 1) hv1 hy_1 (fun v2 hv2 => ?_)
  refine r_sload_n e0 ?_
  refine r_iload_n e3 ?_
  refine r_iconst 2 rfl ?_
  refine q_iadd (i.toInt + 2) rfl hx_2 (fun v3 hv3 => ?_)
  refine q_scald (m := L) hL (i.toInt + 2) hv3 hy_2 (fun v4 hv4 => ?_)
  rcases csT (v2.toInt = 0 ∧ 0 ≤ v4.toInt ∧ v4.toInt ≤ 99) (v2.toInt = 1 ∧ 1 ≤ v4.toInt ∧ v4.toInt ≤ 4) with pk5 | pk5 | pk5
  · refine r_callV 472 rfl [.ref 0, .int v2, .int v4] [] (Nat.le_of_ble_eq_true rfl) rfl (T_X10_terms_0 _ hI0 v2 v4) ?_
    rintro _ _ ⟨g6, rfl, hI7, hF8, v9, rfl, hr10⟩
    refine At.sti ?_
    have hF11 := Fr.tr hF0 hF8 rfl rfl
    have fe12 : PH _ := hr10.2.2
    replace hr10 := And.intro hr10.1 hr10.2.1
    obtain ⟨q13, q14⟩ := hr10
    obtain ⟨i16, i17, i18⟩ := q14
    have w15 := i16 pk5
    clear i16 i17 i18
    have f19 := congrArg Int32.toInt (hF8.1 1 0 rfl)
    have f20 := congrArg Int32.toInt (hF8.1 1 12 rfl)
    have f23 := congrArg Int32.toInt (hF8.1 1 4 rfl)
    have f24 := congrArg Int32.toInt (hF8.1 1 6 rfl)
    have f25 := congrArg Int32.toInt (hF8.1 1 9 rfl)
    have f26 := congrArg Int32.toInt (hF8.1 59 0 rfl)
    have f27 := congrArg Int32.toInt (hF8.1 59 12 rfl)
    have f28 := congrArg Int32.toInt (hF8.1 59 10 rfl)
    have f29 := congrArg Int32.toInt (hF8.1 59 11 rfl)
    have f30 := congrArg Int32.toInt (hF8.1 59 4 rfl)
    have f31 := congrArg Int32.toInt (hF8.1 59 6 rfl)
    have f32 := congrArg Int32.toInt (hF8.1 59 9 rfl)
    have f33 := congrArg Int32.toInt (hF8.1 116 0 rfl)
    have f34 := congrArg Int32.toInt (hF8.1 116 12 rfl)
    have f35 := congrArg Int32.toInt (hF8.1 116 10 rfl)
    have f36 := congrArg Int32.toInt (hF8.1 116 11 rfl)
    have f37 := congrArg Int32.toInt (hF8.1 116 4 rfl)
    have f38 := congrArg Int32.toInt (hF8.1 116 6 rfl)
    have f39 := congrArg Int32.toInt (hF8.1 116 9 rfl)
    have f40 := congrArg Int32.toInt (eA_c (j := 0) (hF8.2.1 173 rfl))
    have f41 := congrArg Int32.toInt (eA_c (j := 1) (hF8.2.1 173 rfl))
    have f42 := congrArg Int32.toInt (hF8.1 174 1 rfl)
    have f43 := congrArg Int32.toInt (hF8.1 0 16 rfl)
    have f44 := congrArg Int32.toInt (hF8.1 176 2 rfl)
    have f45 := congrArg Int32.toInt (eA_c (j := 0) (hF8.2.1 233 rfl))
    have f46 := congrArg Int32.toInt (eA_c (j := 4) (hF8.2.1 233 rfl))
    have f47 := congrArg Int32.toInt (eA_c (j := 5) (hF8.2.1 233 rfl))
    have f48 := congrArg Int32.toInt (eA_c (j := 6) (hF8.2.1 233 rfl))
    have f49 := congrArg Int32.toInt (eA_c (j := 1) (hF8.2.1 233 rfl))
    have f50 := congrArg Int32.toInt (eA_c (j := 2) (hF8.2.1 233 rfl))
    have f51 := congrArg Int32.toInt (eA_c (j := 3) (hF8.2.1 233 rfl))
    have f52 := congrArg Int32.toInt (eA_c (j := 0) (hF8.2.1 234 rfl))
    have f53 := congrArg Int32.toInt (eA_c (j := 4) (hF8.2.1 234 rfl))
    have f54 := congrArg Int32.toInt (eA_c (j := 5) (hF8.2.1 234 rfl))
    have f55 := congrArg Int32.toInt (eA_c (j := 6) (hF8.2.1 234 rfl))
    have f56 := congrArg Int32.toInt (eA_c (j := 1) (hF8.2.1 234 rfl))
    have f57 := congrArg Int32.toInt (eA_c (j := 2) (hF8.2.1 234 rfl))
    have f58 := congrArg Int32.toInt (eA_c (j := 3) (hF8.2.1 234 rfl))
    have f59 := congrArg Int32.toInt (eA_c (j := 5510) (hF8.2.1 234 rfl))
    have f60 := congrArg Int32.toInt (eA_c (j := 5514) (hF8.2.1 234 rfl))
    have f61 := congrArg Int32.toInt (eA_c (j := 5515) (hF8.2.1 234 rfl))
    have f62 := congrArg Int32.toInt (eA_c (j := 5516) (hF8.2.1 234 rfl))
    have f63 := congrArg Int32.toInt (eA_c (j := 5511) (hF8.2.1 234 rfl))
    have f64 := congrArg Int32.toInt (eA_c (j := 5512) (hF8.2.1 234 rfl))
    have f65 := congrArg Int32.toInt (eA_c (j := 5513) (hF8.2.1 234 rfl))
    have f66 := congrArg Int32.toInt (eA_c (j := 0) (hF8.2.1 235 rfl))
    have f67 := congrArg Int32.toInt (eA_c (j := 1) (hF8.2.1 235 rfl))
    have f68 := congrArg Int32.toInt (hF8.1 231 8 rfl)
    have f69 := congrArg Int32.toInt (hF8.1 231 6 rfl)
    have f70 := congrArg Int32.toInt (hF8.1 231 13 rfl)
    refine At.enter rfl ?_
    refine r_pop rfl ?_
    refine r_aload_n e2 ?_
    refine r_sload_n e0 ?_
    refine r_iload_n e3 ?_
    refine r_iconst 1 rfl ?_
    refine q_iadd (i.toInt + 1) rfl hx_1 (fun v71 hv71 => ?_)
    refine q_scald (m := L) hL (i.toInt + 1) hv71 hy_1 (fun v72 hv72 => ?_)
    have sv72 := hv2.symm.trans hv72
    subst sv72
    refine r_sload_n e0 ?_
    refine r_iload_n e3 ?_
    refine r_iconst 2 rfl ?_
    refine q_iadd (i.toInt + 2) rfl hx_2 (fun v73 hv73 => ?_)
    refine q_scald (m := L) hL (i.toInt + 2) hv73 hy_2 (fun v74 hv74 => ?_)
    have sv74 := hv4.symm.trans hv74
    subst sv74
    refine r_callV 487 rfl [.ref 231, .int v2, .int v4] [] (Nat.le_of_ble_eq_true rfl) rfl (T_X11_terms_231 _ hI7 v2 v4) ?_
    rintro _ _ ⟨g75, rfl, hI76, hF77, v78, rfl, hr79⟩
    refine At.sti ?_
    have hF80 := Fr.tr hF11 hF77 rfl rfl
    obtain ⟨q82, q83, q84⟩ := hr79
    obtain ⟨⟨i86, i87, i88⟩, sm89, sm90, sm91, sm92, sm93⟩ := q83
    have w85 := i86 pk5
    clear i86 i87 i88
    have f94 := congrArg Int32.toInt (hF77.1 1 0 rfl)
    have f95 := congrArg Int32.toInt (hF77.1 1 12 rfl)
    have f96 := congrArg Int32.toInt (hF77.1 1 10 rfl)
    have f97 := congrArg Int32.toInt (hF77.1 1 11 rfl)
    have f98 := congrArg Int32.toInt (hF77.1 1 4 rfl)
    have f99 := congrArg Int32.toInt (hF77.1 1 6 rfl)
    have f100 := congrArg Int32.toInt (hF77.1 1 9 rfl)
    have f101 := congrArg Int32.toInt (hF77.1 59 0 rfl)
    have f102 := congrArg Int32.toInt (hF77.1 59 12 rfl)
    have f103 := congrArg Int32.toInt (hF77.1 59 10 rfl)
    have f104 := congrArg Int32.toInt (hF77.1 59 11 rfl)
    have f105 := congrArg Int32.toInt (hF77.1 59 4 rfl)
    have f106 := congrArg Int32.toInt (hF77.1 59 6 rfl)
    have f107 := congrArg Int32.toInt (hF77.1 59 9 rfl)
    have f108 := congrArg Int32.toInt (hF77.1 116 0 rfl)
    have f109 := congrArg Int32.toInt (hF77.1 116 12 rfl)
    have f110 := congrArg Int32.toInt (hF77.1 116 10 rfl)
    have f111 := congrArg Int32.toInt (hF77.1 116 11 rfl)
    have f112 := congrArg Int32.toInt (hF77.1 116 4 rfl)
    have f113 := congrArg Int32.toInt (hF77.1 116 6 rfl)
    have f114 := congrArg Int32.toInt (hF77.1 116 9 rfl)
    have f115 := congrArg Int32.toInt (eA_c (j := 0) (hF77.2.1 173 rfl))
    have f116 := congrArg Int32.toInt (eA_c (j := 1) (hF77.2.1 173 rfl))
    have f117 := congrArg Int32.toInt (hF77.1 174 1 rfl)
    have f118 := congrArg Int32.toInt (hF77.1 0 16 rfl)
    have f119 := congrArg Int32.toInt (hF77.1 176 2 rfl)
    have f127 := congrArg Int32.toInt (eA_c (j := 0) (hF77.2.1 234 rfl))
    have f128 := congrArg Int32.toInt (eA_c (j := 4) (hF77.2.1 234 rfl))
    have f129 := congrArg Int32.toInt (eA_c (j := 5) (hF77.2.1 234 rfl))
    have f130 := congrArg Int32.toInt (eA_c (j := 6) (hF77.2.1 234 rfl))
    have f131 := congrArg Int32.toInt (eA_c (j := 1) (hF77.2.1 234 rfl))
    have f132 := congrArg Int32.toInt (eA_c (j := 2) (hF77.2.1 234 rfl))
    have f133 := congrArg Int32.toInt (eA_c (j := 3) (hF77.2.1 234 rfl))
    have f134 := congrArg Int32.toInt (eA_c (j := 5510) (hF77.2.1 234 rfl))
    have f135 := congrArg Int32.toInt (eA_c (j := 5514) (hF77.2.1 234 rfl))
    have f136 := congrArg Int32.toInt (eA_c (j := 5515) (hF77.2.1 234 rfl))
    have f137 := congrArg Int32.toInt (eA_c (j := 5516) (hF77.2.1 234 rfl))
    have f138 := congrArg Int32.toInt (eA_c (j := 5511) (hF77.2.1 234 rfl))
    have f139 := congrArg Int32.toInt (eA_c (j := 5512) (hF77.2.1 234 rfl))
    have f140 := congrArg Int32.toInt (eA_c (j := 5513) (hF77.2.1 234 rfl))
    have f141 := congrArg Int32.toInt (eA_c (j := 0) (hF77.2.1 235 rfl))
    have f142 := congrArg Int32.toInt (eA_c (j := 1) (hF77.2.1 235 rfl))
    have f143 := congrArg Int32.toInt (hF77.1 231 8 rfl)
    have f144 := congrArg Int32.toInt (hF77.1 231 6 rfl)
    have f145 := congrArg Int32.toInt (hF77.1 231 13 rfl)
    refine At.enter rfl ?_
    refine r_pop rfl ?_
    refine r_goto ?_
    exact K _ hI76 (show LwR _ from ⟨by first | (clear f20 f23 f24 f25 f26 f27 f28 f29 f30 f31 f32 f33 f34 f35 f36 f37 f38 f39 f40 f41 f42 f43 f44 f46 f47 f48 f49 f50 f51 f52 f53 f54 f55 f56 f57 f58 f59 f60 f61 f62 f63 f64 f65 f66 f67 f68 f69 f70 f95 f96 f97 f98 f99 f100 f101 f102 f103 f104 f105 f106 f107 f108 f109 f110 f111 f112 f113 f114 f115 f116 f117 f118 f119 f127 f128 f129 f130 f131 f132 f133 f134 f135 f136 f137 f138 f139 f140 f141 f142 f143 f144 f145; omega) | omega, by first | (clear f19 f23 f24 f25 f26 f27 f28 f29 f30 f31 f32 f33 f34 f35 f36 f37 f38 f39 f40 f41 f42 f43 f44 f45 f47 f48 f49 f50 f51 f52 f53 f54 f55 f56 f57 f58 f59 f60 f61 f62 f63 f64 f65 f66 f67 f68 f69 f70 f94 f96 f97 f98 f99 f100 f101 f102 f103 f104 f105 f106 f107 f108 f109 f110 f111 f112 f113 f114 f115 f116 f117 f118 f119 f127 f128 f129 f130 f131 f132 f133 f134 f135 f136 f137 f138 f139 f140 f141 f142 f143 f144 f145; omega) | omega, by first | (clear f19 f20 f23 f24 f25 f26 f27 f28 f29 f30 f31 f32 f33 f34 f35 f36 f37 f38 f39 f40 f41 f42 f43 f44 f45 f46 f48 f49 f50 f51 f52 f53 f54 f55 f56 f57 f58 f59 f60 f61 f62 f63 f64 f65 f66 f67 f68 f69 f70 f94 f95 f97 f98 f99 f100 f101 f102 f103 f104 f105 f106 f107 f108 f109 f110 f111 f112 f113 f114 f115 f116 f117 f118 f119 f127 f128 f129 f130 f131 f132 f133 f134 f135 f136 f137 f138 f139 f140 f141 f142 f143 f144 f145; omega) | omega, by first | (clear f19 f20 f23 f24 f25 f26 f27 f28 f29 f30 f31 f32 f33 f34 f35 f36 f37 f38 f39 f40 f41 f42 f43 f44 f45 f46 f47 f49 f50 f51 f52 f53 f54 f55 f56 f57 f58 f59 f60 f61 f62 f63 f64 f65 f66 f67 f68 f69 f70 f94 f95 f96 f98 f99 f100 f101 f102 f103 f104 f105 f106 f107 f108 f109 f110 f111 f112 f113 f114 f115 f116 f117 f118 f119 f127 f128 f129 f130 f131 f132 f133 f134 f135 f136 f137 f138 f139 f140 f141 f142 f143 f144 f145; omega) | omega, by first | (clear f19 f20 f24 f25 f26 f27 f28 f29 f30 f31 f32 f33 f34 f35 f36 f37 f38 f39 f40 f41 f42 f43 f44 f45 f46 f47 f48 f50 f51 f52 f53 f54 f55 f56 f57 f58 f59 f60 f61 f62 f63 f64 f65 f66 f67 f68 f69 f70 f94 f95 f96 f97 f99 f100 f101 f102 f103 f104 f105 f106 f107 f108 f109 f110 f111 f112 f113 f114 f115 f116 f117 f118 f119 f127 f128 f129 f130 f131 f132 f133 f134 f135 f136 f137 f138 f139 f140 f141 f142 f143 f144 f145; omega) | omega, by first | (clear f19 f20 f23 f25 f26 f27 f28 f29 f30 f31 f32 f33 f34 f35 f36 f37 f38 f39 f40 f41 f42 f43 f44 f45 f46 f47 f48 f49 f51 f52 f53 f54 f55 f56 f57 f58 f59 f60 f61 f62 f63 f64 f65 f66 f67 f68 f69 f70 f94 f95 f96 f97 f98 f100 f101 f102 f103 f104 f105 f106 f107 f108 f109 f110 f111 f112 f113 f114 f115 f116 f117 f118 f119 f127 f128 f129 f130 f131 f132 f133 f134 f135 f136 f137 f138 f139 f140 f141 f142 f143 f144 f145; omega) | omega, by first | (clear f19 f20 f23 f24 f26 f27 f28 f29 f30 f31 f32 f33 f34 f35 f36 f37 f38 f39 f40 f41 f42 f43 f44 f45 f46 f47 f48 f49 f50 f52 f53 f54 f55 f56 f57 f58 f59 f60 f61 f62 f63 f64 f65 f66 f67 f68 f69 f70 f94 f95 f96 f97 f98 f99 f101 f102 f103 f104 f105 f106 f107 f108 f109 f110 f111 f112 f113 f114 f115 f116 f117 f118 f119 f127 f128 f129 f130 f131 f132 f133 f134 f135 f136 f137 f138 f139 f140 f141 f142 f143 f144 f145; omega) | omega, (eA_ti (j := 0) (((hF77.2.1 173 (by decide)).trans (hF8.2.1 173 (by decide))))).trans (hR_7.trans (eA_ti (j := 0) (((hF77.2.1 235 (by decide)).trans (hF8.2.1 235 (by decide))))).symm), (eA_ti (j := 1) (((hF77.2.1 173 (by decide)).trans (hF8.2.1 173 (by decide))))).trans (hR_8.trans (eA_ti (j := 1) (((hF77.2.1 235 (by decide)).trans (hF8.2.1 235 (by decide))))).symm), (congrArg Int32.toInt (((hF77.1 174 1 (by decide)).trans (hF8.1 174 1 (by decide))))).trans (hR_9.trans (congrArg Int32.toInt (((hF77.1 231 8 (by decide)).trans (hF8.1 231 8 (by decide))))).symm), (congrArg Int32.toInt (((hF77.1 0 16 (by decide)).trans (hF8.1 0 16 (by decide))))).trans (hR_10.trans (congrArg Int32.toInt (((hF77.1 231 6 (by decide)).trans (hF8.1 231 6 (by decide))))).symm), (congrArg Int32.toInt (((hF77.1 176 2 (by decide)).trans (hF8.1 176 2 (by decide))))).trans (hR_11.trans (congrArg Int32.toInt (((hF77.1 231 13 (by decide)).trans (hF8.1 231 13 (by decide))))).symm), IM0.cong hR_12 (eA_ti (j := 0) (((hF77.2.1 173 (by decide)).trans (hF8.2.1 173 (by decide))))) (congrArg Int32.toInt (((hF77.1 59 0 (by decide)).trans (hF8.1 59 0 (by decide))))) (eA_ti (j := 0) (((hF77.2.1 234 (by decide)).trans (hF8.2.1 234 (by decide))))) (congrArg Int32.toInt (((hF77.1 59 12 (by decide)).trans (hF8.1 59 12 (by decide))))) (eA_ti (j := 4) (((hF77.2.1 234 (by decide)).trans (hF8.2.1 234 (by decide))))) (congrArg Int32.toInt (((hF77.1 59 10 (by decide)).trans (hF8.1 59 10 (by decide))))) (eA_ti (j := 5) (((hF77.2.1 234 (by decide)).trans (hF8.2.1 234 (by decide))))) (congrArg Int32.toInt (((hF77.1 59 11 (by decide)).trans (hF8.1 59 11 (by decide))))) (eA_ti (j := 6) (((hF77.2.1 234 (by decide)).trans (hF8.2.1 234 (by decide))))) (congrArg Int32.toInt (((hF77.1 59 4 (by decide)).trans (hF8.1 59 4 (by decide))))) (eA_ti (j := 1) (((hF77.2.1 234 (by decide)).trans (hF8.2.1 234 (by decide))))) (congrArg Int32.toInt (((hF77.1 59 6 (by decide)).trans (hF8.1 59 6 (by decide))))) (eA_ti (j := 2) (((hF77.2.1 234 (by decide)).trans (hF8.2.1 234 (by decide))))) (congrArg Int32.toInt (((hF77.1 59 9 (by decide)).trans (hF8.1 59 9 (by decide))))) (eA_ti (j := 3) (((hF77.2.1 234 (by decide)).trans (hF8.2.1 234 (by decide))))), IM1.cong hR_13 (eA_ti (j := 1) (((hF77.2.1 173 (by decide)).trans (hF8.2.1 173 (by decide))))) (congrArg Int32.toInt (((hF77.1 116 0 (by decide)).trans (hF8.1 116 0 (by decide))))) (eA_ti (j := 5510) (((hF77.2.1 234 (by decide)).trans (hF8.2.1 234 (by decide))))) (congrArg Int32.toInt (((hF77.1 116 12 (by decide)).trans (hF8.1 116 12 (by decide))))) (eA_ti (j := 5514) (((hF77.2.1 234 (by decide)).trans (hF8.2.1 234 (by decide))))) (congrArg Int32.toInt (((hF77.1 116 10 (by decide)).trans (hF8.1 116 10 (by decide))))) (eA_ti (j := 5515) (((hF77.2.1 234 (by decide)).trans (hF8.2.1 234 (by decide))))) (congrArg Int32.toInt (((hF77.1 116 11 (by decide)).trans (hF8.1 116 11 (by decide))))) (eA_ti (j := 5516) (((hF77.2.1 234 (by decide)).trans (hF8.2.1 234 (by decide))))) (congrArg Int32.toInt (((hF77.1 116 4 (by decide)).trans (hF8.1 116 4 (by decide))))) (eA_ti (j := 5511) (((hF77.2.1 234 (by decide)).trans (hF8.2.1 234 (by decide))))) (congrArg Int32.toInt (((hF77.1 116 6 (by decide)).trans (hF8.1 116 6 (by decide))))) (eA_ti (j := 5512) (((hF77.2.1 234 (by decide)).trans (hF8.2.1 234 (by decide))))) (congrArg Int32.toInt (((hF77.1 116 9 (by decide)).trans (hF8.1 116 9 (by decide))))) (eA_ti (j := 5513) (((hF77.2.1 234 (by decide)).trans (hF8.2.1 234 (by decide))))), (show CT _ from ⟨fun i i0 i1 => ⟨(by first | (clear f26 f27 f28 f29 f30 f31 f32 f33 f34 f35 f36 f37 f38 f39 f42 f43 f44 f52 f53 f54 f55 f56 f57 f58 f59 f60 f61 f62 f63 f64 f65 f68 f69 f70 f101 f102 f103 f104 f105 f106 f107 f108 f109 f110 f111 f112 f113 f114 f117 f118 f119 f127 f128 f129 f130 f131 f132 f133 f134 f135 f136 f137 f138 f139 f140 f143 f144 f145; have t0_ := hI0.t0; have t1_ := hI0.t1; have o := (hR_14.1 i i0 i1).1; have x := eA_ti (j := i) (((hF77.2.1 2 (by decide)).trans (hF8.2.1 2 (by decide)))); have m := q84 (10 + 3 * i) (by omega) (by omega); have y1 := eA_ti (j := ((10 + 3 * i))) (hF8.2.1 233 (by decide)); first | exact x.trans (o.trans (m.trans y1).symm) | omega) | (have t0_ := hI0.t0; have t1_ := hI0.t1; have o := (hR_14.1 i i0 i1).1; have x := eA_ti (j := i) (((hF77.2.1 2 (by decide)).trans (hF8.2.1 2 (by decide)))); have m := q84 (10 + 3 * i) (by omega) (by omega); have y1 := eA_ti (j := ((10 + 3 * i))) (hF8.2.1 233 (by decide)); first | exact x.trans (o.trans (m.trans y1).symm) | omega)), (by first | (clear f26 f27 f28 f29 f30 f31 f32 f33 f34 f35 f36 f37 f38 f39 f42 f43 f44 f52 f53 f54 f55 f56 f57 f58 f59 f60 f61 f62 f63 f64 f65 f68 f69 f70 f101 f102 f103 f104 f105 f106 f107 f108 f109 f110 f111 f112 f113 f114 f117 f118 f119 f127 f128 f129 f130 f131 f132 f133 f134 f135 f136 f137 f138 f139 f140 f143 f144 f145; have t0_ := hI0.t0; have t1_ := hI0.t1; have o := (hR_14.1 i i0 i1).2.1; have x := eA_ti (j := i) (((hF77.2.1 3 (by decide)).trans (hF8.2.1 3 (by decide)))); have m := q84 (10 + 3 * i + 1) (by omega) (by omega); have y1 := eA_ti (j := ((10 + 3 * i + 1))) (hF8.2.1 233 (by decide)); first | exact x.trans (o.trans (m.trans y1).symm) | omega) | (have t0_ := hI0.t0; have t1_ := hI0.t1; have o := (hR_14.1 i i0 i1).2.1; have x := eA_ti (j := i) (((hF77.2.1 3 (by decide)).trans (hF8.2.1 3 (by decide)))); have m := q84 (10 + 3 * i + 1) (by omega) (by omega); have y1 := eA_ti (j := ((10 + 3 * i + 1))) (hF8.2.1 233 (by decide)); first | exact x.trans (o.trans (m.trans y1).symm) | omega)), (by first | (clear f26 f27 f28 f29 f30 f31 f32 f33 f34 f35 f36 f37 f38 f39 f42 f43 f44 f52 f53 f54 f55 f56 f57 f58 f59 f60 f61 f62 f63 f64 f65 f68 f69 f70 f101 f102 f103 f104 f105 f106 f107 f108 f109 f110 f111 f112 f113 f114 f117 f118 f119 f127 f128 f129 f130 f131 f132 f133 f134 f135 f136 f137 f138 f139 f140 f143 f144 f145; have t0_ := hI0.t0; have t1_ := hI0.t1; have o := (hR_14.1 i i0 i1).2.2; have x := eA_ti (j := i) (((hF77.2.1 4 (by decide)).trans (hF8.2.1 4 (by decide)))); have m := q84 (10 + 3 * i + 2) (by omega) (by omega); have y1 := eA_ti (j := ((10 + 3 * i + 2))) (hF8.2.1 233 (by decide)); first | exact x.trans (o.trans (m.trans y1).symm) | omega) | (have t0_ := hI0.t0; have t1_ := hI0.t1; have o := (hR_14.1 i i0 i1).2.2; have x := eA_ti (j := i) (((hF77.2.1 4 (by decide)).trans (hF8.2.1 4 (by decide)))); have m := q84 (10 + 3 * i + 2) (by omega) (by omega); have y1 := eA_ti (j := ((10 + 3 * i + 2))) (hF8.2.1 233 (by decide)); first | exact x.trans (o.trans (m.trans y1).symm) | omega))⟩, fun i i0 i1 => ⟨(by first | (clear f26 f27 f28 f29 f30 f31 f32 f33 f34 f35 f36 f37 f38 f39 f42 f43 f44 f52 f53 f54 f55 f56 f57 f58 f59 f60 f61 f62 f63 f64 f65 f68 f69 f70 f101 f102 f103 f104 f105 f106 f107 f108 f109 f110 f111 f112 f113 f114 f117 f118 f119 f127 f128 f129 f130 f131 f132 f133 f134 f135 f136 f137 f138 f139 f140 f143 f144 f145; have t0_ := hI0.t0; have t1_ := hI0.t1; have o := (hR_14.2.1 i i0 i1).1; have x := eA_ti (j := i) (((hF77.2.1 14 (by decide)).trans (hF8.2.1 14 (by decide)))); have m := q84 (94 + 2 * i) (by omega) (by omega); have y1 := eA_ti (j := ((94 + 2 * i))) (hF8.2.1 233 (by decide)); first | exact x.trans (o.trans (m.trans y1).symm) | omega) | (have t0_ := hI0.t0; have t1_ := hI0.t1; have o := (hR_14.2.1 i i0 i1).1; have x := eA_ti (j := i) (((hF77.2.1 14 (by decide)).trans (hF8.2.1 14 (by decide)))); have m := q84 (94 + 2 * i) (by omega) (by omega); have y1 := eA_ti (j := ((94 + 2 * i))) (hF8.2.1 233 (by decide)); first | exact x.trans (o.trans (m.trans y1).symm) | omega)), (by first | (clear f26 f27 f28 f29 f30 f31 f32 f33 f34 f35 f36 f37 f38 f39 f42 f43 f44 f52 f53 f54 f55 f56 f57 f58 f59 f60 f61 f62 f63 f64 f65 f68 f69 f70 f101 f102 f103 f104 f105 f106 f107 f108 f109 f110 f111 f112 f113 f114 f117 f118 f119 f127 f128 f129 f130 f131 f132 f133 f134 f135 f136 f137 f138 f139 f140 f143 f144 f145; have t0_ := hI0.t0; have t1_ := hI0.t1; have o := (hR_14.2.1 i i0 i1).2; have x := eA_ti (j := i) (((hF77.2.1 15 (by decide)).trans (hF8.2.1 15 (by decide)))); have m := q84 (94 + 2 * i + 1) (by omega) (by omega); have y1 := eA_ti (j := ((94 + 2 * i + 1))) (hF8.2.1 233 (by decide)); first | exact x.trans (o.trans (m.trans y1).symm) | omega) | (have t0_ := hI0.t0; have t1_ := hI0.t1; have o := (hR_14.2.1 i i0 i1).2; have x := eA_ti (j := i) (((hF77.2.1 15 (by decide)).trans (hF8.2.1 15 (by decide)))); have m := q84 (94 + 2 * i + 1) (by omega) (by omega); have y1 := eA_ti (j := ((94 + 2 * i + 1))) (hF8.2.1 233 (by decide)); first | exact x.trans (o.trans (m.trans y1).symm) | omega))⟩, fun i i0 i1 => (by first | (clear f26 f27 f28 f29 f30 f31 f32 f33 f34 f35 f36 f37 f38 f39 f42 f43 f44 f52 f53 f54 f55 f56 f57 f58 f59 f60 f61 f62 f63 f64 f65 f68 f69 f70 f101 f102 f103 f104 f105 f106 f107 f108 f109 f110 f111 f112 f113 f114 f117 f118 f119 f127 f128 f129 f130 f131 f132 f133 f134 f135 f136 f137 f138 f139 f140 f143 f144 f145; have t0_ := hI0.t0; have t1_ := hI0.t1; have o : i < 6 * (gI g0 1 4).toInt → _ := fun hz => hR_14.2.2 i i0 hz; have x := eA_ti (j := i) (((hF77.2.1 5 (by decide)).trans (hF8.2.1 5 (by decide)))); have m := q84 (46 + i) (by omega) (by omega); have y1 := eA_ti (j := ((46 + i))) (hF8.2.1 233 (by decide)); omega) | (have t0_ := hI0.t0; have t1_ := hI0.t1; have o : i < 6 * (gI g0 1 4).toInt → _ := fun hz => hR_14.2.2 i i0 hz; have x := eA_ti (j := i) (((hF77.2.1 5 (by decide)).trans (hF8.2.1 5 (by decide)))); have m := q84 (46 + i) (by omega) (by omega); have y1 := eA_ti (j := ((46 + i))) (hF8.2.1 233 (by decide)); omega))⟩), CI0.cong hR_15 (((hF77.2.1 60 (by decide)).trans (hF8.2.1 60 (by decide)))) (((hF77.2.1 61 (by decide)).trans (hF8.2.1 61 (by decide)))) (((hF77.2.1 62 (by decide)).trans (hF8.2.1 62 (by decide)))) (((hF77.2.1 72 (by decide)).trans (hF8.2.1 72 (by decide)))) (((hF77.2.1 73 (by decide)).trans (hF8.2.1 73 (by decide)))) (((hF77.2.1 63 (by decide)).trans (hF8.2.1 63 (by decide)))) (((hF77.2.1 234 (by decide)).trans (hF8.2.1 234 (by decide)))) (congrArg Int32.toInt (((hF77.1 59 4 (by decide)).trans (hF8.1 59 4 (by decide))))), CI1.cong hR_16 (((hF77.2.1 117 (by decide)).trans (hF8.2.1 117 (by decide)))) (((hF77.2.1 118 (by decide)).trans (hF8.2.1 118 (by decide)))) (((hF77.2.1 119 (by decide)).trans (hF8.2.1 119 (by decide)))) (((hF77.2.1 129 (by decide)).trans (hF8.2.1 129 (by decide)))) (((hF77.2.1 130 (by decide)).trans (hF8.2.1 130 (by decide)))) (((hF77.2.1 120 (by decide)).trans (hF8.2.1 120 (by decide)))) (((hF77.2.1 234 (by decide)).trans (hF8.2.1 234 (by decide)))) (congrArg Int32.toInt (((hF77.1 116 4 (by decide)).trans (hF8.1 116 4 (by decide))))), (show RT _ from fun i i0 i1 => (eA_ti (((hF77.2.1 175 (by decide)).trans (hF8.2.1 175 (by decide))))).trans ((hR_17 i i0 (by omega)).trans (eA_ti (((hF77.2.1 236 (by decide)).trans (hF8.2.1 236 (by decide))))).symm)), (show BYX _ from fun i i0 i1 => by rw [TX.c (((hF77.2.1 175 (by decide)).trans (hF8.2.1 175 (by decide))))]; exact hR_18 i i0 (by have i2 : i < (gI _ 174 1).toInt := i1; show i < (gI g0 174 1).toInt; omega)), (LAWR_c hR_19 (LSA_tr (LSA_tr LSA_rf (LSA_fr hF8 rfl)) (LSA_fr hF77 rfl)) (((hF77.1 1 6 (by decide)).trans (hF8.1 1 6 (by decide)))) (((hF77.1 59 6 (by decide)).trans (hF8.1 59 6 (by decide)))) (((hF77.1 116 6 (by decide)).trans (hF8.1 116 6 (by decide)))) (((hF77.2.1 173 (by decide)).trans (hF8.2.1 173 (by decide)))) (fun i i0 i1 => (R3_terms hI7 q84 i i0 i1).trans (eA_ti (hF8.2.1 233 (by decide)))) (((hF77.2.1 234 (by decide)).trans (hF8.2.1 234 (by decide)))) (TOLDX_fr hF77 rfl rfl rfl rfl (fe12.1 hR_19.2.2.2.2))), (SETX_fr hF77 rfl rfl rfl rfl rfl (fe12.2 hR_20))⟩)
  · refine r_callV 472 rfl [.ref 0, .int v2, .int v4] [] (Nat.le_of_ble_eq_true rfl) rfl (T_X10_terms_0 _ hI0 v2 v4) ?_
    rintro _ _ ⟨g146, rfl, hI147, hF148, v149, rfl, hr150⟩
    refine At.sti ?_
    have hF151 := Fr.tr hF0 hF148 rfl rfl
    have fe152 : PH _ := hr150.2.2
    replace hr150 := And.intro hr150.1 hr150.2.1
    obtain ⟨q153, q154⟩ := hr150
    obtain ⟨i156, i157, i158⟩ := q154
    have w155 := i157 pk5
    clear i156 i157 i158
    have f159 := congrArg Int32.toInt (hF148.1 1 0 rfl)
    have f160 := congrArg Int32.toInt (hF148.1 1 12 rfl)
    have f163 := congrArg Int32.toInt (hF148.1 1 4 rfl)
    have f164 := congrArg Int32.toInt (hF148.1 1 6 rfl)
    have f165 := congrArg Int32.toInt (hF148.1 1 9 rfl)
    have f166 := congrArg Int32.toInt (hF148.1 59 0 rfl)
    have f167 := congrArg Int32.toInt (hF148.1 59 12 rfl)
    have f168 := congrArg Int32.toInt (hF148.1 59 10 rfl)
    have f169 := congrArg Int32.toInt (hF148.1 59 11 rfl)
    have f170 := congrArg Int32.toInt (hF148.1 59 4 rfl)
    have f171 := congrArg Int32.toInt (hF148.1 59 6 rfl)
    have f172 := congrArg Int32.toInt (hF148.1 59 9 rfl)
    have f173 := congrArg Int32.toInt (hF148.1 116 0 rfl)
    have f174 := congrArg Int32.toInt (hF148.1 116 12 rfl)
    have f175 := congrArg Int32.toInt (hF148.1 116 10 rfl)
    have f176 := congrArg Int32.toInt (hF148.1 116 11 rfl)
    have f177 := congrArg Int32.toInt (hF148.1 116 4 rfl)
    have f178 := congrArg Int32.toInt (hF148.1 116 6 rfl)
    have f179 := congrArg Int32.toInt (hF148.1 116 9 rfl)
    have f180 := congrArg Int32.toInt (eA_c (j := 0) (hF148.2.1 173 rfl))
    have f181 := congrArg Int32.toInt (eA_c (j := 1) (hF148.2.1 173 rfl))
    have f182 := congrArg Int32.toInt (hF148.1 174 1 rfl)
    have f183 := congrArg Int32.toInt (hF148.1 0 16 rfl)
    have f184 := congrArg Int32.toInt (hF148.1 176 2 rfl)
    have f185 := congrArg Int32.toInt (eA_c (j := 0) (hF148.2.1 233 rfl))
    have f186 := congrArg Int32.toInt (eA_c (j := 4) (hF148.2.1 233 rfl))
    have f187 := congrArg Int32.toInt (eA_c (j := 5) (hF148.2.1 233 rfl))
    have f188 := congrArg Int32.toInt (eA_c (j := 6) (hF148.2.1 233 rfl))
    have f189 := congrArg Int32.toInt (eA_c (j := 1) (hF148.2.1 233 rfl))
    have f190 := congrArg Int32.toInt (eA_c (j := 2) (hF148.2.1 233 rfl))
    have f191 := congrArg Int32.toInt (eA_c (j := 3) (hF148.2.1 233 rfl))
    have f192 := congrArg Int32.toInt (eA_c (j := 0) (hF148.2.1 234 rfl))
    have f193 := congrArg Int32.toInt (eA_c (j := 4) (hF148.2.1 234 rfl))
    have f194 := congrArg Int32.toInt (eA_c (j := 5) (hF148.2.1 234 rfl))
    have f195 := congrArg Int32.toInt (eA_c (j := 6) (hF148.2.1 234 rfl))
    have f196 := congrArg Int32.toInt (eA_c (j := 1) (hF148.2.1 234 rfl))
    have f197 := congrArg Int32.toInt (eA_c (j := 2) (hF148.2.1 234 rfl))
    have f198 := congrArg Int32.toInt (eA_c (j := 3) (hF148.2.1 234 rfl))
    have f199 := congrArg Int32.toInt (eA_c (j := 5510) (hF148.2.1 234 rfl))
    have f200 := congrArg Int32.toInt (eA_c (j := 5514) (hF148.2.1 234 rfl))
    have f201 := congrArg Int32.toInt (eA_c (j := 5515) (hF148.2.1 234 rfl))
    have f202 := congrArg Int32.toInt (eA_c (j := 5516) (hF148.2.1 234 rfl))
    have f203 := congrArg Int32.toInt (eA_c (j := 5511) (hF148.2.1 234 rfl))
    have f204 := congrArg Int32.toInt (eA_c (j := 5512) (hF148.2.1 234 rfl))
    have f205 := congrArg Int32.toInt (eA_c (j := 5513) (hF148.2.1 234 rfl))
    have f206 := congrArg Int32.toInt (eA_c (j := 0) (hF148.2.1 235 rfl))
    have f207 := congrArg Int32.toInt (eA_c (j := 1) (hF148.2.1 235 rfl))
    have f208 := congrArg Int32.toInt (hF148.1 231 8 rfl)
    have f209 := congrArg Int32.toInt (hF148.1 231 6 rfl)
    have f210 := congrArg Int32.toInt (hF148.1 231 13 rfl)
    refine At.enter rfl ?_
    refine r_pop rfl ?_
    refine r_aload_n e2 ?_
    refine r_sload_n e0 ?_
    refine r_iload_n e3 ?_
    refine r_iconst 1 rfl ?_
    refine q_iadd (i.toInt + 1) rfl hx_1 (fun v211 hv211 => ?_)
    refine q_scald (m := L) hL (i.toInt + 1) hv211 hy_1 (fun v212 hv212 => ?_)
    have sv212 := hv2.symm.trans hv212
    subst sv212
    refine r_sload_n e0 ?_
    refine r_iload_n e3 ?_
    refine r_iconst 2 rfl ?_
    refine q_iadd (i.toInt + 2) rfl hx_2 (fun v213 hv213 => ?_)
    refine q_scald (m := L) hL (i.toInt + 2) hv213 hy_2 (fun v214 hv214 => ?_)
    have sv214 := hv4.symm.trans hv214
    subst sv214
    refine r_callV 487 rfl [.ref 231, .int v2, .int v4] [] (Nat.le_of_ble_eq_true rfl) rfl (T_X11_terms_231 _ hI147 v2 v4) ?_
    rintro _ _ ⟨g215, rfl, hI216, hF217, v218, rfl, hr219⟩
    refine At.sti ?_
    have hF220 := Fr.tr hF151 hF217 rfl rfl
    obtain ⟨q222, q223, q224⟩ := hr219
    obtain ⟨⟨i226, i227, i228⟩, sm229, sm230, sm231, sm232, sm233⟩ := q223
    have w225 := i227 pk5
    clear i226 i227 i228
    have f234 := congrArg Int32.toInt (hF217.1 1 0 rfl)
    have f235 := congrArg Int32.toInt (hF217.1 1 12 rfl)
    have f236 := congrArg Int32.toInt (hF217.1 1 10 rfl)
    have f237 := congrArg Int32.toInt (hF217.1 1 11 rfl)
    have f238 := congrArg Int32.toInt (hF217.1 1 4 rfl)
    have f239 := congrArg Int32.toInt (hF217.1 1 6 rfl)
    have f240 := congrArg Int32.toInt (hF217.1 1 9 rfl)
    have f241 := congrArg Int32.toInt (hF217.1 59 0 rfl)
    have f242 := congrArg Int32.toInt (hF217.1 59 12 rfl)
    have f243 := congrArg Int32.toInt (hF217.1 59 10 rfl)
    have f244 := congrArg Int32.toInt (hF217.1 59 11 rfl)
    have f245 := congrArg Int32.toInt (hF217.1 59 4 rfl)
    have f246 := congrArg Int32.toInt (hF217.1 59 6 rfl)
    have f247 := congrArg Int32.toInt (hF217.1 59 9 rfl)
    have f248 := congrArg Int32.toInt (hF217.1 116 0 rfl)
    have f249 := congrArg Int32.toInt (hF217.1 116 12 rfl)
    have f250 := congrArg Int32.toInt (hF217.1 116 10 rfl)
    have f251 := congrArg Int32.toInt (hF217.1 116 11 rfl)
    have f252 := congrArg Int32.toInt (hF217.1 116 4 rfl)
    have f253 := congrArg Int32.toInt (hF217.1 116 6 rfl)
    have f254 := congrArg Int32.toInt (hF217.1 116 9 rfl)
    have f255 := congrArg Int32.toInt (eA_c (j := 0) (hF217.2.1 173 rfl))
    have f256 := congrArg Int32.toInt (eA_c (j := 1) (hF217.2.1 173 rfl))
    have f257 := congrArg Int32.toInt (hF217.1 174 1 rfl)
    have f258 := congrArg Int32.toInt (hF217.1 0 16 rfl)
    have f259 := congrArg Int32.toInt (hF217.1 176 2 rfl)
    have f267 := congrArg Int32.toInt (eA_c (j := 0) (hF217.2.1 234 rfl))
    have f268 := congrArg Int32.toInt (eA_c (j := 4) (hF217.2.1 234 rfl))
    have f269 := congrArg Int32.toInt (eA_c (j := 5) (hF217.2.1 234 rfl))
    have f270 := congrArg Int32.toInt (eA_c (j := 6) (hF217.2.1 234 rfl))
    have f271 := congrArg Int32.toInt (eA_c (j := 1) (hF217.2.1 234 rfl))
    have f272 := congrArg Int32.toInt (eA_c (j := 2) (hF217.2.1 234 rfl))
    have f273 := congrArg Int32.toInt (eA_c (j := 3) (hF217.2.1 234 rfl))
    have f274 := congrArg Int32.toInt (eA_c (j := 5510) (hF217.2.1 234 rfl))
    have f275 := congrArg Int32.toInt (eA_c (j := 5514) (hF217.2.1 234 rfl))
    have f276 := congrArg Int32.toInt (eA_c (j := 5515) (hF217.2.1 234 rfl))
    have f277 := congrArg Int32.toInt (eA_c (j := 5516) (hF217.2.1 234 rfl))
    have f278 := congrArg Int32.toInt (eA_c (j := 5511) (hF217.2.1 234 rfl))
    have f279 := congrArg Int32.toInt (eA_c (j := 5512) (hF217.2.1 234 rfl))
    have f280 := congrArg Int32.toInt (eA_c (j := 5513) (hF217.2.1 234 rfl))
    have f281 := congrArg Int32.toInt (eA_c (j := 0) (hF217.2.1 235 rfl))
    have f282 := congrArg Int32.toInt (eA_c (j := 1) (hF217.2.1 235 rfl))
    have f283 := congrArg Int32.toInt (hF217.1 231 8 rfl)
    have f284 := congrArg Int32.toInt (hF217.1 231 6 rfl)
    have f285 := congrArg Int32.toInt (hF217.1 231 13 rfl)
    refine At.enter rfl ?_
    refine r_pop rfl ?_
    refine r_goto ?_
    exact K _ hI216 (show LwR _ from ⟨by first | (clear f160 f163 f164 f165 f166 f167 f168 f169 f170 f171 f172 f173 f174 f175 f176 f177 f178 f179 f180 f181 f182 f183 f184 f186 f187 f188 f189 f190 f191 f192 f193 f194 f195 f196 f197 f198 f199 f200 f201 f202 f203 f204 f205 f206 f207 f208 f209 f210 f235 f236 f237 f238 f239 f240 f241 f242 f243 f244 f245 f246 f247 f248 f249 f250 f251 f252 f253 f254 f255 f256 f257 f258 f259 f267 f268 f269 f270 f271 f272 f273 f274 f275 f276 f277 f278 f279 f280 f281 f282 f283 f284 f285; omega) | omega, by first | (clear f159 f163 f164 f165 f166 f167 f168 f169 f170 f171 f172 f173 f174 f175 f176 f177 f178 f179 f180 f181 f182 f183 f184 f185 f187 f188 f189 f190 f191 f192 f193 f194 f195 f196 f197 f198 f199 f200 f201 f202 f203 f204 f205 f206 f207 f208 f209 f210 f234 f236 f237 f238 f239 f240 f241 f242 f243 f244 f245 f246 f247 f248 f249 f250 f251 f252 f253 f254 f255 f256 f257 f258 f259 f267 f268 f269 f270 f271 f272 f273 f274 f275 f276 f277 f278 f279 f280 f281 f282 f283 f284 f285; omega) | omega, by first | (clear f159 f160 f163 f164 f165 f166 f167 f168 f169 f170 f171 f172 f173 f174 f175 f176 f177 f178 f179 f180 f181 f182 f183 f184 f185 f186 f188 f189 f190 f191 f192 f193 f194 f195 f196 f197 f198 f199 f200 f201 f202 f203 f204 f205 f206 f207 f208 f209 f210 f234 f235 f237 f238 f239 f240 f241 f242 f243 f244 f245 f246 f247 f248 f249 f250 f251 f252 f253 f254 f255 f256 f257 f258 f259 f267 f268 f269 f270 f271 f272 f273 f274 f275 f276 f277 f278 f279 f280 f281 f282 f283 f284 f285; omega) | omega, by first | (clear f159 f160 f163 f164 f165 f166 f167 f168 f169 f170 f171 f172 f173 f174 f175 f176 f177 f178 f179 f180 f181 f182 f183 f184 f185 f186 f187 f189 f190 f191 f192 f193 f194 f195 f196 f197 f198 f199 f200 f201 f202 f203 f204 f205 f206 f207 f208 f209 f210 f234 f235 f236 f238 f239 f240 f241 f242 f243 f244 f245 f246 f247 f248 f249 f250 f251 f252 f253 f254 f255 f256 f257 f258 f259 f267 f268 f269 f270 f271 f272 f273 f274 f275 f276 f277 f278 f279 f280 f281 f282 f283 f284 f285; omega) | omega, by first | (clear f159 f160 f164 f165 f166 f167 f168 f169 f170 f171 f172 f173 f174 f175 f176 f177 f178 f179 f180 f181 f182 f183 f184 f185 f186 f187 f188 f190 f191 f192 f193 f194 f195 f196 f197 f198 f199 f200 f201 f202 f203 f204 f205 f206 f207 f208 f209 f210 f234 f235 f236 f237 f239 f240 f241 f242 f243 f244 f245 f246 f247 f248 f249 f250 f251 f252 f253 f254 f255 f256 f257 f258 f259 f267 f268 f269 f270 f271 f272 f273 f274 f275 f276 f277 f278 f279 f280 f281 f282 f283 f284 f285; omega) | omega, by first | (clear f159 f160 f163 f165 f166 f167 f168 f169 f170 f171 f172 f173 f174 f175 f176 f177 f178 f179 f180 f181 f182 f183 f184 f185 f186 f187 f188 f189 f191 f192 f193 f194 f195 f196 f197 f198 f199 f200 f201 f202 f203 f204 f205 f206 f207 f208 f209 f210 f234 f235 f236 f237 f238 f240 f241 f242 f243 f244 f245 f246 f247 f248 f249 f250 f251 f252 f253 f254 f255 f256 f257 f258 f259 f267 f268 f269 f270 f271 f272 f273 f274 f275 f276 f277 f278 f279 f280 f281 f282 f283 f284 f285; omega) | omega, by first | (clear f159 f160 f163 f164 f166 f167 f168 f169 f170 f171 f172 f173 f174 f175 f176 f177 f178 f179 f180 f181 f182 f183 f184 f185 f186 f187 f188 f189 f190 f192 f193 f194 f195 f196 f197 f198 f199 f200 f201 f202 f203 f204 f205 f206 f207 f208 f209 f210 f234 f235 f236 f237 f238 f239 f241 f242 f243 f244 f245 f246 f247 f248 f249 f250 f251 f252 f253 f254 f255 f256 f257 f258 f259 f267 f268 f269 f270 f271 f272 f273 f274 f275 f276 f277 f278 f279 f280 f281 f282 f283 f284 f285; omega) | omega, (eA_ti (j := 0) (((hF217.2.1 173 (by decide)).trans (hF148.2.1 173 (by decide))))).trans (hR_7.trans (eA_ti (j := 0) (((hF217.2.1 235 (by decide)).trans (hF148.2.1 235 (by decide))))).symm), (eA_ti (j := 1) (((hF217.2.1 173 (by decide)).trans (hF148.2.1 173 (by decide))))).trans (hR_8.trans (eA_ti (j := 1) (((hF217.2.1 235 (by decide)).trans (hF148.2.1 235 (by decide))))).symm), (congrArg Int32.toInt (((hF217.1 174 1 (by decide)).trans (hF148.1 174 1 (by decide))))).trans (hR_9.trans (congrArg Int32.toInt (((hF217.1 231 8 (by decide)).trans (hF148.1 231 8 (by decide))))).symm), (congrArg Int32.toInt (((hF217.1 0 16 (by decide)).trans (hF148.1 0 16 (by decide))))).trans (hR_10.trans (congrArg Int32.toInt (((hF217.1 231 6 (by decide)).trans (hF148.1 231 6 (by decide))))).symm), (congrArg Int32.toInt (((hF217.1 176 2 (by decide)).trans (hF148.1 176 2 (by decide))))).trans (hR_11.trans (congrArg Int32.toInt (((hF217.1 231 13 (by decide)).trans (hF148.1 231 13 (by decide))))).symm), IM0.cong hR_12 (eA_ti (j := 0) (((hF217.2.1 173 (by decide)).trans (hF148.2.1 173 (by decide))))) (congrArg Int32.toInt (((hF217.1 59 0 (by decide)).trans (hF148.1 59 0 (by decide))))) (eA_ti (j := 0) (((hF217.2.1 234 (by decide)).trans (hF148.2.1 234 (by decide))))) (congrArg Int32.toInt (((hF217.1 59 12 (by decide)).trans (hF148.1 59 12 (by decide))))) (eA_ti (j := 4) (((hF217.2.1 234 (by decide)).trans (hF148.2.1 234 (by decide))))) (congrArg Int32.toInt (((hF217.1 59 10 (by decide)).trans (hF148.1 59 10 (by decide))))) (eA_ti (j := 5) (((hF217.2.1 234 (by decide)).trans (hF148.2.1 234 (by decide))))) (congrArg Int32.toInt (((hF217.1 59 11 (by decide)).trans (hF148.1 59 11 (by decide))))) (eA_ti (j := 6) (((hF217.2.1 234 (by decide)).trans (hF148.2.1 234 (by decide))))) (congrArg Int32.toInt (((hF217.1 59 4 (by decide)).trans (hF148.1 59 4 (by decide))))) (eA_ti (j := 1) (((hF217.2.1 234 (by decide)).trans (hF148.2.1 234 (by decide))))) (congrArg Int32.toInt (((hF217.1 59 6 (by decide)).trans (hF148.1 59 6 (by decide))))) (eA_ti (j := 2) (((hF217.2.1 234 (by decide)).trans (hF148.2.1 234 (by decide))))) (congrArg Int32.toInt (((hF217.1 59 9 (by decide)).trans (hF148.1 59 9 (by decide))))) (eA_ti (j := 3) (((hF217.2.1 234 (by decide)).trans (hF148.2.1 234 (by decide))))), IM1.cong hR_13 (eA_ti (j := 1) (((hF217.2.1 173 (by decide)).trans (hF148.2.1 173 (by decide))))) (congrArg Int32.toInt (((hF217.1 116 0 (by decide)).trans (hF148.1 116 0 (by decide))))) (eA_ti (j := 5510) (((hF217.2.1 234 (by decide)).trans (hF148.2.1 234 (by decide))))) (congrArg Int32.toInt (((hF217.1 116 12 (by decide)).trans (hF148.1 116 12 (by decide))))) (eA_ti (j := 5514) (((hF217.2.1 234 (by decide)).trans (hF148.2.1 234 (by decide))))) (congrArg Int32.toInt (((hF217.1 116 10 (by decide)).trans (hF148.1 116 10 (by decide))))) (eA_ti (j := 5515) (((hF217.2.1 234 (by decide)).trans (hF148.2.1 234 (by decide))))) (congrArg Int32.toInt (((hF217.1 116 11 (by decide)).trans (hF148.1 116 11 (by decide))))) (eA_ti (j := 5516) (((hF217.2.1 234 (by decide)).trans (hF148.2.1 234 (by decide))))) (congrArg Int32.toInt (((hF217.1 116 4 (by decide)).trans (hF148.1 116 4 (by decide))))) (eA_ti (j := 5511) (((hF217.2.1 234 (by decide)).trans (hF148.2.1 234 (by decide))))) (congrArg Int32.toInt (((hF217.1 116 6 (by decide)).trans (hF148.1 116 6 (by decide))))) (eA_ti (j := 5512) (((hF217.2.1 234 (by decide)).trans (hF148.2.1 234 (by decide))))) (congrArg Int32.toInt (((hF217.1 116 9 (by decide)).trans (hF148.1 116 9 (by decide))))) (eA_ti (j := 5513) (((hF217.2.1 234 (by decide)).trans (hF148.2.1 234 (by decide))))), (show CT _ from ⟨fun i i0 i1 => ⟨(by first | (clear f166 f167 f168 f169 f170 f171 f172 f173 f174 f175 f176 f177 f178 f179 f182 f183 f184 f192 f193 f194 f195 f196 f197 f198 f199 f200 f201 f202 f203 f204 f205 f208 f209 f210 f241 f242 f243 f244 f245 f246 f247 f248 f249 f250 f251 f252 f253 f254 f257 f258 f259 f267 f268 f269 f270 f271 f272 f273 f274 f275 f276 f277 f278 f279 f280 f283 f284 f285; have t0_ := hI0.t0; have t1_ := hI0.t1; have o := (hR_14.1 i i0 i1).1; have x := eA_ti (j := i) (((hF217.2.1 2 (by decide)).trans (hF148.2.1 2 (by decide)))); have m := q224 (10 + 3 * i) (by omega) (by omega); have y1 := eA_ti (j := ((10 + 3 * i))) (hF148.2.1 233 (by decide)); first | exact x.trans (o.trans (m.trans y1).symm) | omega) | (have t0_ := hI0.t0; have t1_ := hI0.t1; have o := (hR_14.1 i i0 i1).1; have x := eA_ti (j := i) (((hF217.2.1 2 (by decide)).trans (hF148.2.1 2 (by decide)))); have m := q224 (10 + 3 * i) (by omega) (by omega); have y1 := eA_ti (j := ((10 + 3 * i))) (hF148.2.1 233 (by decide)); first | exact x.trans (o.trans (m.trans y1).symm) | omega)), (by first | (clear f166 f167 f168 f169 f170 f171 f172 f173 f174 f175 f176 f177 f178 f179 f182 f183 f184 f192 f193 f194 f195 f196 f197 f198 f199 f200 f201 f202 f203 f204 f205 f208 f209 f210 f241 f242 f243 f244 f245 f246 f247 f248 f249 f250 f251 f252 f253 f254 f257 f258 f259 f267 f268 f269 f270 f271 f272 f273 f274 f275 f276 f277 f278 f279 f280 f283 f284 f285; have t0_ := hI0.t0; have t1_ := hI0.t1; have o := (hR_14.1 i i0 i1).2.1; have x := eA_ti (j := i) (((hF217.2.1 3 (by decide)).trans (hF148.2.1 3 (by decide)))); have m := q224 (10 + 3 * i + 1) (by omega) (by omega); have y1 := eA_ti (j := ((10 + 3 * i + 1))) (hF148.2.1 233 (by decide)); first | exact x.trans (o.trans (m.trans y1).symm) | omega) | (have t0_ := hI0.t0; have t1_ := hI0.t1; have o := (hR_14.1 i i0 i1).2.1; have x := eA_ti (j := i) (((hF217.2.1 3 (by decide)).trans (hF148.2.1 3 (by decide)))); have m := q224 (10 + 3 * i + 1) (by omega) (by omega); have y1 := eA_ti (j := ((10 + 3 * i + 1))) (hF148.2.1 233 (by decide)); first | exact x.trans (o.trans (m.trans y1).symm) | omega)), (by first | (clear f166 f167 f168 f169 f170 f171 f172 f173 f174 f175 f176 f177 f178 f179 f182 f183 f184 f192 f193 f194 f195 f196 f197 f198 f199 f200 f201 f202 f203 f204 f205 f208 f209 f210 f241 f242 f243 f244 f245 f246 f247 f248 f249 f250 f251 f252 f253 f254 f257 f258 f259 f267 f268 f269 f270 f271 f272 f273 f274 f275 f276 f277 f278 f279 f280 f283 f284 f285; have t0_ := hI0.t0; have t1_ := hI0.t1; have o := (hR_14.1 i i0 i1).2.2; have x := eA_ti (j := i) (((hF217.2.1 4 (by decide)).trans (hF148.2.1 4 (by decide)))); have m := q224 (10 + 3 * i + 2) (by omega) (by omega); have y1 := eA_ti (j := ((10 + 3 * i + 2))) (hF148.2.1 233 (by decide)); first | exact x.trans (o.trans (m.trans y1).symm) | omega) | (have t0_ := hI0.t0; have t1_ := hI0.t1; have o := (hR_14.1 i i0 i1).2.2; have x := eA_ti (j := i) (((hF217.2.1 4 (by decide)).trans (hF148.2.1 4 (by decide)))); have m := q224 (10 + 3 * i + 2) (by omega) (by omega); have y1 := eA_ti (j := ((10 + 3 * i + 2))) (hF148.2.1 233 (by decide)); first | exact x.trans (o.trans (m.trans y1).symm) | omega))⟩, fun i i0 i1 => ⟨(by first | (clear f166 f167 f168 f169 f170 f171 f172 f173 f174 f175 f176 f177 f178 f179 f182 f183 f184 f192 f193 f194 f195 f196 f197 f198 f199 f200 f201 f202 f203 f204 f205 f208 f209 f210 f241 f242 f243 f244 f245 f246 f247 f248 f249 f250 f251 f252 f253 f254 f257 f258 f259 f267 f268 f269 f270 f271 f272 f273 f274 f275 f276 f277 f278 f279 f280 f283 f284 f285; have t0_ := hI0.t0; have t1_ := hI0.t1; have o := (hR_14.2.1 i i0 i1).1; have x := eA_ti (j := i) (((hF217.2.1 14 (by decide)).trans (hF148.2.1 14 (by decide)))); have m := q224 (94 + 2 * i) (by omega) (by omega); have y1 := eA_ti (j := ((94 + 2 * i))) (hF148.2.1 233 (by decide)); first | exact x.trans (o.trans (m.trans y1).symm) | omega) | (have t0_ := hI0.t0; have t1_ := hI0.t1; have o := (hR_14.2.1 i i0 i1).1; have x := eA_ti (j := i) (((hF217.2.1 14 (by decide)).trans (hF148.2.1 14 (by decide)))); have m := q224 (94 + 2 * i) (by omega) (by omega); have y1 := eA_ti (j := ((94 + 2 * i))) (hF148.2.1 233 (by decide)); first | exact x.trans (o.trans (m.trans y1).symm) | omega)), (by first | (clear f166 f167 f168 f169 f170 f171 f172 f173 f174 f175 f176 f177 f178 f179 f182 f183 f184 f192 f193 f194 f195 f196 f197 f198 f199 f200 f201 f202 f203 f204 f205 f208 f209 f210 f241 f242 f243 f244 f245 f246 f247 f248 f249 f250 f251 f252 f253 f254 f257 f258 f259 f267 f268 f269 f270 f271 f272 f273 f274 f275 f276 f277 f278 f279 f280 f283 f284 f285; have t0_ := hI0.t0; have t1_ := hI0.t1; have o := (hR_14.2.1 i i0 i1).2; have x := eA_ti (j := i) (((hF217.2.1 15 (by decide)).trans (hF148.2.1 15 (by decide)))); have m := q224 (94 + 2 * i + 1) (by omega) (by omega); have y1 := eA_ti (j := ((94 + 2 * i + 1))) (hF148.2.1 233 (by decide)); first | exact x.trans (o.trans (m.trans y1).symm) | omega) | (have t0_ := hI0.t0; have t1_ := hI0.t1; have o := (hR_14.2.1 i i0 i1).2; have x := eA_ti (j := i) (((hF217.2.1 15 (by decide)).trans (hF148.2.1 15 (by decide)))); have m := q224 (94 + 2 * i + 1) (by omega) (by omega); have y1 := eA_ti (j := ((94 + 2 * i + 1))) (hF148.2.1 233 (by decide)); first | exact x.trans (o.trans (m.trans y1).symm) | omega))⟩, fun i i0 i1 => (by first | (clear f166 f167 f168 f169 f170 f171 f172 f173 f174 f175 f176 f177 f178 f179 f182 f183 f184 f192 f193 f194 f195 f196 f197 f198 f199 f200 f201 f202 f203 f204 f205 f208 f209 f210 f241 f242 f243 f244 f245 f246 f247 f248 f249 f250 f251 f252 f253 f254 f257 f258 f259 f267 f268 f269 f270 f271 f272 f273 f274 f275 f276 f277 f278 f279 f280 f283 f284 f285; have t0_ := hI0.t0; have t1_ := hI0.t1; have o : i < 6 * (gI g0 1 4).toInt → _ := fun hz => hR_14.2.2 i i0 hz; have x := eA_ti (j := i) (((hF217.2.1 5 (by decide)).trans (hF148.2.1 5 (by decide)))); have m := q224 (46 + i) (by omega) (by omega); have y1 := eA_ti (j := ((46 + i))) (hF148.2.1 233 (by decide)); omega) | (have t0_ := hI0.t0; have t1_ := hI0.t1; have o : i < 6 * (gI g0 1 4).toInt → _ := fun hz => hR_14.2.2 i i0 hz; have x := eA_ti (j := i) (((hF217.2.1 5 (by decide)).trans (hF148.2.1 5 (by decide)))); have m := q224 (46 + i) (by omega) (by omega); have y1 := eA_ti (j := ((46 + i))) (hF148.2.1 233 (by decide)); omega))⟩), CI0.cong hR_15 (((hF217.2.1 60 (by decide)).trans (hF148.2.1 60 (by decide)))) (((hF217.2.1 61 (by decide)).trans (hF148.2.1 61 (by decide)))) (((hF217.2.1 62 (by decide)).trans (hF148.2.1 62 (by decide)))) (((hF217.2.1 72 (by decide)).trans (hF148.2.1 72 (by decide)))) (((hF217.2.1 73 (by decide)).trans (hF148.2.1 73 (by decide)))) (((hF217.2.1 63 (by decide)).trans (hF148.2.1 63 (by decide)))) (((hF217.2.1 234 (by decide)).trans (hF148.2.1 234 (by decide)))) (congrArg Int32.toInt (((hF217.1 59 4 (by decide)).trans (hF148.1 59 4 (by decide))))), CI1.cong hR_16 (((hF217.2.1 117 (by decide)).trans (hF148.2.1 117 (by decide)))) (((hF217.2.1 118 (by decide)).trans (hF148.2.1 118 (by decide)))) (((hF217.2.1 119 (by decide)).trans (hF148.2.1 119 (by decide)))) (((hF217.2.1 129 (by decide)).trans (hF148.2.1 129 (by decide)))) (((hF217.2.1 130 (by decide)).trans (hF148.2.1 130 (by decide)))) (((hF217.2.1 120 (by decide)).trans (hF148.2.1 120 (by decide)))) (((hF217.2.1 234 (by decide)).trans (hF148.2.1 234 (by decide)))) (congrArg Int32.toInt (((hF217.1 116 4 (by decide)).trans (hF148.1 116 4 (by decide))))), (show RT _ from fun i i0 i1 => (eA_ti (((hF217.2.1 175 (by decide)).trans (hF148.2.1 175 (by decide))))).trans ((hR_17 i i0 (by omega)).trans (eA_ti (((hF217.2.1 236 (by decide)).trans (hF148.2.1 236 (by decide))))).symm)), (show BYX _ from fun i i0 i1 => by rw [TX.c (((hF217.2.1 175 (by decide)).trans (hF148.2.1 175 (by decide))))]; exact hR_18 i i0 (by have i2 : i < (gI _ 174 1).toInt := i1; show i < (gI g0 174 1).toInt; omega)), (LAWR_c hR_19 (LSA_tr (LSA_tr LSA_rf (LSA_fr hF148 rfl)) (LSA_fr hF217 rfl)) (((hF217.1 1 6 (by decide)).trans (hF148.1 1 6 (by decide)))) (((hF217.1 59 6 (by decide)).trans (hF148.1 59 6 (by decide)))) (((hF217.1 116 6 (by decide)).trans (hF148.1 116 6 (by decide)))) (((hF217.2.1 173 (by decide)).trans (hF148.2.1 173 (by decide)))) (fun i i0 i1 => (R3_terms hI147 q224 i i0 i1).trans (eA_ti (hF148.2.1 233 (by decide)))) (((hF217.2.1 234 (by decide)).trans (hF148.2.1 234 (by decide)))) (TOLDX_fr hF217 rfl rfl rfl rfl (fe152.1 hR_19.2.2.2.2))), (SETX_fr hF217 rfl rfl rfl rfl rfl (fe152.2 hR_20))⟩)
  · refine r_callV 472 rfl [.ref 0, .int v2, .int v4] [] (Nat.le_of_ble_eq_true rfl) rfl (T_X10_terms_0 _ hI0 v2 v4) ?_
    rintro _ _ ⟨g286, rfl, hI287, hF288, v289, rfl, hr290⟩
    refine At.sti ?_
    have hF291 := Fr.tr hF0 hF288 rfl rfl
    have fe292 : PH _ := hr290.2.2
    replace hr290 := And.intro hr290.1 hr290.2.1
    obtain ⟨q293, q294⟩ := hr290
    obtain ⟨i296, i297, i298⟩ := q294
    have w295 := i298 pk5
    clear i296 i297 i298
    have f299 := congrArg Int32.toInt (hF288.1 1 0 rfl)
    have f300 := congrArg Int32.toInt (hF288.1 1 12 rfl)
    have f303 := congrArg Int32.toInt (hF288.1 1 4 rfl)
    have f304 := congrArg Int32.toInt (hF288.1 1 6 rfl)
    have f305 := congrArg Int32.toInt (hF288.1 1 9 rfl)
    have f306 := congrArg Int32.toInt (hF288.1 59 0 rfl)
    have f307 := congrArg Int32.toInt (hF288.1 59 12 rfl)
    have f308 := congrArg Int32.toInt (hF288.1 59 10 rfl)
    have f309 := congrArg Int32.toInt (hF288.1 59 11 rfl)
    have f310 := congrArg Int32.toInt (hF288.1 59 4 rfl)
    have f311 := congrArg Int32.toInt (hF288.1 59 6 rfl)
    have f312 := congrArg Int32.toInt (hF288.1 59 9 rfl)
    have f313 := congrArg Int32.toInt (hF288.1 116 0 rfl)
    have f314 := congrArg Int32.toInt (hF288.1 116 12 rfl)
    have f315 := congrArg Int32.toInt (hF288.1 116 10 rfl)
    have f316 := congrArg Int32.toInt (hF288.1 116 11 rfl)
    have f317 := congrArg Int32.toInt (hF288.1 116 4 rfl)
    have f318 := congrArg Int32.toInt (hF288.1 116 6 rfl)
    have f319 := congrArg Int32.toInt (hF288.1 116 9 rfl)
    have f320 := congrArg Int32.toInt (eA_c (j := 0) (hF288.2.1 173 rfl))
    have f321 := congrArg Int32.toInt (eA_c (j := 1) (hF288.2.1 173 rfl))
    have f322 := congrArg Int32.toInt (hF288.1 174 1 rfl)
    have f323 := congrArg Int32.toInt (hF288.1 0 16 rfl)
    have f324 := congrArg Int32.toInt (hF288.1 176 2 rfl)
    have f325 := congrArg Int32.toInt (eA_c (j := 0) (hF288.2.1 233 rfl))
    have f326 := congrArg Int32.toInt (eA_c (j := 4) (hF288.2.1 233 rfl))
    have f327 := congrArg Int32.toInt (eA_c (j := 5) (hF288.2.1 233 rfl))
    have f328 := congrArg Int32.toInt (eA_c (j := 6) (hF288.2.1 233 rfl))
    have f329 := congrArg Int32.toInt (eA_c (j := 1) (hF288.2.1 233 rfl))
    have f330 := congrArg Int32.toInt (eA_c (j := 2) (hF288.2.1 233 rfl))
    have f331 := congrArg Int32.toInt (eA_c (j := 3) (hF288.2.1 233 rfl))
    have f332 := congrArg Int32.toInt (eA_c (j := 0) (hF288.2.1 234 rfl))
    have f333 := congrArg Int32.toInt (eA_c (j := 4) (hF288.2.1 234 rfl))
    have f334 := congrArg Int32.toInt (eA_c (j := 5) (hF288.2.1 234 rfl))
    have f335 := congrArg Int32.toInt (eA_c (j := 6) (hF288.2.1 234 rfl))
    have f336 := congrArg Int32.toInt (eA_c (j := 1) (hF288.2.1 234 rfl))
    have f337 := congrArg Int32.toInt (eA_c (j := 2) (hF288.2.1 234 rfl))
    have f338 := congrArg Int32.toInt (eA_c (j := 3) (hF288.2.1 234 rfl))
    have f339 := congrArg Int32.toInt (eA_c (j := 5510) (hF288.2.1 234 rfl))
    have f340 := congrArg Int32.toInt (eA_c (j := 5514) (hF288.2.1 234 rfl))
    have f341 := congrArg Int32.toInt (eA_c (j := 5515) (hF288.2.1 234 rfl))
    have f342 := congrArg Int32.toInt (eA_c (j := 5516) (hF288.2.1 234 rfl))
    have f343 := congrArg Int32.toInt (eA_c (j := 5511) (hF288.2.1 234 rfl))
    have f344 := congrArg Int32.toInt (eA_c (j := 5512) (hF288.2.1 234 rfl))
    have f345 := congrArg Int32.toInt (eA_c (j := 5513) (hF288.2.1 234 rfl))
    have f346 := congrArg Int32.toInt (eA_c (j := 0) (hF288.2.1 235 rfl))
    have f347 := congrArg Int32.toInt (eA_c (j := 1) (hF288.2.1 235 rfl))
    have f348 := congrArg Int32.toInt (hF288.1 231 8 rfl)
    have f349 := congrArg Int32.toInt (hF288.1 231 6 rfl)
    have f350 := congrArg Int32.toInt (hF288.1 231 13 rfl)
    refine At.enter rfl ?_
    refine r_pop rfl ?_
    refine r_aload_n e2 ?_
    refine r_sload_n e0 ?_
    refine r_iload_n e3 ?_
    refine r_iconst 1 rfl ?_
    refine q_iadd (i.toInt + 1) rfl hx_1 (fun v351 hv351 => ?_)
    refine q_scald (m := L) hL (i.toInt + 1) hv351 hy_1 (fun v352 hv352 => ?_)
    have sv352 := hv2.symm.trans hv352
    subst sv352
    refine r_sload_n e0 ?_
    refine r_iload_n e3 ?_
    refine r_iconst 2 rfl ?_
    refine q_iadd (i.toInt + 2) rfl hx_2 (fun v353 hv353 => ?_)
    refine q_scald (m := L) hL (i.toInt + 2) hv353 hy_2 (fun v354 hv354 => ?_)
    have sv354 := hv4.symm.trans hv354
    subst sv354
    refine r_callV 487 rfl [.ref 231, .int v2, .int v4] [] (Nat.le_of_ble_eq_true rfl) rfl (T_X11_terms_231 _ hI287 v2 v4) ?_
    rintro _ _ ⟨g355, rfl, hI356, hF357, v358, rfl, hr359⟩
    refine At.sti ?_
    have hF360 := Fr.tr hF291 hF357 rfl rfl
    obtain ⟨q362, q363, q364⟩ := hr359
    obtain ⟨⟨i366, i367, i368⟩, sm369, sm370, sm371, sm372, sm373⟩ := q363
    have w365 := i368 pk5
    clear i366 i367 i368
    have f374 := congrArg Int32.toInt (hF357.1 1 0 rfl)
    have f375 := congrArg Int32.toInt (hF357.1 1 12 rfl)
    have f376 := congrArg Int32.toInt (hF357.1 1 10 rfl)
    have f377 := congrArg Int32.toInt (hF357.1 1 11 rfl)
    have f378 := congrArg Int32.toInt (hF357.1 1 4 rfl)
    have f379 := congrArg Int32.toInt (hF357.1 1 6 rfl)
    have f380 := congrArg Int32.toInt (hF357.1 1 9 rfl)
    have f381 := congrArg Int32.toInt (hF357.1 59 0 rfl)
    have f382 := congrArg Int32.toInt (hF357.1 59 12 rfl)
    have f383 := congrArg Int32.toInt (hF357.1 59 10 rfl)
    have f384 := congrArg Int32.toInt (hF357.1 59 11 rfl)
    have f385 := congrArg Int32.toInt (hF357.1 59 4 rfl)
    have f386 := congrArg Int32.toInt (hF357.1 59 6 rfl)
    have f387 := congrArg Int32.toInt (hF357.1 59 9 rfl)
    have f388 := congrArg Int32.toInt (hF357.1 116 0 rfl)
    have f389 := congrArg Int32.toInt (hF357.1 116 12 rfl)
    have f390 := congrArg Int32.toInt (hF357.1 116 10 rfl)
    have f391 := congrArg Int32.toInt (hF357.1 116 11 rfl)
    have f392 := congrArg Int32.toInt (hF357.1 116 4 rfl)
    have f393 := congrArg Int32.toInt (hF357.1 116 6 rfl)
    have f394 := congrArg Int32.toInt (hF357.1 116 9 rfl)
    have f395 := congrArg Int32.toInt (eA_c (j := 0) (hF357.2.1 173 rfl))
    have f396 := congrArg Int32.toInt (eA_c (j := 1) (hF357.2.1 173 rfl))
    have f397 := congrArg Int32.toInt (hF357.1 174 1 rfl)
    have f398 := congrArg Int32.toInt (hF357.1 0 16 rfl)
    have f399 := congrArg Int32.toInt (hF357.1 176 2 rfl)
    have f407 := congrArg Int32.toInt (eA_c (j := 0) (hF357.2.1 234 rfl))
    have f408 := congrArg Int32.toInt (eA_c (j := 4) (hF357.2.1 234 rfl))
    have f409 := congrArg Int32.toInt (eA_c (j := 5) (hF357.2.1 234 rfl))
    have f410 := congrArg Int32.toInt (eA_c (j := 6) (hF357.2.1 234 rfl))
    have f411 := congrArg Int32.toInt (eA_c (j := 1) (hF357.2.1 234 rfl))
    have f412 := congrArg Int32.toInt (eA_c (j := 2) (hF357.2.1 234 rfl))
    have f413 := congrArg Int32.toInt (eA_c (j := 3) (hF357.2.1 234 rfl))
    have f414 := congrArg Int32.toInt (eA_c (j := 5510) (hF357.2.1 234 rfl))
    have f415 := congrArg Int32.toInt (eA_c (j := 5514) (hF357.2.1 234 rfl))
    have f416 := congrArg Int32.toInt (eA_c (j := 5515) (hF357.2.1 234 rfl))
    have f417 := congrArg Int32.toInt (eA_c (j := 5516) (hF357.2.1 234 rfl))
    have f418 := congrArg Int32.toInt (eA_c (j := 5511) (hF357.2.1 234 rfl))
    have f419 := congrArg Int32.toInt (eA_c (j := 5512) (hF357.2.1 234 rfl))
    have f420 := congrArg Int32.toInt (eA_c (j := 5513) (hF357.2.1 234 rfl))
    have f421 := congrArg Int32.toInt (eA_c (j := 0) (hF357.2.1 235 rfl))
    have f422 := congrArg Int32.toInt (eA_c (j := 1) (hF357.2.1 235 rfl))
    have f423 := congrArg Int32.toInt (hF357.1 231 8 rfl)
    have f424 := congrArg Int32.toInt (hF357.1 231 6 rfl)
    have f425 := congrArg Int32.toInt (hF357.1 231 13 rfl)
    refine At.enter rfl ?_
    refine r_pop rfl ?_
    refine r_goto ?_
    exact K _ hI356 (show LwR _ from ⟨by first | (clear f300 f303 f304 f305 f306 f307 f308 f309 f310 f311 f312 f313 f314 f315 f316 f317 f318 f319 f320 f321 f322 f323 f324 f326 f327 f328 f329 f330 f331 f332 f333 f334 f335 f336 f337 f338 f339 f340 f341 f342 f343 f344 f345 f346 f347 f348 f349 f350 f375 f376 f377 f378 f379 f380 f381 f382 f383 f384 f385 f386 f387 f388 f389 f390 f391 f392 f393 f394 f395 f396 f397 f398 f399 f407 f408 f409 f410 f411 f412 f413 f414 f415 f416 f417 f418 f419 f420 f421 f422 f423 f424 f425; omega) | omega, by first | (clear f299 f303 f304 f305 f306 f307 f308 f309 f310 f311 f312 f313 f314 f315 f316 f317 f318 f319 f320 f321 f322 f323 f324 f325 f327 f328 f329 f330 f331 f332 f333 f334 f335 f336 f337 f338 f339 f340 f341 f342 f343 f344 f345 f346 f347 f348 f349 f350 f374 f376 f377 f378 f379 f380 f381 f382 f383 f384 f385 f386 f387 f388 f389 f390 f391 f392 f393 f394 f395 f396 f397 f398 f399 f407 f408 f409 f410 f411 f412 f413 f414 f415 f416 f417 f418 f419 f420 f421 f422 f423 f424 f425; omega) | omega, by first | (clear f299 f300 f303 f304 f305 f306 f307 f308 f309 f310 f311 f312 f313 f314 f315 f316 f317 f318 f319 f320 f321 f322 f323 f324 f325 f326 f328 f329 f330 f331 f332 f333 f334 f335 f336 f337 f338 f339 f340 f341 f342 f343 f344 f345 f346 f347 f348 f349 f350 f374 f375 f377 f378 f379 f380 f381 f382 f383 f384 f385 f386 f387 f388 f389 f390 f391 f392 f393 f394 f395 f396 f397 f398 f399 f407 f408 f409 f410 f411 f412 f413 f414 f415 f416 f417 f418 f419 f420 f421 f422 f423 f424 f425; omega) | omega, by first | (clear f299 f300 f303 f304 f305 f306 f307 f308 f309 f310 f311 f312 f313 f314 f315 f316 f317 f318 f319 f320 f321 f322 f323 f324 f325 f326 f327 f329 f330 f331 f332 f333 f334 f335 f336 f337 f338 f339 f340 f341 f342 f343 f344 f345 f346 f347 f348 f349 f350 f374 f375 f376 f378 f379 f380 f381 f382 f383 f384 f385 f386 f387 f388 f389 f390 f391 f392 f393 f394 f395 f396 f397 f398 f399 f407 f408 f409 f410 f411 f412 f413 f414 f415 f416 f417 f418 f419 f420 f421 f422 f423 f424 f425; omega) | omega, by first | (clear f299 f300 f304 f305 f306 f307 f308 f309 f310 f311 f312 f313 f314 f315 f316 f317 f318 f319 f320 f321 f322 f323 f324 f325 f326 f327 f328 f330 f331 f332 f333 f334 f335 f336 f337 f338 f339 f340 f341 f342 f343 f344 f345 f346 f347 f348 f349 f350 f374 f375 f376 f377 f379 f380 f381 f382 f383 f384 f385 f386 f387 f388 f389 f390 f391 f392 f393 f394 f395 f396 f397 f398 f399 f407 f408 f409 f410 f411 f412 f413 f414 f415 f416 f417 f418 f419 f420 f421 f422 f423 f424 f425; omega) | omega, by first | (clear f299 f300 f303 f305 f306 f307 f308 f309 f310 f311 f312 f313 f314 f315 f316 f317 f318 f319 f320 f321 f322 f323 f324 f325 f326 f327 f328 f329 f331 f332 f333 f334 f335 f336 f337 f338 f339 f340 f341 f342 f343 f344 f345 f346 f347 f348 f349 f350 f374 f375 f376 f377 f378 f380 f381 f382 f383 f384 f385 f386 f387 f388 f389 f390 f391 f392 f393 f394 f395 f396 f397 f398 f399 f407 f408 f409 f410 f411 f412 f413 f414 f415 f416 f417 f418 f419 f420 f421 f422 f423 f424 f425; omega) | omega, by first | (clear f299 f300 f303 f304 f306 f307 f308 f309 f310 f311 f312 f313 f314 f315 f316 f317 f318 f319 f320 f321 f322 f323 f324 f325 f326 f327 f328 f329 f330 f332 f333 f334 f335 f336 f337 f338 f339 f340 f341 f342 f343 f344 f345 f346 f347 f348 f349 f350 f374 f375 f376 f377 f378 f379 f381 f382 f383 f384 f385 f386 f387 f388 f389 f390 f391 f392 f393 f394 f395 f396 f397 f398 f399 f407 f408 f409 f410 f411 f412 f413 f414 f415 f416 f417 f418 f419 f420 f421 f422 f423 f424 f425; omega) | omega, (eA_ti (j := 0) (((hF357.2.1 173 (by decide)).trans (hF288.2.1 173 (by decide))))).trans (hR_7.trans (eA_ti (j := 0) (((hF357.2.1 235 (by decide)).trans (hF288.2.1 235 (by decide))))).symm), (eA_ti (j := 1) (((hF357.2.1 173 (by decide)).trans (hF288.2.1 173 (by decide))))).trans (hR_8.trans (eA_ti (j := 1) (((hF357.2.1 235 (by decide)).trans (hF288.2.1 235 (by decide))))).symm), (congrArg Int32.toInt (((hF357.1 174 1 (by decide)).trans (hF288.1 174 1 (by decide))))).trans (hR_9.trans (congrArg Int32.toInt (((hF357.1 231 8 (by decide)).trans (hF288.1 231 8 (by decide))))).symm), (congrArg Int32.toInt (((hF357.1 0 16 (by decide)).trans (hF288.1 0 16 (by decide))))).trans (hR_10.trans (congrArg Int32.toInt (((hF357.1 231 6 (by decide)).trans (hF288.1 231 6 (by decide))))).symm), (congrArg Int32.toInt (((hF357.1 176 2 (by decide)).trans (hF288.1 176 2 (by decide))))).trans (hR_11.trans (congrArg Int32.toInt (((hF357.1 231 13 (by decide)).trans (hF288.1 231 13 (by decide))))).symm), IM0.cong hR_12 (eA_ti (j := 0) (((hF357.2.1 173 (by decide)).trans (hF288.2.1 173 (by decide))))) (congrArg Int32.toInt (((hF357.1 59 0 (by decide)).trans (hF288.1 59 0 (by decide))))) (eA_ti (j := 0) (((hF357.2.1 234 (by decide)).trans (hF288.2.1 234 (by decide))))) (congrArg Int32.toInt (((hF357.1 59 12 (by decide)).trans (hF288.1 59 12 (by decide))))) (eA_ti (j := 4) (((hF357.2.1 234 (by decide)).trans (hF288.2.1 234 (by decide))))) (congrArg Int32.toInt (((hF357.1 59 10 (by decide)).trans (hF288.1 59 10 (by decide))))) (eA_ti (j := 5) (((hF357.2.1 234 (by decide)).trans (hF288.2.1 234 (by decide))))) (congrArg Int32.toInt (((hF357.1 59 11 (by decide)).trans (hF288.1 59 11 (by decide))))) (eA_ti (j := 6) (((hF357.2.1 234 (by decide)).trans (hF288.2.1 234 (by decide))))) (congrArg Int32.toInt (((hF357.1 59 4 (by decide)).trans (hF288.1 59 4 (by decide))))) (eA_ti (j := 1) (((hF357.2.1 234 (by decide)).trans (hF288.2.1 234 (by decide))))) (congrArg Int32.toInt (((hF357.1 59 6 (by decide)).trans (hF288.1 59 6 (by decide))))) (eA_ti (j := 2) (((hF357.2.1 234 (by decide)).trans (hF288.2.1 234 (by decide))))) (congrArg Int32.toInt (((hF357.1 59 9 (by decide)).trans (hF288.1 59 9 (by decide))))) (eA_ti (j := 3) (((hF357.2.1 234 (by decide)).trans (hF288.2.1 234 (by decide))))), IM1.cong hR_13 (eA_ti (j := 1) (((hF357.2.1 173 (by decide)).trans (hF288.2.1 173 (by decide))))) (congrArg Int32.toInt (((hF357.1 116 0 (by decide)).trans (hF288.1 116 0 (by decide))))) (eA_ti (j := 5510) (((hF357.2.1 234 (by decide)).trans (hF288.2.1 234 (by decide))))) (congrArg Int32.toInt (((hF357.1 116 12 (by decide)).trans (hF288.1 116 12 (by decide))))) (eA_ti (j := 5514) (((hF357.2.1 234 (by decide)).trans (hF288.2.1 234 (by decide))))) (congrArg Int32.toInt (((hF357.1 116 10 (by decide)).trans (hF288.1 116 10 (by decide))))) (eA_ti (j := 5515) (((hF357.2.1 234 (by decide)).trans (hF288.2.1 234 (by decide))))) (congrArg Int32.toInt (((hF357.1 116 11 (by decide)).trans (hF288.1 116 11 (by decide))))) (eA_ti (j := 5516) (((hF357.2.1 234 (by decide)).trans (hF288.2.1 234 (by decide))))) (congrArg Int32.toInt (((hF357.1 116 4 (by decide)).trans (hF288.1 116 4 (by decide))))) (eA_ti (j := 5511) (((hF357.2.1 234 (by decide)).trans (hF288.2.1 234 (by decide))))) (congrArg Int32.toInt (((hF357.1 116 6 (by decide)).trans (hF288.1 116 6 (by decide))))) (eA_ti (j := 5512) (((hF357.2.1 234 (by decide)).trans (hF288.2.1 234 (by decide))))) (congrArg Int32.toInt (((hF357.1 116 9 (by decide)).trans (hF288.1 116 9 (by decide))))) (eA_ti (j := 5513) (((hF357.2.1 234 (by decide)).trans (hF288.2.1 234 (by decide))))), (show CT _ from ⟨fun i i0 i1 => ⟨(by first | (clear f306 f307 f308 f309 f310 f311 f312 f313 f314 f315 f316 f317 f318 f319 f322 f323 f324 f332 f333 f334 f335 f336 f337 f338 f339 f340 f341 f342 f343 f344 f345 f348 f349 f350 f381 f382 f383 f384 f385 f386 f387 f388 f389 f390 f391 f392 f393 f394 f397 f398 f399 f407 f408 f409 f410 f411 f412 f413 f414 f415 f416 f417 f418 f419 f420 f423 f424 f425; have t0_ := hI0.t0; have t1_ := hI0.t1; have o := (hR_14.1 i i0 i1).1; have x := eA_ti (j := i) (((hF357.2.1 2 (by decide)).trans (hF288.2.1 2 (by decide)))); have m := q364 (10 + 3 * i) (by omega) (by omega); have y1 := eA_ti (j := ((10 + 3 * i))) (hF288.2.1 233 (by decide)); first | exact x.trans (o.trans (m.trans y1).symm) | omega) | (have t0_ := hI0.t0; have t1_ := hI0.t1; have o := (hR_14.1 i i0 i1).1; have x := eA_ti (j := i) (((hF357.2.1 2 (by decide)).trans (hF288.2.1 2 (by decide)))); have m := q364 (10 + 3 * i) (by omega) (by omega); have y1 := eA_ti (j := ((10 + 3 * i))) (hF288.2.1 233 (by decide)); first | exact x.trans (o.trans (m.trans y1).symm) | omega)), (by first | (clear f306 f307 f308 f309 f310 f311 f312 f313 f314 f315 f316 f317 f318 f319 f322 f323 f324 f332 f333 f334 f335 f336 f337 f338 f339 f340 f341 f342 f343 f344 f345 f348 f349 f350 f381 f382 f383 f384 f385 f386 f387 f388 f389 f390 f391 f392 f393 f394 f397 f398 f399 f407 f408 f409 f410 f411 f412 f413 f414 f415 f416 f417 f418 f419 f420 f423 f424 f425; have t0_ := hI0.t0; have t1_ := hI0.t1; have o := (hR_14.1 i i0 i1).2.1; have x := eA_ti (j := i) (((hF357.2.1 3 (by decide)).trans (hF288.2.1 3 (by decide)))); have m := q364 (10 + 3 * i + 1) (by omega) (by omega); have y1 := eA_ti (j := ((10 + 3 * i + 1))) (hF288.2.1 233 (by decide)); first | exact x.trans (o.trans (m.trans y1).symm) | omega) | (have t0_ := hI0.t0; have t1_ := hI0.t1; have o := (hR_14.1 i i0 i1).2.1; have x := eA_ti (j := i) (((hF357.2.1 3 (by decide)).trans (hF288.2.1 3 (by decide)))); have m := q364 (10 + 3 * i + 1) (by omega) (by omega); have y1 := eA_ti (j := ((10 + 3 * i + 1))) (hF288.2.1 233 (by decide)); first | exact x.trans (o.trans (m.trans y1).symm) | omega)), (by first | (clear f306 f307 f308 f309 f310 f311 f312 f313 f314 f315 f316 f317 f318 f319 f322 f323 f324 f332 f333 f334 f335 f336 f337 f338 f339 f340 f341 f342 f343 f344 f345 f348 f349 f350 f381 f382 f383 f384 f385 f386 f387 f388 f389 f390 f391 f392 f393 f394 f397 f398 f399 f407 f408 f409 f410 f411 f412 f413 f414 f415 f416 f417 f418 f419 f420 f423 f424 f425; have t0_ := hI0.t0; have t1_ := hI0.t1; have o := (hR_14.1 i i0 i1).2.2; have x := eA_ti (j := i) (((hF357.2.1 4 (by decide)).trans (hF288.2.1 4 (by decide)))); have m := q364 (10 + 3 * i + 2) (by omega) (by omega); have y1 := eA_ti (j := ((10 + 3 * i + 2))) (hF288.2.1 233 (by decide)); first | exact x.trans (o.trans (m.trans y1).symm) | omega) | (have t0_ := hI0.t0; have t1_ := hI0.t1; have o := (hR_14.1 i i0 i1).2.2; have x := eA_ti (j := i) (((hF357.2.1 4 (by decide)).trans (hF288.2.1 4 (by decide)))); have m := q364 (10 + 3 * i + 2) (by omega) (by omega); have y1 := eA_ti (j := ((10 + 3 * i + 2))) (hF288.2.1 233 (by decide)); first | exact x.trans (o.trans (m.trans y1).symm) | omega))⟩, fun i i0 i1 => ⟨(by first | (clear f306 f307 f308 f309 f310 f311 f312 f313 f314 f315 f316 f317 f318 f319 f322 f323 f324 f332 f333 f334 f335 f336 f337 f338 f339 f340 f341 f342 f343 f344 f345 f348 f349 f350 f381 f382 f383 f384 f385 f386 f387 f388 f389 f390 f391 f392 f393 f394 f397 f398 f399 f407 f408 f409 f410 f411 f412 f413 f414 f415 f416 f417 f418 f419 f420 f423 f424 f425; have t0_ := hI0.t0; have t1_ := hI0.t1; have o := (hR_14.2.1 i i0 i1).1; have x := eA_ti (j := i) (((hF357.2.1 14 (by decide)).trans (hF288.2.1 14 (by decide)))); have m := q364 (94 + 2 * i) (by omega) (by omega); have y1 := eA_ti (j := ((94 + 2 * i))) (hF288.2.1 233 (by decide)); first | exact x.trans (o.trans (m.trans y1).symm) | omega) | (have t0_ := hI0.t0; have t1_ := hI0.t1; have o := (hR_14.2.1 i i0 i1).1; have x := eA_ti (j := i) (((hF357.2.1 14 (by decide)).trans (hF288.2.1 14 (by decide)))); have m := q364 (94 + 2 * i) (by omega) (by omega); have y1 := eA_ti (j := ((94 + 2 * i))) (hF288.2.1 233 (by decide)); first | exact x.trans (o.trans (m.trans y1).symm) | omega)), (by first | (clear f306 f307 f308 f309 f310 f311 f312 f313 f314 f315 f316 f317 f318 f319 f322 f323 f324 f332 f333 f334 f335 f336 f337 f338 f339 f340 f341 f342 f343 f344 f345 f348 f349 f350 f381 f382 f383 f384 f385 f386 f387 f388 f389 f390 f391 f392 f393 f394 f397 f398 f399 f407 f408 f409 f410 f411 f412 f413 f414 f415 f416 f417 f418 f419 f420 f423 f424 f425; have t0_ := hI0.t0; have t1_ := hI0.t1; have o := (hR_14.2.1 i i0 i1).2; have x := eA_ti (j := i) (((hF357.2.1 15 (by decide)).trans (hF288.2.1 15 (by decide)))); have m := q364 (94 + 2 * i + 1) (by omega) (by omega); have y1 := eA_ti (j := ((94 + 2 * i + 1))) (hF288.2.1 233 (by decide)); first | exact x.trans (o.trans (m.trans y1).symm) | omega) | (have t0_ := hI0.t0; have t1_ := hI0.t1; have o := (hR_14.2.1 i i0 i1).2; have x := eA_ti (j := i) (((hF357.2.1 15 (by decide)).trans (hF288.2.1 15 (by decide)))); have m := q364 (94 + 2 * i + 1) (by omega) (by omega); have y1 := eA_ti (j := ((94 + 2 * i + 1))) (hF288.2.1 233 (by decide)); first | exact x.trans (o.trans (m.trans y1).symm) | omega))⟩, fun i i0 i1 => (by first | (clear f306 f307 f308 f309 f310 f311 f312 f313 f314 f315 f316 f317 f318 f319 f322 f323 f324 f332 f333 f334 f335 f336 f337 f338 f339 f340 f341 f342 f343 f344 f345 f348 f349 f350 f381 f382 f383 f384 f385 f386 f387 f388 f389 f390 f391 f392 f393 f394 f397 f398 f399 f407 f408 f409 f410 f411 f412 f413 f414 f415 f416 f417 f418 f419 f420 f423 f424 f425; have t0_ := hI0.t0; have t1_ := hI0.t1; have o : i < 6 * (gI g0 1 4).toInt → _ := fun hz => hR_14.2.2 i i0 hz; have x := eA_ti (j := i) (((hF357.2.1 5 (by decide)).trans (hF288.2.1 5 (by decide)))); have m := q364 (46 + i) (by omega) (by omega); have y1 := eA_ti (j := ((46 + i))) (hF288.2.1 233 (by decide)); omega) | (have t0_ := hI0.t0; have t1_ := hI0.t1; have o : i < 6 * (gI g0 1 4).toInt → _ := fun hz => hR_14.2.2 i i0 hz; have x := eA_ti (j := i) (((hF357.2.1 5 (by decide)).trans (hF288.2.1 5 (by decide)))); have m := q364 (46 + i) (by omega) (by omega); have y1 := eA_ti (j := ((46 + i))) (hF288.2.1 233 (by decide)); omega))⟩), CI0.cong hR_15 (((hF357.2.1 60 (by decide)).trans (hF288.2.1 60 (by decide)))) (((hF357.2.1 61 (by decide)).trans (hF288.2.1 61 (by decide)))) (((hF357.2.1 62 (by decide)).trans (hF288.2.1 62 (by decide)))) (((hF357.2.1 72 (by decide)).trans (hF288.2.1 72 (by decide)))) (((hF357.2.1 73 (by decide)).trans (hF288.2.1 73 (by decide)))) (((hF357.2.1 63 (by decide)).trans (hF288.2.1 63 (by decide)))) (((hF357.2.1 234 (by decide)).trans (hF288.2.1 234 (by decide)))) (congrArg Int32.toInt (((hF357.1 59 4 (by decide)).trans (hF288.1 59 4 (by decide))))), CI1.cong hR_16 (((hF357.2.1 117 (by decide)).trans (hF288.2.1 117 (by decide)))) (((hF357.2.1 118 (by decide)).trans (hF288.2.1 118 (by decide)))) (((hF357.2.1 119 (by decide)).trans (hF288.2.1 119 (by decide)))) (((hF357.2.1 129 (by decide)).trans (hF288.2.1 129 (by decide)))) (((hF357.2.1 130 (by decide)).trans (hF288.2.1 130 (by decide)))) (((hF357.2.1 120 (by decide)).trans (hF288.2.1 120 (by decide)))) (((hF357.2.1 234 (by decide)).trans (hF288.2.1 234 (by decide)))) (congrArg Int32.toInt (((hF357.1 116 4 (by decide)).trans (hF288.1 116 4 (by decide))))), (show RT _ from fun i i0 i1 => (eA_ti (((hF357.2.1 175 (by decide)).trans (hF288.2.1 175 (by decide))))).trans ((hR_17 i i0 (by omega)).trans (eA_ti (((hF357.2.1 236 (by decide)).trans (hF288.2.1 236 (by decide))))).symm)), (show BYX _ from fun i i0 i1 => by rw [TX.c (((hF357.2.1 175 (by decide)).trans (hF288.2.1 175 (by decide))))]; exact hR_18 i i0 (by have i2 : i < (gI _ 174 1).toInt := i1; show i < (gI g0 174 1).toInt; omega)), (LAWR_c hR_19 (LSA_tr (LSA_tr LSA_rf (LSA_fr hF288 rfl)) (LSA_fr hF357 rfl)) (((hF357.1 1 6 (by decide)).trans (hF288.1 1 6 (by decide)))) (((hF357.1 59 6 (by decide)).trans (hF288.1 59 6 (by decide)))) (((hF357.1 116 6 (by decide)).trans (hF288.1 116 6 (by decide)))) (((hF357.2.1 173 (by decide)).trans (hF288.2.1 173 (by decide)))) (fun i i0 i1 => (R3_terms hI287 q364 i i0 i1).trans (eA_ti (hF288.2.1 233 (by decide)))) (((hF357.2.1 234 (by decide)).trans (hF288.2.1 234 (by decide)))) (TOLDX_fr hF357 rfl rfl rfl rfl (fe292.1 hR_19.2.2.2.2))), (SETX_fr hF357 rfl rfl rfl rfl rfl (fe292.2 hR_20))⟩)
