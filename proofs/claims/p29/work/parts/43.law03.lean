set_option maxRecDepth 100000 in
set_option maxHeartbeats 8000000 in
theorem lq_c3 (d : Nat) {N : Nat} {g0 : List en_E} (hI0 : HI g0) (hR0 : LwR g0) {ys : List Int32} {L : Nat} (hL : ys.length = L) (hL2 : L ≤ 3584) {l : en_L} {i : Int32} (e0 : en_get 0 l = some (.float 0)) (e1 : en_get 1 l = some (.ref 0)) (e2 : en_get 2 l = some (.ref 231)) (e3 : en_get 3 l = some (.int i)) (hi : 0 ≤ i.toInt ∧ i.toInt + 7 ≤ L) {Ph : Option Value → en_H → Prop} (K : ∀ g1 : List en_E, HI g1 → LwR g1 → At (d + 423) (some ys) (some .boolean) bs_L_law (1330, l, [], (g1, N)) Ph) : At (d + 423) (some ys) (some .boolean) bs_L_law (327, l, [], (g0, N)) Ph := by
  have hF0 : Fr F_law A_law g0 g0 := Fr.rf
  have hx_1 : -2147483648 ≤ i.toInt + 1 ∧ i.toInt + 1 ≤ 2147483647 := by omega
  have hx_2 : -2147483648 ≤ i.toInt + 2 ∧ i.toInt + 2 ≤ 2147483647 := by omega
  have hx_3 : -2147483648 ≤ i.toInt + 3 ∧ i.toInt + 3 ≤ 2147483647 := by omega
  have hx_4 : -2147483648 ≤ i.toInt + 4 ∧ i.toInt + 4 ≤ 2147483647 := by omega
  have hx_5 : -2147483648 ≤ i.toInt + 5 ∧ i.toInt + 5 ≤ 2147483647 := by omega
  have hx_6 : -2147483648 ≤ i.toInt + 6 ∧ i.toInt + 6 ≤ 2147483647 := by omega
  have hy_0 : 0 ≤ i.toInt ∧ i.toInt < (L : Int) := by omega
  have hy_1 : 0 ≤ i.toInt + 1 ∧ i.toInt + 1 < (L : Int) := by omega
  have hy_2 : 0 ≤ i.toInt + 2 ∧ i.toInt + 2 < (L : Int) := by omega
  have hy_3 : 0 ≤ i.toInt + 3 ∧ i.toInt + 3 < (L : Int) := by omega
  have hy_4 : 0 ≤ i.toInt + 4 ∧ i.toInt + 4 < (L : Int) := by omega
  have hy_5 : 0 ≤ i.toInt + 5 ∧ i.toInt + 5 < (L : Int) := by omega
  have hy_6 : 0 ≤ i.toInt + 6 ∧ i.toInt + 6 < (L : Int) := by omega
  unfold LwR at hR0
  obtain ⟨hR_0, hR_1, hR_2, hR_3, hR_4, hR_5, hR_6, hR_7, hR_8, hR_9, hR_10, hR_11, hR_12, hR_13, hR_14, hR_15, hR_16, hR_17, hR_18, hR_19, hR_20⟩ := hR0
  refine At.enter rfl ?_
  refine r_aload_n e1 ?_
  refine r_sload_n e0 ?_
  refine r_iload_n e3 ?_
  refine r_iconst 1 rfl ?_
  refine q_iadd (i.toInt + 1) rfl hx_1 (fun v1 hv1 => ?_)
  refine q_scald (m := L) hL (i.toInt + 1) hv1 hy_1 (fun v2 hv2 => ?_)
  refine r_sload_n e0 ?_
  refine r_iload_n e3 ?_
  refine r_iconst 2 rfl ?_
  refine q_iadd (i.toInt + 2) rfl hx_2 (fun v3 hv3 => ?_)
  refine q_scald (m := L) hL (i.toInt + 2) hv3 hy_2 (fun v4 hv4 => ?_)
  refine r_sload_n e0 ?_
  refine r_iload_n e3 ?_
  refine r_iconst 3 rfl ?_
  refine q_iadd (i.toInt + 3) rfl hx_3 (fun v5 hv5 => ?_)
  refine q_scald (m := L) hL (i.toInt + 3) hv5 hy_3 (fun v6 hv6 => ?_)
  refine r_sload_n e0 ?_
  refine r_iload_n e3 ?_
  refine r_iconst 4 rfl ?_
  refine q_iadd (i.toInt + 4) rfl hx_4 (fun v7 hv7 => ?_)
  refine q_scald (m := L) hL (i.toInt + 4) hv7 hy_4 (fun v8 hv8 => ?_)
  refine r_sload_n e0 ?_
  refine r_iload_n e3 ?_
  refine r_iconst 5 rfl ?_
  refine q_iadd (i.toInt + 5) rfl hx_5 (fun v9 hv9 => ?_)
  refine q_scald (m := L) hL (i.toInt + 5) hv9 hy_5 (fun v10 hv10 => ?_)
  refine r_sload_n e0 ?_
  refine r_iload_n e3 ?_
  refine r_bipush 6 rfl ?_
  refine q_iadd (i.toInt + 6) rfl hx_6 (fun v11 hv11 => ?_)
  refine q_scald (m := L) hL (i.toInt + 6) hv11 hy_6 (fun v12 hv12 => ?_)
  rcases cs4 (1 ≤ v2.toInt ∧ v2.toInt ≤ 9 ∧ 0 ≤ v8.toInt ∧ v8.toInt ≤ 99 ∧ 0 ≤ v10.toInt ∧ v10.toInt ≤ 9 ∧ 0 ≤ v12.toInt ∧ v12.toInt ≤ 9999) (0 ≤ v4.toInt ∧ v4.toInt < (gI g0 1 0).toInt ∧ 0 ≤ v6.toInt ∧ v6.toInt < (gI g0 1 0).toInt) (8 ≤ (gI g0 1 4).toInt) with pk13 | pk13 | pk13 | pk13
  · refine r_callV 362 rfl [.ref 0, .int v2, .int v4, .int v6, .int v8, .int v10, .int v12] [] (Nat.le_of_ble_eq_true rfl) rfl (T_X10_load_0 _ hI0 v2 v4 v6 v8 v10 v12) ?_
    rintro _ _ ⟨g14, rfl, hI15, hF16, v17, rfl, hr18⟩
    refine At.sti ?_
    have hF19 := Fr.tr hF0 hF16 rfl rfl
    have fe20 : PH _ := hr18.2.2
    replace hr18 := And.intro hr18.1 hr18.2.1
    obtain ⟨q21, q22, q23⟩ := hr18
    obtain ⟨i25, i26, i27, i28⟩ := q22
    have w24 := i25 pk13
    clear i25 i26 i27 i28
    have f29 := congrArg Int32.toInt (hF16.1 1 0 rfl)
    have f30 := congrArg Int32.toInt (hF16.1 1 12 rfl)
    have f31 := congrArg Int32.toInt (hF16.1 1 10 rfl)
    have f32 := congrArg Int32.toInt (hF16.1 1 11 rfl)
    have f34 := congrArg Int32.toInt (hF16.1 1 6 rfl)
    have f35 := congrArg Int32.toInt (hF16.1 1 9 rfl)
    have f36 := congrArg Int32.toInt (hF16.1 59 0 rfl)
    have f37 := congrArg Int32.toInt (hF16.1 59 12 rfl)
    have f38 := congrArg Int32.toInt (hF16.1 59 10 rfl)
    have f39 := congrArg Int32.toInt (hF16.1 59 11 rfl)
    have f40 := congrArg Int32.toInt (hF16.1 59 4 rfl)
    have f41 := congrArg Int32.toInt (hF16.1 59 6 rfl)
    have f42 := congrArg Int32.toInt (hF16.1 59 9 rfl)
    have f43 := congrArg Int32.toInt (hF16.1 116 0 rfl)
    have f44 := congrArg Int32.toInt (hF16.1 116 12 rfl)
    have f45 := congrArg Int32.toInt (hF16.1 116 10 rfl)
    have f46 := congrArg Int32.toInt (hF16.1 116 11 rfl)
    have f47 := congrArg Int32.toInt (hF16.1 116 4 rfl)
    have f48 := congrArg Int32.toInt (hF16.1 116 6 rfl)
    have f49 := congrArg Int32.toInt (hF16.1 116 9 rfl)
    have f50 := congrArg Int32.toInt (eA_c (j := 0) (hF16.2.1 173 rfl))
    have f51 := congrArg Int32.toInt (eA_c (j := 1) (hF16.2.1 173 rfl))
    have f52 := congrArg Int32.toInt (hF16.1 174 1 rfl)
    have f53 := congrArg Int32.toInt (hF16.1 0 16 rfl)
    have f54 := congrArg Int32.toInt (hF16.1 176 2 rfl)
    have f55 := congrArg Int32.toInt (eA_c (j := 0) (hF16.2.1 233 rfl))
    have f56 := congrArg Int32.toInt (eA_c (j := 4) (hF16.2.1 233 rfl))
    have f57 := congrArg Int32.toInt (eA_c (j := 5) (hF16.2.1 233 rfl))
    have f58 := congrArg Int32.toInt (eA_c (j := 6) (hF16.2.1 233 rfl))
    have f59 := congrArg Int32.toInt (eA_c (j := 1) (hF16.2.1 233 rfl))
    have f60 := congrArg Int32.toInt (eA_c (j := 2) (hF16.2.1 233 rfl))
    have f61 := congrArg Int32.toInt (eA_c (j := 3) (hF16.2.1 233 rfl))
    have f62 := congrArg Int32.toInt (eA_c (j := 0) (hF16.2.1 234 rfl))
    have f63 := congrArg Int32.toInt (eA_c (j := 4) (hF16.2.1 234 rfl))
    have f64 := congrArg Int32.toInt (eA_c (j := 5) (hF16.2.1 234 rfl))
    have f65 := congrArg Int32.toInt (eA_c (j := 6) (hF16.2.1 234 rfl))
    have f66 := congrArg Int32.toInt (eA_c (j := 1) (hF16.2.1 234 rfl))
    have f67 := congrArg Int32.toInt (eA_c (j := 2) (hF16.2.1 234 rfl))
    have f68 := congrArg Int32.toInt (eA_c (j := 3) (hF16.2.1 234 rfl))
    have f69 := congrArg Int32.toInt (eA_c (j := 5510) (hF16.2.1 234 rfl))
    have f70 := congrArg Int32.toInt (eA_c (j := 5514) (hF16.2.1 234 rfl))
    have f71 := congrArg Int32.toInt (eA_c (j := 5515) (hF16.2.1 234 rfl))
    have f72 := congrArg Int32.toInt (eA_c (j := 5516) (hF16.2.1 234 rfl))
    have f73 := congrArg Int32.toInt (eA_c (j := 5511) (hF16.2.1 234 rfl))
    have f74 := congrArg Int32.toInt (eA_c (j := 5512) (hF16.2.1 234 rfl))
    have f75 := congrArg Int32.toInt (eA_c (j := 5513) (hF16.2.1 234 rfl))
    have f76 := congrArg Int32.toInt (eA_c (j := 0) (hF16.2.1 235 rfl))
    have f77 := congrArg Int32.toInt (eA_c (j := 1) (hF16.2.1 235 rfl))
    have f78 := congrArg Int32.toInt (hF16.1 231 8 rfl)
    have f79 := congrArg Int32.toInt (hF16.1 231 6 rfl)
    have f80 := congrArg Int32.toInt (hF16.1 231 13 rfl)
    refine At.enter rfl ?_
    refine r_pop rfl ?_
    refine r_aload_n e2 ?_
    refine r_sload_n e0 ?_
    refine r_iload_n e3 ?_
    refine r_iconst 1 rfl ?_
    refine q_iadd (i.toInt + 1) rfl hx_1 (fun v81 hv81 => ?_)
    refine q_scald (m := L) hL (i.toInt + 1) hv81 hy_1 (fun v82 hv82 => ?_)
    have sv82 := hv2.symm.trans hv82
    subst sv82
    refine r_sload_n e0 ?_
    refine r_iload_n e3 ?_
    refine r_iconst 2 rfl ?_
    refine q_iadd (i.toInt + 2) rfl hx_2 (fun v83 hv83 => ?_)
    refine q_scald (m := L) hL (i.toInt + 2) hv83 hy_2 (fun v84 hv84 => ?_)
    have sv84 := hv4.symm.trans hv84
    subst sv84
    refine r_sload_n e0 ?_
    refine r_iload_n e3 ?_
    refine r_iconst 3 rfl ?_
    refine q_iadd (i.toInt + 3) rfl hx_3 (fun v85 hv85 => ?_)
    refine q_scald (m := L) hL (i.toInt + 3) hv85 hy_3 (fun v86 hv86 => ?_)
    have sv86 := hv6.symm.trans hv86
    subst sv86
    refine r_sload_n e0 ?_
    refine r_iload_n e3 ?_
    refine r_iconst 4 rfl ?_
    refine q_iadd (i.toInt + 4) rfl hx_4 (fun v87 hv87 => ?_)
    refine q_scald (m := L) hL (i.toInt + 4) hv87 hy_4 (fun v88 hv88 => ?_)
    have sv88 := hv8.symm.trans hv88
    subst sv88
    refine r_sload_n e0 ?_
    refine r_iload_n e3 ?_
    refine r_iconst 5 rfl ?_
    refine q_iadd (i.toInt + 5) rfl hx_5 (fun v89 hv89 => ?_)
    refine q_scald (m := L) hL (i.toInt + 5) hv89 hy_5 (fun v90 hv90 => ?_)
    have sv90 := hv10.symm.trans hv90
    subst sv90
    refine r_sload_n e0 ?_
    refine r_iload_n e3 ?_
    refine r_bipush 6 rfl ?_
    refine q_iadd (i.toInt + 6) rfl hx_6 (fun v91 hv91 => ?_)
    refine q_scald (m := L) hL (i.toInt + 6) hv91 hy_6 (fun v92 hv92 => ?_)
    have sv92 := hv12.symm.trans hv92
    subst sv92
    refine r_callV 398 rfl [.ref 231, .int v2, .int v4, .int v6, .int v8, .int v10, .int v12] [] (Nat.le_of_ble_eq_true rfl) rfl (T_X11_load_231 _ hI15 v2 v4 v6 v8 v10 v12) ?_
    rintro _ _ ⟨g93, rfl, hI94, hF95, v96, rfl, hr97⟩
    refine At.sti ?_
    have hF98 := Fr.tr hF19 hF95 rfl rfl
    obtain ⟨q100, q101, q102, q103, q104⟩ := hr97
    have ek116 : (eA g14 233 0).toInt = (gI g0 1 0).toInt := (eA_ti (j := 0) (hF16.2.1 233 (by decide))).trans hR_0.symm
    have ek117 : (eA g14 233 1).toInt = (gI g0 1 4).toInt := (eA_ti (j := 1) (hF16.2.1 233 (by decide))).trans hR_4.symm
    obtain ⟨i106, i107, i108, i109, sm110, sm111, sm112, sm113, sm114, sm115⟩ := q101
    have w105 := i106 pk13
    clear i106 i107 i108 i109
    have f118 := congrArg Int32.toInt (hF95.1 1 0 rfl)
    have f119 := congrArg Int32.toInt (hF95.1 1 12 rfl)
    have f120 := congrArg Int32.toInt (hF95.1 1 10 rfl)
    have f121 := congrArg Int32.toInt (hF95.1 1 11 rfl)
    have f122 := congrArg Int32.toInt (hF95.1 1 4 rfl)
    have f123 := congrArg Int32.toInt (hF95.1 1 6 rfl)
    have f124 := congrArg Int32.toInt (hF95.1 1 9 rfl)
    have f125 := congrArg Int32.toInt (hF95.1 59 0 rfl)
    have f126 := congrArg Int32.toInt (hF95.1 59 12 rfl)
    have f127 := congrArg Int32.toInt (hF95.1 59 10 rfl)
    have f128 := congrArg Int32.toInt (hF95.1 59 11 rfl)
    have f129 := congrArg Int32.toInt (hF95.1 59 4 rfl)
    have f130 := congrArg Int32.toInt (hF95.1 59 6 rfl)
    have f131 := congrArg Int32.toInt (hF95.1 59 9 rfl)
    have f132 := congrArg Int32.toInt (hF95.1 116 0 rfl)
    have f133 := congrArg Int32.toInt (hF95.1 116 12 rfl)
    have f134 := congrArg Int32.toInt (hF95.1 116 10 rfl)
    have f135 := congrArg Int32.toInt (hF95.1 116 11 rfl)
    have f136 := congrArg Int32.toInt (hF95.1 116 4 rfl)
    have f137 := congrArg Int32.toInt (hF95.1 116 6 rfl)
    have f138 := congrArg Int32.toInt (hF95.1 116 9 rfl)
    have f139 := congrArg Int32.toInt (eA_c (j := 0) (hF95.2.1 173 rfl))
    have f140 := congrArg Int32.toInt (eA_c (j := 1) (hF95.2.1 173 rfl))
    have f141 := congrArg Int32.toInt (hF95.1 174 1 rfl)
    have f142 := congrArg Int32.toInt (hF95.1 0 16 rfl)
    have f143 := congrArg Int32.toInt (hF95.1 176 2 rfl)
    have f151 := congrArg Int32.toInt (eA_c (j := 0) (hF95.2.1 234 rfl))
    have f152 := congrArg Int32.toInt (eA_c (j := 4) (hF95.2.1 234 rfl))
    have f153 := congrArg Int32.toInt (eA_c (j := 5) (hF95.2.1 234 rfl))
    have f154 := congrArg Int32.toInt (eA_c (j := 6) (hF95.2.1 234 rfl))
    have f155 := congrArg Int32.toInt (eA_c (j := 1) (hF95.2.1 234 rfl))
    have f156 := congrArg Int32.toInt (eA_c (j := 2) (hF95.2.1 234 rfl))
    have f157 := congrArg Int32.toInt (eA_c (j := 3) (hF95.2.1 234 rfl))
    have f158 := congrArg Int32.toInt (eA_c (j := 5510) (hF95.2.1 234 rfl))
    have f159 := congrArg Int32.toInt (eA_c (j := 5514) (hF95.2.1 234 rfl))
    have f160 := congrArg Int32.toInt (eA_c (j := 5515) (hF95.2.1 234 rfl))
    have f161 := congrArg Int32.toInt (eA_c (j := 5516) (hF95.2.1 234 rfl))
    have f162 := congrArg Int32.toInt (eA_c (j := 5511) (hF95.2.1 234 rfl))
    have f163 := congrArg Int32.toInt (eA_c (j := 5512) (hF95.2.1 234 rfl))
    have f164 := congrArg Int32.toInt (eA_c (j := 5513) (hF95.2.1 234 rfl))
    have f165 := congrArg Int32.toInt (eA_c (j := 0) (hF95.2.1 235 rfl))
    have f166 := congrArg Int32.toInt (eA_c (j := 1) (hF95.2.1 235 rfl))
    have f167 := congrArg Int32.toInt (hF95.1 231 8 rfl)
    have f168 := congrArg Int32.toInt (hF95.1 231 6 rfl)
    have f169 := congrArg Int32.toInt (hF95.1 231 13 rfl)
    refine At.enter rfl ?_
    refine r_pop rfl ?_
    refine r_goto ?_
    exact K _ hI94 (show LwR _ from ⟨by first | (clear f30 f31 f32 f34 f35 f36 f37 f38 f39 f40 f41 f42 f43 f44 f45 f46 f47 f48 f49 f50 f51 f52 f53 f54 f56 f57 f58 f59 f60 f61 f62 f63 f64 f65 f66 f67 f68 f69 f70 f71 f72 f73 f74 f75 f76 f77 f78 f79 f80 f119 f120 f121 f122 f123 f124 f125 f126 f127 f128 f129 f130 f131 f132 f133 f134 f135 f136 f137 f138 f139 f140 f141 f142 f143 f151 f152 f153 f154 f155 f156 f157 f158 f159 f160 f161 f162 f163 f164 f165 f166 f167 f168 f169; omega) | omega, by first | (clear f29 f31 f32 f34 f35 f36 f37 f38 f39 f40 f41 f42 f43 f44 f45 f46 f47 f48 f49 f50 f51 f52 f53 f54 f55 f57 f58 f59 f60 f61 f62 f63 f64 f65 f66 f67 f68 f69 f70 f71 f72 f73 f74 f75 f76 f77 f78 f79 f80 f118 f120 f121 f122 f123 f124 f125 f126 f127 f128 f129 f130 f131 f132 f133 f134 f135 f136 f137 f138 f139 f140 f141 f142 f143 f151 f152 f153 f154 f155 f156 f157 f158 f159 f160 f161 f162 f163 f164 f165 f166 f167 f168 f169; omega) | omega, by first | (clear f29 f30 f32 f34 f35 f36 f37 f38 f39 f40 f41 f42 f43 f44 f45 f46 f47 f48 f49 f50 f51 f52 f53 f54 f55 f56 f58 f59 f60 f61 f62 f63 f64 f65 f66 f67 f68 f69 f70 f71 f72 f73 f74 f75 f76 f77 f78 f79 f80 f118 f119 f121 f122 f123 f124 f125 f126 f127 f128 f129 f130 f131 f132 f133 f134 f135 f136 f137 f138 f139 f140 f141 f142 f143 f151 f152 f153 f154 f155 f156 f157 f158 f159 f160 f161 f162 f163 f164 f165 f166 f167 f168 f169; omega) | omega, by first | (clear f29 f30 f31 f34 f35 f36 f37 f38 f39 f40 f41 f42 f43 f44 f45 f46 f47 f48 f49 f50 f51 f52 f53 f54 f55 f56 f57 f59 f60 f61 f62 f63 f64 f65 f66 f67 f68 f69 f70 f71 f72 f73 f74 f75 f76 f77 f78 f79 f80 f118 f119 f120 f122 f123 f124 f125 f126 f127 f128 f129 f130 f131 f132 f133 f134 f135 f136 f137 f138 f139 f140 f141 f142 f143 f151 f152 f153 f154 f155 f156 f157 f158 f159 f160 f161 f162 f163 f164 f165 f166 f167 f168 f169; omega) | omega, by first | (clear f29 f30 f31 f32 f34 f35 f36 f37 f38 f39 f40 f41 f42 f43 f44 f45 f46 f47 f48 f49 f50 f51 f52 f53 f54 f55 f56 f57 f58 f60 f61 f62 f63 f64 f65 f66 f67 f68 f69 f70 f71 f72 f73 f74 f75 f76 f77 f78 f79 f80 f118 f119 f120 f121 f123 f124 f125 f126 f127 f128 f129 f130 f131 f132 f133 f134 f135 f136 f137 f138 f139 f140 f141 f142 f143 f151 f152 f153 f154 f155 f156 f157 f158 f159 f160 f161 f162 f163 f164 f165 f166 f167 f168 f169; omega) | omega, by first | (clear f29 f30 f31 f32 f35 f36 f37 f38 f39 f40 f41 f42 f43 f44 f45 f46 f47 f48 f49 f50 f51 f52 f53 f54 f55 f56 f57 f58 f59 f61 f62 f63 f64 f65 f66 f67 f68 f69 f70 f71 f72 f73 f74 f75 f76 f77 f78 f79 f80 f118 f119 f120 f121 f122 f124 f125 f126 f127 f128 f129 f130 f131 f132 f133 f134 f135 f136 f137 f138 f139 f140 f141 f142 f143 f151 f152 f153 f154 f155 f156 f157 f158 f159 f160 f161 f162 f163 f164 f165 f166 f167 f168 f169; omega) | omega, by first | (clear f29 f30 f31 f32 f34 f36 f37 f38 f39 f40 f41 f42 f43 f44 f45 f46 f47 f48 f49 f50 f51 f52 f53 f54 f55 f56 f57 f58 f59 f60 f62 f63 f64 f65 f66 f67 f68 f69 f70 f71 f72 f73 f74 f75 f76 f77 f78 f79 f80 f118 f119 f120 f121 f122 f123 f125 f126 f127 f128 f129 f130 f131 f132 f133 f134 f135 f136 f137 f138 f139 f140 f141 f142 f143 f151 f152 f153 f154 f155 f156 f157 f158 f159 f160 f161 f162 f163 f164 f165 f166 f167 f168 f169; omega) | omega, (eA_ti (j := 0) (((hF95.2.1 173 (by decide)).trans (hF16.2.1 173 (by decide))))).trans (hR_7.trans (eA_ti (j := 0) (((hF95.2.1 235 (by decide)).trans (hF16.2.1 235 (by decide))))).symm), (eA_ti (j := 1) (((hF95.2.1 173 (by decide)).trans (hF16.2.1 173 (by decide))))).trans (hR_8.trans (eA_ti (j := 1) (((hF95.2.1 235 (by decide)).trans (hF16.2.1 235 (by decide))))).symm), (congrArg Int32.toInt (((hF95.1 174 1 (by decide)).trans (hF16.1 174 1 (by decide))))).trans (hR_9.trans (congrArg Int32.toInt (((hF95.1 231 8 (by decide)).trans (hF16.1 231 8 (by decide))))).symm), (congrArg Int32.toInt (((hF95.1 0 16 (by decide)).trans (hF16.1 0 16 (by decide))))).trans (hR_10.trans (congrArg Int32.toInt (((hF95.1 231 6 (by decide)).trans (hF16.1 231 6 (by decide))))).symm), (congrArg Int32.toInt (((hF95.1 176 2 (by decide)).trans (hF16.1 176 2 (by decide))))).trans (hR_11.trans (congrArg Int32.toInt (((hF95.1 231 13 (by decide)).trans (hF16.1 231 13 (by decide))))).symm), IM0.cong hR_12 (eA_ti (j := 0) (((hF95.2.1 173 (by decide)).trans (hF16.2.1 173 (by decide))))) (congrArg Int32.toInt (((hF95.1 59 0 (by decide)).trans (hF16.1 59 0 (by decide))))) (eA_ti (j := 0) (((hF95.2.1 234 (by decide)).trans (hF16.2.1 234 (by decide))))) (congrArg Int32.toInt (((hF95.1 59 12 (by decide)).trans (hF16.1 59 12 (by decide))))) (eA_ti (j := 4) (((hF95.2.1 234 (by decide)).trans (hF16.2.1 234 (by decide))))) (congrArg Int32.toInt (((hF95.1 59 10 (by decide)).trans (hF16.1 59 10 (by decide))))) (eA_ti (j := 5) (((hF95.2.1 234 (by decide)).trans (hF16.2.1 234 (by decide))))) (congrArg Int32.toInt (((hF95.1 59 11 (by decide)).trans (hF16.1 59 11 (by decide))))) (eA_ti (j := 6) (((hF95.2.1 234 (by decide)).trans (hF16.2.1 234 (by decide))))) (congrArg Int32.toInt (((hF95.1 59 4 (by decide)).trans (hF16.1 59 4 (by decide))))) (eA_ti (j := 1) (((hF95.2.1 234 (by decide)).trans (hF16.2.1 234 (by decide))))) (congrArg Int32.toInt (((hF95.1 59 6 (by decide)).trans (hF16.1 59 6 (by decide))))) (eA_ti (j := 2) (((hF95.2.1 234 (by decide)).trans (hF16.2.1 234 (by decide))))) (congrArg Int32.toInt (((hF95.1 59 9 (by decide)).trans (hF16.1 59 9 (by decide))))) (eA_ti (j := 3) (((hF95.2.1 234 (by decide)).trans (hF16.2.1 234 (by decide))))), IM1.cong hR_13 (eA_ti (j := 1) (((hF95.2.1 173 (by decide)).trans (hF16.2.1 173 (by decide))))) (congrArg Int32.toInt (((hF95.1 116 0 (by decide)).trans (hF16.1 116 0 (by decide))))) (eA_ti (j := 5510) (((hF95.2.1 234 (by decide)).trans (hF16.2.1 234 (by decide))))) (congrArg Int32.toInt (((hF95.1 116 12 (by decide)).trans (hF16.1 116 12 (by decide))))) (eA_ti (j := 5514) (((hF95.2.1 234 (by decide)).trans (hF16.2.1 234 (by decide))))) (congrArg Int32.toInt (((hF95.1 116 10 (by decide)).trans (hF16.1 116 10 (by decide))))) (eA_ti (j := 5515) (((hF95.2.1 234 (by decide)).trans (hF16.2.1 234 (by decide))))) (congrArg Int32.toInt (((hF95.1 116 11 (by decide)).trans (hF16.1 116 11 (by decide))))) (eA_ti (j := 5516) (((hF95.2.1 234 (by decide)).trans (hF16.2.1 234 (by decide))))) (congrArg Int32.toInt (((hF95.1 116 4 (by decide)).trans (hF16.1 116 4 (by decide))))) (eA_ti (j := 5511) (((hF95.2.1 234 (by decide)).trans (hF16.2.1 234 (by decide))))) (congrArg Int32.toInt (((hF95.1 116 6 (by decide)).trans (hF16.1 116 6 (by decide))))) (eA_ti (j := 5512) (((hF95.2.1 234 (by decide)).trans (hF16.2.1 234 (by decide))))) (congrArg Int32.toInt (((hF95.1 116 9 (by decide)).trans (hF16.1 116 9 (by decide))))) (eA_ti (j := 5513) (((hF95.2.1 234 (by decide)).trans (hF16.2.1 234 (by decide))))), (show CT _ from ⟨fun i i0 i1 => ⟨(by first | (clear f36 f37 f38 f39 f40 f41 f42 f43 f44 f45 f46 f47 f48 f49 f52 f53 f54 f62 f63 f64 f65 f66 f67 f68 f69 f70 f71 f72 f73 f74 f75 f78 f79 f80 f125 f126 f127 f128 f129 f130 f131 f132 f133 f134 f135 f136 f137 f138 f141 f142 f143 f151 f152 f153 f154 f155 f156 f157 f158 f159 f160 f161 f162 f163 f164 f167 f168 f169; have t0_ := hI0.t0; have t1_ := hI0.t1; have o := (hR_14.1 i i0 i1).1; have x := eA_ti (j := i) (((hF95.2.1 2 (by decide)).trans (hF16.2.1 2 (by decide)))); have m := q102 (10 + 3 * i) (by omega) (by omega); have y1 := eA_ti (j := ((10 + 3 * i))) (hF16.2.1 233 (by decide)); first | exact x.trans (o.trans (m.trans y1).symm) | omega) | (have t0_ := hI0.t0; have t1_ := hI0.t1; have o := (hR_14.1 i i0 i1).1; have x := eA_ti (j := i) (((hF95.2.1 2 (by decide)).trans (hF16.2.1 2 (by decide)))); have m := q102 (10 + 3 * i) (by omega) (by omega); have y1 := eA_ti (j := ((10 + 3 * i))) (hF16.2.1 233 (by decide)); first | exact x.trans (o.trans (m.trans y1).symm) | omega)), (by first | (clear f36 f37 f38 f39 f40 f41 f42 f43 f44 f45 f46 f47 f48 f49 f52 f53 f54 f62 f63 f64 f65 f66 f67 f68 f69 f70 f71 f72 f73 f74 f75 f78 f79 f80 f125 f126 f127 f128 f129 f130 f131 f132 f133 f134 f135 f136 f137 f138 f141 f142 f143 f151 f152 f153 f154 f155 f156 f157 f158 f159 f160 f161 f162 f163 f164 f167 f168 f169; have t0_ := hI0.t0; have t1_ := hI0.t1; have o := (hR_14.1 i i0 i1).2.1; have x := eA_ti (j := i) (((hF95.2.1 3 (by decide)).trans (hF16.2.1 3 (by decide)))); have m := q102 (10 + 3 * i + 1) (by omega) (by omega); have y1 := eA_ti (j := ((10 + 3 * i + 1))) (hF16.2.1 233 (by decide)); first | exact x.trans (o.trans (m.trans y1).symm) | omega) | (have t0_ := hI0.t0; have t1_ := hI0.t1; have o := (hR_14.1 i i0 i1).2.1; have x := eA_ti (j := i) (((hF95.2.1 3 (by decide)).trans (hF16.2.1 3 (by decide)))); have m := q102 (10 + 3 * i + 1) (by omega) (by omega); have y1 := eA_ti (j := ((10 + 3 * i + 1))) (hF16.2.1 233 (by decide)); first | exact x.trans (o.trans (m.trans y1).symm) | omega)), (by first | (clear f36 f37 f38 f39 f40 f41 f42 f43 f44 f45 f46 f47 f48 f49 f52 f53 f54 f62 f63 f64 f65 f66 f67 f68 f69 f70 f71 f72 f73 f74 f75 f78 f79 f80 f125 f126 f127 f128 f129 f130 f131 f132 f133 f134 f135 f136 f137 f138 f141 f142 f143 f151 f152 f153 f154 f155 f156 f157 f158 f159 f160 f161 f162 f163 f164 f167 f168 f169; have t0_ := hI0.t0; have t1_ := hI0.t1; have o := (hR_14.1 i i0 i1).2.2; have x := eA_ti (j := i) (((hF95.2.1 4 (by decide)).trans (hF16.2.1 4 (by decide)))); have m := q102 (10 + 3 * i + 2) (by omega) (by omega); have y1 := eA_ti (j := ((10 + 3 * i + 2))) (hF16.2.1 233 (by decide)); first | exact x.trans (o.trans (m.trans y1).symm) | omega) | (have t0_ := hI0.t0; have t1_ := hI0.t1; have o := (hR_14.1 i i0 i1).2.2; have x := eA_ti (j := i) (((hF95.2.1 4 (by decide)).trans (hF16.2.1 4 (by decide)))); have m := q102 (10 + 3 * i + 2) (by omega) (by omega); have y1 := eA_ti (j := ((10 + 3 * i + 2))) (hF16.2.1 233 (by decide)); first | exact x.trans (o.trans (m.trans y1).symm) | omega))⟩, fun i i0 i1 => ⟨(by first | (clear f36 f37 f38 f39 f40 f41 f42 f43 f44 f45 f46 f47 f48 f49 f52 f53 f54 f62 f63 f64 f65 f66 f67 f68 f69 f70 f71 f72 f73 f74 f75 f78 f79 f80 f125 f126 f127 f128 f129 f130 f131 f132 f133 f134 f135 f136 f137 f138 f141 f142 f143 f151 f152 f153 f154 f155 f156 f157 f158 f159 f160 f161 f162 f163 f164 f167 f168 f169; have t0_ := hI0.t0; have t1_ := hI0.t1; have o := (hR_14.2.1 i i0 i1).1; have x := eA_ti (j := i) (((hF95.2.1 14 (by decide)).trans (hF16.2.1 14 (by decide)))); have m := q103 (94 + 2 * i) (by omega) (by omega); have y1 := eA_ti (j := ((94 + 2 * i))) (hF16.2.1 233 (by decide)); first | exact x.trans (o.trans (m.trans y1).symm) | omega) | (have t0_ := hI0.t0; have t1_ := hI0.t1; have o := (hR_14.2.1 i i0 i1).1; have x := eA_ti (j := i) (((hF95.2.1 14 (by decide)).trans (hF16.2.1 14 (by decide)))); have m := q103 (94 + 2 * i) (by omega) (by omega); have y1 := eA_ti (j := ((94 + 2 * i))) (hF16.2.1 233 (by decide)); first | exact x.trans (o.trans (m.trans y1).symm) | omega)), (by first | (clear f36 f37 f38 f39 f40 f41 f42 f43 f44 f45 f46 f47 f48 f49 f52 f53 f54 f62 f63 f64 f65 f66 f67 f68 f69 f70 f71 f72 f73 f74 f75 f78 f79 f80 f125 f126 f127 f128 f129 f130 f131 f132 f133 f134 f135 f136 f137 f138 f141 f142 f143 f151 f152 f153 f154 f155 f156 f157 f158 f159 f160 f161 f162 f163 f164 f167 f168 f169; have t0_ := hI0.t0; have t1_ := hI0.t1; have o := (hR_14.2.1 i i0 i1).2; have x := eA_ti (j := i) (((hF95.2.1 15 (by decide)).trans (hF16.2.1 15 (by decide)))); have m := q103 (94 + 2 * i + 1) (by omega) (by omega); have y1 := eA_ti (j := ((94 + 2 * i + 1))) (hF16.2.1 233 (by decide)); first | exact x.trans (o.trans (m.trans y1).symm) | omega) | (have t0_ := hI0.t0; have t1_ := hI0.t1; have o := (hR_14.2.1 i i0 i1).2; have x := eA_ti (j := i) (((hF95.2.1 15 (by decide)).trans (hF16.2.1 15 (by decide)))); have m := q103 (94 + 2 * i + 1) (by omega) (by omega); have y1 := eA_ti (j := ((94 + 2 * i + 1))) (hF16.2.1 233 (by decide)); first | exact x.trans (o.trans (m.trans y1).symm) | omega))⟩, fun i i0 i1 => (by first | (clear f36 f37 f38 f39 f40 f41 f42 f43 f44 f45 f46 f47 f48 f49 f52 f53 f54 f62 f63 f64 f65 f66 f67 f68 f69 f70 f71 f72 f73 f74 f75 f78 f79 f80 f125 f126 f127 f128 f129 f130 f131 f132 f133 f134 f135 f136 f137 f138 f141 f142 f143 f151 f152 f153 f154 f155 f156 f157 f158 f159 f160 f161 f162 f163 f164 f167 f168 f169; have t0_ := hI0.t0; have t1_ := hI0.t1; have o : i < 6 * (gI g0 1 4).toInt → _ := fun hz => hR_14.2.2 i i0 hz; have t9_ := RgF.at hI94.2.1 (p := 1) (b := 4) rfl; dsimp only at t9_; have i9_ : i < 48 := (by omega); have x := (eA_ti (j := i) (hF95.2.1 5 (by decide))).trans (q23 i i0 i9_); have m := q104 (46 + i) (by omega) (by omega); have y1 := eA_ti (j := ((46 + i))) (hF16.2.1 233 (by decide)); have ek0 : (eA g14 233 0).toInt = (gI g0 1 0).toInt := (eA_ti (j := 0) (hF16.2.1 233 (by decide))).trans hR_0.symm; have ek1 : (eA g14 233 1).toInt = (gI g0 1 4).toInt := (eA_ti (j := 1) (hF16.2.1 233 (by decide))).trans hR_4.symm; have eC : ((1 ≤ v2.toInt ∧ v2.toInt ≤ 9 ∧ 0 ≤ v8.toInt ∧ v8.toInt ≤ 99 ∧ 0 ≤ v10.toInt ∧ v10.toInt ≤ 9 ∧ 0 ≤ v12.toInt ∧ v12.toInt ≤ 9999) ∧ (0 ≤ v4.toInt ∧ v4.toInt < (eA g14 233 0).toInt ∧ 0 ≤ v6.toInt ∧ v6.toInt < (eA g14 233 0).toInt) ∧ (eA g14 233 1).toInt < 8) = ((1 ≤ v2.toInt ∧ v2.toInt ≤ 9 ∧ 0 ≤ v8.toInt ∧ v8.toInt ≤ 99 ∧ 0 ≤ v10.toInt ∧ v10.toInt ≤ 9 ∧ 0 ≤ v12.toInt ∧ v12.toInt ≤ 9999) ∧ (0 ≤ v4.toInt ∧ v4.toInt < (gI g0 1 0).toInt ∧ 0 ≤ v6.toInt ∧ v6.toInt < (gI g0 1 0).toInt) ∧ (gI g0 1 4).toInt < 8) := (by rw [ek0, ek1]); have k : ¬ ((1 ≤ v2.toInt ∧ v2.toInt ≤ 9 ∧ 0 ≤ v8.toInt ∧ v8.toInt ≤ 99 ∧ 0 ≤ v10.toInt ∧ v10.toInt ≤ 9 ∧ 0 ≤ v12.toInt ∧ v12.toInt ≤ 9999) ∧ (0 ≤ v4.toInt ∧ v4.toInt < (gI g0 1 0).toInt ∧ 0 ≤ v6.toInt ∧ v6.toInt < (gI g0 1 0).toInt) ∧ (gI g0 1 4).toInt < 8) := (fun z => (show ¬ _ from pk13) z.1); have k2 : ¬ ((1 ≤ v2.toInt ∧ v2.toInt ≤ 9 ∧ 0 ≤ v8.toInt ∧ v8.toInt ≤ 99 ∧ 0 ≤ v10.toInt ∧ v10.toInt ≤ 9 ∧ 0 ≤ v12.toInt ∧ v12.toInt ≤ 9999) ∧ (0 ≤ v4.toInt ∧ v4.toInt < (eA g14 233 0).toInt ∧ 0 ≤ v6.toInt ∧ v6.toInt < (eA g14 233 0).toInt) ∧ (eA g14 233 1).toInt < 8) := fun z => k (eC.mp z); rw [ite_an k, ite_an k, ite_an k, ite_an k, ite_an k, ite_an k] at x; rw [ite_an k2, ite_an k2, ite_an k2, ite_an k2, ite_an k2, ite_an k2] at m; clear eC k2 k; omega) | (have t0_ := hI0.t0; have t1_ := hI0.t1; have o : i < 6 * (gI g0 1 4).toInt → _ := fun hz => hR_14.2.2 i i0 hz; have t9_ := RgF.at hI94.2.1 (p := 1) (b := 4) rfl; dsimp only at t9_; have i9_ : i < 48 := (by omega); have x := (eA_ti (j := i) (hF95.2.1 5 (by decide))).trans (q23 i i0 i9_); have m := q104 (46 + i) (by omega) (by omega); have y1 := eA_ti (j := ((46 + i))) (hF16.2.1 233 (by decide)); have ek0 : (eA g14 233 0).toInt = (gI g0 1 0).toInt := (eA_ti (j := 0) (hF16.2.1 233 (by decide))).trans hR_0.symm; have ek1 : (eA g14 233 1).toInt = (gI g0 1 4).toInt := (eA_ti (j := 1) (hF16.2.1 233 (by decide))).trans hR_4.symm; have eC : ((1 ≤ v2.toInt ∧ v2.toInt ≤ 9 ∧ 0 ≤ v8.toInt ∧ v8.toInt ≤ 99 ∧ 0 ≤ v10.toInt ∧ v10.toInt ≤ 9 ∧ 0 ≤ v12.toInt ∧ v12.toInt ≤ 9999) ∧ (0 ≤ v4.toInt ∧ v4.toInt < (eA g14 233 0).toInt ∧ 0 ≤ v6.toInt ∧ v6.toInt < (eA g14 233 0).toInt) ∧ (eA g14 233 1).toInt < 8) = ((1 ≤ v2.toInt ∧ v2.toInt ≤ 9 ∧ 0 ≤ v8.toInt ∧ v8.toInt ≤ 99 ∧ 0 ≤ v10.toInt ∧ v10.toInt ≤ 9 ∧ 0 ≤ v12.toInt ∧ v12.toInt ≤ 9999) ∧ (0 ≤ v4.toInt ∧ v4.toInt < (gI g0 1 0).toInt ∧ 0 ≤ v6.toInt ∧ v6.toInt < (gI g0 1 0).toInt) ∧ (gI g0 1 4).toInt < 8) := (by rw [ek0, ek1]); have k : ¬ ((1 ≤ v2.toInt ∧ v2.toInt ≤ 9 ∧ 0 ≤ v8.toInt ∧ v8.toInt ≤ 99 ∧ 0 ≤ v10.toInt ∧ v10.toInt ≤ 9 ∧ 0 ≤ v12.toInt ∧ v12.toInt ≤ 9999) ∧ (0 ≤ v4.toInt ∧ v4.toInt < (gI g0 1 0).toInt ∧ 0 ≤ v6.toInt ∧ v6.toInt < (gI g0 1 0).toInt) ∧ (gI g0 1 4).toInt < 8) := (fun z => (show ¬ _ from pk13) z.1); have k2 : ¬ ((1 ≤ v2.toInt ∧ v2.toInt ≤ 9 ∧ 0 ≤ v8.toInt ∧ v8.toInt ≤ 99 ∧ 0 ≤ v10.toInt ∧ v10.toInt ≤ 9 ∧ 0 ≤ v12.toInt ∧ v12.toInt ≤ 9999) ∧ (0 ≤ v4.toInt ∧ v4.toInt < (eA g14 233 0).toInt ∧ 0 ≤ v6.toInt ∧ v6.toInt < (eA g14 233 0).toInt) ∧ (eA g14 233 1).toInt < 8) := fun z => k (eC.mp z); rw [ite_an k, ite_an k, ite_an k, ite_an k, ite_an k, ite_an k] at x; rw [ite_an k2, ite_an k2, ite_an k2, ite_an k2, ite_an k2, ite_an k2] at m; clear eC k2 k; omega))⟩), CI0.cong hR_15 (((hF95.2.1 60 (by decide)).trans (hF16.2.1 60 (by decide)))) (((hF95.2.1 61 (by decide)).trans (hF16.2.1 61 (by decide)))) (((hF95.2.1 62 (by decide)).trans (hF16.2.1 62 (by decide)))) (((hF95.2.1 72 (by decide)).trans (hF16.2.1 72 (by decide)))) (((hF95.2.1 73 (by decide)).trans (hF16.2.1 73 (by decide)))) (((hF95.2.1 63 (by decide)).trans (hF16.2.1 63 (by decide)))) (((hF95.2.1 234 (by decide)).trans (hF16.2.1 234 (by decide)))) (congrArg Int32.toInt (((hF95.1 59 4 (by decide)).trans (hF16.1 59 4 (by decide))))), CI1.cong hR_16 (((hF95.2.1 117 (by decide)).trans (hF16.2.1 117 (by decide)))) (((hF95.2.1 118 (by decide)).trans (hF16.2.1 118 (by decide)))) (((hF95.2.1 119 (by decide)).trans (hF16.2.1 119 (by decide)))) (((hF95.2.1 129 (by decide)).trans (hF16.2.1 129 (by decide)))) (((hF95.2.1 130 (by decide)).trans (hF16.2.1 130 (by decide)))) (((hF95.2.1 120 (by decide)).trans (hF16.2.1 120 (by decide)))) (((hF95.2.1 234 (by decide)).trans (hF16.2.1 234 (by decide)))) (congrArg Int32.toInt (((hF95.1 116 4 (by decide)).trans (hF16.1 116 4 (by decide))))), (show RT _ from fun i i0 i1 => (eA_ti (((hF95.2.1 175 (by decide)).trans (hF16.2.1 175 (by decide))))).trans ((hR_17 i i0 (by omega)).trans (eA_ti (((hF95.2.1 236 (by decide)).trans (hF16.2.1 236 (by decide))))).symm)), (show BYX _ from fun i i0 i1 => by rw [TX.c (((hF95.2.1 175 (by decide)).trans (hF16.2.1 175 (by decide))))]; exact hR_18 i i0 (by have i2 : i < (gI _ 174 1).toInt := i1; show i < (gI g0 174 1).toInt; omega)), (LAWR_c hR_19 (LSA_tr (LSA_tr LSA_rf (LSA_fr hF16 rfl)) (LSA_fr hF95 rfl)) (((hF95.1 1 6 (by decide)).trans (hF16.1 1 6 (by decide)))) (((hF95.1 59 6 (by decide)).trans (hF16.1 59 6 (by decide)))) (((hF95.1 116 6 (by decide)).trans (hF16.1 116 6 (by decide)))) (((hF95.2.1 173 (by decide)).trans (hF16.2.1 173 (by decide)))) (fun i i0 i1 => (R3_load hI15 q103 i i0 i1).trans (eA_ti (hF16.2.1 233 (by decide)))) (((hF95.2.1 234 (by decide)).trans (hF16.2.1 234 (by decide)))) (TOLDX_fr hF95 rfl rfl rfl rfl (fe20.1 hR_19.2.2.2.2))), (SETX_fr hF95 rfl rfl rfl rfl rfl (fe20.2 hR_20))⟩)
  · refine r_callV 362 rfl [.ref 0, .int v2, .int v4, .int v6, .int v8, .int v10, .int v12] [] (Nat.le_of_ble_eq_true rfl) rfl (T_X10_load_0 _ hI0 v2 v4 v6 v8 v10 v12) ?_
    rintro _ _ ⟨g170, rfl, hI171, hF172, v173, rfl, hr174⟩
    refine At.sti ?_
    have hF175 := Fr.tr hF0 hF172 rfl rfl
    have fe176 : PH _ := hr174.2.2
    replace hr174 := And.intro hr174.1 hr174.2.1
    obtain ⟨q177, q178, q179⟩ := hr174
    obtain ⟨i181, i182, i183, i184⟩ := q178
    have w180 := i182 ⟨pk13.1, pk13.2⟩
    clear i181 i182 i183 i184
    have f185 := congrArg Int32.toInt (hF172.1 1 0 rfl)
    have f186 := congrArg Int32.toInt (hF172.1 1 12 rfl)
    have f187 := congrArg Int32.toInt (hF172.1 1 10 rfl)
    have f188 := congrArg Int32.toInt (hF172.1 1 11 rfl)
    have f190 := congrArg Int32.toInt (hF172.1 1 6 rfl)
    have f191 := congrArg Int32.toInt (hF172.1 1 9 rfl)
    have f192 := congrArg Int32.toInt (hF172.1 59 0 rfl)
    have f193 := congrArg Int32.toInt (hF172.1 59 12 rfl)
    have f194 := congrArg Int32.toInt (hF172.1 59 10 rfl)
    have f195 := congrArg Int32.toInt (hF172.1 59 11 rfl)
    have f196 := congrArg Int32.toInt (hF172.1 59 4 rfl)
    have f197 := congrArg Int32.toInt (hF172.1 59 6 rfl)
    have f198 := congrArg Int32.toInt (hF172.1 59 9 rfl)
    have f199 := congrArg Int32.toInt (hF172.1 116 0 rfl)
    have f200 := congrArg Int32.toInt (hF172.1 116 12 rfl)
    have f201 := congrArg Int32.toInt (hF172.1 116 10 rfl)
    have f202 := congrArg Int32.toInt (hF172.1 116 11 rfl)
    have f203 := congrArg Int32.toInt (hF172.1 116 4 rfl)
    have f204 := congrArg Int32.toInt (hF172.1 116 6 rfl)
    have f205 := congrArg Int32.toInt (hF172.1 116 9 rfl)
    have f206 := congrArg Int32.toInt (eA_c (j := 0) (hF172.2.1 173 rfl))
    have f207 := congrArg Int32.toInt (eA_c (j := 1) (hF172.2.1 173 rfl))
    have f208 := congrArg Int32.toInt (hF172.1 174 1 rfl)
    have f209 := congrArg Int32.toInt (hF172.1 0 16 rfl)
    have f210 := congrArg Int32.toInt (hF172.1 176 2 rfl)
    have f211 := congrArg Int32.toInt (eA_c (j := 0) (hF172.2.1 233 rfl))
    have f212 := congrArg Int32.toInt (eA_c (j := 4) (hF172.2.1 233 rfl))
    have f213 := congrArg Int32.toInt (eA_c (j := 5) (hF172.2.1 233 rfl))
    have f214 := congrArg Int32.toInt (eA_c (j := 6) (hF172.2.1 233 rfl))
    have f215 := congrArg Int32.toInt (eA_c (j := 1) (hF172.2.1 233 rfl))
    have f216 := congrArg Int32.toInt (eA_c (j := 2) (hF172.2.1 233 rfl))
    have f217 := congrArg Int32.toInt (eA_c (j := 3) (hF172.2.1 233 rfl))
    have f218 := congrArg Int32.toInt (eA_c (j := 0) (hF172.2.1 234 rfl))
    have f219 := congrArg Int32.toInt (eA_c (j := 4) (hF172.2.1 234 rfl))
    have f220 := congrArg Int32.toInt (eA_c (j := 5) (hF172.2.1 234 rfl))
    have f221 := congrArg Int32.toInt (eA_c (j := 6) (hF172.2.1 234 rfl))
    have f222 := congrArg Int32.toInt (eA_c (j := 1) (hF172.2.1 234 rfl))
    have f223 := congrArg Int32.toInt (eA_c (j := 2) (hF172.2.1 234 rfl))
    have f224 := congrArg Int32.toInt (eA_c (j := 3) (hF172.2.1 234 rfl))
    have f225 := congrArg Int32.toInt (eA_c (j := 5510) (hF172.2.1 234 rfl))
    have f226 := congrArg Int32.toInt (eA_c (j := 5514) (hF172.2.1 234 rfl))
    have f227 := congrArg Int32.toInt (eA_c (j := 5515) (hF172.2.1 234 rfl))
    have f228 := congrArg Int32.toInt (eA_c (j := 5516) (hF172.2.1 234 rfl))
    have f229 := congrArg Int32.toInt (eA_c (j := 5511) (hF172.2.1 234 rfl))
    have f230 := congrArg Int32.toInt (eA_c (j := 5512) (hF172.2.1 234 rfl))
    have f231 := congrArg Int32.toInt (eA_c (j := 5513) (hF172.2.1 234 rfl))
    have f232 := congrArg Int32.toInt (eA_c (j := 0) (hF172.2.1 235 rfl))
    have f233 := congrArg Int32.toInt (eA_c (j := 1) (hF172.2.1 235 rfl))
    have f234 := congrArg Int32.toInt (hF172.1 231 8 rfl)
    have f235 := congrArg Int32.toInt (hF172.1 231 6 rfl)
    have f236 := congrArg Int32.toInt (hF172.1 231 13 rfl)
    refine At.enter rfl ?_
    refine r_pop rfl ?_
    refine r_aload_n e2 ?_
    refine r_sload_n e0 ?_
    refine r_iload_n e3 ?_
    refine r_iconst 1 rfl ?_
    refine q_iadd (i.toInt + 1) rfl hx_1 (fun v237 hv237 => ?_)
    refine q_scald (m := L) hL (i.toInt + 1) hv237 hy_1 (fun v238 hv238 => ?_)
    have sv238 := hv2.symm.trans hv238
    subst sv238
    refine r_sload_n e0 ?_
    refine r_iload_n e3 ?_
    refine r_iconst 2 rfl ?_
    refine q_iadd (i.toInt + 2) rfl hx_2 (fun v239 hv239 => ?_)
    refine q_scald (m := L) hL (i.toInt + 2) hv239 hy_2 (fun v240 hv240 => ?_)
    have sv240 := hv4.symm.trans hv240
    subst sv240
    refine r_sload_n e0 ?_
    refine r_iload_n e3 ?_
    refine r_iconst 3 rfl ?_
    refine q_iadd (i.toInt + 3) rfl hx_3 (fun v241 hv241 => ?_)
    refine q_scald (m := L) hL (i.toInt + 3) hv241 hy_3 (fun v242 hv242 => ?_)
    have sv242 := hv6.symm.trans hv242
    subst sv242
    refine r_sload_n e0 ?_
    refine r_iload_n e3 ?_
    refine r_iconst 4 rfl ?_
    refine q_iadd (i.toInt + 4) rfl hx_4 (fun v243 hv243 => ?_)
    refine q_scald (m := L) hL (i.toInt + 4) hv243 hy_4 (fun v244 hv244 => ?_)
    have sv244 := hv8.symm.trans hv244
    subst sv244
    refine r_sload_n e0 ?_
    refine r_iload_n e3 ?_
    refine r_iconst 5 rfl ?_
    refine q_iadd (i.toInt + 5) rfl hx_5 (fun v245 hv245 => ?_)
    refine q_scald (m := L) hL (i.toInt + 5) hv245 hy_5 (fun v246 hv246 => ?_)
    have sv246 := hv10.symm.trans hv246
    subst sv246
    refine r_sload_n e0 ?_
    refine r_iload_n e3 ?_
    refine r_bipush 6 rfl ?_
    refine q_iadd (i.toInt + 6) rfl hx_6 (fun v247 hv247 => ?_)
    refine q_scald (m := L) hL (i.toInt + 6) hv247 hy_6 (fun v248 hv248 => ?_)
    have sv248 := hv12.symm.trans hv248
    subst sv248
    refine r_callV 398 rfl [.ref 231, .int v2, .int v4, .int v6, .int v8, .int v10, .int v12] [] (Nat.le_of_ble_eq_true rfl) rfl (T_X11_load_231 _ hI171 v2 v4 v6 v8 v10 v12) ?_
    rintro _ _ ⟨g249, rfl, hI250, hF251, v252, rfl, hr253⟩
    refine At.sti ?_
    have hF254 := Fr.tr hF175 hF251 rfl rfl
    obtain ⟨q256, q257, q258, q259, q260⟩ := hr253
    have ek272 : (eA g170 233 0).toInt = (gI g0 1 0).toInt := (eA_ti (j := 0) (hF172.2.1 233 (by decide))).trans hR_0.symm
    have ek273 : (eA g170 233 1).toInt = (gI g0 1 4).toInt := (eA_ti (j := 1) (hF172.2.1 233 (by decide))).trans hR_4.symm
    obtain ⟨i262, i263, i264, i265, sm266, sm267, sm268, sm269, sm270, sm271⟩ := q257
    have w261 := i263 ⟨pk13.1, (by rw [ek272]; exact pk13.2)⟩
    clear i262 i263 i264 i265
    have f274 := congrArg Int32.toInt (hF251.1 1 0 rfl)
    have f275 := congrArg Int32.toInt (hF251.1 1 12 rfl)
    have f276 := congrArg Int32.toInt (hF251.1 1 10 rfl)
    have f277 := congrArg Int32.toInt (hF251.1 1 11 rfl)
    have f278 := congrArg Int32.toInt (hF251.1 1 4 rfl)
    have f279 := congrArg Int32.toInt (hF251.1 1 6 rfl)
    have f280 := congrArg Int32.toInt (hF251.1 1 9 rfl)
    have f281 := congrArg Int32.toInt (hF251.1 59 0 rfl)
    have f282 := congrArg Int32.toInt (hF251.1 59 12 rfl)
    have f283 := congrArg Int32.toInt (hF251.1 59 10 rfl)
    have f284 := congrArg Int32.toInt (hF251.1 59 11 rfl)
    have f285 := congrArg Int32.toInt (hF251.1 59 4 rfl)
    have f286 := congrArg Int32.toInt (hF251.1 59 6 rfl)
    have f287 := congrArg Int32.toInt (hF251.1 59 9 rfl)
    have f288 := congrArg Int32.toInt (hF251.1 116 0 rfl)
    have f289 := congrArg Int32.toInt (hF251.1 116 12 rfl)
    have f290 := congrArg Int32.toInt (hF251.1 116 10 rfl)
    have f291 := congrArg Int32.toInt (hF251.1 116 11 rfl)
    have f292 := congrArg Int32.toInt (hF251.1 116 4 rfl)
    have f293 := congrArg Int32.toInt (hF251.1 116 6 rfl)
    have f294 := congrArg Int32.toInt (hF251.1 116 9 rfl)
    have f295 := congrArg Int32.toInt (eA_c (j := 0) (hF251.2.1 173 rfl))
    have f296 := congrArg Int32.toInt (eA_c (j := 1) (hF251.2.1 173 rfl))
    have f297 := congrArg Int32.toInt (hF251.1 174 1 rfl)
    have f298 := congrArg Int32.toInt (hF251.1 0 16 rfl)
    have f299 := congrArg Int32.toInt (hF251.1 176 2 rfl)
    have f307 := congrArg Int32.toInt (eA_c (j := 0) (hF251.2.1 234 rfl))
    have f308 := congrArg Int32.toInt (eA_c (j := 4) (hF251.2.1 234 rfl))
    have f309 := congrArg Int32.toInt (eA_c (j := 5) (hF251.2.1 234 rfl))
    have f310 := congrArg Int32.toInt (eA_c (j := 6) (hF251.2.1 234 rfl))
    have f311 := congrArg Int32.toInt (eA_c (j := 1) (hF251.2.1 234 rfl))
    have f312 := congrArg Int32.toInt (eA_c (j := 2) (hF251.2.1 234 rfl))
    have f313 := congrArg Int32.toInt (eA_c (j := 3) (hF251.2.1 234 rfl))
    have f314 := congrArg Int32.toInt (eA_c (j := 5510) (hF251.2.1 234 rfl))
    have f315 := congrArg Int32.toInt (eA_c (j := 5514) (hF251.2.1 234 rfl))
    have f316 := congrArg Int32.toInt (eA_c (j := 5515) (hF251.2.1 234 rfl))
    have f317 := congrArg Int32.toInt (eA_c (j := 5516) (hF251.2.1 234 rfl))
    have f318 := congrArg Int32.toInt (eA_c (j := 5511) (hF251.2.1 234 rfl))
    have f319 := congrArg Int32.toInt (eA_c (j := 5512) (hF251.2.1 234 rfl))
    have f320 := congrArg Int32.toInt (eA_c (j := 5513) (hF251.2.1 234 rfl))
    have f321 := congrArg Int32.toInt (eA_c (j := 0) (hF251.2.1 235 rfl))
    have f322 := congrArg Int32.toInt (eA_c (j := 1) (hF251.2.1 235 rfl))
    have f323 := congrArg Int32.toInt (hF251.1 231 8 rfl)
    have f324 := congrArg Int32.toInt (hF251.1 231 6 rfl)
    have f325 := congrArg Int32.toInt (hF251.1 231 13 rfl)
    refine At.enter rfl ?_
    refine r_pop rfl ?_
    refine r_goto ?_
    exact K _ hI250 (show LwR _ from ⟨by first | (clear f186 f187 f188 f190 f191 f192 f193 f194 f195 f196 f197 f198 f199 f200 f201 f202 f203 f204 f205 f206 f207 f208 f209 f210 f212 f213 f214 f215 f216 f217 f218 f219 f220 f221 f222 f223 f224 f225 f226 f227 f228 f229 f230 f231 f232 f233 f234 f235 f236 f275 f276 f277 f278 f279 f280 f281 f282 f283 f284 f285 f286 f287 f288 f289 f290 f291 f292 f293 f294 f295 f296 f297 f298 f299 f307 f308 f309 f310 f311 f312 f313 f314 f315 f316 f317 f318 f319 f320 f321 f322 f323 f324 f325; omega) | omega, by first | (clear f185 f187 f188 f190 f191 f192 f193 f194 f195 f196 f197 f198 f199 f200 f201 f202 f203 f204 f205 f206 f207 f208 f209 f210 f211 f213 f214 f215 f216 f217 f218 f219 f220 f221 f222 f223 f224 f225 f226 f227 f228 f229 f230 f231 f232 f233 f234 f235 f236 f274 f276 f277 f278 f279 f280 f281 f282 f283 f284 f285 f286 f287 f288 f289 f290 f291 f292 f293 f294 f295 f296 f297 f298 f299 f307 f308 f309 f310 f311 f312 f313 f314 f315 f316 f317 f318 f319 f320 f321 f322 f323 f324 f325; omega) | omega, by first | (clear f185 f186 f188 f190 f191 f192 f193 f194 f195 f196 f197 f198 f199 f200 f201 f202 f203 f204 f205 f206 f207 f208 f209 f210 f211 f212 f214 f215 f216 f217 f218 f219 f220 f221 f222 f223 f224 f225 f226 f227 f228 f229 f230 f231 f232 f233 f234 f235 f236 f274 f275 f277 f278 f279 f280 f281 f282 f283 f284 f285 f286 f287 f288 f289 f290 f291 f292 f293 f294 f295 f296 f297 f298 f299 f307 f308 f309 f310 f311 f312 f313 f314 f315 f316 f317 f318 f319 f320 f321 f322 f323 f324 f325; omega) | omega, by first | (clear f185 f186 f187 f190 f191 f192 f193 f194 f195 f196 f197 f198 f199 f200 f201 f202 f203 f204 f205 f206 f207 f208 f209 f210 f211 f212 f213 f215 f216 f217 f218 f219 f220 f221 f222 f223 f224 f225 f226 f227 f228 f229 f230 f231 f232 f233 f234 f235 f236 f274 f275 f276 f278 f279 f280 f281 f282 f283 f284 f285 f286 f287 f288 f289 f290 f291 f292 f293 f294 f295 f296 f297 f298 f299 f307 f308 f309 f310 f311 f312 f313 f314 f315 f316 f317 f318 f319 f320 f321 f322 f323 f324 f325; omega) | omega, by first | (clear f185 f186 f187 f188 f190 f191 f192 f193 f194 f195 f196 f197 f198 f199 f200 f201 f202 f203 f204 f205 f206 f207 f208 f209 f210 f211 f212 f213 f214 f216 f217 f218 f219 f220 f221 f222 f223 f224 f225 f226 f227 f228 f229 f230 f231 f232 f233 f234 f235 f236 f274 f275 f276 f277 f279 f280 f281 f282 f283 f284 f285 f286 f287 f288 f289 f290 f291 f292 f293 f294 f295 f296 f297 f298 f299 f307 f308 f309 f310 f311 f312 f313 f314 f315 f316 f317 f318 f319 f320 f321 f322 f323 f324 f325; omega) | omega, by first | (clear f185 f186 f187 f188 f191 f192 f193 f194 f195 f196 f197 f198 f199 f200 f201 f202 f203 f204 f205 f206 f207 f208 f209 f210 f211 f212 f213 f214 f215 f217 f218 f219 f220 f221 f222 f223 f224 f225 f226 f227 f228 f229 f230 f231 f232 f233 f234 f235 f236 f274 f275 f276 f277 f278 f280 f281 f282 f283 f284 f285 f286 f287 f288 f289 f290 f291 f292 f293 f294 f295 f296 f297 f298 f299 f307 f308 f309 f310 f311 f312 f313 f314 f315 f316 f317 f318 f319 f320 f321 f322 f323 f324 f325; omega) | omega, by first | (clear f185 f186 f187 f188 f190 f192 f193 f194 f195 f196 f197 f198 f199 f200 f201 f202 f203 f204 f205 f206 f207 f208 f209 f210 f211 f212 f213 f214 f215 f216 f218 f219 f220 f221 f222 f223 f224 f225 f226 f227 f228 f229 f230 f231 f232 f233 f234 f235 f236 f274 f275 f276 f277 f278 f279 f281 f282 f283 f284 f285 f286 f287 f288 f289 f290 f291 f292 f293 f294 f295 f296 f297 f298 f299 f307 f308 f309 f310 f311 f312 f313 f314 f315 f316 f317 f318 f319 f320 f321 f322 f323 f324 f325; omega) | omega, (eA_ti (j := 0) (((hF251.2.1 173 (by decide)).trans (hF172.2.1 173 (by decide))))).trans (hR_7.trans (eA_ti (j := 0) (((hF251.2.1 235 (by decide)).trans (hF172.2.1 235 (by decide))))).symm), (eA_ti (j := 1) (((hF251.2.1 173 (by decide)).trans (hF172.2.1 173 (by decide))))).trans (hR_8.trans (eA_ti (j := 1) (((hF251.2.1 235 (by decide)).trans (hF172.2.1 235 (by decide))))).symm), (congrArg Int32.toInt (((hF251.1 174 1 (by decide)).trans (hF172.1 174 1 (by decide))))).trans (hR_9.trans (congrArg Int32.toInt (((hF251.1 231 8 (by decide)).trans (hF172.1 231 8 (by decide))))).symm), (congrArg Int32.toInt (((hF251.1 0 16 (by decide)).trans (hF172.1 0 16 (by decide))))).trans (hR_10.trans (congrArg Int32.toInt (((hF251.1 231 6 (by decide)).trans (hF172.1 231 6 (by decide))))).symm), (congrArg Int32.toInt (((hF251.1 176 2 (by decide)).trans (hF172.1 176 2 (by decide))))).trans (hR_11.trans (congrArg Int32.toInt (((hF251.1 231 13 (by decide)).trans (hF172.1 231 13 (by decide))))).symm), IM0.cong hR_12 (eA_ti (j := 0) (((hF251.2.1 173 (by decide)).trans (hF172.2.1 173 (by decide))))) (congrArg Int32.toInt (((hF251.1 59 0 (by decide)).trans (hF172.1 59 0 (by decide))))) (eA_ti (j := 0) (((hF251.2.1 234 (by decide)).trans (hF172.2.1 234 (by decide))))) (congrArg Int32.toInt (((hF251.1 59 12 (by decide)).trans (hF172.1 59 12 (by decide))))) (eA_ti (j := 4) (((hF251.2.1 234 (by decide)).trans (hF172.2.1 234 (by decide))))) (congrArg Int32.toInt (((hF251.1 59 10 (by decide)).trans (hF172.1 59 10 (by decide))))) (eA_ti (j := 5) (((hF251.2.1 234 (by decide)).trans (hF172.2.1 234 (by decide))))) (congrArg Int32.toInt (((hF251.1 59 11 (by decide)).trans (hF172.1 59 11 (by decide))))) (eA_ti (j := 6) (((hF251.2.1 234 (by decide)).trans (hF172.2.1 234 (by decide))))) (congrArg Int32.toInt (((hF251.1 59 4 (by decide)).trans (hF172.1 59 4 (by decide))))) (eA_ti (j := 1) (((hF251.2.1 234 (by decide)).trans (hF172.2.1 234 (by decide))))) (congrArg Int32.toInt (((hF251.1 59 6 (by decide)).trans (hF172.1 59 6 (by decide))))) (eA_ti (j := 2) (((hF251.2.1 234 (by decide)).trans (hF172.2.1 234 (by decide))))) (congrArg Int32.toInt (((hF251.1 59 9 (by decide)).trans (hF172.1 59 9 (by decide))))) (eA_ti (j := 3) (((hF251.2.1 234 (by decide)).trans (hF172.2.1 234 (by decide))))), IM1.cong hR_13 (eA_ti (j := 1) (((hF251.2.1 173 (by decide)).trans (hF172.2.1 173 (by decide))))) (congrArg Int32.toInt (((hF251.1 116 0 (by decide)).trans (hF172.1 116 0 (by decide))))) (eA_ti (j := 5510) (((hF251.2.1 234 (by decide)).trans (hF172.2.1 234 (by decide))))) (congrArg Int32.toInt (((hF251.1 116 12 (by decide)).trans (hF172.1 116 12 (by decide))))) (eA_ti (j := 5514) (((hF251.2.1 234 (by decide)).trans (hF172.2.1 234 (by decide))))) (congrArg Int32.toInt (((hF251.1 116 10 (by decide)).trans (hF172.1 116 10 (by decide))))) (eA_ti (j := 5515) (((hF251.2.1 234 (by decide)).trans (hF172.2.1 234 (by decide))))) (congrArg Int32.toInt (((hF251.1 116 11 (by decide)).trans (hF172.1 116 11 (by decide))))) (eA_ti (j := 5516) (((hF251.2.1 234 (by decide)).trans (hF172.2.1 234 (by decide))))) (congrArg Int32.toInt (((hF251.1 116 4 (by decide)).trans (hF172.1 116 4 (by decide))))) (eA_ti (j := 5511) (((hF251.2.1 234 (by decide)).trans (hF172.2.1 234 (by decide))))) (congrArg Int32.toInt (((hF251.1 116 6 (by decide)).trans (hF172.1 116 6 (by decide))))) (eA_ti (j := 5512) (((hF251.2.1 234 (by decide)).trans (hF172.2.1 234 (by decide))))) (congrArg Int32.toInt (((hF251.1 116 9 (by decide)).trans (hF172.1 116 9 (by decide))))) (eA_ti (j := 5513) (((hF251.2.1 234 (by decide)).trans (hF172.2.1 234 (by decide))))), (show CT _ from ⟨fun i i0 i1 => ⟨(by first | (clear f192 f193 f194 f195 f196 f197 f198 f199 f200 f201 f202 f203 f204 f205 f208 f209 f210 f218 f219 f220 f221 f222 f223 f224 f225 f226 f227 f228 f229 f230 f231 f234 f235 f236 f281 f282 f283 f284 f285 f286 f287 f288 f289 f290 f291 f292 f293 f294 f297 f298 f299 f307 f308 f309 f310 f311 f312 f313 f314 f315 f316 f317 f318 f319 f320 f323 f324 f325; have t0_ := hI0.t0; have t1_ := hI0.t1; have o := (hR_14.1 i i0 i1).1; have x := eA_ti (j := i) (((hF251.2.1 2 (by decide)).trans (hF172.2.1 2 (by decide)))); have m := q258 (10 + 3 * i) (by omega) (by omega); have y1 := eA_ti (j := ((10 + 3 * i))) (hF172.2.1 233 (by decide)); first | exact x.trans (o.trans (m.trans y1).symm) | omega) | (have t0_ := hI0.t0; have t1_ := hI0.t1; have o := (hR_14.1 i i0 i1).1; have x := eA_ti (j := i) (((hF251.2.1 2 (by decide)).trans (hF172.2.1 2 (by decide)))); have m := q258 (10 + 3 * i) (by omega) (by omega); have y1 := eA_ti (j := ((10 + 3 * i))) (hF172.2.1 233 (by decide)); first | exact x.trans (o.trans (m.trans y1).symm) | omega)), (by first | (clear f192 f193 f194 f195 f196 f197 f198 f199 f200 f201 f202 f203 f204 f205 f208 f209 f210 f218 f219 f220 f221 f222 f223 f224 f225 f226 f227 f228 f229 f230 f231 f234 f235 f236 f281 f282 f283 f284 f285 f286 f287 f288 f289 f290 f291 f292 f293 f294 f297 f298 f299 f307 f308 f309 f310 f311 f312 f313 f314 f315 f316 f317 f318 f319 f320 f323 f324 f325; have t0_ := hI0.t0; have t1_ := hI0.t1; have o := (hR_14.1 i i0 i1).2.1; have x := eA_ti (j := i) (((hF251.2.1 3 (by decide)).trans (hF172.2.1 3 (by decide)))); have m := q258 (10 + 3 * i + 1) (by omega) (by omega); have y1 := eA_ti (j := ((10 + 3 * i + 1))) (hF172.2.1 233 (by decide)); first | exact x.trans (o.trans (m.trans y1).symm) | omega) | (have t0_ := hI0.t0; have t1_ := hI0.t1; have o := (hR_14.1 i i0 i1).2.1; have x := eA_ti (j := i) (((hF251.2.1 3 (by decide)).trans (hF172.2.1 3 (by decide)))); have m := q258 (10 + 3 * i + 1) (by omega) (by omega); have y1 := eA_ti (j := ((10 + 3 * i + 1))) (hF172.2.1 233 (by decide)); first | exact x.trans (o.trans (m.trans y1).symm) | omega)), (by first | (clear f192 f193 f194 f195 f196 f197 f198 f199 f200 f201 f202 f203 f204 f205 f208 f209 f210 f218 f219 f220 f221 f222 f223 f224 f225 f226 f227 f228 f229 f230 f231 f234 f235 f236 f281 f282 f283 f284 f285 f286 f287 f288 f289 f290 f291 f292 f293 f294 f297 f298 f299 f307 f308 f309 f310 f311 f312 f313 f314 f315 f316 f317 f318 f319 f320 f323 f324 f325; have t0_ := hI0.t0; have t1_ := hI0.t1; have o := (hR_14.1 i i0 i1).2.2; have x := eA_ti (j := i) (((hF251.2.1 4 (by decide)).trans (hF172.2.1 4 (by decide)))); have m := q258 (10 + 3 * i + 2) (by omega) (by omega); have y1 := eA_ti (j := ((10 + 3 * i + 2))) (hF172.2.1 233 (by decide)); first | exact x.trans (o.trans (m.trans y1).symm) | omega) | (have t0_ := hI0.t0; have t1_ := hI0.t1; have o := (hR_14.1 i i0 i1).2.2; have x := eA_ti (j := i) (((hF251.2.1 4 (by decide)).trans (hF172.2.1 4 (by decide)))); have m := q258 (10 + 3 * i + 2) (by omega) (by omega); have y1 := eA_ti (j := ((10 + 3 * i + 2))) (hF172.2.1 233 (by decide)); first | exact x.trans (o.trans (m.trans y1).symm) | omega))⟩, fun i i0 i1 => ⟨(by first | (clear f192 f193 f194 f195 f196 f197 f198 f199 f200 f201 f202 f203 f204 f205 f208 f209 f210 f218 f219 f220 f221 f222 f223 f224 f225 f226 f227 f228 f229 f230 f231 f234 f235 f236 f281 f282 f283 f284 f285 f286 f287 f288 f289 f290 f291 f292 f293 f294 f297 f298 f299 f307 f308 f309 f310 f311 f312 f313 f314 f315 f316 f317 f318 f319 f320 f323 f324 f325; have t0_ := hI0.t0; have t1_ := hI0.t1; have o := (hR_14.2.1 i i0 i1).1; have x := eA_ti (j := i) (((hF251.2.1 14 (by decide)).trans (hF172.2.1 14 (by decide)))); have m := q259 (94 + 2 * i) (by omega) (by omega); have y1 := eA_ti (j := ((94 + 2 * i))) (hF172.2.1 233 (by decide)); first | exact x.trans (o.trans (m.trans y1).symm) | omega) | (have t0_ := hI0.t0; have t1_ := hI0.t1; have o := (hR_14.2.1 i i0 i1).1; have x := eA_ti (j := i) (((hF251.2.1 14 (by decide)).trans (hF172.2.1 14 (by decide)))); have m := q259 (94 + 2 * i) (by omega) (by omega); have y1 := eA_ti (j := ((94 + 2 * i))) (hF172.2.1 233 (by decide)); first | exact x.trans (o.trans (m.trans y1).symm) | omega)), (by first | (clear f192 f193 f194 f195 f196 f197 f198 f199 f200 f201 f202 f203 f204 f205 f208 f209 f210 f218 f219 f220 f221 f222 f223 f224 f225 f226 f227 f228 f229 f230 f231 f234 f235 f236 f281 f282 f283 f284 f285 f286 f287 f288 f289 f290 f291 f292 f293 f294 f297 f298 f299 f307 f308 f309 f310 f311 f312 f313 f314 f315 f316 f317 f318 f319 f320 f323 f324 f325; have t0_ := hI0.t0; have t1_ := hI0.t1; have o := (hR_14.2.1 i i0 i1).2; have x := eA_ti (j := i) (((hF251.2.1 15 (by decide)).trans (hF172.2.1 15 (by decide)))); have m := q259 (94 + 2 * i + 1) (by omega) (by omega); have y1 := eA_ti (j := ((94 + 2 * i + 1))) (hF172.2.1 233 (by decide)); first | exact x.trans (o.trans (m.trans y1).symm) | omega) | (have t0_ := hI0.t0; have t1_ := hI0.t1; have o := (hR_14.2.1 i i0 i1).2; have x := eA_ti (j := i) (((hF251.2.1 15 (by decide)).trans (hF172.2.1 15 (by decide)))); have m := q259 (94 + 2 * i + 1) (by omega) (by omega); have y1 := eA_ti (j := ((94 + 2 * i + 1))) (hF172.2.1 233 (by decide)); first | exact x.trans (o.trans (m.trans y1).symm) | omega))⟩, fun i i0 i1 => (by first | (clear f192 f193 f194 f195 f196 f197 f198 f199 f200 f201 f202 f203 f204 f205 f208 f209 f210 f218 f219 f220 f221 f222 f223 f224 f225 f226 f227 f228 f229 f230 f231 f234 f235 f236 f281 f282 f283 f284 f285 f286 f287 f288 f289 f290 f291 f292 f293 f294 f297 f298 f299 f307 f308 f309 f310 f311 f312 f313 f314 f315 f316 f317 f318 f319 f320 f323 f324 f325; have t0_ := hI0.t0; have t1_ := hI0.t1; have o : i < 6 * (gI g0 1 4).toInt → _ := fun hz => hR_14.2.2 i i0 hz; have t9_ := RgF.at hI250.2.1 (p := 1) (b := 4) rfl; dsimp only at t9_; have i9_ : i < 48 := (by omega); have x := (eA_ti (j := i) (hF251.2.1 5 (by decide))).trans (q179 i i0 i9_); have m := q260 (46 + i) (by omega) (by omega); have y1 := eA_ti (j := ((46 + i))) (hF172.2.1 233 (by decide)); have ek0 : (eA g170 233 0).toInt = (gI g0 1 0).toInt := (eA_ti (j := 0) (hF172.2.1 233 (by decide))).trans hR_0.symm; have ek1 : (eA g170 233 1).toInt = (gI g0 1 4).toInt := (eA_ti (j := 1) (hF172.2.1 233 (by decide))).trans hR_4.symm; have eC : ((1 ≤ v2.toInt ∧ v2.toInt ≤ 9 ∧ 0 ≤ v8.toInt ∧ v8.toInt ≤ 99 ∧ 0 ≤ v10.toInt ∧ v10.toInt ≤ 9 ∧ 0 ≤ v12.toInt ∧ v12.toInt ≤ 9999) ∧ (0 ≤ v4.toInt ∧ v4.toInt < (eA g170 233 0).toInt ∧ 0 ≤ v6.toInt ∧ v6.toInt < (eA g170 233 0).toInt) ∧ (eA g170 233 1).toInt < 8) = ((1 ≤ v2.toInt ∧ v2.toInt ≤ 9 ∧ 0 ≤ v8.toInt ∧ v8.toInt ≤ 99 ∧ 0 ≤ v10.toInt ∧ v10.toInt ≤ 9 ∧ 0 ≤ v12.toInt ∧ v12.toInt ≤ 9999) ∧ (0 ≤ v4.toInt ∧ v4.toInt < (gI g0 1 0).toInt ∧ 0 ≤ v6.toInt ∧ v6.toInt < (gI g0 1 0).toInt) ∧ (gI g0 1 4).toInt < 8) := (by rw [ek0, ek1]); have k : ¬ ((1 ≤ v2.toInt ∧ v2.toInt ≤ 9 ∧ 0 ≤ v8.toInt ∧ v8.toInt ≤ 99 ∧ 0 ≤ v10.toInt ∧ v10.toInt ≤ 9 ∧ 0 ≤ v12.toInt ∧ v12.toInt ≤ 9999) ∧ (0 ≤ v4.toInt ∧ v4.toInt < (gI g0 1 0).toInt ∧ 0 ≤ v6.toInt ∧ v6.toInt < (gI g0 1 0).toInt) ∧ (gI g0 1 4).toInt < 8) := (fun z => absurd z.2.1 pk13.2); have k2 : ¬ ((1 ≤ v2.toInt ∧ v2.toInt ≤ 9 ∧ 0 ≤ v8.toInt ∧ v8.toInt ≤ 99 ∧ 0 ≤ v10.toInt ∧ v10.toInt ≤ 9 ∧ 0 ≤ v12.toInt ∧ v12.toInt ≤ 9999) ∧ (0 ≤ v4.toInt ∧ v4.toInt < (eA g170 233 0).toInt ∧ 0 ≤ v6.toInt ∧ v6.toInt < (eA g170 233 0).toInt) ∧ (eA g170 233 1).toInt < 8) := fun z => k (eC.mp z); rw [ite_an k, ite_an k, ite_an k, ite_an k, ite_an k, ite_an k] at x; rw [ite_an k2, ite_an k2, ite_an k2, ite_an k2, ite_an k2, ite_an k2] at m; clear eC k2 k; omega) | (have t0_ := hI0.t0; have t1_ := hI0.t1; have o : i < 6 * (gI g0 1 4).toInt → _ := fun hz => hR_14.2.2 i i0 hz; have t9_ := RgF.at hI250.2.1 (p := 1) (b := 4) rfl; dsimp only at t9_; have i9_ : i < 48 := (by omega); have x := (eA_ti (j := i) (hF251.2.1 5 (by decide))).trans (q179 i i0 i9_); have m := q260 (46 + i) (by omega) (by omega); have y1 := eA_ti (j := ((46 + i))) (hF172.2.1 233 (by decide)); have ek0 : (eA g170 233 0).toInt = (gI g0 1 0).toInt := (eA_ti (j := 0) (hF172.2.1 233 (by decide))).trans hR_0.symm; have ek1 : (eA g170 233 1).toInt = (gI g0 1 4).toInt := (eA_ti (j := 1) (hF172.2.1 233 (by decide))).trans hR_4.symm; have eC : ((1 ≤ v2.toInt ∧ v2.toInt ≤ 9 ∧ 0 ≤ v8.toInt ∧ v8.toInt ≤ 99 ∧ 0 ≤ v10.toInt ∧ v10.toInt ≤ 9 ∧ 0 ≤ v12.toInt ∧ v12.toInt ≤ 9999) ∧ (0 ≤ v4.toInt ∧ v4.toInt < (eA g170 233 0).toInt ∧ 0 ≤ v6.toInt ∧ v6.toInt < (eA g170 233 0).toInt) ∧ (eA g170 233 1).toInt < 8) = ((1 ≤ v2.toInt ∧ v2.toInt ≤ 9 ∧ 0 ≤ v8.toInt ∧ v8.toInt ≤ 99 ∧ 0 ≤ v10.toInt ∧ v10.toInt ≤ 9 ∧ 0 ≤ v12.toInt ∧ v12.toInt ≤ 9999) ∧ (0 ≤ v4.toInt ∧ v4.toInt < (gI g0 1 0).toInt ∧ 0 ≤ v6.toInt ∧ v6.toInt < (gI g0 1 0).toInt) ∧ (gI g0 1 4).toInt < 8) := (by rw [ek0, ek1]); have k : ¬ ((1 ≤ v2.toInt ∧ v2.toInt ≤ 9 ∧ 0 ≤ v8.toInt ∧ v8.toInt ≤ 99 ∧ 0 ≤ v10.toInt ∧ v10.toInt ≤ 9 ∧ 0 ≤ v12.toInt ∧ v12.toInt ≤ 9999) ∧ (0 ≤ v4.toInt ∧ v4.toInt < (gI g0 1 0).toInt ∧ 0 ≤ v6.toInt ∧ v6.toInt < (gI g0 1 0).toInt) ∧ (gI g0 1 4).toInt < 8) := (fun z => absurd z.2.1 pk13.2); have k2 : ¬ ((1 ≤ v2.toInt ∧ v2.toInt ≤ 9 ∧ 0 ≤ v8.toInt ∧ v8.toInt ≤ 99 ∧ 0 ≤ v10.toInt ∧ v10.toInt ≤ 9 ∧ 0 ≤ v12.toInt ∧ v12.toInt ≤ 9999) ∧ (0 ≤ v4.toInt ∧ v4.toInt < (eA g170 233 0).toInt ∧ 0 ≤ v6.toInt ∧ v6.toInt < (eA g170 233 0).toInt) ∧ (eA g170 233 1).toInt < 8) := fun z => k (eC.mp z); rw [ite_an k, ite_an k, ite_an k, ite_an k, ite_an k, ite_an k] at x; rw [ite_an k2, ite_an k2, ite_an k2, ite_an k2, ite_an k2, ite_an k2] at m; clear eC k2 k; omega))⟩), CI0.cong hR_15 (((hF251.2.1 60 (by decide)).trans (hF172.2.1 60 (by decide)))) (((hF251.2.1 61 (by decide)).trans (hF172.2.1 61 (by decide)))) (((hF251.2.1 62 (by decide)).trans (hF172.2.1 62 (by decide)))) (((hF251.2.1 72 (by decide)).trans (hF172.2.1 72 (by decide)))) (((hF251.2.1 73 (by decide)).trans (hF172.2.1 73 (by decide)))) (((hF251.2.1 63 (by decide)).trans (hF172.2.1 63 (by decide)))) (((hF251.2.1 234 (by decide)).trans (hF172.2.1 234 (by decide)))) (congrArg Int32.toInt (((hF251.1 59 4 (by decide)).trans (hF172.1 59 4 (by decide))))), CI1.cong hR_16 (((hF251.2.1 117 (by decide)).trans (hF172.2.1 117 (by decide)))) (((hF251.2.1 118 (by decide)).trans (hF172.2.1 118 (by decide)))) (((hF251.2.1 119 (by decide)).trans (hF172.2.1 119 (by decide)))) (((hF251.2.1 129 (by decide)).trans (hF172.2.1 129 (by decide)))) (((hF251.2.1 130 (by decide)).trans (hF172.2.1 130 (by decide)))) (((hF251.2.1 120 (by decide)).trans (hF172.2.1 120 (by decide)))) (((hF251.2.1 234 (by decide)).trans (hF172.2.1 234 (by decide)))) (congrArg Int32.toInt (((hF251.1 116 4 (by decide)).trans (hF172.1 116 4 (by decide))))), (show RT _ from fun i i0 i1 => (eA_ti (((hF251.2.1 175 (by decide)).trans (hF172.2.1 175 (by decide))))).trans ((hR_17 i i0 (by omega)).trans (eA_ti (((hF251.2.1 236 (by decide)).trans (hF172.2.1 236 (by decide))))).symm)), (show BYX _ from fun i i0 i1 => by rw [TX.c (((hF251.2.1 175 (by decide)).trans (hF172.2.1 175 (by decide))))]; exact hR_18 i i0 (by have i2 : i < (gI _ 174 1).toInt := i1; show i < (gI g0 174 1).toInt; omega)), (LAWR_c hR_19 (LSA_tr (LSA_tr LSA_rf (LSA_fr hF172 rfl)) (LSA_fr hF251 rfl)) (((hF251.1 1 6 (by decide)).trans (hF172.1 1 6 (by decide)))) (((hF251.1 59 6 (by decide)).trans (hF172.1 59 6 (by decide)))) (((hF251.1 116 6 (by decide)).trans (hF172.1 116 6 (by decide)))) (((hF251.2.1 173 (by decide)).trans (hF172.2.1 173 (by decide)))) (fun i i0 i1 => (R3_load hI171 q259 i i0 i1).trans (eA_ti (hF172.2.1 233 (by decide)))) (((hF251.2.1 234 (by decide)).trans (hF172.2.1 234 (by decide)))) (TOLDX_fr hF251 rfl rfl rfl rfl (fe176.1 hR_19.2.2.2.2))), (SETX_fr hF251 rfl rfl rfl rfl rfl (fe176.2 hR_20))⟩)
  · refine r_callV 362 rfl [.ref 0, .int v2, .int v4, .int v6, .int v8, .int v10, .int v12] [] (Nat.le_of_ble_eq_true rfl) rfl (T_X10_load_0 _ hI0 v2 v4 v6 v8 v10 v12) ?_
    rintro _ _ ⟨g326, rfl, hI327, hF328, v329, rfl, hr330⟩
    refine At.sti ?_
    have hF331 := Fr.tr hF0 hF328 rfl rfl
    have fe332 : PH _ := hr330.2.2
    replace hr330 := And.intro hr330.1 hr330.2.1
    obtain ⟨q333, q334, q335⟩ := hr330
    obtain ⟨i337, i338, i339, i340⟩ := q334
    have w336 := i339 ⟨pk13.1, pk13.2.1, pk13.2.2⟩
    clear i337 i338 i339 i340
    have f341 := congrArg Int32.toInt (hF328.1 1 0 rfl)
    have f342 := congrArg Int32.toInt (hF328.1 1 12 rfl)
    have f343 := congrArg Int32.toInt (hF328.1 1 10 rfl)
    have f344 := congrArg Int32.toInt (hF328.1 1 11 rfl)
    have f346 := congrArg Int32.toInt (hF328.1 1 6 rfl)
    have f347 := congrArg Int32.toInt (hF328.1 1 9 rfl)
    have f348 := congrArg Int32.toInt (hF328.1 59 0 rfl)
    have f349 := congrArg Int32.toInt (hF328.1 59 12 rfl)
    have f350 := congrArg Int32.toInt (hF328.1 59 10 rfl)
    have f351 := congrArg Int32.toInt (hF328.1 59 11 rfl)
    have f352 := congrArg Int32.toInt (hF328.1 59 4 rfl)
    have f353 := congrArg Int32.toInt (hF328.1 59 6 rfl)
    have f354 := congrArg Int32.toInt (hF328.1 59 9 rfl)
    have f355 := congrArg Int32.toInt (hF328.1 116 0 rfl)
    have f356 := congrArg Int32.toInt (hF328.1 116 12 rfl)
    have f357 := congrArg Int32.toInt (hF328.1 116 10 rfl)
    have f358 := congrArg Int32.toInt (hF328.1 116 11 rfl)
    have f359 := congrArg Int32.toInt (hF328.1 116 4 rfl)
    have f360 := congrArg Int32.toInt (hF328.1 116 6 rfl)
    have f361 := congrArg Int32.toInt (hF328.1 116 9 rfl)
    have f362 := congrArg Int32.toInt (eA_c (j := 0) (hF328.2.1 173 rfl))
    have f363 := congrArg Int32.toInt (eA_c (j := 1) (hF328.2.1 173 rfl))
    have f364 := congrArg Int32.toInt (hF328.1 174 1 rfl)
    have f365 := congrArg Int32.toInt (hF328.1 0 16 rfl)
    have f366 := congrArg Int32.toInt (hF328.1 176 2 rfl)
    have f367 := congrArg Int32.toInt (eA_c (j := 0) (hF328.2.1 233 rfl))
    have f368 := congrArg Int32.toInt (eA_c (j := 4) (hF328.2.1 233 rfl))
    have f369 := congrArg Int32.toInt (eA_c (j := 5) (hF328.2.1 233 rfl))
    have f370 := congrArg Int32.toInt (eA_c (j := 6) (hF328.2.1 233 rfl))
    have f371 := congrArg Int32.toInt (eA_c (j := 1) (hF328.2.1 233 rfl))
    have f372 := congrArg Int32.toInt (eA_c (j := 2) (hF328.2.1 233 rfl))
    have f373 := congrArg Int32.toInt (eA_c (j := 3) (hF328.2.1 233 rfl))
    have f374 := congrArg Int32.toInt (eA_c (j := 0) (hF328.2.1 234 rfl))
    have f375 := congrArg Int32.toInt (eA_c (j := 4) (hF328.2.1 234 rfl))
    have f376 := congrArg Int32.toInt (eA_c (j := 5) (hF328.2.1 234 rfl))
    have f377 := congrArg Int32.toInt (eA_c (j := 6) (hF328.2.1 234 rfl))
    have f378 := congrArg Int32.toInt (eA_c (j := 1) (hF328.2.1 234 rfl))
    have f379 := congrArg Int32.toInt (eA_c (j := 2) (hF328.2.1 234 rfl))
    have f380 := congrArg Int32.toInt (eA_c (j := 3) (hF328.2.1 234 rfl))
    have f381 := congrArg Int32.toInt (eA_c (j := 5510) (hF328.2.1 234 rfl))
    have f382 := congrArg Int32.toInt (eA_c (j := 5514) (hF328.2.1 234 rfl))
    have f383 := congrArg Int32.toInt (eA_c (j := 5515) (hF328.2.1 234 rfl))
    have f384 := congrArg Int32.toInt (eA_c (j := 5516) (hF328.2.1 234 rfl))
    have f385 := congrArg Int32.toInt (eA_c (j := 5511) (hF328.2.1 234 rfl))
    have f386 := congrArg Int32.toInt (eA_c (j := 5512) (hF328.2.1 234 rfl))
    have f387 := congrArg Int32.toInt (eA_c (j := 5513) (hF328.2.1 234 rfl))
    have f388 := congrArg Int32.toInt (eA_c (j := 0) (hF328.2.1 235 rfl))
    have f389 := congrArg Int32.toInt (eA_c (j := 1) (hF328.2.1 235 rfl))
    have f390 := congrArg Int32.toInt (hF328.1 231 8 rfl)
    have f391 := congrArg Int32.toInt (hF328.1 231 6 rfl)
    have f392 := congrArg Int32.toInt (hF328.1 231 13 rfl)
    refine At.enter rfl ?_
    refine r_pop rfl ?_
    refine r_aload_n e2 ?_
    refine r_sload_n e0 ?_
    refine r_iload_n e3 ?_
    refine r_iconst 1 rfl ?_
    refine q_iadd (i.toInt + 1) rfl hx_1 (fun v393 hv393 => ?_)
    refine q_scald (m := L) hL (i.toInt + 1) hv393 hy_1 (fun v394 hv394 => ?_)
    have sv394 := hv2.symm.trans hv394
    subst sv394
    refine r_sload_n e0 ?_
    refine r_iload_n e3 ?_
    refine r_iconst 2 rfl ?_
    refine q_iadd (i.toInt + 2) rfl hx_2 (fun v395 hv395 => ?_)
    refine q_scald (m := L) hL (i.toInt + 2) hv395 hy_2 (fun v396 hv396 => ?_)
    have sv396 := hv4.symm.trans hv396
    subst sv396
    refine r_sload_n e0 ?_
    refine r_iload_n e3 ?_
    refine r_iconst 3 rfl ?_
    refine q_iadd (i.toInt + 3) rfl hx_3 (fun v397 hv397 => ?_)
    refine q_scald (m := L) hL (i.toInt + 3) hv397 hy_3 (fun v398 hv398 => ?_)
    have sv398 := hv6.symm.trans hv398
    subst sv398
    refine r_sload_n e0 ?_
    refine r_iload_n e3 ?_
    refine r_iconst 4 rfl ?_
    refine q_iadd (i.toInt + 4) rfl hx_4 (fun v399 hv399 => ?_)
    refine q_scald (m := L) hL (i.toInt + 4) hv399 hy_4 (fun v400 hv400 => ?_)
    have sv400 := hv8.symm.trans hv400
    subst sv400
    refine r_sload_n e0 ?_
    refine r_iload_n e3 ?_
    refine r_iconst 5 rfl ?_
    refine q_iadd (i.toInt + 5) rfl hx_5 (fun v401 hv401 => ?_)
    refine q_scald (m := L) hL (i.toInt + 5) hv401 hy_5 (fun v402 hv402 => ?_)
    have sv402 := hv10.symm.trans hv402
    subst sv402
    refine r_sload_n e0 ?_
    refine r_iload_n e3 ?_
    refine r_bipush 6 rfl ?_
    refine q_iadd (i.toInt + 6) rfl hx_6 (fun v403 hv403 => ?_)
    refine q_scald (m := L) hL (i.toInt + 6) hv403 hy_6 (fun v404 hv404 => ?_)
    have sv404 := hv12.symm.trans hv404
    subst sv404
    refine r_callV 398 rfl [.ref 231, .int v2, .int v4, .int v6, .int v8, .int v10, .int v12] [] (Nat.le_of_ble_eq_true rfl) rfl (T_X11_load_231 _ hI327 v2 v4 v6 v8 v10 v12) ?_
    rintro _ _ ⟨g405, rfl, hI406, hF407, v408, rfl, hr409⟩
    refine At.sti ?_
    have hF410 := Fr.tr hF331 hF407 rfl rfl
    obtain ⟨q412, q413, q414, q415, q416⟩ := hr409
    have ek428 : (eA g326 233 0).toInt = (gI g0 1 0).toInt := (eA_ti (j := 0) (hF328.2.1 233 (by decide))).trans hR_0.symm
    have ek429 : (eA g326 233 1).toInt = (gI g0 1 4).toInt := (eA_ti (j := 1) (hF328.2.1 233 (by decide))).trans hR_4.symm
    obtain ⟨i418, i419, i420, i421, sm422, sm423, sm424, sm425, sm426, sm427⟩ := q413
    have w417 := i420 ⟨pk13.1, (by rw [ek428]; exact pk13.2.1), (by rw [ek429]; exact pk13.2.2)⟩
    clear i418 i419 i420 i421
    have f430 := congrArg Int32.toInt (hF407.1 1 0 rfl)
    have f431 := congrArg Int32.toInt (hF407.1 1 12 rfl)
    have f432 := congrArg Int32.toInt (hF407.1 1 10 rfl)
    have f433 := congrArg Int32.toInt (hF407.1 1 11 rfl)
    have f434 := congrArg Int32.toInt (hF407.1 1 4 rfl)
    have f435 := congrArg Int32.toInt (hF407.1 1 6 rfl)
    have f436 := congrArg Int32.toInt (hF407.1 1 9 rfl)
    have f437 := congrArg Int32.toInt (hF407.1 59 0 rfl)
    have f438 := congrArg Int32.toInt (hF407.1 59 12 rfl)
    have f439 := congrArg Int32.toInt (hF407.1 59 10 rfl)
    have f440 := congrArg Int32.toInt (hF407.1 59 11 rfl)
    have f441 := congrArg Int32.toInt (hF407.1 59 4 rfl)
    have f442 := congrArg Int32.toInt (hF407.1 59 6 rfl)
    have f443 := congrArg Int32.toInt (hF407.1 59 9 rfl)
    have f444 := congrArg Int32.toInt (hF407.1 116 0 rfl)
    have f445 := congrArg Int32.toInt (hF407.1 116 12 rfl)
    have f446 := congrArg Int32.toInt (hF407.1 116 10 rfl)
    have f447 := congrArg Int32.toInt (hF407.1 116 11 rfl)
    have f448 := congrArg Int32.toInt (hF407.1 116 4 rfl)
    have f449 := congrArg Int32.toInt (hF407.1 116 6 rfl)
    have f450 := congrArg Int32.toInt (hF407.1 116 9 rfl)
    have f451 := congrArg Int32.toInt (eA_c (j := 0) (hF407.2.1 173 rfl))
    have f452 := congrArg Int32.toInt (eA_c (j := 1) (hF407.2.1 173 rfl))
    have f453 := congrArg Int32.toInt (hF407.1 174 1 rfl)
    have f454 := congrArg Int32.toInt (hF407.1 0 16 rfl)
    have f455 := congrArg Int32.toInt (hF407.1 176 2 rfl)
    have f463 := congrArg Int32.toInt (eA_c (j := 0) (hF407.2.1 234 rfl))
    have f464 := congrArg Int32.toInt (eA_c (j := 4) (hF407.2.1 234 rfl))
    have f465 := congrArg Int32.toInt (eA_c (j := 5) (hF407.2.1 234 rfl))
    have f466 := congrArg Int32.toInt (eA_c (j := 6) (hF407.2.1 234 rfl))
    have f467 := congrArg Int32.toInt (eA_c (j := 1) (hF407.2.1 234 rfl))
    have f468 := congrArg Int32.toInt (eA_c (j := 2) (hF407.2.1 234 rfl))
    have f469 := congrArg Int32.toInt (eA_c (j := 3) (hF407.2.1 234 rfl))
    have f470 := congrArg Int32.toInt (eA_c (j := 5510) (hF407.2.1 234 rfl))
    have f471 := congrArg Int32.toInt (eA_c (j := 5514) (hF407.2.1 234 rfl))
    have f472 := congrArg Int32.toInt (eA_c (j := 5515) (hF407.2.1 234 rfl))
    have f473 := congrArg Int32.toInt (eA_c (j := 5516) (hF407.2.1 234 rfl))
    have f474 := congrArg Int32.toInt (eA_c (j := 5511) (hF407.2.1 234 rfl))
    have f475 := congrArg Int32.toInt (eA_c (j := 5512) (hF407.2.1 234 rfl))
    have f476 := congrArg Int32.toInt (eA_c (j := 5513) (hF407.2.1 234 rfl))
    have f477 := congrArg Int32.toInt (eA_c (j := 0) (hF407.2.1 235 rfl))
    have f478 := congrArg Int32.toInt (eA_c (j := 1) (hF407.2.1 235 rfl))
    have f479 := congrArg Int32.toInt (hF407.1 231 8 rfl)
    have f480 := congrArg Int32.toInt (hF407.1 231 6 rfl)
    have f481 := congrArg Int32.toInt (hF407.1 231 13 rfl)
    refine At.enter rfl ?_
    refine r_pop rfl ?_
    refine r_goto ?_
    exact K _ hI406 (show LwR _ from ⟨by first | (clear f342 f343 f344 f346 f347 f348 f349 f350 f351 f352 f353 f354 f355 f356 f357 f358 f359 f360 f361 f362 f363 f364 f365 f366 f368 f369 f370 f371 f372 f373 f374 f375 f376 f377 f378 f379 f380 f381 f382 f383 f384 f385 f386 f387 f388 f389 f390 f391 f392 f431 f432 f433 f434 f435 f436 f437 f438 f439 f440 f441 f442 f443 f444 f445 f446 f447 f448 f449 f450 f451 f452 f453 f454 f455 f463 f464 f465 f466 f467 f468 f469 f470 f471 f472 f473 f474 f475 f476 f477 f478 f479 f480 f481; omega) | omega, by first | (clear f341 f343 f344 f346 f347 f348 f349 f350 f351 f352 f353 f354 f355 f356 f357 f358 f359 f360 f361 f362 f363 f364 f365 f366 f367 f369 f370 f371 f372 f373 f374 f375 f376 f377 f378 f379 f380 f381 f382 f383 f384 f385 f386 f387 f388 f389 f390 f391 f392 f430 f432 f433 f434 f435 f436 f437 f438 f439 f440 f441 f442 f443 f444 f445 f446 f447 f448 f449 f450 f451 f452 f453 f454 f455 f463 f464 f465 f466 f467 f468 f469 f470 f471 f472 f473 f474 f475 f476 f477 f478 f479 f480 f481; omega) | omega, by first | (clear f341 f342 f344 f346 f347 f348 f349 f350 f351 f352 f353 f354 f355 f356 f357 f358 f359 f360 f361 f362 f363 f364 f365 f366 f367 f368 f370 f371 f372 f373 f374 f375 f376 f377 f378 f379 f380 f381 f382 f383 f384 f385 f386 f387 f388 f389 f390 f391 f392 f430 f431 f433 f434 f435 f436 f437 f438 f439 f440 f441 f442 f443 f444 f445 f446 f447 f448 f449 f450 f451 f452 f453 f454 f455 f463 f464 f465 f466 f467 f468 f469 f470 f471 f472 f473 f474 f475 f476 f477 f478 f479 f480 f481; omega) | omega, by first | (clear f341 f342 f343 f346 f347 f348 f349 f350 f351 f352 f353 f354 f355 f356 f357 f358 f359 f360 f361 f362 f363 f364 f365 f366 f367 f368 f369 f371 f372 f373 f374 f375 f376 f377 f378 f379 f380 f381 f382 f383 f384 f385 f386 f387 f388 f389 f390 f391 f392 f430 f431 f432 f434 f435 f436 f437 f438 f439 f440 f441 f442 f443 f444 f445 f446 f447 f448 f449 f450 f451 f452 f453 f454 f455 f463 f464 f465 f466 f467 f468 f469 f470 f471 f472 f473 f474 f475 f476 f477 f478 f479 f480 f481; omega) | omega, by first | (clear f341 f342 f343 f344 f346 f347 f348 f349 f350 f351 f352 f353 f354 f355 f356 f357 f358 f359 f360 f361 f362 f363 f364 f365 f366 f367 f368 f369 f370 f372 f373 f374 f375 f376 f377 f378 f379 f380 f381 f382 f383 f384 f385 f386 f387 f388 f389 f390 f391 f392 f430 f431 f432 f433 f435 f436 f437 f438 f439 f440 f441 f442 f443 f444 f445 f446 f447 f448 f449 f450 f451 f452 f453 f454 f455 f463 f464 f465 f466 f467 f468 f469 f470 f471 f472 f473 f474 f475 f476 f477 f478 f479 f480 f481; omega) | omega, by first | (clear f341 f342 f343 f344 f347 f348 f349 f350 f351 f352 f353 f354 f355 f356 f357 f358 f359 f360 f361 f362 f363 f364 f365 f366 f367 f368 f369 f370 f371 f373 f374 f375 f376 f377 f378 f379 f380 f381 f382 f383 f384 f385 f386 f387 f388 f389 f390 f391 f392 f430 f431 f432 f433 f434 f436 f437 f438 f439 f440 f441 f442 f443 f444 f445 f446 f447 f448 f449 f450 f451 f452 f453 f454 f455 f463 f464 f465 f466 f467 f468 f469 f470 f471 f472 f473 f474 f475 f476 f477 f478 f479 f480 f481; omega) | omega, by first | (clear f341 f342 f343 f344 f346 f348 f349 f350 f351 f352 f353 f354 f355 f356 f357 f358 f359 f360 f361 f362 f363 f364 f365 f366 f367 f368 f369 f370 f371 f372 f374 f375 f376 f377 f378 f379 f380 f381 f382 f383 f384 f385 f386 f387 f388 f389 f390 f391 f392 f430 f431 f432 f433 f434 f435 f437 f438 f439 f440 f441 f442 f443 f444 f445 f446 f447 f448 f449 f450 f451 f452 f453 f454 f455 f463 f464 f465 f466 f467 f468 f469 f470 f471 f472 f473 f474 f475 f476 f477 f478 f479 f480 f481; omega) | omega, (eA_ti (j := 0) (((hF407.2.1 173 (by decide)).trans (hF328.2.1 173 (by decide))))).trans (hR_7.trans (eA_ti (j := 0) (((hF407.2.1 235 (by decide)).trans (hF328.2.1 235 (by decide))))).symm), (eA_ti (j := 1) (((hF407.2.1 173 (by decide)).trans (hF328.2.1 173 (by decide))))).trans (hR_8.trans (eA_ti (j := 1) (((hF407.2.1 235 (by decide)).trans (hF328.2.1 235 (by decide))))).symm), (congrArg Int32.toInt (((hF407.1 174 1 (by decide)).trans (hF328.1 174 1 (by decide))))).trans (hR_9.trans (congrArg Int32.toInt (((hF407.1 231 8 (by decide)).trans (hF328.1 231 8 (by decide))))).symm), (congrArg Int32.toInt (((hF407.1 0 16 (by decide)).trans (hF328.1 0 16 (by decide))))).trans (hR_10.trans (congrArg Int32.toInt (((hF407.1 231 6 (by decide)).trans (hF328.1 231 6 (by decide))))).symm), (congrArg Int32.toInt (((hF407.1 176 2 (by decide)).trans (hF328.1 176 2 (by decide))))).trans (hR_11.trans (congrArg Int32.toInt (((hF407.1 231 13 (by decide)).trans (hF328.1 231 13 (by decide))))).symm), IM0.cong hR_12 (eA_ti (j := 0) (((hF407.2.1 173 (by decide)).trans (hF328.2.1 173 (by decide))))) (congrArg Int32.toInt (((hF407.1 59 0 (by decide)).trans (hF328.1 59 0 (by decide))))) (eA_ti (j := 0) (((hF407.2.1 234 (by decide)).trans (hF328.2.1 234 (by decide))))) (congrArg Int32.toInt (((hF407.1 59 12 (by decide)).trans (hF328.1 59 12 (by decide))))) (eA_ti (j := 4) (((hF407.2.1 234 (by decide)).trans (hF328.2.1 234 (by decide))))) (congrArg Int32.toInt (((hF407.1 59 10 (by decide)).trans (hF328.1 59 10 (by decide))))) (eA_ti (j := 5) (((hF407.2.1 234 (by decide)).trans (hF328.2.1 234 (by decide))))) (congrArg Int32.toInt (((hF407.1 59 11 (by decide)).trans (hF328.1 59 11 (by decide))))) (eA_ti (j := 6) (((hF407.2.1 234 (by decide)).trans (hF328.2.1 234 (by decide))))) (congrArg Int32.toInt (((hF407.1 59 4 (by decide)).trans (hF328.1 59 4 (by decide))))) (eA_ti (j := 1) (((hF407.2.1 234 (by decide)).trans (hF328.2.1 234 (by decide))))) (congrArg Int32.toInt (((hF407.1 59 6 (by decide)).trans (hF328.1 59 6 (by decide))))) (eA_ti (j := 2) (((hF407.2.1 234 (by decide)).trans (hF328.2.1 234 (by decide))))) (congrArg Int32.toInt (((hF407.1 59 9 (by decide)).trans (hF328.1 59 9 (by decide))))) (eA_ti (j := 3) (((hF407.2.1 234 (by decide)).trans (hF328.2.1 234 (by decide))))), IM1.cong hR_13 (eA_ti (j := 1) (((hF407.2.1 173 (by decide)).trans (hF328.2.1 173 (by decide))))) (congrArg Int32.toInt (((hF407.1 116 0 (by decide)).trans (hF328.1 116 0 (by decide))))) (eA_ti (j := 5510) (((hF407.2.1 234 (by decide)).trans (hF328.2.1 234 (by decide))))) (congrArg Int32.toInt (((hF407.1 116 12 (by decide)).trans (hF328.1 116 12 (by decide))))) (eA_ti (j := 5514) (((hF407.2.1 234 (by decide)).trans (hF328.2.1 234 (by decide))))) (congrArg Int32.toInt (((hF407.1 116 10 (by decide)).trans (hF328.1 116 10 (by decide))))) (eA_ti (j := 5515) (((hF407.2.1 234 (by decide)).trans (hF328.2.1 234 (by decide))))) (congrArg Int32.toInt (((hF407.1 116 11 (by decide)).trans (hF328.1 116 11 (by decide))))) (eA_ti (j := 5516) (((hF407.2.1 234 (by decide)).trans (hF328.2.1 234 (by decide))))) (congrArg Int32.toInt (((hF407.1 116 4 (by decide)).trans (hF328.1 116 4 (by decide))))) (eA_ti (j := 5511) (((hF407.2.1 234 (by decide)).trans (hF328.2.1 234 (by decide))))) (congrArg Int32.toInt (((hF407.1 116 6 (by decide)).trans (hF328.1 116 6 (by decide))))) (eA_ti (j := 5512) (((hF407.2.1 234 (by decide)).trans (hF328.2.1 234 (by decide))))) (congrArg Int32.toInt (((hF407.1 116 9 (by decide)).trans (hF328.1 116 9 (by decide))))) (eA_ti (j := 5513) (((hF407.2.1 234 (by decide)).trans (hF328.2.1 234 (by decide))))), (show CT _ from ⟨fun i i0 i1 => ⟨(by first | (clear f348 f349 f350 f351 f352 f353 f354 f355 f356 f357 f358 f359 f360 f361 f364 f365 f366 f374 f375 f376 f377 f378 f379 f380 f381 f382 f383 f384 f385 f386 f387 f390 f391 f392 f437 f438 f439 f440 f441 f442 f443 f444 f445 f446 f447 f448 f449 f450 f453 f454 f455 f463 f464 f465 f466 f467 f468 f469 f470 f471 f472 f473 f474 f475 f476 f479 f480 f481; have t0_ := hI0.t0; have t1_ := hI0.t1; have o := (hR_14.1 i i0 i1).1; have x := eA_ti (j := i) (((hF407.2.1 2 (by decide)).trans (hF328.2.1 2 (by decide)))); have m := q414 (10 + 3 * i) (by omega) (by omega); have y1 := eA_ti (j := ((10 + 3 * i))) (hF328.2.1 233 (by decide)); first | exact x.trans (o.trans (m.trans y1).symm) | omega) | (have t0_ := hI0.t0; have t1_ := hI0.t1; have o := (hR_14.1 i i0 i1).1; have x := eA_ti (j := i) (((hF407.2.1 2 (by decide)).trans (hF328.2.1 2 (by decide)))); have m := q414 (10 + 3 * i) (by omega) (by omega); have y1 := eA_ti (j := ((10 + 3 * i))) (hF328.2.1 233 (by decide)); first | exact x.trans (o.trans (m.trans y1).symm) | omega)), (by first | (clear f348 f349 f350 f351 f352 f353 f354 f355 f356 f357 f358 f359 f360 f361 f364 f365 f366 f374 f375 f376 f377 f378 f379 f380 f381 f382 f383 f384 f385 f386 f387 f390 f391 f392 f437 f438 f439 f440 f441 f442 f443 f444 f445 f446 f447 f448 f449 f450 f453 f454 f455 f463 f464 f465 f466 f467 f468 f469 f470 f471 f472 f473 f474 f475 f476 f479 f480 f481; have t0_ := hI0.t0; have t1_ := hI0.t1; have o := (hR_14.1 i i0 i1).2.1; have x := eA_ti (j := i) (((hF407.2.1 3 (by decide)).trans (hF328.2.1 3 (by decide)))); have m := q414 (10 + 3 * i + 1) (by omega) (by omega); have y1 := eA_ti (j := ((10 + 3 * i + 1))) (hF328.2.1 233 (by decide)); first | exact x.trans (o.trans (m.trans y1).symm) | omega) | (have t0_ := hI0.t0; have t1_ := hI0.t1; have o := (hR_14.1 i i0 i1).2.1; have x := eA_ti (j := i) (((hF407.2.1 3 (by decide)).trans (hF328.2.1 3 (by decide)))); have m := q414 (10 + 3 * i + 1) (by omega) (by omega); have y1 := eA_ti (j := ((10 + 3 * i + 1))) (hF328.2.1 233 (by decide)); first | exact x.trans (o.trans (m.trans y1).symm) | omega)), (by first | (clear f348 f349 f350 f351 f352 f353 f354 f355 f356 f357 f358 f359 f360 f361 f364 f365 f366 f374 f375 f376 f377 f378 f379 f380 f381 f382 f383 f384 f385 f386 f387 f390 f391 f392 f437 f438 f439 f440 f441 f442 f443 f444 f445 f446 f447 f448 f449 f450 f453 f454 f455 f463 f464 f465 f466 f467 f468 f469 f470 f471 f472 f473 f474 f475 f476 f479 f480 f481; have t0_ := hI0.t0; have t1_ := hI0.t1; have o := (hR_14.1 i i0 i1).2.2; have x := eA_ti (j := i) (((hF407.2.1 4 (by decide)).trans (hF328.2.1 4 (by decide)))); have m := q414 (10 + 3 * i + 2) (by omega) (by omega); have y1 := eA_ti (j := ((10 + 3 * i + 2))) (hF328.2.1 233 (by decide)); first | exact x.trans (o.trans (m.trans y1).symm) | omega) | (have t0_ := hI0.t0; have t1_ := hI0.t1; have o := (hR_14.1 i i0 i1).2.2; have x := eA_ti (j := i) (((hF407.2.1 4 (by decide)).trans (hF328.2.1 4 (by decide)))); have m := q414 (10 + 3 * i + 2) (by omega) (by omega); have y1 := eA_ti (j := ((10 + 3 * i + 2))) (hF328.2.1 233 (by decide)); first | exact x.trans (o.trans (m.trans y1).symm) | omega))⟩, fun i i0 i1 => ⟨(by first | (clear f348 f349 f350 f351 f352 f353 f354 f355 f356 f357 f358 f359 f360 f361 f364 f365 f366 f374 f375 f376 f377 f378 f379 f380 f381 f382 f383 f384 f385 f386 f387 f390 f391 f392 f437 f438 f439 f440 f441 f442 f443 f444 f445 f446 f447 f448 f449 f450 f453 f454 f455 f463 f464 f465 f466 f467 f468 f469 f470 f471 f472 f473 f474 f475 f476 f479 f480 f481; have t0_ := hI0.t0; have t1_ := hI0.t1; have o := (hR_14.2.1 i i0 i1).1; have x := eA_ti (j := i) (((hF407.2.1 14 (by decide)).trans (hF328.2.1 14 (by decide)))); have m := q415 (94 + 2 * i) (by omega) (by omega); have y1 := eA_ti (j := ((94 + 2 * i))) (hF328.2.1 233 (by decide)); first | exact x.trans (o.trans (m.trans y1).symm) | omega) | (have t0_ := hI0.t0; have t1_ := hI0.t1; have o := (hR_14.2.1 i i0 i1).1; have x := eA_ti (j := i) (((hF407.2.1 14 (by decide)).trans (hF328.2.1 14 (by decide)))); have m := q415 (94 + 2 * i) (by omega) (by omega); have y1 := eA_ti (j := ((94 + 2 * i))) (hF328.2.1 233 (by decide)); first | exact x.trans (o.trans (m.trans y1).symm) | omega)), (by first | (clear f348 f349 f350 f351 f352 f353 f354 f355 f356 f357 f358 f359 f360 f361 f364 f365 f366 f374 f375 f376 f377 f378 f379 f380 f381 f382 f383 f384 f385 f386 f387 f390 f391 f392 f437 f438 f439 f440 f441 f442 f443 f444 f445 f446 f447 f448 f449 f450 f453 f454 f455 f463 f464 f465 f466 f467 f468 f469 f470 f471 f472 f473 f474 f475 f476 f479 f480 f481; have t0_ := hI0.t0; have t1_ := hI0.t1; have o := (hR_14.2.1 i i0 i1).2; have x := eA_ti (j := i) (((hF407.2.1 15 (by decide)).trans (hF328.2.1 15 (by decide)))); have m := q415 (94 + 2 * i + 1) (by omega) (by omega); have y1 := eA_ti (j := ((94 + 2 * i + 1))) (hF328.2.1 233 (by decide)); first | exact x.trans (o.trans (m.trans y1).symm) | omega) | (have t0_ := hI0.t0; have t1_ := hI0.t1; have o := (hR_14.2.1 i i0 i1).2; have x := eA_ti (j := i) (((hF407.2.1 15 (by decide)).trans (hF328.2.1 15 (by decide)))); have m := q415 (94 + 2 * i + 1) (by omega) (by omega); have y1 := eA_ti (j := ((94 + 2 * i + 1))) (hF328.2.1 233 (by decide)); first | exact x.trans (o.trans (m.trans y1).symm) | omega))⟩, fun i i0 i1 => (by first | (clear f348 f349 f350 f351 f352 f353 f354 f355 f356 f357 f358 f359 f360 f361 f364 f365 f366 f374 f375 f376 f377 f378 f379 f380 f381 f382 f383 f384 f385 f386 f387 f390 f391 f392 f437 f438 f439 f440 f441 f442 f443 f444 f445 f446 f447 f448 f449 f450 f453 f454 f455 f463 f464 f465 f466 f467 f468 f469 f470 f471 f472 f473 f474 f475 f476 f479 f480 f481; have t0_ := hI0.t0; have t1_ := hI0.t1; have o : i < 6 * (gI g0 1 4).toInt → _ := fun hz => hR_14.2.2 i i0 hz; have t9_ := RgF.at hI406.2.1 (p := 1) (b := 4) rfl; dsimp only at t9_; have i9_ : i < 48 := (by omega); have x := (eA_ti (j := i) (hF407.2.1 5 (by decide))).trans (q335 i i0 i9_); have m := q416 (46 + i) (by omega) (by omega); have y1 := eA_ti (j := ((46 + i))) (hF328.2.1 233 (by decide)); have ek0 : (eA g326 233 0).toInt = (gI g0 1 0).toInt := (eA_ti (j := 0) (hF328.2.1 233 (by decide))).trans hR_0.symm; have ek1 : (eA g326 233 1).toInt = (gI g0 1 4).toInt := (eA_ti (j := 1) (hF328.2.1 233 (by decide))).trans hR_4.symm; have eC : ((1 ≤ v2.toInt ∧ v2.toInt ≤ 9 ∧ 0 ≤ v8.toInt ∧ v8.toInt ≤ 99 ∧ 0 ≤ v10.toInt ∧ v10.toInt ≤ 9 ∧ 0 ≤ v12.toInt ∧ v12.toInt ≤ 9999) ∧ (0 ≤ v4.toInt ∧ v4.toInt < (eA g326 233 0).toInt ∧ 0 ≤ v6.toInt ∧ v6.toInt < (eA g326 233 0).toInt) ∧ (eA g326 233 1).toInt < 8) = ((1 ≤ v2.toInt ∧ v2.toInt ≤ 9 ∧ 0 ≤ v8.toInt ∧ v8.toInt ≤ 99 ∧ 0 ≤ v10.toInt ∧ v10.toInt ≤ 9 ∧ 0 ≤ v12.toInt ∧ v12.toInt ≤ 9999) ∧ (0 ≤ v4.toInt ∧ v4.toInt < (gI g0 1 0).toInt ∧ 0 ≤ v6.toInt ∧ v6.toInt < (gI g0 1 0).toInt) ∧ (gI g0 1 4).toInt < 8) := (by rw [ek0, ek1]); have k : ¬ ((1 ≤ v2.toInt ∧ v2.toInt ≤ 9 ∧ 0 ≤ v8.toInt ∧ v8.toInt ≤ 99 ∧ 0 ≤ v10.toInt ∧ v10.toInt ≤ 9 ∧ 0 ≤ v12.toInt ∧ v12.toInt ≤ 9999) ∧ (0 ≤ v4.toInt ∧ v4.toInt < (gI g0 1 0).toInt ∧ 0 ≤ v6.toInt ∧ v6.toInt < (gI g0 1 0).toInt) ∧ (gI g0 1 4).toInt < 8) := (fun z => absurd pk13.2.2 (Int.not_le.mpr z.2.2)); have k2 : ¬ ((1 ≤ v2.toInt ∧ v2.toInt ≤ 9 ∧ 0 ≤ v8.toInt ∧ v8.toInt ≤ 99 ∧ 0 ≤ v10.toInt ∧ v10.toInt ≤ 9 ∧ 0 ≤ v12.toInt ∧ v12.toInt ≤ 9999) ∧ (0 ≤ v4.toInt ∧ v4.toInt < (eA g326 233 0).toInt ∧ 0 ≤ v6.toInt ∧ v6.toInt < (eA g326 233 0).toInt) ∧ (eA g326 233 1).toInt < 8) := fun z => k (eC.mp z); rw [ite_an k, ite_an k, ite_an k, ite_an k, ite_an k, ite_an k] at x; rw [ite_an k2, ite_an k2, ite_an k2, ite_an k2, ite_an k2, ite_an k2] at m; clear eC k2 k; omega) | (have t0_ := hI0.t0; have t1_ := hI0.t1; have o : i < 6 * (gI g0 1 4).toInt → _ := fun hz => hR_14.2.2 i i0 hz; have t9_ := RgF.at hI406.2.1 (p := 1) (b := 4) rfl; dsimp only at t9_; have i9_ : i < 48 := (by omega); have x := (eA_ti (j := i) (hF407.2.1 5 (by decide))).trans (q335 i i0 i9_); have m := q416 (46 + i) (by omega) (by omega); have y1 := eA_ti (j := ((46 + i))) (hF328.2.1 233 (by decide)); have ek0 : (eA g326 233 0).toInt = (gI g0 1 0).toInt := (eA_ti (j := 0) (hF328.2.1 233 (by decide))).trans hR_0.symm; have ek1 : (eA g326 233 1).toInt = (gI g0 1 4).toInt := (eA_ti (j := 1) (hF328.2.1 233 (by decide))).trans hR_4.symm; have eC : ((1 ≤ v2.toInt ∧ v2.toInt ≤ 9 ∧ 0 ≤ v8.toInt ∧ v8.toInt ≤ 99 ∧ 0 ≤ v10.toInt ∧ v10.toInt ≤ 9 ∧ 0 ≤ v12.toInt ∧ v12.toInt ≤ 9999) ∧ (0 ≤ v4.toInt ∧ v4.toInt < (eA g326 233 0).toInt ∧ 0 ≤ v6.toInt ∧ v6.toInt < (eA g326 233 0).toInt) ∧ (eA g326 233 1).toInt < 8) = ((1 ≤ v2.toInt ∧ v2.toInt ≤ 9 ∧ 0 ≤ v8.toInt ∧ v8.toInt ≤ 99 ∧ 0 ≤ v10.toInt ∧ v10.toInt ≤ 9 ∧ 0 ≤ v12.toInt ∧ v12.toInt ≤ 9999) ∧ (0 ≤ v4.toInt ∧ v4.toInt < (gI g0 1 0).toInt ∧ 0 ≤ v6.toInt ∧ v6.toInt < (gI g0 1 0).toInt) ∧ (gI g0 1 4).toInt < 8) := (by rw [ek0, ek1]); have k : ¬ ((1 ≤ v2.toInt ∧ v2.toInt ≤ 9 ∧ 0 ≤ v8.toInt ∧ v8.toInt ≤ 99 ∧ 0 ≤ v10.toInt ∧ v10.toInt ≤ 9 ∧ 0 ≤ v12.toInt ∧ v12.toInt ≤ 9999) ∧ (0 ≤ v4.toInt ∧ v4.toInt < (gI g0 1 0).toInt ∧ 0 ≤ v6.toInt ∧ v6.toInt < (gI g0 1 0).toInt) ∧ (gI g0 1 4).toInt < 8) := (fun z => absurd pk13.2.2 (Int.not_le.mpr z.2.2)); have k2 : ¬ ((1 ≤ v2.toInt ∧ v2.toInt ≤ 9 ∧ 0 ≤ v8.toInt ∧ v8.toInt ≤ 99 ∧ 0 ≤ v10.toInt ∧ v10.toInt ≤ 9 ∧ 0 ≤ v12.toInt ∧ v12.toInt ≤ 9999) ∧ (0 ≤ v4.toInt ∧ v4.toInt < (eA g326 233 0).toInt ∧ 0 ≤ v6.toInt ∧ v6.toInt < (eA g326 233 0).toInt) ∧ (eA g326 233 1).toInt < 8) := fun z => k (eC.mp z); rw [ite_an k, ite_an k, ite_an k, ite_an k, ite_an k, ite_an k] at x; rw [ite_an k2, ite_an k2, ite_an k2, ite_an k2, ite_an k2, ite_an k2] at m; clear eC k2 k; omega))⟩), CI0.cong hR_15 (((hF407.2.1 60 (by decide)).trans (hF328.2.1 60 (by decide)))) (((hF407.2.1 61 (by decide)).trans (hF328.2.1 61 (by decide)))) (((hF407.2.1 62 (by decide)).trans (hF328.2.1 62 (by decide)))) (((hF407.2.1 72 (by decide)).trans (hF328.2.1 72 (by decide)))) (((hF407.2.1 73 (by decide)).trans (hF328.2.1 73 (by decide)))) (((hF407.2.1 63 (by decide)).trans (hF328.2.1 63 (by decide)))) (((hF407.2.1 234 (by decide)).trans (hF328.2.1 234 (by decide)))) (congrArg Int32.toInt (((hF407.1 59 4 (by decide)).trans (hF328.1 59 4 (by decide))))), CI1.cong hR_16 (((hF407.2.1 117 (by decide)).trans (hF328.2.1 117 (by decide)))) (((hF407.2.1 118 (by decide)).trans (hF328.2.1 118 (by decide)))) (((hF407.2.1 119 (by decide)).trans (hF328.2.1 119 (by decide)))) (((hF407.2.1 129 (by decide)).trans (hF328.2.1 129 (by decide)))) (((hF407.2.1 130 (by decide)).trans (hF328.2.1 130 (by decide)))) (((hF407.2.1 120 (by decide)).trans (hF328.2.1 120 (by decide)))) (((hF407.2.1 234 (by decide)).trans (hF328.2.1 234 (by decide)))) (congrArg Int32.toInt (((hF407.1 116 4 (by decide)).trans (hF328.1 116 4 (by decide))))), (show RT _ from fun i i0 i1 => (eA_ti (((hF407.2.1 175 (by decide)).trans (hF328.2.1 175 (by decide))))).trans ((hR_17 i i0 (by omega)).trans (eA_ti (((hF407.2.1 236 (by decide)).trans (hF328.2.1 236 (by decide))))).symm)), (show BYX _ from fun i i0 i1 => by rw [TX.c (((hF407.2.1 175 (by decide)).trans (hF328.2.1 175 (by decide))))]; exact hR_18 i i0 (by have i2 : i < (gI _ 174 1).toInt := i1; show i < (gI g0 174 1).toInt; omega)), (LAWR_c hR_19 (LSA_tr (LSA_tr LSA_rf (LSA_fr hF328 rfl)) (LSA_fr hF407 rfl)) (((hF407.1 1 6 (by decide)).trans (hF328.1 1 6 (by decide)))) (((hF407.1 59 6 (by decide)).trans (hF328.1 59 6 (by decide)))) (((hF407.1 116 6 (by decide)).trans (hF328.1 116 6 (by decide)))) (((hF407.2.1 173 (by decide)).trans (hF328.2.1 173 (by decide)))) (fun i i0 i1 => (R3_load hI327 q415 i i0 i1).trans (eA_ti (hF328.2.1 233 (by decide)))) (((hF407.2.1 234 (by decide)).trans (hF328.2.1 234 (by decide)))) (TOLDX_fr hF407 rfl rfl rfl rfl (fe332.1 hR_19.2.2.2.2))), (SETX_fr hF407 rfl rfl rfl rfl rfl (fe332.2 hR_20))⟩)
  · refine r_callV 362 rfl [.ref 0, .int v2, .int v4, .int v6, .int v8, .int v10, .int v12] [] (Nat.le_of_ble_eq_true rfl) rfl (T_X10_load_0 _ hI0 v2 v4 v6 v8 v10 v12) ?_
    rintro _ _ ⟨g482, rfl, hI483, hF484, v485, rfl, hr486⟩
    refine At.sti ?_
    have hF487 := Fr.tr hF0 hF484 rfl rfl
    have fe488 : PH _ := hr486.2.2
    replace hr486 := And.intro hr486.1 hr486.2.1
    obtain ⟨q489, q490, q491⟩ := hr486
    obtain ⟨i493, i494, i495, i496⟩ := q490
    have w492 := i496 ⟨pk13.1, pk13.2.1, Int.not_le.mp pk13.2.2⟩
    clear i493 i494 i495 i496
    have f497 := congrArg Int32.toInt (hF484.1 1 0 rfl)
    have f498 := congrArg Int32.toInt (hF484.1 1 12 rfl)
    have f499 := congrArg Int32.toInt (hF484.1 1 10 rfl)
    have f500 := congrArg Int32.toInt (hF484.1 1 11 rfl)
    have f502 := congrArg Int32.toInt (hF484.1 1 6 rfl)
    have f503 := congrArg Int32.toInt (hF484.1 1 9 rfl)
    have f504 := congrArg Int32.toInt (hF484.1 59 0 rfl)
    have f505 := congrArg Int32.toInt (hF484.1 59 12 rfl)
    have f506 := congrArg Int32.toInt (hF484.1 59 10 rfl)
    have f507 := congrArg Int32.toInt (hF484.1 59 11 rfl)
    have f508 := congrArg Int32.toInt (hF484.1 59 4 rfl)
    have f509 := congrArg Int32.toInt (hF484.1 59 6 rfl)
    have f510 := congrArg Int32.toInt (hF484.1 59 9 rfl)
    have f511 := congrArg Int32.toInt (hF484.1 116 0 rfl)
    have f512 := congrArg Int32.toInt (hF484.1 116 12 rfl)
    have f513 := congrArg Int32.toInt (hF484.1 116 10 rfl)
    have f514 := congrArg Int32.toInt (hF484.1 116 11 rfl)
    have f515 := congrArg Int32.toInt (hF484.1 116 4 rfl)
    have f516 := congrArg Int32.toInt (hF484.1 116 6 rfl)
    have f517 := congrArg Int32.toInt (hF484.1 116 9 rfl)
    have f518 := congrArg Int32.toInt (eA_c (j := 0) (hF484.2.1 173 rfl))
    have f519 := congrArg Int32.toInt (eA_c (j := 1) (hF484.2.1 173 rfl))
    have f520 := congrArg Int32.toInt (hF484.1 174 1 rfl)
    have f521 := congrArg Int32.toInt (hF484.1 0 16 rfl)
    have f522 := congrArg Int32.toInt (hF484.1 176 2 rfl)
    have f523 := congrArg Int32.toInt (eA_c (j := 0) (hF484.2.1 233 rfl))
    have f524 := congrArg Int32.toInt (eA_c (j := 4) (hF484.2.1 233 rfl))
    have f525 := congrArg Int32.toInt (eA_c (j := 5) (hF484.2.1 233 rfl))
    have f526 := congrArg Int32.toInt (eA_c (j := 6) (hF484.2.1 233 rfl))
    have f527 := congrArg Int32.toInt (eA_c (j := 1) (hF484.2.1 233 rfl))
    have f528 := congrArg Int32.toInt (eA_c (j := 2) (hF484.2.1 233 rfl))
    have f529 := congrArg Int32.toInt (eA_c (j := 3) (hF484.2.1 233 rfl))
    have f530 := congrArg Int32.toInt (eA_c (j := 0) (hF484.2.1 234 rfl))
    have f531 := congrArg Int32.toInt (eA_c (j := 4) (hF484.2.1 234 rfl))
    have f532 := congrArg Int32.toInt (eA_c (j := 5) (hF484.2.1 234 rfl))
    have f533 := congrArg Int32.toInt (eA_c (j := 6) (hF484.2.1 234 rfl))
    have f534 := congrArg Int32.toInt (eA_c (j := 1) (hF484.2.1 234 rfl))
    have f535 := congrArg Int32.toInt (eA_c (j := 2) (hF484.2.1 234 rfl))
    have f536 := congrArg Int32.toInt (eA_c (j := 3) (hF484.2.1 234 rfl))
    have f537 := congrArg Int32.toInt (eA_c (j := 5510) (hF484.2.1 234 rfl))
    have f538 := congrArg Int32.toInt (eA_c (j := 5514) (hF484.2.1 234 rfl))
    have f539 := congrArg Int32.toInt (eA_c (j := 5515) (hF484.2.1 234 rfl))
    have f540 := congrArg Int32.toInt (eA_c (j := 5516) (hF484.2.1 234 rfl))
    have f541 := congrArg Int32.toInt (eA_c (j := 5511) (hF484.2.1 234 rfl))
    have f542 := congrArg Int32.toInt (eA_c (j := 5512) (hF484.2.1 234 rfl))
    have f543 := congrArg Int32.toInt (eA_c (j := 5513) (hF484.2.1 234 rfl))
    have f544 := congrArg Int32.toInt (eA_c (j := 0) (hF484.2.1 235 rfl))
    have f545 := congrArg Int32.toInt (eA_c (j := 1) (hF484.2.1 235 rfl))
    have f546 := congrArg Int32.toInt (hF484.1 231 8 rfl)
    have f547 := congrArg Int32.toInt (hF484.1 231 6 rfl)
    have f548 := congrArg Int32.toInt (hF484.1 231 13 rfl)
    refine At.enter rfl ?_
    refine r_pop rfl ?_
    refine r_aload_n e2 ?_
    refine r_sload_n e0 ?_
    refine r_iload_n e3 ?_
    refine r_iconst 1 rfl ?_
    refine q_iadd (i.toInt + 1) rfl hx_1 (fun v549 hv549 => ?_)
    refine q_scald (m := L) hL (i.toInt + 1) hv549 hy_1 (fun v550 hv550 => ?_)
    have sv550 := hv2.symm.trans hv550
    subst sv550
    refine r_sload_n e0 ?_
    refine r_iload_n e3 ?_
    refine r_iconst 2 rfl ?_
    refine q_iadd (i.toInt + 2) rfl hx_2 (fun v551 hv551 => ?_)
    refine q_scald (m := L) hL (i.toInt + 2) hv551 hy_2 (fun v552 hv552 => ?_)
    have sv552 := hv4.symm.trans hv552
    subst sv552
    refine r_sload_n e0 ?_
    refine r_iload_n e3 ?_
    refine r_iconst 3 rfl ?_
    refine q_iadd (i.toInt + 3) rfl hx_3 (fun v553 hv553 => ?_)
    refine q_scald (m := L) hL (i.toInt + 3) hv553 hy_3 (fun v554 hv554 => ?_)
    have sv554 := hv6.symm.trans hv554
    subst sv554
    refine r_sload_n e0 ?_
    refine r_iload_n e3 ?_
    refine r_iconst 4 rfl ?_
    refine q_iadd (i.toInt + 4) rfl hx_4 (fun v555 hv555 => ?_)
    refine q_scald (m := L) hL (i.toInt + 4) hv555 hy_4 (fun v556 hv556 => ?_)
    have sv556 := hv8.symm.trans hv556
    subst sv556
    refine r_sload_n e0 ?_
    refine r_iload_n e3 ?_
    refine r_iconst 5 rfl ?_
    refine q_iadd (i.toInt + 5) rfl hx_5 (fun v557 hv557 => ?_)
    refine q_scald (m := L) hL (i.toInt + 5) hv557 hy_5 (fun v558 hv558 => ?_)
    have sv558 := hv10.symm.trans hv558
    subst sv558
    refine r_sload_n e0 ?_
    refine r_iload_n e3 ?_
    refine r_bipush 6 rfl ?_
    refine q_iadd (i.toInt + 6) rfl hx_6 (fun v559 hv559 => ?_)
    refine q_scald (m := L) hL (i.toInt + 6) hv559 hy_6 (fun v560 hv560 => ?_)
    have sv560 := hv12.symm.trans hv560
    subst sv560
    refine r_callV 398 rfl [.ref 231, .int v2, .int v4, .int v6, .int v8, .int v10, .int v12] [] (Nat.le_of_ble_eq_true rfl) rfl (T_X11_load_231 _ hI483 v2 v4 v6 v8 v10 v12) ?_
    rintro _ _ ⟨g561, rfl, hI562, hF563, v564, rfl, hr565⟩
    refine At.sti ?_
    have hF566 := Fr.tr hF487 hF563 rfl rfl
    obtain ⟨q568, q569, q570, q571, q572⟩ := hr565
    have ek584 : (eA g482 233 0).toInt = (gI g0 1 0).toInt := (eA_ti (j := 0) (hF484.2.1 233 (by decide))).trans hR_0.symm
    have ek585 : (eA g482 233 1).toInt = (gI g0 1 4).toInt := (eA_ti (j := 1) (hF484.2.1 233 (by decide))).trans hR_4.symm
    obtain ⟨i574, i575, i576, i577, sm578, sm579, sm580, sm581, sm582, sm583⟩ := q569
    have w573 := i577 ⟨pk13.1, (by rw [ek584]; exact pk13.2.1), Int.not_le.mp (by rw [ek585]; exact pk13.2.2)⟩
    clear i574 i575 i576 i577
    have f586 := congrArg Int32.toInt (hF563.1 1 0 rfl)
    have f587 := congrArg Int32.toInt (hF563.1 1 12 rfl)
    have f588 := congrArg Int32.toInt (hF563.1 1 10 rfl)
    have f589 := congrArg Int32.toInt (hF563.1 1 11 rfl)
    have f590 := congrArg Int32.toInt (hF563.1 1 4 rfl)
    have f591 := congrArg Int32.toInt (hF563.1 1 6 rfl)
    have f592 := congrArg Int32.toInt (hF563.1 1 9 rfl)
    have f593 := congrArg Int32.toInt (hF563.1 59 0 rfl)
    have f594 := congrArg Int32.toInt (hF563.1 59 12 rfl)
    have f595 := congrArg Int32.toInt (hF563.1 59 10 rfl)
    have f596 := congrArg Int32.toInt (hF563.1 59 11 rfl)
    have f597 := congrArg Int32.toInt (hF563.1 59 4 rfl)
    have f598 := congrArg Int32.toInt (hF563.1 59 6 rfl)
    have f599 := congrArg Int32.toInt (hF563.1 59 9 rfl)
    have f600 := congrArg Int32.toInt (hF563.1 116 0 rfl)
    have f601 := congrArg Int32.toInt (hF563.1 116 12 rfl)
    have f602 := congrArg Int32.toInt (hF563.1 116 10 rfl)
    have f603 := congrArg Int32.toInt (hF563.1 116 11 rfl)
    have f604 := congrArg Int32.toInt (hF563.1 116 4 rfl)
    have f605 := congrArg Int32.toInt (hF563.1 116 6 rfl)
    have f606 := congrArg Int32.toInt (hF563.1 116 9 rfl)
    have f607 := congrArg Int32.toInt (eA_c (j := 0) (hF563.2.1 173 rfl))
    have f608 := congrArg Int32.toInt (eA_c (j := 1) (hF563.2.1 173 rfl))
    have f609 := congrArg Int32.toInt (hF563.1 174 1 rfl)
    have f610 := congrArg Int32.toInt (hF563.1 0 16 rfl)
    have f611 := congrArg Int32.toInt (hF563.1 176 2 rfl)
    have f619 := congrArg Int32.toInt (eA_c (j := 0) (hF563.2.1 234 rfl))
    have f620 := congrArg Int32.toInt (eA_c (j := 4) (hF563.2.1 234 rfl))
    have f621 := congrArg Int32.toInt (eA_c (j := 5) (hF563.2.1 234 rfl))
    have f622 := congrArg Int32.toInt (eA_c (j := 6) (hF563.2.1 234 rfl))
    have f623 := congrArg Int32.toInt (eA_c (j := 1) (hF563.2.1 234 rfl))
    have f624 := congrArg Int32.toInt (eA_c (j := 2) (hF563.2.1 234 rfl))
    have f625 := congrArg Int32.toInt (eA_c (j := 3) (hF563.2.1 234 rfl))
    have f626 := congrArg Int32.toInt (eA_c (j := 5510) (hF563.2.1 234 rfl))
    have f627 := congrArg Int32.toInt (eA_c (j := 5514) (hF563.2.1 234 rfl))
    have f628 := congrArg Int32.toInt (eA_c (j := 5515) (hF563.2.1 234 rfl))
    have f629 := congrArg Int32.toInt (eA_c (j := 5516) (hF563.2.1 234 rfl))
    have f630 := congrArg Int32.toInt (eA_c (j := 5511) (hF563.2.1 234 rfl))
    have f631 := congrArg Int32.toInt (eA_c (j := 5512) (hF563.2.1 234 rfl))
    have f632 := congrArg Int32.toInt (eA_c (j := 5513) (hF563.2.1 234 rfl))
    have f633 := congrArg Int32.toInt (eA_c (j := 0) (hF563.2.1 235 rfl))
    have f634 := congrArg Int32.toInt (eA_c (j := 1) (hF563.2.1 235 rfl))
    have f635 := congrArg Int32.toInt (hF563.1 231 8 rfl)
    have f636 := congrArg Int32.toInt (hF563.1 231 6 rfl)
    have f637 := congrArg Int32.toInt (hF563.1 231 13 rfl)
    refine At.enter rfl ?_
    refine r_pop rfl ?_
    refine r_goto ?_
    exact K _ hI562 (show LwR _ from ⟨by first | (clear f498 f499 f500 f502 f503 f504 f505 f506 f507 f508 f509 f510 f511 f512 f513 f514 f515 f516 f517 f518 f519 f520 f521 f522 f524 f525 f526 f527 f528 f529 f530 f531 f532 f533 f534 f535 f536 f537 f538 f539 f540 f541 f542 f543 f544 f545 f546 f547 f548 f587 f588 f589 f590 f591 f592 f593 f594 f595 f596 f597 f598 f599 f600 f601 f602 f603 f604 f605 f606 f607 f608 f609 f610 f611 f619 f620 f621 f622 f623 f624 f625 f626 f627 f628 f629 f630 f631 f632 f633 f634 f635 f636 f637; omega) | omega, by first | (clear f497 f499 f500 f502 f503 f504 f505 f506 f507 f508 f509 f510 f511 f512 f513 f514 f515 f516 f517 f518 f519 f520 f521 f522 f523 f525 f526 f527 f528 f529 f530 f531 f532 f533 f534 f535 f536 f537 f538 f539 f540 f541 f542 f543 f544 f545 f546 f547 f548 f586 f588 f589 f590 f591 f592 f593 f594 f595 f596 f597 f598 f599 f600 f601 f602 f603 f604 f605 f606 f607 f608 f609 f610 f611 f619 f620 f621 f622 f623 f624 f625 f626 f627 f628 f629 f630 f631 f632 f633 f634 f635 f636 f637; omega) | omega, by first | (clear f497 f498 f500 f502 f503 f504 f505 f506 f507 f508 f509 f510 f511 f512 f513 f514 f515 f516 f517 f518 f519 f520 f521 f522 f523 f524 f526 f527 f528 f529 f530 f531 f532 f533 f534 f535 f536 f537 f538 f539 f540 f541 f542 f543 f544 f545 f546 f547 f548 f586 f587 f589 f590 f591 f592 f593 f594 f595 f596 f597 f598 f599 f600 f601 f602 f603 f604 f605 f606 f607 f608 f609 f610 f611 f619 f620 f621 f622 f623 f624 f625 f626 f627 f628 f629 f630 f631 f632 f633 f634 f635 f636 f637; omega) | omega, by first | (clear f497 f498 f499 f502 f503 f504 f505 f506 f507 f508 f509 f510 f511 f512 f513 f514 f515 f516 f517 f518 f519 f520 f521 f522 f523 f524 f525 f527 f528 f529 f530 f531 f532 f533 f534 f535 f536 f537 f538 f539 f540 f541 f542 f543 f544 f545 f546 f547 f548 f586 f587 f588 f590 f591 f592 f593 f594 f595 f596 f597 f598 f599 f600 f601 f602 f603 f604 f605 f606 f607 f608 f609 f610 f611 f619 f620 f621 f622 f623 f624 f625 f626 f627 f628 f629 f630 f631 f632 f633 f634 f635 f636 f637; omega) | omega, by first | (clear f497 f498 f499 f500 f502 f503 f504 f505 f506 f507 f508 f509 f510 f511 f512 f513 f514 f515 f516 f517 f518 f519 f520 f521 f522 f523 f524 f525 f526 f528 f529 f530 f531 f532 f533 f534 f535 f536 f537 f538 f539 f540 f541 f542 f543 f544 f545 f546 f547 f548 f586 f587 f588 f589 f591 f592 f593 f594 f595 f596 f597 f598 f599 f600 f601 f602 f603 f604 f605 f606 f607 f608 f609 f610 f611 f619 f620 f621 f622 f623 f624 f625 f626 f627 f628 f629 f630 f631 f632 f633 f634 f635 f636 f637; omega) | omega, by first | (clear f497 f498 f499 f500 f503 f504 f505 f506 f507 f508 f509 f510 f511 f512 f513 f514 f515 f516 f517 f518 f519 f520 f521 f522 f523 f524 f525 f526 f527 f529 f530 f531 f532 f533 f534 f535 f536 f537 f538 f539 f540 f541 f542 f543 f544 f545 f546 f547 f548 f586 f587 f588 f589 f590 f592 f593 f594 f595 f596 f597 f598 f599 f600 f601 f602 f603 f604 f605 f606 f607 f608 f609 f610 f611 f619 f620 f621 f622 f623 f624 f625 f626 f627 f628 f629 f630 f631 f632 f633 f634 f635 f636 f637; omega) | omega, by first | (clear f497 f498 f499 f500 f502 f504 f505 f506 f507 f508 f509 f510 f511 f512 f513 f514 f515 f516 f517 f518 f519 f520 f521 f522 f523 f524 f525 f526 f527 f528 f530 f531 f532 f533 f534 f535 f536 f537 f538 f539 f540 f541 f542 f543 f544 f545 f546 f547 f548 f586 f587 f588 f589 f590 f591 f593 f594 f595 f596 f597 f598 f599 f600 f601 f602 f603 f604 f605 f606 f607 f608 f609 f610 f611 f619 f620 f621 f622 f623 f624 f625 f626 f627 f628 f629 f630 f631 f632 f633 f634 f635 f636 f637; omega) | omega, (eA_ti (j := 0) (((hF563.2.1 173 (by decide)).trans (hF484.2.1 173 (by decide))))).trans (hR_7.trans (eA_ti (j := 0) (((hF563.2.1 235 (by decide)).trans (hF484.2.1 235 (by decide))))).symm), (eA_ti (j := 1) (((hF563.2.1 173 (by decide)).trans (hF484.2.1 173 (by decide))))).trans (hR_8.trans (eA_ti (j := 1) (((hF563.2.1 235 (by decide)).trans (hF484.2.1 235 (by decide))))).symm), (congrArg Int32.toInt (((hF563.1 174 1 (by decide)).trans (hF484.1 174 1 (by decide))))).trans (hR_9.trans (congrArg Int32.toInt (((hF563.1 231 8 (by decide)).trans (hF484.1 231 8 (by decide))))).symm), (congrArg Int32.toInt (((hF563.1 0 16 (by decide)).trans (hF484.1 0 16 (by decide))))).trans (hR_10.trans (congrArg Int32.toInt (((hF563.1 231 6 (by decide)).trans (hF484.1 231 6 (by decide))))).symm), (congrArg Int32.toInt (((hF563.1 176 2 (by decide)).trans (hF484.1 176 2 (by decide))))).trans (hR_11.trans (congrArg Int32.toInt (((hF563.1 231 13 (by decide)).trans (hF484.1 231 13 (by decide))))).symm), IM0.cong hR_12 (eA_ti (j := 0) (((hF563.2.1 173 (by decide)).trans (hF484.2.1 173 (by decide))))) (congrArg Int32.toInt (((hF563.1 59 0 (by decide)).trans (hF484.1 59 0 (by decide))))) (eA_ti (j := 0) (((hF563.2.1 234 (by decide)).trans (hF484.2.1 234 (by decide))))) (congrArg Int32.toInt (((hF563.1 59 12 (by decide)).trans (hF484.1 59 12 (by decide))))) (eA_ti (j := 4) (((hF563.2.1 234 (by decide)).trans (hF484.2.1 234 (by decide))))) (congrArg Int32.toInt (((hF563.1 59 10 (by decide)).trans (hF484.1 59 10 (by decide))))) (eA_ti (j := 5) (((hF563.2.1 234 (by decide)).trans (hF484.2.1 234 (by decide))))) (congrArg Int32.toInt (((hF563.1 59 11 (by decide)).trans (hF484.1 59 11 (by decide))))) (eA_ti (j := 6) (((hF563.2.1 234 (by decide)).trans (hF484.2.1 234 (by decide))))) (congrArg Int32.toInt (((hF563.1 59 4 (by decide)).trans (hF484.1 59 4 (by decide))))) (eA_ti (j := 1) (((hF563.2.1 234 (by decide)).trans (hF484.2.1 234 (by decide))))) (congrArg Int32.toInt (((hF563.1 59 6 (by decide)).trans (hF484.1 59 6 (by decide))))) (eA_ti (j := 2) (((hF563.2.1 234 (by decide)).trans (hF484.2.1 234 (by decide))))) (congrArg Int32.toInt (((hF563.1 59 9 (by decide)).trans (hF484.1 59 9 (by decide))))) (eA_ti (j := 3) (((hF563.2.1 234 (by decide)).trans (hF484.2.1 234 (by decide))))), IM1.cong hR_13 (eA_ti (j := 1) (((hF563.2.1 173 (by decide)).trans (hF484.2.1 173 (by decide))))) (congrArg Int32.toInt (((hF563.1 116 0 (by decide)).trans (hF484.1 116 0 (by decide))))) (eA_ti (j := 5510) (((hF563.2.1 234 (by decide)).trans (hF484.2.1 234 (by decide))))) (congrArg Int32.toInt (((hF563.1 116 12 (by decide)).trans (hF484.1 116 12 (by decide))))) (eA_ti (j := 5514) (((hF563.2.1 234 (by decide)).trans (hF484.2.1 234 (by decide))))) (congrArg Int32.toInt (((hF563.1 116 10 (by decide)).trans (hF484.1 116 10 (by decide))))) (eA_ti (j := 5515) (((hF563.2.1 234 (by decide)).trans (hF484.2.1 234 (by decide))))) (congrArg Int32.toInt (((hF563.1 116 11 (by decide)).trans (hF484.1 116 11 (by decide))))) (eA_ti (j := 5516) (((hF563.2.1 234 (by decide)).trans (hF484.2.1 234 (by decide))))) (congrArg Int32.toInt (((hF563.1 116 4 (by decide)).trans (hF484.1 116 4 (by decide))))) (eA_ti (j := 5511) (((hF563.2.1 234 (by decide)).trans (hF484.2.1 234 (by decide))))) (congrArg Int32.toInt (((hF563.1 116 6 (by decide)).trans (hF484.1 116 6 (by decide))))) (eA_ti (j := 5512) (((hF563.2.1 234 (by decide)).trans (hF484.2.1 234 (by decide))))) (congrArg Int32.toInt (((hF563.1 116 9 (by decide)).trans (hF484.1 116 9 (by decide))))) (eA_ti (j := 5513) (((hF563.2.1 234 (by decide)).trans (hF484.2.1 234 (by decide))))), (show CT _ from ⟨fun i i0 i1 => ⟨(by first | (clear f504 f505 f506 f507 f508 f509 f510 f511 f512 f513 f514 f515 f516 f517 f520 f521 f522 f530 f531 f532 f533 f534 f535 f536 f537 f538 f539 f540 f541 f542 f543 f546 f547 f548 f593 f594 f595 f596 f597 f598 f599 f600 f601 f602 f603 f604 f605 f606 f609 f610 f611 f619 f620 f621 f622 f623 f624 f625 f626 f627 f628 f629 f630 f631 f632 f635 f636 f637; have t0_ := hI0.t0; have t1_ := hI0.t1; have o := (hR_14.1 i i0 i1).1; have x := eA_ti (j := i) (((hF563.2.1 2 (by decide)).trans (hF484.2.1 2 (by decide)))); have m := q570 (10 + 3 * i) (by omega) (by omega); have y1 := eA_ti (j := ((10 + 3 * i))) (hF484.2.1 233 (by decide)); first | exact x.trans (o.trans (m.trans y1).symm) | omega) | (have t0_ := hI0.t0; have t1_ := hI0.t1; have o := (hR_14.1 i i0 i1).1; have x := eA_ti (j := i) (((hF563.2.1 2 (by decide)).trans (hF484.2.1 2 (by decide)))); have m := q570 (10 + 3 * i) (by omega) (by omega); have y1 := eA_ti (j := ((10 + 3 * i))) (hF484.2.1 233 (by decide)); first | exact x.trans (o.trans (m.trans y1).symm) | omega)), (by first | (clear f504 f505 f506 f507 f508 f509 f510 f511 f512 f513 f514 f515 f516 f517 f520 f521 f522 f530 f531 f532 f533 f534 f535 f536 f537 f538 f539 f540 f541 f542 f543 f546 f547 f548 f593 f594 f595 f596 f597 f598 f599 f600 f601 f602 f603 f604 f605 f606 f609 f610 f611 f619 f620 f621 f622 f623 f624 f625 f626 f627 f628 f629 f630 f631 f632 f635 f636 f637; have t0_ := hI0.t0; have t1_ := hI0.t1; have o := (hR_14.1 i i0 i1).2.1; have x := eA_ti (j := i) (((hF563.2.1 3 (by decide)).trans (hF484.2.1 3 (by decide)))); have m := q570 (10 + 3 * i + 1) (by omega) (by omega); have y1 := eA_ti (j := ((10 + 3 * i + 1))) (hF484.2.1 233 (by decide)); first | exact x.trans (o.trans (m.trans y1).symm) | omega) | (have t0_ := hI0.t0; have t1_ := hI0.t1; have o := (hR_14.1 i i0 i1).2.1; have x := eA_ti (j := i) (((hF563.2.1 3 (by decide)).trans (hF484.2.1 3 (by decide)))); have m := q570 (10 + 3 * i + 1) (by omega) (by omega); have y1 := eA_ti (j := ((10 + 3 * i + 1))) (hF484.2.1 233 (by decide)); first | exact x.trans (o.trans (m.trans y1).symm) | omega)), (by first | (clear f504 f505 f506 f507 f508 f509 f510 f511 f512 f513 f514 f515 f516 f517 f520 f521 f522 f530 f531 f532 f533 f534 f535 f536 f537 f538 f539 f540 f541 f542 f543 f546 f547 f548 f593 f594 f595 f596 f597 f598 f599 f600 f601 f602 f603 f604 f605 f606 f609 f610 f611 f619 f620 f621 f622 f623 f624 f625 f626 f627 f628 f629 f630 f631 f632 f635 f636 f637; have t0_ := hI0.t0; have t1_ := hI0.t1; have o := (hR_14.1 i i0 i1).2.2; have x := eA_ti (j := i) (((hF563.2.1 4 (by decide)).trans (hF484.2.1 4 (by decide)))); have m := q570 (10 + 3 * i + 2) (by omega) (by omega); have y1 := eA_ti (j := ((10 + 3 * i + 2))) (hF484.2.1 233 (by decide)); first | exact x.trans (o.trans (m.trans y1).symm) | omega) | (have t0_ := hI0.t0; have t1_ := hI0.t1; have o := (hR_14.1 i i0 i1).2.2; have x := eA_ti (j := i) (((hF563.2.1 4 (by decide)).trans (hF484.2.1 4 (by decide)))); have m := q570 (10 + 3 * i + 2) (by omega) (by omega); have y1 := eA_ti (j := ((10 + 3 * i + 2))) (hF484.2.1 233 (by decide)); first | exact x.trans (o.trans (m.trans y1).symm) | omega))⟩, fun i i0 i1 => ⟨(by first | (clear f504 f505 f506 f507 f508 f509 f510 f511 f512 f513 f514 f515 f516 f517 f520 f521 f522 f530 f531 f532 f533 f534 f535 f536 f537 f538 f539 f540 f541 f542 f543 f546 f547 f548 f593 f594 f595 f596 f597 f598 f599 f600 f601 f602 f603 f604 f605 f606 f609 f610 f611 f619 f620 f621 f622 f623 f624 f625 f626 f627 f628 f629 f630 f631 f632 f635 f636 f637; have t0_ := hI0.t0; have t1_ := hI0.t1; have o := (hR_14.2.1 i i0 i1).1; have x := eA_ti (j := i) (((hF563.2.1 14 (by decide)).trans (hF484.2.1 14 (by decide)))); have m := q571 (94 + 2 * i) (by omega) (by omega); have y1 := eA_ti (j := ((94 + 2 * i))) (hF484.2.1 233 (by decide)); first | exact x.trans (o.trans (m.trans y1).symm) | omega) | (have t0_ := hI0.t0; have t1_ := hI0.t1; have o := (hR_14.2.1 i i0 i1).1; have x := eA_ti (j := i) (((hF563.2.1 14 (by decide)).trans (hF484.2.1 14 (by decide)))); have m := q571 (94 + 2 * i) (by omega) (by omega); have y1 := eA_ti (j := ((94 + 2 * i))) (hF484.2.1 233 (by decide)); first | exact x.trans (o.trans (m.trans y1).symm) | omega)), (by first | (clear f504 f505 f506 f507 f508 f509 f510 f511 f512 f513 f514 f515 f516 f517 f520 f521 f522 f530 f531 f532 f533 f534 f535 f536 f537 f538 f539 f540 f541 f542 f543 f546 f547 f548 f593 f594 f595 f596 f597 f598 f599 f600 f601 f602 f603 f604 f605 f606 f609 f610 f611 f619 f620 f621 f622 f623 f624 f625 f626 f627 f628 f629 f630 f631 f632 f635 f636 f637; have t0_ := hI0.t0; have t1_ := hI0.t1; have o := (hR_14.2.1 i i0 i1).2; have x := eA_ti (j := i) (((hF563.2.1 15 (by decide)).trans (hF484.2.1 15 (by decide)))); have m := q571 (94 + 2 * i + 1) (by omega) (by omega); have y1 := eA_ti (j := ((94 + 2 * i + 1))) (hF484.2.1 233 (by decide)); first | exact x.trans (o.trans (m.trans y1).symm) | omega) | (have t0_ := hI0.t0; have t1_ := hI0.t1; have o := (hR_14.2.1 i i0 i1).2; have x := eA_ti (j := i) (((hF563.2.1 15 (by decide)).trans (hF484.2.1 15 (by decide)))); have m := q571 (94 + 2 * i + 1) (by omega) (by omega); have y1 := eA_ti (j := ((94 + 2 * i + 1))) (hF484.2.1 233 (by decide)); first | exact x.trans (o.trans (m.trans y1).symm) | omega))⟩, fun i i0 i1 => (by first | (clear f504 f505 f506 f507 f508 f509 f510 f511 f512 f513 f514 f515 f516 f517 f520 f521 f522 f530 f531 f532 f533 f534 f535 f536 f537 f538 f539 f540 f541 f542 f543 f546 f547 f548 f593 f594 f595 f596 f597 f598 f599 f600 f601 f602 f603 f604 f605 f606 f609 f610 f611 f619 f620 f621 f622 f623 f624 f625 f626 f627 f628 f629 f630 f631 f632 f635 f636 f637; have t0_ := hI0.t0; have t1_ := hI0.t1; have o : i < 6 * (gI g0 1 4).toInt → _ := fun hz => hR_14.2.2 i i0 hz; have t9_ := RgF.at hI562.2.1 (p := 1) (b := 4) rfl; dsimp only at t9_; have i9_ : i < 48 := (by omega); have x := (eA_ti (j := i) (hF563.2.1 5 (by decide))).trans (q491 i i0 i9_); have m := q572 (46 + i) (by omega) (by omega); have y1 := eA_ti (j := ((46 + i))) (hF484.2.1 233 (by decide)); have ek0 : (eA g482 233 0).toInt = (gI g0 1 0).toInt := (eA_ti (j := 0) (hF484.2.1 233 (by decide))).trans hR_0.symm; have ek1 : (eA g482 233 1).toInt = (gI g0 1 4).toInt := (eA_ti (j := 1) (hF484.2.1 233 (by decide))).trans hR_4.symm; have eC : ((1 ≤ v2.toInt ∧ v2.toInt ≤ 9 ∧ 0 ≤ v8.toInt ∧ v8.toInt ≤ 99 ∧ 0 ≤ v10.toInt ∧ v10.toInt ≤ 9 ∧ 0 ≤ v12.toInt ∧ v12.toInt ≤ 9999) ∧ (0 ≤ v4.toInt ∧ v4.toInt < (eA g482 233 0).toInt ∧ 0 ≤ v6.toInt ∧ v6.toInt < (eA g482 233 0).toInt) ∧ (eA g482 233 1).toInt < 8) = ((1 ≤ v2.toInt ∧ v2.toInt ≤ 9 ∧ 0 ≤ v8.toInt ∧ v8.toInt ≤ 99 ∧ 0 ≤ v10.toInt ∧ v10.toInt ≤ 9 ∧ 0 ≤ v12.toInt ∧ v12.toInt ≤ 9999) ∧ (0 ≤ v4.toInt ∧ v4.toInt < (gI g0 1 0).toInt ∧ 0 ≤ v6.toInt ∧ v6.toInt < (gI g0 1 0).toInt) ∧ (gI g0 1 4).toInt < 8) := (by rw [ek0, ek1]); have k : (1 ≤ v2.toInt ∧ v2.toInt ≤ 9 ∧ 0 ≤ v8.toInt ∧ v8.toInt ≤ 99 ∧ 0 ≤ v10.toInt ∧ v10.toInt ≤ 9 ∧ 0 ≤ v12.toInt ∧ v12.toInt ≤ 9999) ∧ (0 ≤ v4.toInt ∧ v4.toInt < (gI g0 1 0).toInt ∧ 0 ≤ v6.toInt ∧ v6.toInt < (gI g0 1 0).toInt) ∧ (gI g0 1 4).toInt < 8 := ⟨pk13.1, pk13.2.1, Int.not_le.mp pk13.2.2⟩; rw [ite_ap k, ite_ap k, ite_ap k, ite_ap k, ite_ap k, ite_ap k] at x; have k2 := eC.mpr k; rw [ite_ap k2, ite_ap k2, ite_ap k2, ite_ap k2, ite_ap k2, ite_ap k2] at m; clear eC k2; rw [ek1] at m; exact x.trans ((ld6 (fun z => (o z).trans y1.symm) (by omega)).trans m.symm)) | (have t0_ := hI0.t0; have t1_ := hI0.t1; have o : i < 6 * (gI g0 1 4).toInt → _ := fun hz => hR_14.2.2 i i0 hz; have t9_ := RgF.at hI562.2.1 (p := 1) (b := 4) rfl; dsimp only at t9_; have i9_ : i < 48 := (by omega); have x := (eA_ti (j := i) (hF563.2.1 5 (by decide))).trans (q491 i i0 i9_); have m := q572 (46 + i) (by omega) (by omega); have y1 := eA_ti (j := ((46 + i))) (hF484.2.1 233 (by decide)); have ek0 : (eA g482 233 0).toInt = (gI g0 1 0).toInt := (eA_ti (j := 0) (hF484.2.1 233 (by decide))).trans hR_0.symm; have ek1 : (eA g482 233 1).toInt = (gI g0 1 4).toInt := (eA_ti (j := 1) (hF484.2.1 233 (by decide))).trans hR_4.symm; have eC : ((1 ≤ v2.toInt ∧ v2.toInt ≤ 9 ∧ 0 ≤ v8.toInt ∧ v8.toInt ≤ 99 ∧ 0 ≤ v10.toInt ∧ v10.toInt ≤ 9 ∧ 0 ≤ v12.toInt ∧ v12.toInt ≤ 9999) ∧ (0 ≤ v4.toInt ∧ v4.toInt < (eA g482 233 0).toInt ∧ 0 ≤ v6.toInt ∧ v6.toInt < (eA g482 233 0).toInt) ∧ (eA g482 233 1).toInt < 8) = ((1 ≤ v2.toInt ∧ v2.toInt ≤ 9 ∧ 0 ≤ v8.toInt ∧ v8.toInt ≤ 99 ∧ 0 ≤ v10.toInt ∧ v10.toInt ≤ 9 ∧ 0 ≤ v12.toInt ∧ v12.toInt ≤ 9999) ∧ (0 ≤ v4.toInt ∧ v4.toInt < (gI g0 1 0).toInt ∧ 0 ≤ v6.toInt ∧ v6.toInt < (gI g0 1 0).toInt) ∧ (gI g0 1 4).toInt < 8) := (by rw [ek0, ek1]); have k : (1 ≤ v2.toInt ∧ v2.toInt ≤ 9 ∧ 0 ≤ v8.toInt ∧ v8.toInt ≤ 99 ∧ 0 ≤ v10.toInt ∧ v10.toInt ≤ 9 ∧ 0 ≤ v12.toInt ∧ v12.toInt ≤ 9999) ∧ (0 ≤ v4.toInt ∧ v4.toInt < (gI g0 1 0).toInt ∧ 0 ≤ v6.toInt ∧ v6.toInt < (gI g0 1 0).toInt) ∧ (gI g0 1 4).toInt < 8 := ⟨pk13.1, pk13.2.1, Int.not_le.mp pk13.2.2⟩; rw [ite_ap k, ite_ap k, ite_ap k, ite_ap k, ite_ap k, ite_ap k] at x; have k2 := eC.mpr k; rw [ite_ap k2, ite_ap k2, ite_ap k2, ite_ap k2, ite_ap k2, ite_ap k2] at m; clear eC k2; rw [ek1] at m; exact x.trans ((ld6 (fun z => (o z).trans y1.symm) (by omega)).trans m.symm)))⟩), CI0.cong hR_15 (((hF563.2.1 60 (by decide)).trans (hF484.2.1 60 (by decide)))) (((hF563.2.1 61 (by decide)).trans (hF484.2.1 61 (by decide)))) (((hF563.2.1 62 (by decide)).trans (hF484.2.1 62 (by decide)))) (((hF563.2.1 72 (by decide)).trans (hF484.2.1 72 (by decide)))) (((hF563.2.1 73 (by decide)).trans (hF484.2.1 73 (by decide)))) (((hF563.2.1 63 (by decide)).trans (hF484.2.1 63 (by decide)))) (((hF563.2.1 234 (by decide)).trans (hF484.2.1 234 (by decide)))) (congrArg Int32.toInt (((hF563.1 59 4 (by decide)).trans (hF484.1 59 4 (by decide))))), CI1.cong hR_16 (((hF563.2.1 117 (by decide)).trans (hF484.2.1 117 (by decide)))) (((hF563.2.1 118 (by decide)).trans (hF484.2.1 118 (by decide)))) (((hF563.2.1 119 (by decide)).trans (hF484.2.1 119 (by decide)))) (((hF563.2.1 129 (by decide)).trans (hF484.2.1 129 (by decide)))) (((hF563.2.1 130 (by decide)).trans (hF484.2.1 130 (by decide)))) (((hF563.2.1 120 (by decide)).trans (hF484.2.1 120 (by decide)))) (((hF563.2.1 234 (by decide)).trans (hF484.2.1 234 (by decide)))) (congrArg Int32.toInt (((hF563.1 116 4 (by decide)).trans (hF484.1 116 4 (by decide))))), (show RT _ from fun i i0 i1 => (eA_ti (((hF563.2.1 175 (by decide)).trans (hF484.2.1 175 (by decide))))).trans ((hR_17 i i0 (by omega)).trans (eA_ti (((hF563.2.1 236 (by decide)).trans (hF484.2.1 236 (by decide))))).symm)), (show BYX _ from fun i i0 i1 => by rw [TX.c (((hF563.2.1 175 (by decide)).trans (hF484.2.1 175 (by decide))))]; exact hR_18 i i0 (by have i2 : i < (gI _ 174 1).toInt := i1; show i < (gI g0 174 1).toInt; omega)), (LAWR_c hR_19 (LSA_tr (LSA_tr LSA_rf (LSA_fr hF484 rfl)) (LSA_fr hF563 rfl)) (((hF563.1 1 6 (by decide)).trans (hF484.1 1 6 (by decide)))) (((hF563.1 59 6 (by decide)).trans (hF484.1 59 6 (by decide)))) (((hF563.1 116 6 (by decide)).trans (hF484.1 116 6 (by decide)))) (((hF563.2.1 173 (by decide)).trans (hF484.2.1 173 (by decide)))) (fun i i0 i1 => (R3_load hI483 q571 i i0 i1).trans (eA_ti (hF484.2.1 233 (by decide)))) (((hF563.2.1 234 (by decide)).trans (hF484.2.1 234 (by decide)))) (TOLDX_fr hF563 rfl rfl rfl rfl (fe488.1 hR_19.2.2.2.2))), (SETX_fr hF563 rfl rfl rfl rfl rfl (fe488.2 hR_20))⟩)
