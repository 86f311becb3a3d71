set_option maxRecDepth 100000 in
set_option maxHeartbeats 8000000 in
theorem lq_c3 (d : Nat) {N : Nat} {g0 : List en_E} (hI0 : HI g0) (hR0 : LwR g0) {ys : List Int32} {L : Nat} (hL : ys.length = L) (hL2 : L ≤ 3584) {l : en_L} {i : Int32} (e0 : en_get 0 l = some (.float 0)) (e1 : en_get 1 l = some (.ref 0)) (e2 : en_get 2 l = some (.ref 231)) (e3 : en_get 3 l = some (.int i)) (hi : 0 ≤ i.toInt ∧ i.toInt + 7 ≤ L) {Ph : Option Value → en_H → Prop} (K : ∀ g1 : List en_E, HI g1 → LwR g1 → At (d + 423) (some ys) (some .boolean) bs_L_law (1330, l, [], (g1, N)) Ph) : At (d + 423) (some ys) (some .boolean) bs_L_law (327, l, [], (g0, N)) Ph := by
  have hF0 : Fr F_law A_law g0 g0 := Fr.rf
  have hx_1 : -2147483648 ≤ i.toInt + 1 ∧ i.toInt + 1 ≤ 2147483647 := by omega
  have hx_2 : -2147483648 ≤ i.toInt + 2 ∧ i.toInt + 2 ≤ 2147483647 := by omega
  have hx_3 : -2147483648 ≤ i.toInt + 3 ∧ i.toInt + 3 ≤ 2147483647 := by omega
  have hx_4 : -2147483648 ≤ i.toInt + 4 ∧ i.toInt + 4 ≤ 2147483647 := by omega
  have hx_5 : -2147483648 ≤ i.toInt + 5 ∧ i.toInt + 5 ≤ 2147483647 := by omega
  have hx_6 : -2147483648 ≤ i.toInt + 6 ∧ i.toInt + 6 ≤ 2147483647 := by omega
  have hy_0 : 0 ≤ i.toInt ∧ i.toInt < (L : Int) := by omega
  have hy_1 : 0 ≤ i.toInt + 1 ∧ i.toInt + 1 < (L : Int) := by omega
  have hy_2 : 0 ≤ i.toInt + 2 ∧ i.toInt + 2 < (L : Int) := by omega
  have hy_3 : 0 ≤ i.toInt + 3 ∧ i.toInt + 3 < (L : Int) := by omega
  have hy_4 : 0 ≤ i.toInt + 4 ∧ i.toInt + 4 < (L : Int) := by omega
  have hy_5 : 0 ≤ i.toInt + 5 ∧ i.toInt + 5 < (L : Int) := by omega
  have hy_6 : 0 ≤ i.toInt + 6 ∧ i.toInt + 6 < (L : Int) := by omega
  unfold LwR at hR0
  obtain ⟨hR_0, hR_1, hR_2, hR_3, hR_4, hR_5, hR_6, hR_7, hR_8, hR_9, hR_10, hR_11, hR_12, hR_13, hR_14, hR_15, hR_16, hR_17, hR_18, hR_19⟩ := hR0
  refine At.enter rfl ?_
  refine r_aload_n e1 ?_
  refine r_sload_n e0 ?_
  refine r_iload_n e3 ?_
  refine r_iconst 1 rfl ?_
  refine q_iadd (i.toInt + 1) rfl hx_1 (fun v1 hv1 => ?_)
  refine q_scald (m := L) hL (i.toInt + 1) hv1 hy_1 (fun v2 hv2 => ?_)
  refine r_sload_n e0 ?_
  refine r_iload_n e3 ?_
  refine r_iconst 2 rfl ?_
  refine q_iadd (i.toInt + 2) rfl hx_2 (fun v3 hv3 => ?_)
  refine q_scald (m := L) hL (i.toInt + 2) hv3 hy_2 (fun v4 hv4 => ?_)
  refine r_sload_n e0 ?_
  refine r_iload_n e3 ?_
  refine r_iconst 3 rfl ?_
  refine q_iadd (i.toInt + 3) rfl hx_3 (fun v5 hv5 => ?_)
  refine q_scald (m := L) hL (i.toInt + 3) hv5 hy_3 (fun v6 hv6 => ?_)
  refine r_sload_n e0 ?_
  refine r_iload_n e3 ?_
  refine r_iconst 4 rfl ?_
  refine q_iadd (i.toInt + 4) rfl hx_4 (fun v7 hv7 => ?_)
  refine q_scald (m := L) hL (i.toInt + 4) hv7 hy_4 (fun v8 hv8 => ?_)
  refine r_sload_n e0 ?_
  refine r_iload_n e3 ?_
  refine r_iconst 5 rfl ?_
  refine q_iadd (i.toInt + 5) rfl hx_5 (fun v9 hv9 => ?_)
  refine q_scald (m := L) hL (i.toInt + 5) hv9 hy_5 (fun v10 hv10 => ?_)
  refine r_sload_n e0 ?_
  refine r_iload_n e3 ?_
  refine r_bipush 6 rfl ?_
  refine q_iadd (i.toInt + 6) rfl hx_6 (fun v11 hv11 => ?_)
  refine q_scald (m := L) hL (i.toInt + 6) hv11 hy_6 (fun v12 hv12 => ?_)
  rcases cs4 (1 ≤ v2.toInt ∧ v2.toInt ≤ 9 ∧ 0 ≤ v8.toInt ∧ v8.toInt ≤ 99 ∧ 0 ≤ v10.toInt ∧ v10.toInt ≤ 9 ∧ 0 ≤ v12.toInt ∧ v12.toInt ≤ 9999) (0 ≤ v4.toInt ∧ v4.toInt < (gI g0 1 0).toInt ∧ 0 ≤ v6.toInt ∧ v6.toInt < (gI g0 1 0).toInt) (8 ≤ (gI g0 1 4).toInt) with pk13 | pk13 | pk13 | pk13
  · refine r_callV 362 rfl [.ref 0, .int v2, .int v4, .int v6, .int v8, .int v10, .int v12] [] (Nat.le_of_ble_eq_true rfl) rfl (T_X10_load_0 _ hI0 v2 v4 v6 v8 v10 v12) ?_
    rintro _ _ ⟨g14, rfl, hI15, hF16, v17, rfl, hr18⟩
    refine At.sti ?_
    have hF19 := Fr.tr hF0 hF16 rfl rfl
    have su20 := hr18.2.2
    obtain ⟨q21, q22, q23⟩ := (And.intro hr18.1 hr18.2.1)
    obtain ⟨i25, i26, i27, i28⟩ := q22
    have w24 := i25 pk13
    clear i25 i26 i27 i28
    have f29 := congrArg Int32.toInt (hF16.1 1 0 rfl)
    have f30 := congrArg Int32.toInt (hF16.1 1 12 rfl)
    have f31 := congrArg Int32.toInt (hF16.1 1 10 rfl)
    have f32 := congrArg Int32.toInt (hF16.1 1 11 rfl)
    have f34 := congrArg Int32.toInt (hF16.1 1 6 rfl)
    have f35 := congrArg Int32.toInt (hF16.1 1 9 rfl)
    have f36 := congrArg Int32.toInt (hF16.1 59 0 rfl)
    have f37 := congrArg Int32.toInt (hF16.1 59 12 rfl)
    have f38 := congrArg Int32.toInt (hF16.1 59 10 rfl)
    have f39 := congrArg Int32.toInt (hF16.1 59 11 rfl)
    have f40 := congrArg Int32.toInt (hF16.1 59 4 rfl)
    have f41 := congrArg Int32.toInt (hF16.1 59 6 rfl)
    have f42 := congrArg Int32.toInt (hF16.1 59 9 rfl)
    have f43 := congrArg Int32.toInt (hF16.1 116 0 rfl)
    have f44 := congrArg Int32.toInt (hF16.1 116 12 rfl)
    have f45 := congrArg Int32.toInt (hF16.1 116 10 rfl)
    have f46 := congrArg Int32.toInt (hF16.1 116 11 rfl)
    have f47 := congrArg Int32.toInt (hF16.1 116 4 rfl)
    have f48 := congrArg Int32.toInt (hF16.1 116 6 rfl)
    have f49 := congrArg Int32.toInt (hF16.1 116 9 rfl)
    have f50 := congrArg Int32.toInt (eA_c (j := 0) (hF16.2.1 173 rfl))
    have f51 := congrArg Int32.toInt (eA_c (j := 1) (hF16.2.1 173 rfl))
    have f52 := congrArg Int32.toInt (hF16.1 174 1 rfl)
    have f53 := congrArg Int32.toInt (hF16.1 0 16 rfl)
    have f54 := congrArg Int32.toInt (hF16.1 176 2 rfl)
    have f56 := congrArg Int32.toInt (eA_c (j := 0) (hF16.2.1 233 rfl))
    have f57 := congrArg Int32.toInt (eA_c (j := 4) (hF16.2.1 233 rfl))
    have f58 := congrArg Int32.toInt (eA_c (j := 5) (hF16.2.1 233 rfl))
    have f59 := congrArg Int32.toInt (eA_c (j := 6) (hF16.2.1 233 rfl))
    have f60 := congrArg Int32.toInt (eA_c (j := 1) (hF16.2.1 233 rfl))
    have f61 := congrArg Int32.toInt (eA_c (j := 2) (hF16.2.1 233 rfl))
    have f62 := congrArg Int32.toInt (eA_c (j := 3) (hF16.2.1 233 rfl))
    have f63 := congrArg Int32.toInt (eA_c (j := 0) (hF16.2.1 234 rfl))
    have f64 := congrArg Int32.toInt (eA_c (j := 4) (hF16.2.1 234 rfl))
    have f65 := congrArg Int32.toInt (eA_c (j := 5) (hF16.2.1 234 rfl))
    have f66 := congrArg Int32.toInt (eA_c (j := 6) (hF16.2.1 234 rfl))
    have f67 := congrArg Int32.toInt (eA_c (j := 1) (hF16.2.1 234 rfl))
    have f68 := congrArg Int32.toInt (eA_c (j := 2) (hF16.2.1 234 rfl))
    have f69 := congrArg Int32.toInt (eA_c (j := 3) (hF16.2.1 234 rfl))
    have f70 := congrArg Int32.toInt (eA_c (j := 5510) (hF16.2.1 234 rfl))
    have f71 := congrArg Int32.toInt (eA_c (j := 5514) (hF16.2.1 234 rfl))
    have f72 := congrArg Int32.toInt (eA_c (j := 5515) (hF16.2.1 234 rfl))
    have f73 := congrArg Int32.toInt (eA_c (j := 5516) (hF16.2.1 234 rfl))
    have f74 := congrArg Int32.toInt (eA_c (j := 5511) (hF16.2.1 234 rfl))
    have f75 := congrArg Int32.toInt (eA_c (j := 5512) (hF16.2.1 234 rfl))
    have f76 := congrArg Int32.toInt (eA_c (j := 5513) (hF16.2.1 234 rfl))
    have f77 := congrArg Int32.toInt (eA_c (j := 0) (hF16.2.1 235 rfl))
    have f78 := congrArg Int32.toInt (eA_c (j := 1) (hF16.2.1 235 rfl))
    have f79 := congrArg Int32.toInt (hF16.1 231 8 rfl)
    have f80 := congrArg Int32.toInt (hF16.1 231 6 rfl)
    have f81 := congrArg Int32.toInt (hF16.1 231 13 rfl)
    have f82 := congrArg Int32.toInt (hF16.1 231 1 rfl)
    refine At.enter rfl ?_
    refine r_pop rfl ?_
    refine r_aload_n e2 ?_
    refine r_sload_n e0 ?_
    refine r_iload_n e3 ?_
    refine r_iconst 1 rfl ?_
    refine q_iadd (i.toInt + 1) rfl hx_1 (fun v83 hv83 => ?_)
    refine q_scald (m := L) hL (i.toInt + 1) hv83 hy_1 (fun v84 hv84 => ?_)
    have sv84 := hv2.symm.trans hv84
    subst sv84
    refine r_sload_n e0 ?_
    refine r_iload_n e3 ?_
    refine r_iconst 2 rfl ?_
    refine q_iadd (i.toInt + 2) rfl hx_2 (fun v85 hv85 => ?_)
    refine q_scald (m := L) hL (i.toInt + 2) hv85 hy_2 (fun v86 hv86 => ?_)
    have sv86 := hv4.symm.trans hv86
    subst sv86
    refine r_sload_n e0 ?_
    refine r_iload_n e3 ?_
    refine r_iconst 3 rfl ?_
    refine q_iadd (i.toInt + 3) rfl hx_3 (fun v87 hv87 => ?_)
    refine q_scald (m := L) hL (i.toInt + 3) hv87 hy_3 (fun v88 hv88 => ?_)
    have sv88 := hv6.symm.trans hv88
    subst sv88
    refine r_sload_n e0 ?_
    refine r_iload_n e3 ?_
    refine r_iconst 4 rfl ?_
    refine q_iadd (i.toInt + 4) rfl hx_4 (fun v89 hv89 => ?_)
    refine q_scald (m := L) hL (i.toInt + 4) hv89 hy_4 (fun v90 hv90 => ?_)
    have sv90 := hv8.symm.trans hv90
    subst sv90
    refine r_sload_n e0 ?_
    refine r_iload_n e3 ?_
    refine r_iconst 5 rfl ?_
    refine q_iadd (i.toInt + 5) rfl hx_5 (fun v91 hv91 => ?_)
    refine q_scald (m := L) hL (i.toInt + 5) hv91 hy_5 (fun v92 hv92 => ?_)
    have sv92 := hv10.symm.trans hv92
    subst sv92
    refine r_sload_n e0 ?_
    refine r_iload_n e3 ?_
    refine r_bipush 6 rfl ?_
    refine q_iadd (i.toInt + 6) rfl hx_6 (fun v93 hv93 => ?_)
    refine q_scald (m := L) hL (i.toInt + 6) hv93 hy_6 (fun v94 hv94 => ?_)
    have sv94 := hv12.symm.trans hv94
    subst sv94
    refine r_callV 398 rfl [.ref 231, .int v2, .int v4, .int v6, .int v8, .int v10, .int v12] [] (Nat.le_of_ble_eq_true rfl) rfl (T_X11_load_231 _ hI15 v2 v4 v6 v8 v10 v12) ?_
    rintro _ _ ⟨g95, rfl, hI96, hF97, v98, rfl, hr99⟩
    refine At.sti ?_
    have hF100 := Fr.tr hF19 hF97 rfl rfl
    have su101 := hr99.2.2
    obtain ⟨q102, q103, q104, q105, q106⟩ := (And.intro hr99.1 hr99.2.1)
    have ek118 : (eA g14 233 0).toInt = (gI g0 1 0).toInt := (eA_ti (j := 0) (hF16.2.1 233 (by decide))).trans hR_0.symm
    have ek119 : (eA g14 233 1).toInt = (gI g0 1 4).toInt := (eA_ti (j := 1) (hF16.2.1 233 (by decide))).trans hR_4.symm
    obtain ⟨i108, i109, i110, i111, sm112, sm113, sm114, sm115, sm116, sm117⟩ := q103
    have w107 := i108 pk13
    clear i108 i109 i110 i111
    have f120 := congrArg Int32.toInt (hF97.1 1 0 rfl)
    have f121 := congrArg Int32.toInt (hF97.1 1 12 rfl)
    have f122 := congrArg Int32.toInt (hF97.1 1 10 rfl)
    have f123 := congrArg Int32.toInt (hF97.1 1 11 rfl)
    have f124 := congrArg Int32.toInt (hF97.1 1 4 rfl)
    have f125 := congrArg Int32.toInt (hF97.1 1 6 rfl)
    have f126 := congrArg Int32.toInt (hF97.1 1 9 rfl)
    have f127 := congrArg Int32.toInt (hF97.1 59 0 rfl)
    have f128 := congrArg Int32.toInt (hF97.1 59 12 rfl)
    have f129 := congrArg Int32.toInt (hF97.1 59 10 rfl)
    have f130 := congrArg Int32.toInt (hF97.1 59 11 rfl)
    have f131 := congrArg Int32.toInt (hF97.1 59 4 rfl)
    have f132 := congrArg Int32.toInt (hF97.1 59 6 rfl)
    have f133 := congrArg Int32.toInt (hF97.1 59 9 rfl)
    have f134 := congrArg Int32.toInt (hF97.1 116 0 rfl)
    have f135 := congrArg Int32.toInt (hF97.1 116 12 rfl)
    have f136 := congrArg Int32.toInt (hF97.1 116 10 rfl)
    have f137 := congrArg Int32.toInt (hF97.1 116 11 rfl)
    have f138 := congrArg Int32.toInt (hF97.1 116 4 rfl)
    have f139 := congrArg Int32.toInt (hF97.1 116 6 rfl)
    have f140 := congrArg Int32.toInt (hF97.1 116 9 rfl)
    have f141 := congrArg Int32.toInt (eA_c (j := 0) (hF97.2.1 173 rfl))
    have f142 := congrArg Int32.toInt (eA_c (j := 1) (hF97.2.1 173 rfl))
    have f143 := congrArg Int32.toInt (hF97.1 174 1 rfl)
    have f144 := congrArg Int32.toInt (hF97.1 0 16 rfl)
    have f145 := congrArg Int32.toInt (hF97.1 176 2 rfl)
    have f146 := congrArg Int32.toInt (hF97.1 0 17 rfl)
    have f154 := congrArg Int32.toInt (eA_c (j := 0) (hF97.2.1 234 rfl))
    have f155 := congrArg Int32.toInt (eA_c (j := 4) (hF97.2.1 234 rfl))
    have f156 := congrArg Int32.toInt (eA_c (j := 5) (hF97.2.1 234 rfl))
    have f157 := congrArg Int32.toInt (eA_c (j := 6) (hF97.2.1 234 rfl))
    have f158 := congrArg Int32.toInt (eA_c (j := 1) (hF97.2.1 234 rfl))
    have f159 := congrArg Int32.toInt (eA_c (j := 2) (hF97.2.1 234 rfl))
    have f160 := congrArg Int32.toInt (eA_c (j := 3) (hF97.2.1 234 rfl))
    have f161 := congrArg Int32.toInt (eA_c (j := 5510) (hF97.2.1 234 rfl))
    have f162 := congrArg Int32.toInt (eA_c (j := 5514) (hF97.2.1 234 rfl))
    have f163 := congrArg Int32.toInt (eA_c (j := 5515) (hF97.2.1 234 rfl))
    have f164 := congrArg Int32.toInt (eA_c (j := 5516) (hF97.2.1 234 rfl))
    have f165 := congrArg Int32.toInt (eA_c (j := 5511) (hF97.2.1 234 rfl))
    have f166 := congrArg Int32.toInt (eA_c (j := 5512) (hF97.2.1 234 rfl))
    have f167 := congrArg Int32.toInt (eA_c (j := 5513) (hF97.2.1 234 rfl))
    have f168 := congrArg Int32.toInt (eA_c (j := 0) (hF97.2.1 235 rfl))
    have f169 := congrArg Int32.toInt (eA_c (j := 1) (hF97.2.1 235 rfl))
    have f170 := congrArg Int32.toInt (hF97.1 231 8 rfl)
    have f171 := congrArg Int32.toInt (hF97.1 231 6 rfl)
    have f172 := congrArg Int32.toInt (hF97.1 231 13 rfl)
    refine At.enter rfl ?_
    refine r_pop rfl ?_
    refine r_goto ?_
    have zr : v17.toInt = v98.toInt := by
      apply Decidable.byContradiction
      intro hne
      exfalso
      omega
    have zsu := SU.eq su20 su101 zr
    exact K _ hI96 (show LwR _ from ⟨by first | (clear f30 f31 f32 f34 f35 f36 f37 f38 f39 f40 f41 f42 f43 f44 f45 f46 f47 f48 f49 f50 f51 f52 f53 f54 f57 f58 f59 f60 f61 f62 f63 f64 f65 f66 f67 f68 f69 f70 f71 f72 f73 f74 f75 f76 f77 f78 f79 f80 f81 f82 f121 f122 f123 f124 f125 f126 f127 f128 f129 f130 f131 f132 f133 f134 f135 f136 f137 f138 f139 f140 f141 f142 f143 f144 f145 f146 f154 f155 f156 f157 f158 f159 f160 f161 f162 f163 f164 f165 f166 f167 f168 f169 f170 f171 f172; omega) | omega, by first | (clear f29 f31 f32 f34 f35 f36 f37 f38 f39 f40 f41 f42 f43 f44 f45 f46 f47 f48 f49 f50 f51 f52 f53 f54 f56 f58 f59 f60 f61 f62 f63 f64 f65 f66 f67 f68 f69 f70 f71 f72 f73 f74 f75 f76 f77 f78 f79 f80 f81 f82 f120 f122 f123 f124 f125 f126 f127 f128 f129 f130 f131 f132 f133 f134 f135 f136 f137 f138 f139 f140 f141 f142 f143 f144 f145 f146 f154 f155 f156 f157 f158 f159 f160 f161 f162 f163 f164 f165 f166 f167 f168 f169 f170 f171 f172; omega) | omega, by first | (clear f29 f30 f32 f34 f35 f36 f37 f38 f39 f40 f41 f42 f43 f44 f45 f46 f47 f48 f49 f50 f51 f52 f53 f54 f56 f57 f59 f60 f61 f62 f63 f64 f65 f66 f67 f68 f69 f70 f71 f72 f73 f74 f75 f76 f77 f78 f79 f80 f81 f82 f120 f121 f123 f124 f125 f126 f127 f128 f129 f130 f131 f132 f133 f134 f135 f136 f137 f138 f139 f140 f141 f142 f143 f144 f145 f146 f154 f155 f156 f157 f158 f159 f160 f161 f162 f163 f164 f165 f166 f167 f168 f169 f170 f171 f172; omega) | omega, by first | (clear f29 f30 f31 f34 f35 f36 f37 f38 f39 f40 f41 f42 f43 f44 f45 f46 f47 f48 f49 f50 f51 f52 f53 f54 f56 f57 f58 f60 f61 f62 f63 f64 f65 f66 f67 f68 f69 f70 f71 f72 f73 f74 f75 f76 f77 f78 f79 f80 f81 f82 f120 f121 f122 f124 f125 f126 f127 f128 f129 f130 f131 f132 f133 f134 f135 f136 f137 f138 f139 f140 f141 f142 f143 f144 f145 f146 f154 f155 f156 f157 f158 f159 f160 f161 f162 f163 f164 f165 f166 f167 f168 f169 f170 f171 f172; omega) | omega, by first | (clear f29 f30 f31 f32 f34 f35 f36 f37 f38 f39 f40 f41 f42 f43 f44 f45 f46 f47 f48 f49 f50 f51 f52 f53 f54 f56 f57 f58 f59 f61 f62 f63 f64 f65 f66 f67 f68 f69 f70 f71 f72 f73 f74 f75 f76 f77 f78 f79 f80 f81 f82 f120 f121 f122 f123 f125 f126 f127 f128 f129 f130 f131 f132 f133 f134 f135 f136 f137 f138 f139 f140 f141 f142 f143 f144 f145 f146 f154 f155 f156 f157 f158 f159 f160 f161 f162 f163 f164 f165 f166 f167 f168 f169 f170 f171 f172; omega) | omega, by first | (clear f29 f30 f31 f32 f35 f36 f37 f38 f39 f40 f41 f42 f43 f44 f45 f46 f47 f48 f49 f50 f51 f52 f53 f54 f56 f57 f58 f59 f60 f62 f63 f64 f65 f66 f67 f68 f69 f70 f71 f72 f73 f74 f75 f76 f77 f78 f79 f80 f81 f82 f120 f121 f122 f123 f124 f126 f127 f128 f129 f130 f131 f132 f133 f134 f135 f136 f137 f138 f139 f140 f141 f142 f143 f144 f145 f146 f154 f155 f156 f157 f158 f159 f160 f161 f162 f163 f164 f165 f166 f167 f168 f169 f170 f171 f172; omega) | omega, by first | (clear f29 f30 f31 f32 f34 f36 f37 f38 f39 f40 f41 f42 f43 f44 f45 f46 f47 f48 f49 f50 f51 f52 f53 f54 f56 f57 f58 f59 f60 f61 f63 f64 f65 f66 f67 f68 f69 f70 f71 f72 f73 f74 f75 f76 f77 f78 f79 f80 f81 f82 f120 f121 f122 f123 f124 f125 f127 f128 f129 f130 f131 f132 f133 f134 f135 f136 f137 f138 f139 f140 f141 f142 f143 f144 f145 f146 f154 f155 f156 f157 f158 f159 f160 f161 f162 f163 f164 f165 f166 f167 f168 f169 f170 f171 f172; omega) | omega, (eA_ti (j := 0) (((hF97.2.1 173 (by decide)).trans (hF16.2.1 173 (by decide))))).trans (hR_7.trans (eA_ti (j := 0) (((hF97.2.1 235 (by decide)).trans (hF16.2.1 235 (by decide))))).symm), (eA_ti (j := 1) (((hF97.2.1 173 (by decide)).trans (hF16.2.1 173 (by decide))))).trans (hR_8.trans (eA_ti (j := 1) (((hF97.2.1 235 (by decide)).trans (hF16.2.1 235 (by decide))))).symm), (congrArg Int32.toInt (((hF97.1 174 1 (by decide)).trans (hF16.1 174 1 (by decide))))).trans (hR_9.trans (congrArg Int32.toInt (((hF97.1 231 8 (by decide)).trans (hF16.1 231 8 (by decide))))).symm), (congrArg Int32.toInt (((hF97.1 0 16 (by decide)).trans (hF16.1 0 16 (by decide))))).trans (hR_10.trans (congrArg Int32.toInt (((hF97.1 231 6 (by decide)).trans (hF16.1 231 6 (by decide))))).symm), (congrArg Int32.toInt (((hF97.1 176 2 (by decide)).trans (hF16.1 176 2 (by decide))))).trans (hR_11.trans (congrArg Int32.toInt (((hF97.1 231 13 (by decide)).trans (hF16.1 231 13 (by decide))))).symm), by first | (clear f29 f30 f31 f32 f34 f35 f36 f37 f38 f39 f40 f41 f42 f43 f44 f45 f46 f47 f48 f49 f50 f51 f52 f53 f54 f56 f57 f58 f59 f60 f61 f62 f63 f64 f65 f66 f67 f68 f69 f70 f71 f72 f73 f74 f75 f76 f77 f78 f79 f80 f81 f120 f121 f122 f123 f124 f125 f126 f127 f128 f129 f130 f131 f132 f133 f134 f135 f136 f137 f138 f139 f140 f141 f142 f143 f144 f145 f154 f155 f156 f157 f158 f159 f160 f161 f162 f163 f164 f165 f166 f167 f168 f169 f170 f171 f172; omega) | omega, IM0.cong hR_13 (eA_ti (j := 0) (((hF97.2.1 173 (by decide)).trans (hF16.2.1 173 (by decide))))) (congrArg Int32.toInt (((hF97.1 59 0 (by decide)).trans (hF16.1 59 0 (by decide))))) (eA_ti (j := 0) (((hF97.2.1 234 (by decide)).trans (hF16.2.1 234 (by decide))))) (congrArg Int32.toInt (((hF97.1 59 12 (by decide)).trans (hF16.1 59 12 (by decide))))) (eA_ti (j := 4) (((hF97.2.1 234 (by decide)).trans (hF16.2.1 234 (by decide))))) (congrArg Int32.toInt (((hF97.1 59 10 (by decide)).trans (hF16.1 59 10 (by decide))))) (eA_ti (j := 5) (((hF97.2.1 234 (by decide)).trans (hF16.2.1 234 (by decide))))) (congrArg Int32.toInt (((hF97.1 59 11 (by decide)).trans (hF16.1 59 11 (by decide))))) (eA_ti (j := 6) (((hF97.2.1 234 (by decide)).trans (hF16.2.1 234 (by decide))))) (congrArg Int32.toInt (((hF97.1 59 4 (by decide)).trans (hF16.1 59 4 (by decide))))) (eA_ti (j := 1) (((hF97.2.1 234 (by decide)).trans (hF16.2.1 234 (by decide))))) (congrArg Int32.toInt (((hF97.1 59 6 (by decide)).trans (hF16.1 59 6 (by decide))))) (eA_ti (j := 2) (((hF97.2.1 234 (by decide)).trans (hF16.2.1 234 (by decide))))) (congrArg Int32.toInt (((hF97.1 59 9 (by decide)).trans (hF16.1 59 9 (by decide))))) (eA_ti (j := 3) (((hF97.2.1 234 (by decide)).trans (hF16.2.1 234 (by decide))))), IM1.cong hR_14 (eA_ti (j := 1) (((hF97.2.1 173 (by decide)).trans (hF16.2.1 173 (by decide))))) (congrArg Int32.toInt (((hF97.1 116 0 (by decide)).trans (hF16.1 116 0 (by decide))))) (eA_ti (j := 5510) (((hF97.2.1 234 (by decide)).trans (hF16.2.1 234 (by decide))))) (congrArg Int32.toInt (((hF97.1 116 12 (by decide)).trans (hF16.1 116 12 (by decide))))) (eA_ti (j := 5514) (((hF97.2.1 234 (by decide)).trans (hF16.2.1 234 (by decide))))) (congrArg Int32.toInt (((hF97.1 116 10 (by decide)).trans (hF16.1 116 10 (by decide))))) (eA_ti (j := 5515) (((hF97.2.1 234 (by decide)).trans (hF16.2.1 234 (by decide))))) (congrArg Int32.toInt (((hF97.1 116 11 (by decide)).trans (hF16.1 116 11 (by decide))))) (eA_ti (j := 5516) (((hF97.2.1 234 (by decide)).trans (hF16.2.1 234 (by decide))))) (congrArg Int32.toInt (((hF97.1 116 4 (by decide)).trans (hF16.1 116 4 (by decide))))) (eA_ti (j := 5511) (((hF97.2.1 234 (by decide)).trans (hF16.2.1 234 (by decide))))) (congrArg Int32.toInt (((hF97.1 116 6 (by decide)).trans (hF16.1 116 6 (by decide))))) (eA_ti (j := 5512) (((hF97.2.1 234 (by decide)).trans (hF16.2.1 234 (by decide))))) (congrArg Int32.toInt (((hF97.1 116 9 (by decide)).trans (hF16.1 116 9 (by decide))))) (eA_ti (j := 5513) (((hF97.2.1 234 (by decide)).trans (hF16.2.1 234 (by decide))))), (show CT _ from ⟨fun i i0 i1 => ⟨(by first | (clear f36 f37 f38 f39 f40 f41 f42 f43 f44 f45 f46 f47 f48 f49 f52 f53 f54 f63 f64 f65 f66 f67 f68 f69 f70 f71 f72 f73 f74 f75 f76 f79 f80 f81 f82 f127 f128 f129 f130 f131 f132 f133 f134 f135 f136 f137 f138 f139 f140 f143 f144 f145 f146 f154 f155 f156 f157 f158 f159 f160 f161 f162 f163 f164 f165 f166 f167 f170 f171 f172; have t0_ := hI0.t0; have t1_ := hI0.t1; have o := (hR_15.1 i i0 i1).1; have x := eA_ti (j := i) (((hF97.2.1 2 (by decide)).trans (hF16.2.1 2 (by decide)))); have m := q104 (10 + 3 * i) (by omega) (by omega); have y1 := eA_ti (j := ((10 + 3 * i))) (hF16.2.1 233 (by decide)); first | exact x.trans (o.trans (m.trans y1).symm) | omega) | (have t0_ := hI0.t0; have t1_ := hI0.t1; have o := (hR_15.1 i i0 i1).1; have x := eA_ti (j := i) (((hF97.2.1 2 (by decide)).trans (hF16.2.1 2 (by decide)))); have m := q104 (10 + 3 * i) (by omega) (by omega); have y1 := eA_ti (j := ((10 + 3 * i))) (hF16.2.1 233 (by decide)); first | exact x.trans (o.trans (m.trans y1).symm) | omega)), (by first | (clear f36 f37 f38 f39 f40 f41 f42 f43 f44 f45 f46 f47 f48 f49 f52 f53 f54 f63 f64 f65 f66 f67 f68 f69 f70 f71 f72 f73 f74 f75 f76 f79 f80 f81 f82 f127 f128 f129 f130 f131 f132 f133 f134 f135 f136 f137 f138 f139 f140 f143 f144 f145 f146 f154 f155 f156 f157 f158 f159 f160 f161 f162 f163 f164 f165 f166 f167 f170 f171 f172; have t0_ := hI0.t0; have t1_ := hI0.t1; have o := (hR_15.1 i i0 i1).2.1; have x := eA_ti (j := i) (((hF97.2.1 3 (by decide)).trans (hF16.2.1 3 (by decide)))); have m := q104 (10 + 3 * i + 1) (by omega) (by omega); have y1 := eA_ti (j := ((10 + 3 * i + 1))) (hF16.2.1 233 (by decide)); first | exact x.trans (o.trans (m.trans y1).symm) | omega) | (have t0_ := hI0.t0; have t1_ := hI0.t1; have o := (hR_15.1 i i0 i1).2.1; have x := eA_ti (j := i) (((hF97.2.1 3 (by decide)).trans (hF16.2.1 3 (by decide)))); have m := q104 (10 + 3 * i + 1) (by omega) (by omega); have y1 := eA_ti (j := ((10 + 3 * i + 1))) (hF16.2.1 233 (by decide)); first | exact x.trans (o.trans (m.trans y1).symm) | omega)), (by first | (clear f36 f37 f38 f39 f40 f41 f42 f43 f44 f45 f46 f47 f48 f49 f52 f53 f54 f63 f64 f65 f66 f67 f68 f69 f70 f71 f72 f73 f74 f75 f76 f79 f80 f81 f82 f127 f128 f129 f130 f131 f132 f133 f134 f135 f136 f137 f138 f139 f140 f143 f144 f145 f146 f154 f155 f156 f157 f158 f159 f160 f161 f162 f163 f164 f165 f166 f167 f170 f171 f172; have t0_ := hI0.t0; have t1_ := hI0.t1; have o := (hR_15.1 i i0 i1).2.2; have x := eA_ti (j := i) (((hF97.2.1 4 (by decide)).trans (hF16.2.1 4 (by decide)))); have m := q104 (10 + 3 * i + 2) (by omega) (by omega); have y1 := eA_ti (j := ((10 + 3 * i + 2))) (hF16.2.1 233 (by decide)); first | exact x.trans (o.trans (m.trans y1).symm) | omega) | (have t0_ := hI0.t0; have t1_ := hI0.t1; have o := (hR_15.1 i i0 i1).2.2; have x := eA_ti (j := i) (((hF97.2.1 4 (by decide)).trans (hF16.2.1 4 (by decide)))); have m := q104 (10 + 3 * i + 2) (by omega) (by omega); have y1 := eA_ti (j := ((10 + 3 * i + 2))) (hF16.2.1 233 (by decide)); first | exact x.trans (o.trans (m.trans y1).symm) | omega))⟩, fun i i0 i1 => ⟨(by first | (clear f36 f37 f38 f39 f40 f41 f42 f43 f44 f45 f46 f47 f48 f49 f52 f53 f54 f63 f64 f65 f66 f67 f68 f69 f70 f71 f72 f73 f74 f75 f76 f79 f80 f81 f82 f127 f128 f129 f130 f131 f132 f133 f134 f135 f136 f137 f138 f139 f140 f143 f144 f145 f146 f154 f155 f156 f157 f158 f159 f160 f161 f162 f163 f164 f165 f166 f167 f170 f171 f172; have t0_ := hI0.t0; have t1_ := hI0.t1; have o := (hR_15.2.1 i i0 i1).1; have x := eA_ti (j := i) (((hF97.2.1 14 (by decide)).trans (hF16.2.1 14 (by decide)))); have m := q105 (94 + 2 * i) (by omega) (by omega); have y1 := eA_ti (j := ((94 + 2 * i))) (hF16.2.1 233 (by decide)); first | exact x.trans (o.trans (m.trans y1).symm) | omega) | (have t0_ := hI0.t0; have t1_ := hI0.t1; have o := (hR_15.2.1 i i0 i1).1; have x := eA_ti (j := i) (((hF97.2.1 14 (by decide)).trans (hF16.2.1 14 (by decide)))); have m := q105 (94 + 2 * i) (by omega) (by omega); have y1 := eA_ti (j := ((94 + 2 * i))) (hF16.2.1 233 (by decide)); first | exact x.trans (o.trans (m.trans y1).symm) | omega)), (by first | (clear f36 f37 f38 f39 f40 f41 f42 f43 f44 f45 f46 f47 f48 f49 f52 f53 f54 f63 f64 f65 f66 f67 f68 f69 f70 f71 f72 f73 f74 f75 f76 f79 f80 f81 f82 f127 f128 f129 f130 f131 f132 f133 f134 f135 f136 f137 f138 f139 f140 f143 f144 f145 f146 f154 f155 f156 f157 f158 f159 f160 f161 f162 f163 f164 f165 f166 f167 f170 f171 f172; have t0_ := hI0.t0; have t1_ := hI0.t1; have o := (hR_15.2.1 i i0 i1).2; have x := eA_ti (j := i) (((hF97.2.1 15 (by decide)).trans (hF16.2.1 15 (by decide)))); have m := q105 (94 + 2 * i + 1) (by omega) (by omega); have y1 := eA_ti (j := ((94 + 2 * i + 1))) (hF16.2.1 233 (by decide)); first | exact x.trans (o.trans (m.trans y1).symm) | omega) | (have t0_ := hI0.t0; have t1_ := hI0.t1; have o := (hR_15.2.1 i i0 i1).2; have x := eA_ti (j := i) (((hF97.2.1 15 (by decide)).trans (hF16.2.1 15 (by decide)))); have m := q105 (94 + 2 * i + 1) (by omega) (by omega); have y1 := eA_ti (j := ((94 + 2 * i + 1))) (hF16.2.1 233 (by decide)); first | exact x.trans (o.trans (m.trans y1).symm) | omega))⟩, fun i i0 i1 => (by first | (clear f36 f37 f38 f39 f40 f41 f42 f43 f44 f45 f46 f47 f48 f49 f52 f53 f54 f63 f64 f65 f66 f67 f68 f69 f70 f71 f72 f73 f74 f75 f76 f79 f80 f81 f82 f127 f128 f129 f130 f131 f132 f133 f134 f135 f136 f137 f138 f139 f140 f143 f144 f145 f146 f154 f155 f156 f157 f158 f159 f160 f161 f162 f163 f164 f165 f166 f167 f170 f171 f172; have t0_ := hI0.t0; have t1_ := hI0.t1; have o : i < 6 * (gI g0 1 4).toInt → _ := fun hz => hR_15.2.2 i i0 hz; have t9_ := RgF.at hI96.2.1 (p := 1) (b := 4) rfl; dsimp only at t9_; have i9_ : i < 48 := (by omega); have x := (eA_ti (j := i) (hF97.2.1 5 (by decide))).trans (q23 i i0 i9_); have m := q106 (46 + i) (by omega) (by omega); have y1 := eA_ti (j := ((46 + i))) (hF16.2.1 233 (by decide)); have ek0 : (eA g14 233 0).toInt = (gI g0 1 0).toInt := (eA_ti (j := 0) (hF16.2.1 233 (by decide))).trans hR_0.symm; have ek1 : (eA g14 233 1).toInt = (gI g0 1 4).toInt := (eA_ti (j := 1) (hF16.2.1 233 (by decide))).trans hR_4.symm; have eC : ((1 ≤ v2.toInt ∧ v2.toInt ≤ 9 ∧ 0 ≤ v8.toInt ∧ v8.toInt ≤ 99 ∧ 0 ≤ v10.toInt ∧ v10.toInt ≤ 9 ∧ 0 ≤ v12.toInt ∧ v12.toInt ≤ 9999) ∧ (0 ≤ v4.toInt ∧ v4.toInt < (eA g14 233 0).toInt ∧ 0 ≤ v6.toInt ∧ v6.toInt < (eA g14 233 0).toInt) ∧ (eA g14 233 1).toInt < 8) = ((1 ≤ v2.toInt ∧ v2.toInt ≤ 9 ∧ 0 ≤ v8.toInt ∧ v8.toInt ≤ 99 ∧ 0 ≤ v10.toInt ∧ v10.toInt ≤ 9 ∧ 0 ≤ v12.toInt ∧ v12.toInt ≤ 9999) ∧ (0 ≤ v4.toInt ∧ v4.toInt < (gI g0 1 0).toInt ∧ 0 ≤ v6.toInt ∧ v6.toInt < (gI g0 1 0).toInt) ∧ (gI g0 1 4).toInt < 8) := (by rw [ek0, ek1]); have k : ¬ ((1 ≤ v2.toInt ∧ v2.toInt ≤ 9 ∧ 0 ≤ v8.toInt ∧ v8.toInt ≤ 99 ∧ 0 ≤ v10.toInt ∧ v10.toInt ≤ 9 ∧ 0 ≤ v12.toInt ∧ v12.toInt ≤ 9999) ∧ (0 ≤ v4.toInt ∧ v4.toInt < (gI g0 1 0).toInt ∧ 0 ≤ v6.toInt ∧ v6.toInt < (gI g0 1 0).toInt) ∧ (gI g0 1 4).toInt < 8) := (fun z => (show ¬ _ from pk13) z.1); have k2 : ¬ ((1 ≤ v2.toInt ∧ v2.toInt ≤ 9 ∧ 0 ≤ v8.toInt ∧ v8.toInt ≤ 99 ∧ 0 ≤ v10.toInt ∧ v10.toInt ≤ 9 ∧ 0 ≤ v12.toInt ∧ v12.toInt ≤ 9999) ∧ (0 ≤ v4.toInt ∧ v4.toInt < (eA g14 233 0).toInt ∧ 0 ≤ v6.toInt ∧ v6.toInt < (eA g14 233 0).toInt) ∧ (eA g14 233 1).toInt < 8) := fun z => k (eC.mp z); rw [ite_an k, ite_an k, ite_an k, ite_an k, ite_an k, ite_an k] at x; rw [ite_an k2, ite_an k2, ite_an k2, ite_an k2, ite_an k2, ite_an k2] at m; clear eC k2 k; omega) | (have t0_ := hI0.t0; have t1_ := hI0.t1; have o : i < 6 * (gI g0 1 4).toInt → _ := fun hz => hR_15.2.2 i i0 hz; have t9_ := RgF.at hI96.2.1 (p := 1) (b := 4) rfl; dsimp only at t9_; have i9_ : i < 48 := (by omega); have x := (eA_ti (j := i) (hF97.2.1 5 (by decide))).trans (q23 i i0 i9_); have m := q106 (46 + i) (by omega) (by omega); have y1 := eA_ti (j := ((46 + i))) (hF16.2.1 233 (by decide)); have ek0 : (eA g14 233 0).toInt = (gI g0 1 0).toInt := (eA_ti (j := 0) (hF16.2.1 233 (by decide))).trans hR_0.symm; have ek1 : (eA g14 233 1).toInt = (gI g0 1 4).toInt := (eA_ti (j := 1) (hF16.2.1 233 (by decide))).trans hR_4.symm; have eC : ((1 ≤ v2.toInt ∧ v2.toInt ≤ 9 ∧ 0 ≤ v8.toInt ∧ v8.toInt ≤ 99 ∧ 0 ≤ v10.toInt ∧ v10.toInt ≤ 9 ∧ 0 ≤ v12.toInt ∧ v12.toInt ≤ 9999) ∧ (0 ≤ v4.toInt ∧ v4.toInt < (eA g14 233 0).toInt ∧ 0 ≤ v6.toInt ∧ v6.toInt < (eA g14 233 0).toInt) ∧ (eA g14 233 1).toInt < 8) = ((1 ≤ v2.toInt ∧ v2.toInt ≤ 9 ∧ 0 ≤ v8.toInt ∧ v8.toInt ≤ 99 ∧ 0 ≤ v10.toInt ∧ v10.toInt ≤ 9 ∧ 0 ≤ v12.toInt ∧ v12.toInt ≤ 9999) ∧ (0 ≤ v4.toInt ∧ v4.toInt < (gI g0 1 0).toInt ∧ 0 ≤ v6.toInt ∧ v6.toInt < (gI g0 1 0).toInt) ∧ (gI g0 1 4).toInt < 8) := (by rw [ek0, ek1]); have k : ¬ ((1 ≤ v2.toInt ∧ v2.toInt ≤ 9 ∧ 0 ≤ v8.toInt ∧ v8.toInt ≤ 99 ∧ 0 ≤ v10.toInt ∧ v10.toInt ≤ 9 ∧ 0 ≤ v12.toInt ∧ v12.toInt ≤ 9999) ∧ (0 ≤ v4.toInt ∧ v4.toInt < (gI g0 1 0).toInt ∧ 0 ≤ v6.toInt ∧ v6.toInt < (gI g0 1 0).toInt) ∧ (gI g0 1 4).toInt < 8) := (fun z => (show ¬ _ from pk13) z.1); have k2 : ¬ ((1 ≤ v2.toInt ∧ v2.toInt ≤ 9 ∧ 0 ≤ v8.toInt ∧ v8.toInt ≤ 99 ∧ 0 ≤ v10.toInt ∧ v10.toInt ≤ 9 ∧ 0 ≤ v12.toInt ∧ v12.toInt ≤ 9999) ∧ (0 ≤ v4.toInt ∧ v4.toInt < (eA g14 233 0).toInt ∧ 0 ≤ v6.toInt ∧ v6.toInt < (eA g14 233 0).toInt) ∧ (eA g14 233 1).toInt < 8) := fun z => k (eC.mp z); rw [ite_an k, ite_an k, ite_an k, ite_an k, ite_an k, ite_an k] at x; rw [ite_an k2, ite_an k2, ite_an k2, ite_an k2, ite_an k2, ite_an k2] at m; clear eC k2 k; omega))⟩), CI0.cong hR_16 (((hF97.2.1 60 (by decide)).trans (hF16.2.1 60 (by decide)))) (((hF97.2.1 61 (by decide)).trans (hF16.2.1 61 (by decide)))) (((hF97.2.1 62 (by decide)).trans (hF16.2.1 62 (by decide)))) (((hF97.2.1 72 (by decide)).trans (hF16.2.1 72 (by decide)))) (((hF97.2.1 73 (by decide)).trans (hF16.2.1 73 (by decide)))) (((hF97.2.1 63 (by decide)).trans (hF16.2.1 63 (by decide)))) (((hF97.2.1 234 (by decide)).trans (hF16.2.1 234 (by decide)))) (congrArg Int32.toInt (((hF97.1 59 4 (by decide)).trans (hF16.1 59 4 (by decide))))), CI1.cong hR_17 (((hF97.2.1 117 (by decide)).trans (hF16.2.1 117 (by decide)))) (((hF97.2.1 118 (by decide)).trans (hF16.2.1 118 (by decide)))) (((hF97.2.1 119 (by decide)).trans (hF16.2.1 119 (by decide)))) (((hF97.2.1 129 (by decide)).trans (hF16.2.1 129 (by decide)))) (((hF97.2.1 130 (by decide)).trans (hF16.2.1 130 (by decide)))) (((hF97.2.1 120 (by decide)).trans (hF16.2.1 120 (by decide)))) (((hF97.2.1 234 (by decide)).trans (hF16.2.1 234 (by decide)))) (congrArg Int32.toInt (((hF97.1 116 4 (by decide)).trans (hF16.1 116 4 (by decide))))), (show RT _ from fun i i0 i1 => (eA_ti (((hF97.2.1 175 (by decide)).trans (hF16.2.1 175 (by decide))))).trans ((hR_18 i i0 (by omega)).trans (eA_ti (((hF97.2.1 236 (by decide)).trans (hF16.2.1 236 (by decide))))).symm)), (show BYX _ from fun i i0 i1 => by rw [TX.c (((hF97.2.1 175 (by decide)).trans (hF16.2.1 175 (by decide))))]; exact hR_19 i i0 (by have i2 : i < (gI _ 174 1).toInt := i1; show i < (gI g0 174 1).toInt; omega))⟩)
  · refine r_callV 362 rfl [.ref 0, .int v2, .int v4, .int v6, .int v8, .int v10, .int v12] [] (Nat.le_of_ble_eq_true rfl) rfl (T_X10_load_0 _ hI0 v2 v4 v6 v8 v10 v12) ?_
    rintro _ _ ⟨g174, rfl, hI175, hF176, v177, rfl, hr178⟩
    refine At.sti ?_
    have hF179 := Fr.tr hF0 hF176 rfl rfl
    have su180 := hr178.2.2
    obtain ⟨q181, q182, q183⟩ := (And.intro hr178.1 hr178.2.1)
    obtain ⟨i185, i186, i187, i188⟩ := q182
    have w184 := i186 ⟨pk13.1, pk13.2⟩
    clear i185 i186 i187 i188
    have f189 := congrArg Int32.toInt (hF176.1 1 0 rfl)
    have f190 := congrArg Int32.toInt (hF176.1 1 12 rfl)
    have f191 := congrArg Int32.toInt (hF176.1 1 10 rfl)
    have f192 := congrArg Int32.toInt (hF176.1 1 11 rfl)
    have f194 := congrArg Int32.toInt (hF176.1 1 6 rfl)
    have f195 := congrArg Int32.toInt (hF176.1 1 9 rfl)
    have f196 := congrArg Int32.toInt (hF176.1 59 0 rfl)
    have f197 := congrArg Int32.toInt (hF176.1 59 12 rfl)
    have f198 := congrArg Int32.toInt (hF176.1 59 10 rfl)
    have f199 := congrArg Int32.toInt (hF176.1 59 11 rfl)
    have f200 := congrArg Int32.toInt (hF176.1 59 4 rfl)
    have f201 := congrArg Int32.toInt (hF176.1 59 6 rfl)
    have f202 := congrArg Int32.toInt (hF176.1 59 9 rfl)
    have f203 := congrArg Int32.toInt (hF176.1 116 0 rfl)
    have f204 := congrArg Int32.toInt (hF176.1 116 12 rfl)
    have f205 := congrArg Int32.toInt (hF176.1 116 10 rfl)
    have f206 := congrArg Int32.toInt (hF176.1 116 11 rfl)
    have f207 := congrArg Int32.toInt (hF176.1 116 4 rfl)
    have f208 := congrArg Int32.toInt (hF176.1 116 6 rfl)
    have f209 := congrArg Int32.toInt (hF176.1 116 9 rfl)
    have f210 := congrArg Int32.toInt (eA_c (j := 0) (hF176.2.1 173 rfl))
    have f211 := congrArg Int32.toInt (eA_c (j := 1) (hF176.2.1 173 rfl))
    have f212 := congrArg Int32.toInt (hF176.1 174 1 rfl)
    have f213 := congrArg Int32.toInt (hF176.1 0 16 rfl)
    have f214 := congrArg Int32.toInt (hF176.1 176 2 rfl)
    have f216 := congrArg Int32.toInt (eA_c (j := 0) (hF176.2.1 233 rfl))
    have f217 := congrArg Int32.toInt (eA_c (j := 4) (hF176.2.1 233 rfl))
    have f218 := congrArg Int32.toInt (eA_c (j := 5) (hF176.2.1 233 rfl))
    have f219 := congrArg Int32.toInt (eA_c (j := 6) (hF176.2.1 233 rfl))
    have f220 := congrArg Int32.toInt (eA_c (j := 1) (hF176.2.1 233 rfl))
    have f221 := congrArg Int32.toInt (eA_c (j := 2) (hF176.2.1 233 rfl))
    have f222 := congrArg Int32.toInt (eA_c (j := 3) (hF176.2.1 233 rfl))
    have f223 := congrArg Int32.toInt (eA_c (j := 0) (hF176.2.1 234 rfl))
    have f224 := congrArg Int32.toInt (eA_c (j := 4) (hF176.2.1 234 rfl))
    have f225 := congrArg Int32.toInt (eA_c (j := 5) (hF176.2.1 234 rfl))
    have f226 := congrArg Int32.toInt (eA_c (j := 6) (hF176.2.1 234 rfl))
    have f227 := congrArg Int32.toInt (eA_c (j := 1) (hF176.2.1 234 rfl))
    have f228 := congrArg Int32.toInt (eA_c (j := 2) (hF176.2.1 234 rfl))
    have f229 := congrArg Int32.toInt (eA_c (j := 3) (hF176.2.1 234 rfl))
    have f230 := congrArg Int32.toInt (eA_c (j := 5510) (hF176.2.1 234 rfl))
    have f231 := congrArg Int32.toInt (eA_c (j := 5514) (hF176.2.1 234 rfl))
    have f232 := congrArg Int32.toInt (eA_c (j := 5515) (hF176.2.1 234 rfl))
    have f233 := congrArg Int32.toInt (eA_c (j := 5516) (hF176.2.1 234 rfl))
    have f234 := congrArg Int32.toInt (eA_c (j := 5511) (hF176.2.1 234 rfl))
    have f235 := congrArg Int32.toInt (eA_c (j := 5512) (hF176.2.1 234 rfl))
    have f236 := congrArg Int32.toInt (eA_c (j := 5513) (hF176.2.1 234 rfl))
    have f237 := congrArg Int32.toInt (eA_c (j := 0) (hF176.2.1 235 rfl))
    have f238 := congrArg Int32.toInt (eA_c (j := 1) (hF176.2.1 235 rfl))
    have f239 := congrArg Int32.toInt (hF176.1 231 8 rfl)
    have f240 := congrArg Int32.toInt (hF176.1 231 6 rfl)
    have f241 := congrArg Int32.toInt (hF176.1 231 13 rfl)
    have f242 := congrArg Int32.toInt (hF176.1 231 1 rfl)
    refine At.enter rfl ?_
    refine r_pop rfl ?_
    refine r_aload_n e2 ?_
    refine r_sload_n e0 ?_
    refine r_iload_n e3 ?_
    refine r_iconst 1 rfl ?_
    refine q_iadd (i.toInt + 1) rfl hx_1 (fun v243 hv243 => ?_)
    refine q_scald (m := L) hL (i.toInt + 1) hv243 hy_1 (fun v244 hv244 => ?_)
    have sv244 := hv2.symm.trans hv244
    subst sv244
    refine r_sload_n e0 ?_
    refine r_iload_n e3 ?_
    refine r_iconst 2 rfl ?_
    refine q_iadd (i.toInt + 2) rfl hx_2 (fun v245 hv245 => ?_)
    refine q_scald (m := L) hL (i.toInt + 2) hv245 hy_2 (fun v246 hv246 => ?_)
    have sv246 := hv4.symm.trans hv246
    subst sv246
    refine r_sload_n e0 ?_
    refine r_iload_n e3 ?_
    refine r_iconst 3 rfl ?_
    refine q_iadd (i.toInt + 3) rfl hx_3 (fun v247 hv247 => ?_)
    refine q_scald (m := L) hL (i.toInt + 3) hv247 hy_3 (fun v248 hv248 => ?_)
    have sv248 := hv6.symm.trans hv248
    subst sv248
    refine r_sload_n e0 ?_
    refine r_iload_n e3 ?_
    refine r_iconst 4 rfl ?_
    refine q_iadd (i.toInt + 4) rfl hx_4 (fun v249 hv249 => ?_)
    refine q_scald (m := L) hL (i.toInt + 4) hv249 hy_4 (fun v250 hv250 => ?_)
    have sv250 := hv8.symm.trans hv250
    subst sv250
    refine r_sload_n e0 ?_
    refine r_iload_n e3 ?_
    refine r_iconst 5 rfl ?_
    refine q_iadd (i.toInt + 5) rfl hx_5 (fun v251 hv251 => ?_)
    refine q_scald (m := L) hL (i.toInt + 5) hv251 hy_5 (fun v252 hv252 => ?_)
    have sv252 := hv10.symm.trans hv252
    subst sv252
    refine r_sload_n e0 ?_
    refine r_iload_n e3 ?_
    refine r_bipush 6 rfl ?_
    refine q_iadd (i.toInt + 6) rfl hx_6 (fun v253 hv253 => ?_)
    refine q_scald (m := L) hL (i.toInt + 6) hv253 hy_6 (fun v254 hv254 => ?_)
    have sv254 := hv12.symm.trans hv254
    subst sv254
    refine r_callV 398 rfl [.ref 231, .int v2, .int v4, .int v6, .int v8, .int v10, .int v12] [] (Nat.le_of_ble_eq_true rfl) rfl (T_X11_load_231 _ hI175 v2 v4 v6 v8 v10 v12) ?_
    rintro _ _ ⟨g255, rfl, hI256, hF257, v258, rfl, hr259⟩
    refine At.sti ?_
    have hF260 := Fr.tr hF179 hF257 rfl rfl
    have su261 := hr259.2.2
    obtain ⟨q262, q263, q264, q265, q266⟩ := (And.intro hr259.1 hr259.2.1)
    have ek278 : (eA g174 233 0).toInt = (gI g0 1 0).toInt := (eA_ti (j := 0) (hF176.2.1 233 (by decide))).trans hR_0.symm
    have ek279 : (eA g174 233 1).toInt = (gI g0 1 4).toInt := (eA_ti (j := 1) (hF176.2.1 233 (by decide))).trans hR_4.symm
    obtain ⟨i268, i269, i270, i271, sm272, sm273, sm274, sm275, sm276, sm277⟩ := q263
    have w267 := i269 ⟨pk13.1, (by rw [ek278]; exact pk13.2)⟩
    clear i268 i269 i270 i271
    have f280 := congrArg Int32.toInt (hF257.1 1 0 rfl)
    have f281 := congrArg Int32.toInt (hF257.1 1 12 rfl)
    have f282 := congrArg Int32.toInt (hF257.1 1 10 rfl)
    have f283 := congrArg Int32.toInt (hF257.1 1 11 rfl)
    have f284 := congrArg Int32.toInt (hF257.1 1 4 rfl)
    have f285 := congrArg Int32.toInt (hF257.1 1 6 rfl)
    have f286 := congrArg Int32.toInt (hF257.1 1 9 rfl)
    have f287 := congrArg Int32.toInt (hF257.1 59 0 rfl)
    have f288 := congrArg Int32.toInt (hF257.1 59 12 rfl)
    have f289 := congrArg Int32.toInt (hF257.1 59 10 rfl)
    have f290 := congrArg Int32.toInt (hF257.1 59 11 rfl)
    have f291 := congrArg Int32.toInt (hF257.1 59 4 rfl)
    have f292 := congrArg Int32.toInt (hF257.1 59 6 rfl)
    have f293 := congrArg Int32.toInt (hF257.1 59 9 rfl)
    have f294 := congrArg Int32.toInt (hF257.1 116 0 rfl)
    have f295 := congrArg Int32.toInt (hF257.1 116 12 rfl)
    have f296 := congrArg Int32.toInt (hF257.1 116 10 rfl)
    have f297 := congrArg Int32.toInt (hF257.1 116 11 rfl)
    have f298 := congrArg Int32.toInt (hF257.1 116 4 rfl)
    have f299 := congrArg Int32.toInt (hF257.1 116 6 rfl)
    have f300 := congrArg Int32.toInt (hF257.1 116 9 rfl)
    have f301 := congrArg Int32.toInt (eA_c (j := 0) (hF257.2.1 173 rfl))
    have f302 := congrArg Int32.toInt (eA_c (j := 1) (hF257.2.1 173 rfl))
    have f303 := congrArg Int32.toInt (hF257.1 174 1 rfl)
    have f304 := congrArg Int32.toInt (hF257.1 0 16 rfl)
    have f305 := congrArg Int32.toInt (hF257.1 176 2 rfl)
    have f306 := congrArg Int32.toInt (hF257.1 0 17 rfl)
    have f314 := congrArg Int32.toInt (eA_c (j := 0) (hF257.2.1 234 rfl))
    have f315 := congrArg Int32.toInt (eA_c (j := 4) (hF257.2.1 234 rfl))
    have f316 := congrArg Int32.toInt (eA_c (j := 5) (hF257.2.1 234 rfl))
    have f317 := congrArg Int32.toInt (eA_c (j := 6) (hF257.2.1 234 rfl))
    have f318 := congrArg Int32.toInt (eA_c (j := 1) (hF257.2.1 234 rfl))
    have f319 := congrArg Int32.toInt (eA_c (j := 2) (hF257.2.1 234 rfl))
    have f320 := congrArg Int32.toInt (eA_c (j := 3) (hF257.2.1 234 rfl))
    have f321 := congrArg Int32.toInt (eA_c (j := 5510) (hF257.2.1 234 rfl))
    have f322 := congrArg Int32.toInt (eA_c (j := 5514) (hF257.2.1 234 rfl))
    have f323 := congrArg Int32.toInt (eA_c (j := 5515) (hF257.2.1 234 rfl))
    have f324 := congrArg Int32.toInt (eA_c (j := 5516) (hF257.2.1 234 rfl))
    have f325 := congrArg Int32.toInt (eA_c (j := 5511) (hF257.2.1 234 rfl))
    have f326 := congrArg Int32.toInt (eA_c (j := 5512) (hF257.2.1 234 rfl))
    have f327 := congrArg Int32.toInt (eA_c (j := 5513) (hF257.2.1 234 rfl))
    have f328 := congrArg Int32.toInt (eA_c (j := 0) (hF257.2.1 235 rfl))
    have f329 := congrArg Int32.toInt (eA_c (j := 1) (hF257.2.1 235 rfl))
    have f330 := congrArg Int32.toInt (hF257.1 231 8 rfl)
    have f331 := congrArg Int32.toInt (hF257.1 231 6 rfl)
    have f332 := congrArg Int32.toInt (hF257.1 231 13 rfl)
    refine At.enter rfl ?_
    refine r_pop rfl ?_
    refine r_goto ?_
    have zr : v177.toInt = v258.toInt := by
      apply Decidable.byContradiction
      intro hne
      exfalso
      omega
    have zsu := SU.eq su180 su261 zr
    exact K _ hI256 (show LwR _ from ⟨by first | (clear f190 f191 f192 f194 f195 f196 f197 f198 f199 f200 f201 f202 f203 f204 f205 f206 f207 f208 f209 f210 f211 f212 f213 f214 f217 f218 f219 f220 f221 f222 f223 f224 f225 f226 f227 f228 f229 f230 f231 f232 f233 f234 f235 f236 f237 f238 f239 f240 f241 f242 f281 f282 f283 f284 f285 f286 f287 f288 f289 f290 f291 f292 f293 f294 f295 f296 f297 f298 f299 f300 f301 f302 f303 f304 f305 f306 f314 f315 f316 f317 f318 f319 f320 f321 f322 f323 f324 f325 f326 f327 f328 f329 f330 f331 f332; omega) | omega, by first | (clear f189 f191 f192 f194 f195 f196 f197 f198 f199 f200 f201 f202 f203 f204 f205 f206 f207 f208 f209 f210 f211 f212 f213 f214 f216 f218 f219 f220 f221 f222 f223 f224 f225 f226 f227 f228 f229 f230 f231 f232 f233 f234 f235 f236 f237 f238 f239 f240 f241 f242 f280 f282 f283 f284 f285 f286 f287 f288 f289 f290 f291 f292 f293 f294 f295 f296 f297 f298 f299 f300 f301 f302 f303 f304 f305 f306 f314 f315 f316 f317 f318 f319 f320 f321 f322 f323 f324 f325 f326 f327 f328 f329 f330 f331 f332; omega) | omega, by first | (clear f189 f190 f192 f194 f195 f196 f197 f198 f199 f200 f201 f202 f203 f204 f205 f206 f207 f208 f209 f210 f211 f212 f213 f214 f216 f217 f219 f220 f221 f222 f223 f224 f225 f226 f227 f228 f229 f230 f231 f232 f233 f234 f235 f236 f237 f238 f239 f240 f241 f242 f280 f281 f283 f284 f285 f286 f287 f288 f289 f290 f291 f292 f293 f294 f295 f296 f297 f298 f299 f300 f301 f302 f303 f304 f305 f306 f314 f315 f316 f317 f318 f319 f320 f321 f322 f323 f324 f325 f326 f327 f328 f329 f330 f331 f332; omega) | omega, by first | (clear f189 f190 f191 f194 f195 f196 f197 f198 f199 f200 f201 f202 f203 f204 f205 f206 f207 f208 f209 f210 f211 f212 f213 f214 f216 f217 f218 f220 f221 f222 f223 f224 f225 f226 f227 f228 f229 f230 f231 f232 f233 f234 f235 f236 f237 f238 f239 f240 f241 f242 f280 f281 f282 f284 f285 f286 f287 f288 f289 f290 f291 f292 f293 f294 f295 f296 f297 f298 f299 f300 f301 f302 f303 f304 f305 f306 f314 f315 f316 f317 f318 f319 f320 f321 f322 f323 f324 f325 f326 f327 f328 f329 f330 f331 f332; omega) | omega, by first | (clear f189 f190 f191 f192 f194 f195 f196 f197 f198 f199 f200 f201 f202 f203 f204 f205 f206 f207 f208 f209 f210 f211 f212 f213 f214 f216 f217 f218 f219 f221 f222 f223 f224 f225 f226 f227 f228 f229 f230 f231 f232 f233 f234 f235 f236 f237 f238 f239 f240 f241 f242 f280 f281 f282 f283 f285 f286 f287 f288 f289 f290 f291 f292 f293 f294 f295 f296 f297 f298 f299 f300 f301 f302 f303 f304 f305 f306 f314 f315 f316 f317 f318 f319 f320 f321 f322 f323 f324 f325 f326 f327 f328 f329 f330 f331 f332; omega) | omega, by first | (clear f189 f190 f191 f192 f195 f196 f197 f198 f199 f200 f201 f202 f203 f204 f205 f206 f207 f208 f209 f210 f211 f212 f213 f214 f216 f217 f218 f219 f220 f222 f223 f224 f225 f226 f227 f228 f229 f230 f231 f232 f233 f234 f235 f236 f237 f238 f239 f240 f241 f242 f280 f281 f282 f283 f284 f286 f287 f288 f289 f290 f291 f292 f293 f294 f295 f296 f297 f298 f299 f300 f301 f302 f303 f304 f305 f306 f314 f315 f316 f317 f318 f319 f320 f321 f322 f323 f324 f325 f326 f327 f328 f329 f330 f331 f332; omega) | omega, by first | (clear f189 f190 f191 f192 f194 f196 f197 f198 f199 f200 f201 f202 f203 f204 f205 f206 f207 f208 f209 f210 f211 f212 f213 f214 f216 f217 f218 f219 f220 f221 f223 f224 f225 f226 f227 f228 f229 f230 f231 f232 f233 f234 f235 f236 f237 f238 f239 f240 f241 f242 f280 f281 f282 f283 f284 f285 f287 f288 f289 f290 f291 f292 f293 f294 f295 f296 f297 f298 f299 f300 f301 f302 f303 f304 f305 f306 f314 f315 f316 f317 f318 f319 f320 f321 f322 f323 f324 f325 f326 f327 f328 f329 f330 f331 f332; omega) | omega, (eA_ti (j := 0) (((hF257.2.1 173 (by decide)).trans (hF176.2.1 173 (by decide))))).trans (hR_7.trans (eA_ti (j := 0) (((hF257.2.1 235 (by decide)).trans (hF176.2.1 235 (by decide))))).symm), (eA_ti (j := 1) (((hF257.2.1 173 (by decide)).trans (hF176.2.1 173 (by decide))))).trans (hR_8.trans (eA_ti (j := 1) (((hF257.2.1 235 (by decide)).trans (hF176.2.1 235 (by decide))))).symm), (congrArg Int32.toInt (((hF257.1 174 1 (by decide)).trans (hF176.1 174 1 (by decide))))).trans (hR_9.trans (congrArg Int32.toInt (((hF257.1 231 8 (by decide)).trans (hF176.1 231 8 (by decide))))).symm), (congrArg Int32.toInt (((hF257.1 0 16 (by decide)).trans (hF176.1 0 16 (by decide))))).trans (hR_10.trans (congrArg Int32.toInt (((hF257.1 231 6 (by decide)).trans (hF176.1 231 6 (by decide))))).symm), (congrArg Int32.toInt (((hF257.1 176 2 (by decide)).trans (hF176.1 176 2 (by decide))))).trans (hR_11.trans (congrArg Int32.toInt (((hF257.1 231 13 (by decide)).trans (hF176.1 231 13 (by decide))))).symm), by first | (clear f189 f190 f191 f192 f194 f195 f196 f197 f198 f199 f200 f201 f202 f203 f204 f205 f206 f207 f208 f209 f210 f211 f212 f213 f214 f216 f217 f218 f219 f220 f221 f222 f223 f224 f225 f226 f227 f228 f229 f230 f231 f232 f233 f234 f235 f236 f237 f238 f239 f240 f241 f280 f281 f282 f283 f284 f285 f286 f287 f288 f289 f290 f291 f292 f293 f294 f295 f296 f297 f298 f299 f300 f301 f302 f303 f304 f305 f314 f315 f316 f317 f318 f319 f320 f321 f322 f323 f324 f325 f326 f327 f328 f329 f330 f331 f332; omega) | omega, IM0.cong hR_13 (eA_ti (j := 0) (((hF257.2.1 173 (by decide)).trans (hF176.2.1 173 (by decide))))) (congrArg Int32.toInt (((hF257.1 59 0 (by decide)).trans (hF176.1 59 0 (by decide))))) (eA_ti (j := 0) (((hF257.2.1 234 (by decide)).trans (hF176.2.1 234 (by decide))))) (congrArg Int32.toInt (((hF257.1 59 12 (by decide)).trans (hF176.1 59 12 (by decide))))) (eA_ti (j := 4) (((hF257.2.1 234 (by decide)).trans (hF176.2.1 234 (by decide))))) (congrArg Int32.toInt (((hF257.1 59 10 (by decide)).trans (hF176.1 59 10 (by decide))))) (eA_ti (j := 5) (((hF257.2.1 234 (by decide)).trans (hF176.2.1 234 (by decide))))) (congrArg Int32.toInt (((hF257.1 59 11 (by decide)).trans (hF176.1 59 11 (by decide))))) (eA_ti (j := 6) (((hF257.2.1 234 (by decide)).trans (hF176.2.1 234 (by decide))))) (congrArg Int32.toInt (((hF257.1 59 4 (by decide)).trans (hF176.1 59 4 (by decide))))) (eA_ti (j := 1) (((hF257.2.1 234 (by decide)).trans (hF176.2.1 234 (by decide))))) (congrArg Int32.toInt (((hF257.1 59 6 (by decide)).trans (hF176.1 59 6 (by decide))))) (eA_ti (j := 2) (((hF257.2.1 234 (by decide)).trans (hF176.2.1 234 (by decide))))) (congrArg Int32.toInt (((hF257.1 59 9 (by decide)).trans (hF176.1 59 9 (by decide))))) (eA_ti (j := 3) (((hF257.2.1 234 (by decide)).trans (hF176.2.1 234 (by decide))))), IM1.cong hR_14 (eA_ti (j := 1) (((hF257.2.1 173 (by decide)).trans (hF176.2.1 173 (by decide))))) (congrArg Int32.toInt (((hF257.1 116 0 (by decide)).trans (hF176.1 116 0 (by decide))))) (eA_ti (j := 5510) (((hF257.2.1 234 (by decide)).trans (hF176.2.1 234 (by decide))))) (congrArg Int32.toInt (((hF257.1 116 12 (by decide)).trans (hF176.1 116 12 (by decide))))) (eA_ti (j := 5514) (((hF257.2.1 234 (by decide)).trans (hF176.2.1 234 (by decide))))) (congrArg Int32.toInt (((hF257.1 116 10 (by decide)).trans (hF176.1 116 10 (by decide))))) (eA_ti (j := 5515) (((hF257.2.1 234 (by decide)).trans (hF176.2.1 234 (by decide))))) (congrArg Int32.toInt (((hF257.1 116 11 (by decide)).trans (hF176.1 116 11 (by decide))))) (eA_ti (j := 5516) (((hF257.2.1 234 (by decide)).trans (hF176.2.1 234 (by decide))))) (congrArg Int32.toInt (((hF257.1 116 4 (by decide)).trans (hF176.1 116 4 (by decide))))) (eA_ti (j := 5511) (((hF257.2.1 234 (by decide)).trans (hF176.2.1 234 (by decide))))) (congrArg Int32.toInt (((hF257.1 116 6 (by decide)).trans (hF176.1 116 6 (by decide))))) (eA_ti (j := 5512) (((hF257.2.1 234 (by decide)).trans (hF176.2.1 234 (by decide))))) (congrArg Int32.toInt (((hF257.1 116 9 (by decide)).trans (hF176.1 116 9 (by decide))))) (eA_ti (j := 5513) (((hF257.2.1 234 (by decide)).trans (hF176.2.1 234 (by decide))))), (show CT _ from ⟨fun i i0 i1 => ⟨(by first | (clear f196 f197 f198 f199 f200 f201 f202 f203 f204 f205 f206 f207 f208 f209 f212 f213 f214 f223 f224 f225 f226 f227 f228 f229 f230 f231 f232 f233 f234 f235 f236 f239 f240 f241 f242 f287 f288 f289 f290 f291 f292 f293 f294 f295 f296 f297 f298 f299 f300 f303 f304 f305 f306 f314 f315 f316 f317 f318 f319 f320 f321 f322 f323 f324 f325 f326 f327 f330 f331 f332; have t0_ := hI0.t0; have t1_ := hI0.t1; have o := (hR_15.1 i i0 i1).1; have x := eA_ti (j := i) (((hF257.2.1 2 (by decide)).trans (hF176.2.1 2 (by decide)))); have m := q264 (10 + 3 * i) (by omega) (by omega); have y1 := eA_ti (j := ((10 + 3 * i))) (hF176.2.1 233 (by decide)); first | exact x.trans (o.trans (m.trans y1).symm) | omega) | (have t0_ := hI0.t0; have t1_ := hI0.t1; have o := (hR_15.1 i i0 i1).1; have x := eA_ti (j := i) (((hF257.2.1 2 (by decide)).trans (hF176.2.1 2 (by decide)))); have m := q264 (10 + 3 * i) (by omega) (by omega); have y1 := eA_ti (j := ((10 + 3 * i))) (hF176.2.1 233 (by decide)); first | exact x.trans (o.trans (m.trans y1).symm) | omega)), (by first | (clear f196 f197 f198 f199 f200 f201 f202 f203 f204 f205 f206 f207 f208 f209 f212 f213 f214 f223 f224 f225 f226 f227 f228 f229 f230 f231 f232 f233 f234 f235 f236 f239 f240 f241 f242 f287 f288 f289 f290 f291 f292 f293 f294 f295 f296 f297 f298 f299 f300 f303 f304 f305 f306 f314 f315 f316 f317 f318 f319 f320 f321 f322 f323 f324 f325 f326 f327 f330 f331 f332; have t0_ := hI0.t0; have t1_ := hI0.t1; have o := (hR_15.1 i i0 i1).2.1; have x := eA_ti (j := i) (((hF257.2.1 3 (by decide)).trans (hF176.2.1 3 (by decide)))); have m := q264 (10 + 3 * i + 1) (by omega) (by omega); have y1 := eA_ti (j := ((10 + 3 * i + 1))) (hF176.2.1 233 (by decide)); first | exact x.trans (o.trans (m.trans y1).symm) | omega) | (have t0_ := hI0.t0; have t1_ := hI0.t1; have o := (hR_15.1 i i0 i1).2.1; have x := eA_ti (j := i) (((hF257.2.1 3 (by decide)).trans (hF176.2.1 3 (by decide)))); have m := q264 (10 + 3 * i + 1) (by omega) (by omega); have y1 := eA_ti (j := ((10 + 3 * i + 1))) (hF176.2.1 233 (by decide)); first | exact x.trans (o.trans (m.trans y1).symm) | omega)), (by first | (clear f196 f197 f198 f199 f200 f201 f202 f203 f204 f205 f206 f207 f208 f209 f212 f213 f214 f223 f224 f225 f226 f227 f228 f229 f230 f231 f232 f233 f234 f235 f236 f239 f240 f241 f242 f287 f288 f289 f290 f291 f292 f293 f294 f295 f296 f297 f298 f299 f300 f303 f304 f305 f306 f314 f315 f316 f317 f318 f319 f320 f321 f322 f323 f324 f325 f326 f327 f330 f331 f332; have t0_ := hI0.t0; have t1_ := hI0.t1; have o := (hR_15.1 i i0 i1).2.2; have x := eA_ti (j := i) (((hF257.2.1 4 (by decide)).trans (hF176.2.1 4 (by decide)))); have m := q264 (10 + 3 * i + 2) (by omega) (by omega); have y1 := eA_ti (j := ((10 + 3 * i + 2))) (hF176.2.1 233 (by decide)); first | exact x.trans (o.trans (m.trans y1).symm) | omega) | (have t0_ := hI0.t0; have t1_ := hI0.t1; have o := (hR_15.1 i i0 i1).2.2; have x := eA_ti (j := i) (((hF257.2.1 4 (by decide)).trans (hF176.2.1 4 (by decide)))); have m := q264 (10 + 3 * i + 2) (by omega) (by omega); have y1 := eA_ti (j := ((10 + 3 * i + 2))) (hF176.2.1 233 (by decide)); first | exact x.trans (o.trans (m.trans y1).symm) | omega))⟩, fun i i0 i1 => ⟨(by first | (clear f196 f197 f198 f199 f200 f201 f202 f203 f204 f205 f206 f207 f208 f209 f212 f213 f214 f223 f224 f225 f226 f227 f228 f229 f230 f231 f232 f233 f234 f235 f236 f239 f240 f241 f242 f287 f288 f289 f290 f291 f292 f293 f294 f295 f296 f297 f298 f299 f300 f303 f304 f305 f306 f314 f315 f316 f317 f318 f319 f320 f321 f322 f323 f324 f325 f326 f327 f330 f331 f332; have t0_ := hI0.t0; have t1_ := hI0.t1; have o := (hR_15.2.1 i i0 i1).1; have x := eA_ti (j := i) (((hF257.2.1 14 (by decide)).trans (hF176.2.1 14 (by decide)))); have m := q265 (94 + 2 * i) (by omega) (by omega); have y1 := eA_ti (j := ((94 + 2 * i))) (hF176.2.1 233 (by decide)); first | exact x.trans (o.trans (m.trans y1).symm) | omega) | (have t0_ := hI0.t0; have t1_ := hI0.t1; have o := (hR_15.2.1 i i0 i1).1; have x := eA_ti (j := i) (((hF257.2.1 14 (by decide)).trans (hF176.2.1 14 (by decide)))); have m := q265 (94 + 2 * i) (by omega) (by omega); have y1 := eA_ti (j := ((94 + 2 * i))) (hF176.2.1 233 (by decide)); first | exact x.trans (o.trans (m.trans y1).symm) | omega)), (by first | (clear f196 f197 f198 f199 f200 f201 f202 f203 f204 f205 f206 f207 f208 f209 f212 f213 f214 f223 f224 f225 f226 f227 f228 f229 f230 f231 f232 f233 f234 f235 f236 f239 f240 f241 f242 f287 f288 f289 f290 f291 f292 f293 f294 f295 f296 f297 f298 f299 f300 f303 f304 f305 f306 f314 f315 f316 f317 f318 f319 f320 f321 f322 f323 f324 f325 f326 f327 f330 f331 f332; have t0_ := hI0.t0; have t1_ := hI0.t1; have o := (hR_15.2.1 i i0 i1).2; have x := eA_ti (j := i) (((hF257.2.1 15 (by decide)).trans (hF176.2.1 15 (by decide)))); have m := q265 (94 + 2 * i + 1) (by omega) (by omega); have y1 := eA_ti (j := ((94 + 2 * i + 1))) (hF176.2.1 233 (by decide)); first | exact x.trans (o.trans (m.trans y1).symm) | omega) | (have t0_ := hI0.t0; have t1_ := hI0.t1; have o := (hR_15.2.1 i i0 i1).2; have x := eA_ti (j := i) (((hF257.2.1 15 (by decide)).trans (hF176.2.1 15 (by decide)))); have m := q265 (94 + 2 * i + 1) (by omega) (by omega); have y1 := eA_ti (j := ((94 + 2 * i + 1))) (hF176.2.1 233 (by decide)); first | exact x.trans (o.trans (m.trans y1).symm) | omega))⟩, fun i i0 i1 => (by first | (clear f196 f197 f198 f199 f200 f201 f202 f203 f204 f205 f206 f207 f208 f209 f212 f213 f214 f223 f224 f225 f226 f227 f228 f229 f230 f231 f232 f233 f234 f235 f236 f239 f240 f241 f242 f287 f288 f289 f290 f291 f292 f293 f294 f295 f296 f297 f298 f299 f300 f303 f304 f305 f306 f314 f315 f316 f317 f318 f319 f320 f321 f322 f323 f324 f325 f326 f327 f330 f331 f332; have t0_ := hI0.t0; have t1_ := hI0.t1; have o : i < 6 * (gI g0 1 4).toInt → _ := fun hz => hR_15.2.2 i i0 hz; have t9_ := RgF.at hI256.2.1 (p := 1) (b := 4) rfl; dsimp only at t9_; have i9_ : i < 48 := (by omega); have x := (eA_ti (j := i) (hF257.2.1 5 (by decide))).trans (q183 i i0 i9_); have m := q266 (46 + i) (by omega) (by omega); have y1 := eA_ti (j := ((46 + i))) (hF176.2.1 233 (by decide)); have ek0 : (eA g174 233 0).toInt = (gI g0 1 0).toInt := (eA_ti (j := 0) (hF176.2.1 233 (by decide))).trans hR_0.symm; have ek1 : (eA g174 233 1).toInt = (gI g0 1 4).toInt := (eA_ti (j := 1) (hF176.2.1 233 (by decide))).trans hR_4.symm; have eC : ((1 ≤ v2.toInt ∧ v2.toInt ≤ 9 ∧ 0 ≤ v8.toInt ∧ v8.toInt ≤ 99 ∧ 0 ≤ v10.toInt ∧ v10.toInt ≤ 9 ∧ 0 ≤ v12.toInt ∧ v12.toInt ≤ 9999) ∧ (0 ≤ v4.toInt ∧ v4.toInt < (eA g174 233 0).toInt ∧ 0 ≤ v6.toInt ∧ v6.toInt < (eA g174 233 0).toInt) ∧ (eA g174 233 1).toInt < 8) = ((1 ≤ v2.toInt ∧ v2.toInt ≤ 9 ∧ 0 ≤ v8.toInt ∧ v8.toInt ≤ 99 ∧ 0 ≤ v10.toInt ∧ v10.toInt ≤ 9 ∧ 0 ≤ v12.toInt ∧ v12.toInt ≤ 9999) ∧ (0 ≤ v4.toInt ∧ v4.toInt < (gI g0 1 0).toInt ∧ 0 ≤ v6.toInt ∧ v6.toInt < (gI g0 1 0).toInt) ∧ (gI g0 1 4).toInt < 8) := (by rw [ek0, ek1]); have k : ¬ ((1 ≤ v2.toInt ∧ v2.toInt ≤ 9 ∧ 0 ≤ v8.toInt ∧ v8.toInt ≤ 99 ∧ 0 ≤ v10.toInt ∧ v10.toInt ≤ 9 ∧ 0 ≤ v12.toInt ∧ v12.toInt ≤ 9999) ∧ (0 ≤ v4.toInt ∧ v4.toInt < (gI g0 1 0).toInt ∧ 0 ≤ v6.toInt ∧ v6.toInt < (gI g0 1 0).toInt) ∧ (gI g0 1 4).toInt < 8) := (fun z => absurd z.2.1 pk13.2); have k2 : ¬ ((1 ≤ v2.toInt ∧ v2.toInt ≤ 9 ∧ 0 ≤ v8.toInt ∧ v8.toInt ≤ 99 ∧ 0 ≤ v10.toInt ∧ v10.toInt ≤ 9 ∧ 0 ≤ v12.toInt ∧ v12.toInt ≤ 9999) ∧ (0 ≤ v4.toInt ∧ v4.toInt < (eA g174 233 0).toInt ∧ 0 ≤ v6.toInt ∧ v6.toInt < (eA g174 233 0).toInt) ∧ (eA g174 233 1).toInt < 8) := fun z => k (eC.mp z); rw [ite_an k, ite_an k, ite_an k, ite_an k, ite_an k, ite_an k] at x; rw [ite_an k2, ite_an k2, ite_an k2, ite_an k2, ite_an k2, ite_an k2] at m; clear eC k2 k; omega) | (have t0_ := hI0.t0; have t1_ := hI0.t1; have o : i < 6 * (gI g0 1 4).toInt → _ := fun hz => hR_15.2.2 i i0 hz; have t9_ := RgF.at hI256.2.1 (p := 1) (b := 4) rfl; dsimp only at t9_; have i9_ : i < 48 := (by omega); have x := (eA_ti (j := i) (hF257.2.1 5 (by decide))).trans (q183 i i0 i9_); have m := q266 (46 + i) (by omega) (by omega); have y1 := eA_ti (j := ((46 + i))) (hF176.2.1 233 (by decide)); have ek0 : (eA g174 233 0).toInt = (gI g0 1 0).toInt := (eA_ti (j := 0) (hF176.2.1 233 (by decide))).trans hR_0.symm; have ek1 : (eA g174 233 1).toInt = (gI g0 1 4).toInt := (eA_ti (j := 1) (hF176.2.1 233 (by decide))).trans hR_4.symm; have eC : ((1 ≤ v2.toInt ∧ v2.toInt ≤ 9 ∧ 0 ≤ v8.toInt ∧ v8.toInt ≤ 99 ∧ 0 ≤ v10.toInt ∧ v10.toInt ≤ 9 ∧ 0 ≤ v12.toInt ∧ v12.toInt ≤ 9999) ∧ (0 ≤ v4.toInt ∧ v4.toInt < (eA g174 233 0).toInt ∧ 0 ≤ v6.toInt ∧ v6.toInt < (eA g174 233 0).toInt) ∧ (eA g174 233 1).toInt < 8) = ((1 ≤ v2.toInt ∧ v2.toInt ≤ 9 ∧ 0 ≤ v8.toInt ∧ v8.toInt ≤ 99 ∧ 0 ≤ v10.toInt ∧ v10.toInt ≤ 9 ∧ 0 ≤ v12.toInt ∧ v12.toInt ≤ 9999) ∧ (0 ≤ v4.toInt ∧ v4.toInt < (gI g0 1 0).toInt ∧ 0 ≤ v6.toInt ∧ v6.toInt < (gI g0 1 0).toInt) ∧ (gI g0 1 4).toInt < 8) := (by rw [ek0, ek1]); have k : ¬ ((1 ≤ v2.toInt ∧ v2.toInt ≤ 9 ∧ 0 ≤ v8.toInt ∧ v8.toInt ≤ 99 ∧ 0 ≤ v10.toInt ∧ v10.toInt ≤ 9 ∧ 0 ≤ v12.toInt ∧ v12.toInt ≤ 9999) ∧ (0 ≤ v4.toInt ∧ v4.toInt < (gI g0 1 0).toInt ∧ 0 ≤ v6.toInt ∧ v6.toInt < (gI g0 1 0).toInt) ∧ (gI g0 1 4).toInt < 8) := (fun z => absurd z.2.1 pk13.2); have k2 : ¬ ((1 ≤ v2.toInt ∧ v2.toInt ≤ 9 ∧ 0 ≤ v8.toInt ∧ v8.toInt ≤ 99 ∧ 0 ≤ v10.toInt ∧ v10.toInt ≤ 9 ∧ 0 ≤ v12.toInt ∧ v12.toInt ≤ 9999) ∧ (0 ≤ v4.toInt ∧ v4.toInt < (eA g174 233 0).toInt ∧ 0 ≤ v6.toInt ∧ v6.toInt < (eA g174 233 0).toInt) ∧ (eA g174 233 1).toInt < 8) := fun z => k (eC.mp z); rw [ite_an k, ite_an k, ite_an k, ite_an k, ite_an k, ite_an k] at x; rw [ite_an k2, ite_an k2, ite_an k2, ite_an k2, ite_an k2, ite_an k2] at m; clear eC k2 k; omega))⟩), CI0.cong hR_16 (((hF257.2.1 60 (by decide)).trans (hF176.2.1 60 (by decide)))) (((hF257.2.1 61 (by decide)).trans (hF176.2.1 61 (by decide)))) (((hF257.2.1 62 (by decide)).trans (hF176.2.1 62 (by decide)))) (((hF257.2.1 72 (by decide)).trans (hF176.2.1 72 (by decide)))) (((hF257.2.1 73 (by decide)).trans (hF176.2.1 73 (by decide)))) (((hF257.2.1 63 (by decide)).trans (hF176.2.1 63 (by decide)))) (((hF257.2.1 234 (by decide)).trans (hF176.2.1 234 (by decide)))) (congrArg Int32.toInt (((hF257.1 59 4 (by decide)).trans (hF176.1 59 4 (by decide))))), CI1.cong hR_17 (((hF257.2.1 117 (by decide)).trans (hF176.2.1 117 (by decide)))) (((hF257.2.1 118 (by decide)).trans (hF176.2.1 118 (by decide)))) (((hF257.2.1 119 (by decide)).trans (hF176.2.1 119 (by decide)))) (((hF257.2.1 129 (by decide)).trans (hF176.2.1 129 (by decide)))) (((hF257.2.1 130 (by decide)).trans (hF176.2.1 130 (by decide)))) (((hF257.2.1 120 (by decide)).trans (hF176.2.1 120 (by decide)))) (((hF257.2.1 234 (by decide)).trans (hF176.2.1 234 (by decide)))) (congrArg Int32.toInt (((hF257.1 116 4 (by decide)).trans (hF176.1 116 4 (by decide))))), (show RT _ from fun i i0 i1 => (eA_ti (((hF257.2.1 175 (by decide)).trans (hF176.2.1 175 (by decide))))).trans ((hR_18 i i0 (by omega)).trans (eA_ti (((hF257.2.1 236 (by decide)).trans (hF176.2.1 236 (by decide))))).symm)), (show BYX _ from fun i i0 i1 => by rw [TX.c (((hF257.2.1 175 (by decide)).trans (hF176.2.1 175 (by decide))))]; exact hR_19 i i0 (by have i2 : i < (gI _ 174 1).toInt := i1; show i < (gI g0 174 1).toInt; omega))⟩)
  · refine r_callV 362 rfl [.ref 0, .int v2, .int v4, .int v6, .int v8, .int v10, .int v12] [] (Nat.le_of_ble_eq_true rfl) rfl (T_X10_load_0 _ hI0 v2 v4 v6 v8 v10 v12) ?_
    rintro _ _ ⟨g334, rfl, hI335, hF336, v337, rfl, hr338⟩
    refine At.sti ?_
    have hF339 := Fr.tr hF0 hF336 rfl rfl
    have su340 := hr338.2.2
    obtain ⟨q341, q342, q343⟩ := (And.intro hr338.1 hr338.2.1)
    obtain ⟨i345, i346, i347, i348⟩ := q342
    have w344 := i347 ⟨pk13.1, pk13.2.1, pk13.2.2⟩
    clear i345 i346 i347 i348
    have f349 := congrArg Int32.toInt (hF336.1 1 0 rfl)
    have f350 := congrArg Int32.toInt (hF336.1 1 12 rfl)
    have f351 := congrArg Int32.toInt (hF336.1 1 10 rfl)
    have f352 := congrArg Int32.toInt (hF336.1 1 11 rfl)
    have f354 := congrArg Int32.toInt (hF336.1 1 6 rfl)
    have f355 := congrArg Int32.toInt (hF336.1 1 9 rfl)
    have f356 := congrArg Int32.toInt (hF336.1 59 0 rfl)
    have f357 := congrArg Int32.toInt (hF336.1 59 12 rfl)
    have f358 := congrArg Int32.toInt (hF336.1 59 10 rfl)
    have f359 := congrArg Int32.toInt (hF336.1 59 11 rfl)
    have f360 := congrArg Int32.toInt (hF336.1 59 4 rfl)
    have f361 := congrArg Int32.toInt (hF336.1 59 6 rfl)
    have f362 := congrArg Int32.toInt (hF336.1 59 9 rfl)
    have f363 := congrArg Int32.toInt (hF336.1 116 0 rfl)
    have f364 := congrArg Int32.toInt (hF336.1 116 12 rfl)
    have f365 := congrArg Int32.toInt (hF336.1 116 10 rfl)
    have f366 := congrArg Int32.toInt (hF336.1 116 11 rfl)
    have f367 := congrArg Int32.toInt (hF336.1 116 4 rfl)
    have f368 := congrArg Int32.toInt (hF336.1 116 6 rfl)
    have f369 := congrArg Int32.toInt (hF336.1 116 9 rfl)
    have f370 := congrArg Int32.toInt (eA_c (j := 0) (hF336.2.1 173 rfl))
    have f371 := congrArg Int32.toInt (eA_c (j := 1) (hF336.2.1 173 rfl))
    have f372 := congrArg Int32.toInt (hF336.1 174 1 rfl)
    have f373 := congrArg Int32.toInt (hF336.1 0 16 rfl)
    have f374 := congrArg Int32.toInt (hF336.1 176 2 rfl)
    have f376 := congrArg Int32.toInt (eA_c (j := 0) (hF336.2.1 233 rfl))
    have f377 := congrArg Int32.toInt (eA_c (j := 4) (hF336.2.1 233 rfl))
    have f378 := congrArg Int32.toInt (eA_c (j := 5) (hF336.2.1 233 rfl))
    have f379 := congrArg Int32.toInt (eA_c (j := 6) (hF336.2.1 233 rfl))
    have f380 := congrArg Int32.toInt (eA_c (j := 1) (hF336.2.1 233 rfl))
    have f381 := congrArg Int32.toInt (eA_c (j := 2) (hF336.2.1 233 rfl))
    have f382 := congrArg Int32.toInt (eA_c (j := 3) (hF336.2.1 233 rfl))
    have f383 := congrArg Int32.toInt (eA_c (j := 0) (hF336.2.1 234 rfl))
    have f384 := congrArg Int32.toInt (eA_c (j := 4) (hF336.2.1 234 rfl))
    have f385 := congrArg Int32.toInt (eA_c (j := 5) (hF336.2.1 234 rfl))
    have f386 := congrArg Int32.toInt (eA_c (j := 6) (hF336.2.1 234 rfl))
    have f387 := congrArg Int32.toInt (eA_c (j := 1) (hF336.2.1 234 rfl))
    have f388 := congrArg Int32.toInt (eA_c (j := 2) (hF336.2.1 234 rfl))
    have f389 := congrArg Int32.toInt (eA_c (j := 3) (hF336.2.1 234 rfl))
    have f390 := congrArg Int32.toInt (eA_c (j := 5510) (hF336.2.1 234 rfl))
    have f391 := congrArg Int32.toInt (eA_c (j := 5514) (hF336.2.1 234 rfl))
    have f392 := congrArg Int32.toInt (eA_c (j := 5515) (hF336.2.1 234 rfl))
    have f393 := congrArg Int32.toInt (eA_c (j := 5516) (hF336.2.1 234 rfl))
    have f394 := congrArg Int32.toInt (eA_c (j := 5511) (hF336.2.1 234 rfl))
    have f395 := congrArg Int32.toInt (eA_c (j := 5512) (hF336.2.1 234 rfl))
    have f396 := congrArg Int32.toInt (eA_c (j := 5513) (hF336.2.1 234 rfl))
    have f397 := congrArg Int32.toInt (eA_c (j := 0) (hF336.2.1 235 rfl))
    have f398 := congrArg Int32.toInt (eA_c (j := 1) (hF336.2.1 235 rfl))
    have f399 := congrArg Int32.toInt (hF336.1 231 8 rfl)
    have f400 := congrArg Int32.toInt (hF336.1 231 6 rfl)
    have f401 := congrArg Int32.toInt (hF336.1 231 13 rfl)
    have f402 := congrArg Int32.toInt (hF336.1 231 1 rfl)
    refine At.enter rfl ?_
    refine r_pop rfl ?_
    refine r_aload_n e2 ?_
    refine r_sload_n e0 ?_
    refine r_iload_n e3 ?_
    refine r_iconst 1 rfl ?_
    refine q_iadd (i.toInt + 1) rfl hx_1 (fun v403 hv403 => ?_)
    refine q_scald (m := L) hL (i.toInt + 1) hv403 hy_1 (fun v404 hv404 => ?_)
    have sv404 := hv2.symm.trans hv404
    subst sv404
    refine r_sload_n e0 ?_
    refine r_iload_n e3 ?_
    refine r_iconst 2 rfl ?_
    refine q_iadd (i.toInt + 2) rfl hx_2 (fun v405 hv405 => ?_)
    refine q_scald (m := L) hL (i.toInt + 2) hv405 hy_2 (fun v406 hv406 => ?_)
    have sv406 := hv4.symm.trans hv406
    subst sv406
    refine r_sload_n e0 ?_
    refine r_iload_n e3 ?_
    refine r_iconst 3 rfl ?_
    refine q_iadd (i.toInt + 3) rfl hx_3 (fun v407 hv407 => ?_)
    refine q_scald (m := L) hL (i.toInt + 3) hv407 hy_3 (fun v408 hv408 => ?_)
    have sv408 := hv6.symm.trans hv408
    subst sv408
    refine r_sload_n e0 ?_
    refine r_iload_n e3 ?_
    refine r_iconst 4 rfl ?_
    refine q_iadd (i.toInt + 4) rfl hx_4 (fun v409 hv409 => ?_)
    refine q_scald (m := L) hL (i.toInt + 4) hv409 hy_4 (fun v410 hv410 => ?_)
    have sv410 := hv8.symm.trans hv410
    subst sv410
    refine r_sload_n e0 ?_
    refine r_iload_n e3 ?_
    refine r_iconst 5 rfl ?_
    refine q_iadd (i.toInt + 5) rfl hx_5 (fun v411 hv411 => ?_)
    refine q_scald (m := L) hL (i.toInt + 5) hv411 hy_5 (fun v412 hv412 => ?_)
    have sv412 := hv10.symm.trans hv412
    subst sv412
    refine r_sload_n e0 ?_
    refine r_iload_n e3 ?_
    refine r_bipush 6 rfl ?_
    refine q_iadd (i.toInt + 6) rfl hx_6 (fun v413 hv413 => ?_)
    refine q_scald (m := L) hL (i.toInt + 6) hv413 hy_6 (fun v414 hv414 => ?_)
    have sv414 := hv12.symm.trans hv414
    subst sv414
    refine r_callV 398 rfl [.ref 231, .int v2, .int v4, .int v6, .int v8, .int v10, .int v12] [] (Nat.le_of_ble_eq_true rfl) rfl (T_X11_load_231 _ hI335 v2 v4 v6 v8 v10 v12) ?_
    rintro _ _ ⟨g415, rfl, hI416, hF417, v418, rfl, hr419⟩
    refine At.sti ?_
    have hF420 := Fr.tr hF339 hF417 rfl rfl
    have su421 := hr419.2.2
    obtain ⟨q422, q423, q424, q425, q426⟩ := (And.intro hr419.1 hr419.2.1)
    have ek438 : (eA g334 233 0).toInt = (gI g0 1 0).toInt := (eA_ti (j := 0) (hF336.2.1 233 (by decide))).trans hR_0.symm
    have ek439 : (eA g334 233 1).toInt = (gI g0 1 4).toInt := (eA_ti (j := 1) (hF336.2.1 233 (by decide))).trans hR_4.symm
    obtain ⟨i428, i429, i430, i431, sm432, sm433, sm434, sm435, sm436, sm437⟩ := q423
    have w427 := i430 ⟨pk13.1, (by rw [ek438]; exact pk13.2.1), (by rw [ek439]; exact pk13.2.2)⟩
    clear i428 i429 i430 i431
    have f440 := congrArg Int32.toInt (hF417.1 1 0 rfl)
    have f441 := congrArg Int32.toInt (hF417.1 1 12 rfl)
    have f442 := congrArg Int32.toInt (hF417.1 1 10 rfl)
    have f443 := congrArg Int32.toInt (hF417.1 1 11 rfl)
    have f444 := congrArg Int32.toInt (hF417.1 1 4 rfl)
    have f445 := congrArg Int32.toInt (hF417.1 1 6 rfl)
    have f446 := congrArg Int32.toInt (hF417.1 1 9 rfl)
    have f447 := congrArg Int32.toInt (hF417.1 59 0 rfl)
    have f448 := congrArg Int32.toInt (hF417.1 59 12 rfl)
    have f449 := congrArg Int32.toInt (hF417.1 59 10 rfl)
    have f450 := congrArg Int32.toInt (hF417.1 59 11 rfl)
    have f451 := congrArg Int32.toInt (hF417.1 59 4 rfl)
    have f452 := congrArg Int32.toInt (hF417.1 59 6 rfl)
    have f453 := congrArg Int32.toInt (hF417.1 59 9 rfl)
    have f454 := congrArg Int32.toInt (hF417.1 116 0 rfl)
    have f455 := congrArg Int32.toInt (hF417.1 116 12 rfl)
    have f456 := congrArg Int32.toInt (hF417.1 116 10 rfl)
    have f457 := congrArg Int32.toInt (hF417.1 116 11 rfl)
    have f458 := congrArg Int32.toInt (hF417.1 116 4 rfl)
    have f459 := congrArg Int32.toInt (hF417.1 116 6 rfl)
    have f460 := congrArg Int32.toInt (hF417.1 116 9 rfl)
    have f461 := congrArg Int32.toInt (eA_c (j := 0) (hF417.2.1 173 rfl))
    have f462 := congrArg Int32.toInt (eA_c (j := 1) (hF417.2.1 173 rfl))
    have f463 := congrArg Int32.toInt (hF417.1 174 1 rfl)
    have f464 := congrArg Int32.toInt (hF417.1 0 16 rfl)
    have f465 := congrArg Int32.toInt (hF417.1 176 2 rfl)
    have f466 := congrArg Int32.toInt (hF417.1 0 17 rfl)
    have f474 := congrArg Int32.toInt (eA_c (j := 0) (hF417.2.1 234 rfl))
    have f475 := congrArg Int32.toInt (eA_c (j := 4) (hF417.2.1 234 rfl))
    have f476 := congrArg Int32.toInt (eA_c (j := 5) (hF417.2.1 234 rfl))
    have f477 := congrArg Int32.toInt (eA_c (j := 6) (hF417.2.1 234 rfl))
    have f478 := congrArg Int32.toInt (eA_c (j := 1) (hF417.2.1 234 rfl))
    have f479 := congrArg Int32.toInt (eA_c (j := 2) (hF417.2.1 234 rfl))
    have f480 := congrArg Int32.toInt (eA_c (j := 3) (hF417.2.1 234 rfl))
    have f481 := congrArg Int32.toInt (eA_c (j := 5510) (hF417.2.1 234 rfl))
    have f482 := congrArg Int32.toInt (eA_c (j := 5514) (hF417.2.1 234 rfl))
    have f483 := congrArg Int32.toInt (eA_c (j := 5515) (hF417.2.1 234 rfl))
    have f484 := congrArg Int32.toInt (eA_c (j := 5516) (hF417.2.1 234 rfl))
    have f485 := congrArg Int32.toInt (eA_c (j := 5511) (hF417.2.1 234 rfl))
    have f486 := congrArg Int32.toInt (eA_c (j := 5512) (hF417.2.1 234 rfl))
    have f487 := congrArg Int32.toInt (eA_c (j := 5513) (hF417.2.1 234 rfl))
    have f488 := congrArg Int32.toInt (eA_c (j := 0) (hF417.2.1 235 rfl))
    have f489 := congrArg Int32.toInt (eA_c (j := 1) (hF417.2.1 235 rfl))
    have f490 := congrArg Int32.toInt (hF417.1 231 8 rfl)
    have f491 := congrArg Int32.toInt (hF417.1 231 6 rfl)
    have f492 := congrArg Int32.toInt (hF417.1 231 13 rfl)
    refine At.enter rfl ?_
    refine r_pop rfl ?_
    refine r_goto ?_
    have zr : v337.toInt = v418.toInt := by
      apply Decidable.byContradiction
      intro hne
      exfalso
      omega
    have zsu := SU.eq su340 su421 zr
    exact K _ hI416 (show LwR _ from ⟨by first | (clear f350 f351 f352 f354 f355 f356 f357 f358 f359 f360 f361 f362 f363 f364 f365 f366 f367 f368 f369 f370 f371 f372 f373 f374 f377 f378 f379 f380 f381 f382 f383 f384 f385 f386 f387 f388 f389 f390 f391 f392 f393 f394 f395 f396 f397 f398 f399 f400 f401 f402 f441 f442 f443 f444 f445 f446 f447 f448 f449 f450 f451 f452 f453 f454 f455 f456 f457 f458 f459 f460 f461 f462 f463 f464 f465 f466 f474 f475 f476 f477 f478 f479 f480 f481 f482 f483 f484 f485 f486 f487 f488 f489 f490 f491 f492; omega) | omega, by first | (clear f349 f351 f352 f354 f355 f356 f357 f358 f359 f360 f361 f362 f363 f364 f365 f366 f367 f368 f369 f370 f371 f372 f373 f374 f376 f378 f379 f380 f381 f382 f383 f384 f385 f386 f387 f388 f389 f390 f391 f392 f393 f394 f395 f396 f397 f398 f399 f400 f401 f402 f440 f442 f443 f444 f445 f446 f447 f448 f449 f450 f451 f452 f453 f454 f455 f456 f457 f458 f459 f460 f461 f462 f463 f464 f465 f466 f474 f475 f476 f477 f478 f479 f480 f481 f482 f483 f484 f485 f486 f487 f488 f489 f490 f491 f492; omega) | omega, by first | (clear f349 f350 f352 f354 f355 f356 f357 f358 f359 f360 f361 f362 f363 f364 f365 f366 f367 f368 f369 f370 f371 f372 f373 f374 f376 f377 f379 f380 f381 f382 f383 f384 f385 f386 f387 f388 f389 f390 f391 f392 f393 f394 f395 f396 f397 f398 f399 f400 f401 f402 f440 f441 f443 f444 f445 f446 f447 f448 f449 f450 f451 f452 f453 f454 f455 f456 f457 f458 f459 f460 f461 f462 f463 f464 f465 f466 f474 f475 f476 f477 f478 f479 f480 f481 f482 f483 f484 f485 f486 f487 f488 f489 f490 f491 f492; omega) | omega, by first | (clear f349 f350 f351 f354 f355 f356 f357 f358 f359 f360 f361 f362 f363 f364 f365 f366 f367 f368 f369 f370 f371 f372 f373 f374 f376 f377 f378 f380 f381 f382 f383 f384 f385 f386 f387 f388 f389 f390 f391 f392 f393 f394 f395 f396 f397 f398 f399 f400 f401 f402 f440 f441 f442 f444 f445 f446 f447 f448 f449 f450 f451 f452 f453 f454 f455 f456 f457 f458 f459 f460 f461 f462 f463 f464 f465 f466 f474 f475 f476 f477 f478 f479 f480 f481 f482 f483 f484 f485 f486 f487 f488 f489 f490 f491 f492; omega) | omega, by first | (clear f349 f350 f351 f352 f354 f355 f356 f357 f358 f359 f360 f361 f362 f363 f364 f365 f366 f367 f368 f369 f370 f371 f372 f373 f374 f376 f377 f378 f379 f381 f382 f383 f384 f385 f386 f387 f388 f389 f390 f391 f392 f393 f394 f395 f396 f397 f398 f399 f400 f401 f402 f440 f441 f442 f443 f445 f446 f447 f448 f449 f450 f451 f452 f453 f454 f455 f456 f457 f458 f459 f460 f461 f462 f463 f464 f465 f466 f474 f475 f476 f477 f478 f479 f480 f481 f482 f483 f484 f485 f486 f487 f488 f489 f490 f491 f492; omega) | omega, by first | (clear f349 f350 f351 f352 f355 f356 f357 f358 f359 f360 f361 f362 f363 f364 f365 f366 f367 f368 f369 f370 f371 f372 f373 f374 f376 f377 f378 f379 f380 f382 f383 f384 f385 f386 f387 f388 f389 f390 f391 f392 f393 f394 f395 f396 f397 f398 f399 f400 f401 f402 f440 f441 f442 f443 f444 f446 f447 f448 f449 f450 f451 f452 f453 f454 f455 f456 f457 f458 f459 f460 f461 f462 f463 f464 f465 f466 f474 f475 f476 f477 f478 f479 f480 f481 f482 f483 f484 f485 f486 f487 f488 f489 f490 f491 f492; omega) | omega, by first | (clear f349 f350 f351 f352 f354 f356 f357 f358 f359 f360 f361 f362 f363 f364 f365 f366 f367 f368 f369 f370 f371 f372 f373 f374 f376 f377 f378 f379 f380 f381 f383 f384 f385 f386 f387 f388 f389 f390 f391 f392 f393 f394 f395 f396 f397 f398 f399 f400 f401 f402 f440 f441 f442 f443 f444 f445 f447 f448 f449 f450 f451 f452 f453 f454 f455 f456 f457 f458 f459 f460 f461 f462 f463 f464 f465 f466 f474 f475 f476 f477 f478 f479 f480 f481 f482 f483 f484 f485 f486 f487 f488 f489 f490 f491 f492; omega) | omega, (eA_ti (j := 0) (((hF417.2.1 173 (by decide)).trans (hF336.2.1 173 (by decide))))).trans (hR_7.trans (eA_ti (j := 0) (((hF417.2.1 235 (by decide)).trans (hF336.2.1 235 (by decide))))).symm), (eA_ti (j := 1) (((hF417.2.1 173 (by decide)).trans (hF336.2.1 173 (by decide))))).trans (hR_8.trans (eA_ti (j := 1) (((hF417.2.1 235 (by decide)).trans (hF336.2.1 235 (by decide))))).symm), (congrArg Int32.toInt (((hF417.1 174 1 (by decide)).trans (hF336.1 174 1 (by decide))))).trans (hR_9.trans (congrArg Int32.toInt (((hF417.1 231 8 (by decide)).trans (hF336.1 231 8 (by decide))))).symm), (congrArg Int32.toInt (((hF417.1 0 16 (by decide)).trans (hF336.1 0 16 (by decide))))).trans (hR_10.trans (congrArg Int32.toInt (((hF417.1 231 6 (by decide)).trans (hF336.1 231 6 (by decide))))).symm), (congrArg Int32.toInt (((hF417.1 176 2 (by decide)).trans (hF336.1 176 2 (by decide))))).trans (hR_11.trans (congrArg Int32.toInt (((hF417.1 231 13 (by decide)).trans (hF336.1 231 13 (by decide))))).symm), by first | (clear f349 f350 f351 f352 f354 f355 f356 f357 f358 f359 f360 f361 f362 f363 f364 f365 f366 f367 f368 f369 f370 f371 f372 f373 f374 f376 f377 f378 f379 f380 f381 f382 f383 f384 f385 f386 f387 f388 f389 f390 f391 f392 f393 f394 f395 f396 f397 f398 f399 f400 f401 f440 f441 f442 f443 f444 f445 f446 f447 f448 f449 f450 f451 f452 f453 f454 f455 f456 f457 f458 f459 f460 f461 f462 f463 f464 f465 f474 f475 f476 f477 f478 f479 f480 f481 f482 f483 f484 f485 f486 f487 f488 f489 f490 f491 f492; omega) | omega, IM0.cong hR_13 (eA_ti (j := 0) (((hF417.2.1 173 (by decide)).trans (hF336.2.1 173 (by decide))))) (congrArg Int32.toInt (((hF417.1 59 0 (by decide)).trans (hF336.1 59 0 (by decide))))) (eA_ti (j := 0) (((hF417.2.1 234 (by decide)).trans (hF336.2.1 234 (by decide))))) (congrArg Int32.toInt (((hF417.1 59 12 (by decide)).trans (hF336.1 59 12 (by decide))))) (eA_ti (j := 4) (((hF417.2.1 234 (by decide)).trans (hF336.2.1 234 (by decide))))) (congrArg Int32.toInt (((hF417.1 59 10 (by decide)).trans (hF336.1 59 10 (by decide))))) (eA_ti (j := 5) (((hF417.2.1 234 (by decide)).trans (hF336.2.1 234 (by decide))))) (congrArg Int32.toInt (((hF417.1 59 11 (by decide)).trans (hF336.1 59 11 (by decide))))) (eA_ti (j := 6) (((hF417.2.1 234 (by decide)).trans (hF336.2.1 234 (by decide))))) (congrArg Int32.toInt (((hF417.1 59 4 (by decide)).trans (hF336.1 59 4 (by decide))))) (eA_ti (j := 1) (((hF417.2.1 234 (by decide)).trans (hF336.2.1 234 (by decide))))) (congrArg Int32.toInt (((hF417.1 59 6 (by decide)).trans (hF336.1 59 6 (by decide))))) (eA_ti (j := 2) (((hF417.2.1 234 (by decide)).trans (hF336.2.1 234 (by decide))))) (congrArg Int32.toInt (((hF417.1 59 9 (by decide)).trans (hF336.1 59 9 (by decide))))) (eA_ti (j := 3) (((hF417.2.1 234 (by decide)).trans (hF336.2.1 234 (by decide))))), IM1.cong hR_14 (eA_ti (j := 1) (((hF417.2.1 173 (by decide)).trans (hF336.2.1 173 (by decide))))) (congrArg Int32.toInt (((hF417.1 116 0 (by decide)).trans (hF336.1 116 0 (by decide))))) (eA_ti (j := 5510) (((hF417.2.1 234 (by decide)).trans (hF336.2.1 234 (by decide))))) (congrArg Int32.toInt (((hF417.1 116 12 (by decide)).trans (hF336.1 116 12 (by decide))))) (eA_ti (j := 5514) (((hF417.2.1 234 (by decide)).trans (hF336.2.1 234 (by decide))))) (congrArg Int32.toInt (((hF417.1 116 10 (by decide)).trans (hF336.1 116 10 (by decide))))) (eA_ti (j := 5515) (((hF417.2.1 234 (by decide)).trans (hF336.2.1 234 (by decide))))) (congrArg Int32.toInt (((hF417.1 116 11 (by decide)).trans (hF336.1 116 11 (by decide))))) (eA_ti (j := 5516) (((hF417.2.1 234 (by decide)).trans (hF336.2.1 234 (by decide))))) (congrArg Int32.toInt (((hF417.1 116 4 (by decide)).trans (hF336.1 116 4 (by decide))))) (eA_ti (j := 5511) (((hF417.2.1 234 (by decide)).trans (hF336.2.1 234 (by decide))))) (congrArg Int32.toInt (((hF417.1 116 6 (by decide)).trans (hF336.1 116 6 (by decide))))) (eA_ti (j := 5512) (((hF417.2.1 234 (by decide)).trans (hF336.2.1 234 (by decide))))) (congrArg Int32.toInt (((hF417.1 116 9 (by decide)).trans (hF336.1 116 9 (by decide))))) (eA_ti (j := 5513) (((hF417.2.1 234 (by decide)).trans (hF336.2.1 234 (by decide))))), (show CT _ from ⟨fun i i0 i1 => ⟨(by first | (clear f356 f357 f358 f359 f360 f361 f362 f363 f364 f365 f366 f367 f368 f369 f372 f373 f374 f383 f384 f385 f386 f387 f388 f389 f390 f391 f392 f393 f394 f395 f396 f399 f400 f401 f402 f447 f448 f449 f450 f451 f452 f453 f454 f455 f456 f457 f458 f459 f460 f463 f464 f465 f466 f474 f475 f476 f477 f478 f479 f480 f481 f482 f483 f484 f485 f486 f487 f490 f491 f492; have t0_ := hI0.t0; have t1_ := hI0.t1; have o := (hR_15.1 i i0 i1).1; have x := eA_ti (j := i) (((hF417.2.1 2 (by decide)).trans (hF336.2.1 2 (by decide)))); have m := q424 (10 + 3 * i) (by omega) (by omega); have y1 := eA_ti (j := ((10 + 3 * i))) (hF336.2.1 233 (by decide)); first | exact x.trans (o.trans (m.trans y1).symm) | omega) | (have t0_ := hI0.t0; have t1_ := hI0.t1; have o := (hR_15.1 i i0 i1).1; have x := eA_ti (j := i) (((hF417.2.1 2 (by decide)).trans (hF336.2.1 2 (by decide)))); have m := q424 (10 + 3 * i) (by omega) (by omega); have y1 := eA_ti (j := ((10 + 3 * i))) (hF336.2.1 233 (by decide)); first | exact x.trans (o.trans (m.trans y1).symm) | omega)), (by first | (clear f356 f357 f358 f359 f360 f361 f362 f363 f364 f365 f366 f367 f368 f369 f372 f373 f374 f383 f384 f385 f386 f387 f388 f389 f390 f391 f392 f393 f394 f395 f396 f399 f400 f401 f402 f447 f448 f449 f450 f451 f452 f453 f454 f455 f456 f457 f458 f459 f460 f463 f464 f465 f466 f474 f475 f476 f477 f478 f479 f480 f481 f482 f483 f484 f485 f486 f487 f490 f491 f492; have t0_ := hI0.t0; have t1_ := hI0.t1; have o := (hR_15.1 i i0 i1).2.1; have x := eA_ti (j := i) (((hF417.2.1 3 (by decide)).trans (hF336.2.1 3 (by decide)))); have m := q424 (10 + 3 * i + 1) (by omega) (by omega); have y1 := eA_ti (j := ((10 + 3 * i + 1))) (hF336.2.1 233 (by decide)); first | exact x.trans (o.trans (m.trans y1).symm) | omega) | (have t0_ := hI0.t0; have t1_ := hI0.t1; have o := (hR_15.1 i i0 i1).2.1; have x := eA_ti (j := i) (((hF417.2.1 3 (by decide)).trans (hF336.2.1 3 (by decide)))); have m := q424 (10 + 3 * i + 1) (by omega) (by omega); have y1 := eA_ti (j := ((10 + 3 * i + 1))) (hF336.2.1 233 (by decide)); first | exact x.trans (o.trans (m.trans y1).symm) | omega)), (by first | (clear f356 f357 f358 f359 f360 f361 f362 f363 f364 f365 f366 f367 f368 f369 f372 f373 f374 f383 f384 f385 f386 f387 f388 f389 f390 f391 f392 f393 f394 f395 f396 f399 f400 f401 f402 f447 f448 f449 f450 f451 f452 f453 f454 f455 f456 f457 f458 f459 f460 f463 f464 f465 f466 f474 f475 f476 f477 f478 f479 f480 f481 f482 f483 f484 f485 f486 f487 f490 f491 f492; have t0_ := hI0.t0; have t1_ := hI0.t1; have o := (hR_15.1 i i0 i1).2.2; have x := eA_ti (j := i) (((hF417.2.1 4 (by decide)).trans (hF336.2.1 4 (by decide)))); have m := q424 (10 + 3 * i + 2) (by omega) (by omega); have y1 := eA_ti (j := ((10 + 3 * i + 2))) (hF336.2.1 233 (by decide)); first | exact x.trans (o.trans (m.trans y1).symm) | omega) | (have t0_ := hI0.t0; have t1_ := hI0.t1; have o := (hR_15.1 i i0 i1).2.2; have x := eA_ti (j := i) (((hF417.2.1 4 (by decide)).trans (hF336.2.1 4 (by decide)))); have m := q424 (10 + 3 * i + 2) (by omega) (by omega); have y1 := eA_ti (j := ((10 + 3 * i + 2))) (hF336.2.1 233 (by decide)); first | exact x.trans (o.trans (m.trans y1).symm) | omega))⟩, fun i i0 i1 => ⟨(by first | (clear f356 f357 f358 f359 f360 f361 f362 f363 f364 f365 f366 f367 f368 f369 f372 f373 f374 f383 f384 f385 f386 f387 f388 f389 f390 f391 f392 f393 f394 f395 f396 f399 f400 f401 f402 f447 f448 f449 f450 f451 f452 f453 f454 f455 f456 f457 f458 f459 f460 f463 f464 f465 f466 f474 f475 f476 f477 f478 f479 f480 f481 f482 f483 f484 f485 f486 f487 f490 f491 f492; have t0_ := hI0.t0; have t1_ := hI0.t1; have o := (hR_15.2.1 i i0 i1).1; have x := eA_ti (j := i) (((hF417.2.1 14 (by decide)).trans (hF336.2.1 14 (by decide)))); have m := q425 (94 + 2 * i) (by omega) (by omega); have y1 := eA_ti (j := ((94 + 2 * i))) (hF336.2.1 233 (by decide)); first | exact x.trans (o.trans (m.trans y1).symm) | omega) | (have t0_ := hI0.t0; have t1_ := hI0.t1; have o := (hR_15.2.1 i i0 i1).1; have x := eA_ti (j := i) (((hF417.2.1 14 (by decide)).trans (hF336.2.1 14 (by decide)))); have m := q425 (94 + 2 * i) (by omega) (by omega); have y1 := eA_ti (j := ((94 + 2 * i))) (hF336.2.1 233 (by decide)); first | exact x.trans (o.trans (m.trans y1).symm) | omega)), (by first | (clear f356 f357 f358 f359 f360 f361 f362 f363 f364 f365 f366 f367 f368 f369 f372 f373 f374 f383 f384 f385 f386 f387 f388 f389 f390 f391 f392 f393 f394 f395 f396 f399 f400 f401 f402 f447 f448 f449 f450 f451 f452 f453 f454 f455 f456 f457 f458 f459 f460 f463 f464 f465 f466 f474 f475 f476 f477 f478 f479 f480 f481 f482 f483 f484 f485 f486 f487 f490 f491 f492; have t0_ := hI0.t0; have t1_ := hI0.t1; have o := (hR_15.2.1 i i0 i1).2; have x := eA_ti (j := i) (((hF417.2.1 15 (by decide)).trans (hF336.2.1 15 (by decide)))); have m := q425 (94 + 2 * i + 1) (by omega) (by omega); have y1 := eA_ti (j := ((94 + 2 * i + 1))) (hF336.2.1 233 (by decide)); first | exact x.trans (o.trans (m.trans y1).symm) | omega) | (have t0_ := hI0.t0; have t1_ := hI0.t1; have o := (hR_15.2.1 i i0 i1).2; have x := eA_ti (j := i) (((hF417.2.1 15 (by decide)).trans (hF336.2.1 15 (by decide)))); have m := q425 (94 + 2 * i + 1) (by omega) (by omega); have y1 := eA_ti (j := ((94 + 2 * i + 1))) (hF336.2.1 233 (by decide)); first | exact x.trans (o.trans (m.trans y1).symm) | omega))⟩, fun i i0 i1 => (by first | (clear f356 f357 f358 f359 f360 f361 f362 f363 f364 f365 f366 f367 f368 f369 f372 f373 f374 f383 f384 f385 f386 f387 f388 f389 f390 f391 f392 f393 f394 f395 f396 f399 f400 f401 f402 f447 f448 f449 f450 f451 f452 f453 f454 f455 f456 f457 f458 f459 f460 f463 f464 f465 f466 f474 f475 f476 f477 f478 f479 f480 f481 f482 f483 f484 f485 f486 f487 f490 f491 f492; have t0_ := hI0.t0; have t1_ := hI0.t1; have o : i < 6 * (gI g0 1 4).toInt → _ := fun hz => hR_15.2.2 i i0 hz; have t9_ := RgF.at hI416.2.1 (p := 1) (b := 4) rfl; dsimp only at t9_; have i9_ : i < 48 := (by omega); have x := (eA_ti (j := i) (hF417.2.1 5 (by decide))).trans (q343 i i0 i9_); have m := q426 (46 + i) (by omega) (by omega); have y1 := eA_ti (j := ((46 + i))) (hF336.2.1 233 (by decide)); have ek0 : (eA g334 233 0).toInt = (gI g0 1 0).toInt := (eA_ti (j := 0) (hF336.2.1 233 (by decide))).trans hR_0.symm; have ek1 : (eA g334 233 1).toInt = (gI g0 1 4).toInt := (eA_ti (j := 1) (hF336.2.1 233 (by decide))).trans hR_4.symm; have eC : ((1 ≤ v2.toInt ∧ v2.toInt ≤ 9 ∧ 0 ≤ v8.toInt ∧ v8.toInt ≤ 99 ∧ 0 ≤ v10.toInt ∧ v10.toInt ≤ 9 ∧ 0 ≤ v12.toInt ∧ v12.toInt ≤ 9999) ∧ (0 ≤ v4.toInt ∧ v4.toInt < (eA g334 233 0).toInt ∧ 0 ≤ v6.toInt ∧ v6.toInt < (eA g334 233 0).toInt) ∧ (eA g334 233 1).toInt < 8) = ((1 ≤ v2.toInt ∧ v2.toInt ≤ 9 ∧ 0 ≤ v8.toInt ∧ v8.toInt ≤ 99 ∧ 0 ≤ v10.toInt ∧ v10.toInt ≤ 9 ∧ 0 ≤ v12.toInt ∧ v12.toInt ≤ 9999) ∧ (0 ≤ v4.toInt ∧ v4.toInt < (gI g0 1 0).toInt ∧ 0 ≤ v6.toInt ∧ v6.toInt < (gI g0 1 0).toInt) ∧ (gI g0 1 4).toInt < 8) := (by rw [ek0, ek1]); have k : ¬ ((1 ≤ v2.toInt ∧ v2.toInt ≤ 9 ∧ 0 ≤ v8.toInt ∧ v8.toInt ≤ 99 ∧ 0 ≤ v10.toInt ∧ v10.toInt ≤ 9 ∧ 0 ≤ v12.toInt ∧ v12.toInt ≤ 9999) ∧ (0 ≤ v4.toInt ∧ v4.toInt < (gI g0 1 0).toInt ∧ 0 ≤ v6.toInt ∧ v6.toInt < (gI g0 1 0).toInt) ∧ (gI g0 1 4).toInt < 8) := (fun z => absurd pk13.2.2 (Int.not_le.mpr z.2.2)); have k2 : ¬ ((1 ≤ v2.toInt ∧ v2.toInt ≤ 9 ∧ 0 ≤ v8.toInt ∧ v8.toInt ≤ 99 ∧ 0 ≤ v10.toInt ∧ v10.toInt ≤ 9 ∧ 0 ≤ v12.toInt ∧ v12.toInt ≤ 9999) ∧ (0 ≤ v4.toInt ∧ v4.toInt < (eA g334 233 0).toInt ∧ 0 ≤ v6.toInt ∧ v6.toInt < (eA g334 233 0).toInt) ∧ (eA g334 233 1).toInt < 8) := fun z => k (eC.mp z); rw [ite_an k, ite_an k, ite_an k, ite_an k, ite_an k, ite_an k] at x; rw [ite_an k2, ite_an k2, ite_an k2, ite_an k2, ite_an k2, ite_an k2] at m; clear eC k2 k; omega) | (have t0_ := hI0.t0; have t1_ := hI0.t1; have o : i < 6 * (gI g0 1 4).toInt → _ := fun hz => hR_15.2.2 i i0 hz; have t9_ := RgF.at hI416.2.1 (p := 1) (b := 4) rfl; dsimp only at t9_; have i9_ : i < 48 := (by omega); have x := (eA_ti (j := i) (hF417.2.1 5 (by decide))).trans (q343 i i0 i9_); have m := q426 (46 + i) (by omega) (by omega); have y1 := eA_ti (j := ((46 + i))) (hF336.2.1 233 (by decide)); have ek0 : (eA g334 233 0).toInt = (gI g0 1 0).toInt := (eA_ti (j := 0) (hF336.2.1 233 (by decide))).trans hR_0.symm; have ek1 : (eA g334 233 1).toInt = (gI g0 1 4).toInt := (eA_ti (j := 1) (hF336.2.1 233 (by decide))).trans hR_4.symm; have eC : ((1 ≤ v2.toInt ∧ v2.toInt ≤ 9 ∧ 0 ≤ v8.toInt ∧ v8.toInt ≤ 99 ∧ 0 ≤ v10.toInt ∧ v10.toInt ≤ 9 ∧ 0 ≤ v12.toInt ∧ v12.toInt ≤ 9999) ∧ (0 ≤ v4.toInt ∧ v4.toInt < (eA g334 233 0).toInt ∧ 0 ≤ v6.toInt ∧ v6.toInt < (eA g334 233 0).toInt) ∧ (eA g334 233 1).toInt < 8) = ((1 ≤ v2.toInt ∧ v2.toInt ≤ 9 ∧ 0 ≤ v8.toInt ∧ v8.toInt ≤ 99 ∧ 0 ≤ v10.toInt ∧ v10.toInt ≤ 9 ∧ 0 ≤ v12.toInt ∧ v12.toInt ≤ 9999) ∧ (0 ≤ v4.toInt ∧ v4.toInt < (gI g0 1 0).toInt ∧ 0 ≤ v6.toInt ∧ v6.toInt < (gI g0 1 0).toInt) ∧ (gI g0 1 4).toInt < 8) := (by rw [ek0, ek1]); have k : ¬ ((1 ≤ v2.toInt ∧ v2.toInt ≤ 9 ∧ 0 ≤ v8.toInt ∧ v8.toInt ≤ 99 ∧ 0 ≤ v10.toInt ∧ v10.toInt ≤ 9 ∧ 0 ≤ v12.toInt ∧ v12.toInt ≤ 9999) ∧ (0 ≤ v4.toInt ∧ v4.toInt < (gI g0 1 0).toInt ∧ 0 ≤ v6.toInt ∧ v6.toInt < (gI g0 1 0).toInt) ∧ (gI g0 1 4).toInt < 8) := (fun z => absurd pk13.2.2 (Int.not_le.mpr z.2.2)); have k2 : ¬ ((1 ≤ v2.toInt ∧ v2.toInt ≤ 9 ∧ 0 ≤ v8.toInt ∧ v8.toInt ≤ 99 ∧ 0 ≤ v10.toInt ∧ v10.toInt ≤ 9 ∧ 0 ≤ v12.toInt ∧ v12.toInt ≤ 9999) ∧ (0 ≤ v4.toInt ∧ v4.toInt < (eA g334 233 0).toInt ∧ 0 ≤ v6.toInt ∧ v6.toInt < (eA g334 233 0).toInt) ∧ (eA g334 233 1).toInt < 8) := fun z => k (eC.mp z); rw [ite_an k, ite_an k, ite_an k, ite_an k, ite_an k, ite_an k] at x; rw [ite_an k2, ite_an k2, ite_an k2, ite_an k2, ite_an k2, ite_an k2] at m; clear eC k2 k; omega))⟩), CI0.cong hR_16 (((hF417.2.1 60 (by decide)).trans (hF336.2.1 60 (by decide)))) (((hF417.2.1 61 (by decide)).trans (hF336.2.1 61 (by decide)))) (((hF417.2.1 62 (by decide)).trans (hF336.2.1 62 (by decide)))) (((hF417.2.1 72 (by decide)).trans (hF336.2.1 72 (by decide)))) (((hF417.2.1 73 (by decide)).trans (hF336.2.1 73 (by decide)))) (((hF417.2.1 63 (by decide)).trans (hF336.2.1 63 (by decide)))) (((hF417.2.1 234 (by decide)).trans (hF336.2.1 234 (by decide)))) (congrArg Int32.toInt (((hF417.1 59 4 (by decide)).trans (hF336.1 59 4 (by decide))))), CI1.cong hR_17 (((hF417.2.1 117 (by decide)).trans (hF336.2.1 117 (by decide)))) (((hF417.2.1 118 (by decide)).trans (hF336.2.1 118 (by decide)))) (((hF417.2.1 119 (by decide)).trans (hF336.2.1 119 (by decide)))) (((hF417.2.1 129 (by decide)).trans (hF336.2.1 129 (by decide)))) (((hF417.2.1 130 (by decide)).trans (hF336.2.1 130 (by decide)))) (((hF417.2.1 120 (by decide)).trans (hF336.2.1 120 (by decide)))) (((hF417.2.1 234 (by decide)).trans (hF336.2.1 234 (by decide)))) (congrArg Int32.toInt (((hF417.1 116 4 (by decide)).trans (hF336.1 116 4 (by decide))))), (show RT _ from fun i i0 i1 => (eA_ti (((hF417.2.1 175 (by decide)).trans (hF336.2.1 175 (by decide))))).trans ((hR_18 i i0 (by omega)).trans (eA_ti (((hF417.2.1 236 (by decide)).trans (hF336.2.1 236 (by decide))))).symm)), (show BYX _ from fun i i0 i1 => by rw [TX.c (((hF417.2.1 175 (by decide)).trans (hF336.2.1 175 (by decide))))]; exact hR_19 i i0 (by have i2 : i < (gI _ 174 1).toInt := i1; show i < (gI g0 174 1).toInt; omega))⟩)
  · refine r_callV 362 rfl [.ref 0, .int v2, .int v4, .int v6, .int v8, .int v10, .int v12] [] (Nat.le_of_ble_eq_true rfl) rfl (T_X10_load_0 _ hI0 v2 v4 v6 v8 v10 v12) ?_
    rintro _ _ ⟨g494, rfl, hI495, hF496, v497, rfl, hr498⟩
    refine At.sti ?_
    have hF499 := Fr.tr hF0 hF496 rfl rfl
    have su500 := hr498.2.2
    obtain ⟨q501, q502, q503⟩ := (And.intro hr498.1 hr498.2.1)
    obtain ⟨i505, i506, i507, i508⟩ := q502
    have w504 := i508 ⟨pk13.1, pk13.2.1, Int.not_le.mp pk13.2.2⟩
    clear i505 i506 i507 i508
    have f509 := congrArg Int32.toInt (hF496.1 1 0 rfl)
    have f510 := congrArg Int32.toInt (hF496.1 1 12 rfl)
    have f511 := congrArg Int32.toInt (hF496.1 1 10 rfl)
    have f512 := congrArg Int32.toInt (hF496.1 1 11 rfl)
    have f514 := congrArg Int32.toInt (hF496.1 1 6 rfl)
    have f515 := congrArg Int32.toInt (hF496.1 1 9 rfl)
    have f516 := congrArg Int32.toInt (hF496.1 59 0 rfl)
    have f517 := congrArg Int32.toInt (hF496.1 59 12 rfl)
    have f518 := congrArg Int32.toInt (hF496.1 59 10 rfl)
    have f519 := congrArg Int32.toInt (hF496.1 59 11 rfl)
    have f520 := congrArg Int32.toInt (hF496.1 59 4 rfl)
    have f521 := congrArg Int32.toInt (hF496.1 59 6 rfl)
    have f522 := congrArg Int32.toInt (hF496.1 59 9 rfl)
    have f523 := congrArg Int32.toInt (hF496.1 116 0 rfl)
    have f524 := congrArg Int32.toInt (hF496.1 116 12 rfl)
    have f525 := congrArg Int32.toInt (hF496.1 116 10 rfl)
    have f526 := congrArg Int32.toInt (hF496.1 116 11 rfl)
    have f527 := congrArg Int32.toInt (hF496.1 116 4 rfl)
    have f528 := congrArg Int32.toInt (hF496.1 116 6 rfl)
    have f529 := congrArg Int32.toInt (hF496.1 116 9 rfl)
    have f530 := congrArg Int32.toInt (eA_c (j := 0) (hF496.2.1 173 rfl))
    have f531 := congrArg Int32.toInt (eA_c (j := 1) (hF496.2.1 173 rfl))
    have f532 := congrArg Int32.toInt (hF496.1 174 1 rfl)
    have f533 := congrArg Int32.toInt (hF496.1 0 16 rfl)
    have f534 := congrArg Int32.toInt (hF496.1 176 2 rfl)
    have f536 := congrArg Int32.toInt (eA_c (j := 0) (hF496.2.1 233 rfl))
    have f537 := congrArg Int32.toInt (eA_c (j := 4) (hF496.2.1 233 rfl))
    have f538 := congrArg Int32.toInt (eA_c (j := 5) (hF496.2.1 233 rfl))
    have f539 := congrArg Int32.toInt (eA_c (j := 6) (hF496.2.1 233 rfl))
    have f540 := congrArg Int32.toInt (eA_c (j := 1) (hF496.2.1 233 rfl))
    have f541 := congrArg Int32.toInt (eA_c (j := 2) (hF496.2.1 233 rfl))
    have f542 := congrArg Int32.toInt (eA_c (j := 3) (hF496.2.1 233 rfl))
    have f543 := congrArg Int32.toInt (eA_c (j := 0) (hF496.2.1 234 rfl))
    have f544 := congrArg Int32.toInt (eA_c (j := 4) (hF496.2.1 234 rfl))
    have f545 := congrArg Int32.toInt (eA_c (j := 5) (hF496.2.1 234 rfl))
    have f546 := congrArg Int32.toInt (eA_c (j := 6) (hF496.2.1 234 rfl))
    have f547 := congrArg Int32.toInt (eA_c (j := 1) (hF496.2.1 234 rfl))
    have f548 := congrArg Int32.toInt (eA_c (j := 2) (hF496.2.1 234 rfl))
    have f549 := congrArg Int32.toInt (eA_c (j := 3) (hF496.2.1 234 rfl))
    have f550 := congrArg Int32.toInt (eA_c (j := 5510) (hF496.2.1 234 rfl))
    have f551 := congrArg Int32.toInt (eA_c (j := 5514) (hF496.2.1 234 rfl))
    have f552 := congrArg Int32.toInt (eA_c (j := 5515) (hF496.2.1 234 rfl))
    have f553 := congrArg Int32.toInt (eA_c (j := 5516) (hF496.2.1 234 rfl))
    have f554 := congrArg Int32.toInt (eA_c (j := 5511) (hF496.2.1 234 rfl))
    have f555 := congrArg Int32.toInt (eA_c (j := 5512) (hF496.2.1 234 rfl))
    have f556 := congrArg Int32.toInt (eA_c (j := 5513) (hF496.2.1 234 rfl))
    have f557 := congrArg Int32.toInt (eA_c (j := 0) (hF496.2.1 235 rfl))
    have f558 := congrArg Int32.toInt (eA_c (j := 1) (hF496.2.1 235 rfl))
    have f559 := congrArg Int32.toInt (hF496.1 231 8 rfl)
    have f560 := congrArg Int32.toInt (hF496.1 231 6 rfl)
    have f561 := congrArg Int32.toInt (hF496.1 231 13 rfl)
    have f562 := congrArg Int32.toInt (hF496.1 231 1 rfl)
    refine At.enter rfl ?_
    refine r_pop rfl ?_
    refine r_aload_n e2 ?_
    refine r_sload_n e0 ?_
    refine r_iload_n e3 ?_
    refine r_iconst 1 rfl ?_
    refine q_iadd (i.toInt + 1) rfl hx_1 (fun v563 hv563 => ?_)
    refine q_scald (m := L) hL (i.toInt + 1) hv563 hy_1 (fun v564 hv564 => ?_)
    have sv564 := hv2.symm.trans hv564
    subst sv564
    refine r_sload_n e0 ?_
    refine r_iload_n e3 ?_
    refine r_iconst 2 rfl ?_
    refine q_iadd (i.toInt + 2) rfl hx_2 (fun v565 hv565 => ?_)
    refine q_scald (m := L) hL (i.toInt + 2) hv565 hy_2 (fun v566 hv566 => ?_)
    have sv566 := hv4.symm.trans hv566
    subst sv566
    refine r_sload_n e0 ?_
    refine r_iload_n e3 ?_
    refine r_iconst 3 rfl ?_
    refine q_iadd (i.toInt + 3) rfl hx_3 (fun v567 hv567 => ?_)
    refine q_scald (m := L) hL (i.toInt + 3) hv567 hy_3 (fun v568 hv568 => ?_)
    have sv568 := hv6.symm.trans hv568
    subst sv568
    refine r_sload_n e0 ?_
    refine r_iload_n e3 ?_
    refine r_iconst 4 rfl ?_
    refine q_iadd (i.toInt + 4) rfl hx_4 (fun v569 hv569 => ?_)
    refine q_scald (m := L) hL (i.toInt + 4) hv569 hy_4 (fun v570 hv570 => ?_)
    have sv570 := hv8.symm.trans hv570
    subst sv570
    refine r_sload_n e0 ?_
    refine r_iload_n e3 ?_
    refine r_iconst 5 rfl ?_
    refine q_iadd (i.toInt + 5) rfl hx_5 (fun v571 hv571 => ?_)
    refine q_scald (m := L) hL (i.toInt + 5) hv571 hy_5 (fun v572 hv572 => ?_)
    have sv572 := hv10.symm.trans hv572
    subst sv572
    refine r_sload_n e0 ?_
    refine r_iload_n e3 ?_
    refine r_bipush 6 rfl ?_
    refine q_iadd (i.toInt + 6) rfl hx_6 (fun v573 hv573 => ?_)
    refine q_scald (m := L) hL (i.toInt + 6) hv573 hy_6 (fun v574 hv574 => ?_)
    have sv574 := hv12.symm.trans hv574
    subst sv574
    refine r_callV 398 rfl [.ref 231, .int v2, .int v4, .int v6, .int v8, .int v10, .int v12] [] (Nat.le_of_ble_eq_true rfl) rfl (T_X11_load_231 _ hI495 v2 v4 v6 v8 v10 v12) ?_
    rintro _ _ ⟨g575, rfl, hI576, hF577, v578, rfl, hr579⟩
    refine At.sti ?_
    have hF580 := Fr.tr hF499 hF577 rfl rfl
    have su581 := hr579.2.2
    obtain ⟨q582, q583, q584, q585, q586⟩ := (And.intro hr579.1 hr579.2.1)
    have ek598 : (eA g494 233 0).toInt = (gI g0 1 0).toInt := (eA_ti (j := 0) (hF496.2.1 233 (by decide))).trans hR_0.symm
    have ek599 : (eA g494 233 1).toInt = (gI g0 1 4).toInt := (eA_ti (j := 1) (hF496.2.1 233 (by decide))).trans hR_4.symm
    obtain ⟨i588, i589, i590, i591, sm592, sm593, sm594, sm595, sm596, sm597⟩ := q583
    have w587 := i591 ⟨pk13.1, (by rw [ek598]; exact pk13.2.1), Int.not_le.mp (by rw [ek599]; exact pk13.2.2)⟩
    clear i588 i589 i590 i591
    have f600 := congrArg Int32.toInt (hF577.1 1 0 rfl)
    have f601 := congrArg Int32.toInt (hF577.1 1 12 rfl)
    have f602 := congrArg Int32.toInt (hF577.1 1 10 rfl)
    have f603 := congrArg Int32.toInt (hF577.1 1 11 rfl)
    have f604 := congrArg Int32.toInt (hF577.1 1 4 rfl)
    have f605 := congrArg Int32.toInt (hF577.1 1 6 rfl)
    have f606 := congrArg Int32.toInt (hF577.1 1 9 rfl)
    have f607 := congrArg Int32.toInt (hF577.1 59 0 rfl)
    have f608 := congrArg Int32.toInt (hF577.1 59 12 rfl)
    have f609 := congrArg Int32.toInt (hF577.1 59 10 rfl)
    have f610 := congrArg Int32.toInt (hF577.1 59 11 rfl)
    have f611 := congrArg Int32.toInt (hF577.1 59 4 rfl)
    have f612 := congrArg Int32.toInt (hF577.1 59 6 rfl)
    have f613 := congrArg Int32.toInt (hF577.1 59 9 rfl)
    have f614 := congrArg Int32.toInt (hF577.1 116 0 rfl)
    have f615 := congrArg Int32.toInt (hF577.1 116 12 rfl)
    have f616 := congrArg Int32.toInt (hF577.1 116 10 rfl)
    have f617 := congrArg Int32.toInt (hF577.1 116 11 rfl)
    have f618 := congrArg Int32.toInt (hF577.1 116 4 rfl)
    have f619 := congrArg Int32.toInt (hF577.1 116 6 rfl)
    have f620 := congrArg Int32.toInt (hF577.1 116 9 rfl)
    have f621 := congrArg Int32.toInt (eA_c (j := 0) (hF577.2.1 173 rfl))
    have f622 := congrArg Int32.toInt (eA_c (j := 1) (hF577.2.1 173 rfl))
    have f623 := congrArg Int32.toInt (hF577.1 174 1 rfl)
    have f624 := congrArg Int32.toInt (hF577.1 0 16 rfl)
    have f625 := congrArg Int32.toInt (hF577.1 176 2 rfl)
    have f626 := congrArg Int32.toInt (hF577.1 0 17 rfl)
    have f634 := congrArg Int32.toInt (eA_c (j := 0) (hF577.2.1 234 rfl))
    have f635 := congrArg Int32.toInt (eA_c (j := 4) (hF577.2.1 234 rfl))
    have f636 := congrArg Int32.toInt (eA_c (j := 5) (hF577.2.1 234 rfl))
    have f637 := congrArg Int32.toInt (eA_c (j := 6) (hF577.2.1 234 rfl))
    have f638 := congrArg Int32.toInt (eA_c (j := 1) (hF577.2.1 234 rfl))
    have f639 := congrArg Int32.toInt (eA_c (j := 2) (hF577.2.1 234 rfl))
    have f640 := congrArg Int32.toInt (eA_c (j := 3) (hF577.2.1 234 rfl))
    have f641 := congrArg Int32.toInt (eA_c (j := 5510) (hF577.2.1 234 rfl))
    have f642 := congrArg Int32.toInt (eA_c (j := 5514) (hF577.2.1 234 rfl))
    have f643 := congrArg Int32.toInt (eA_c (j := 5515) (hF577.2.1 234 rfl))
    have f644 := congrArg Int32.toInt (eA_c (j := 5516) (hF577.2.1 234 rfl))
    have f645 := congrArg Int32.toInt (eA_c (j := 5511) (hF577.2.1 234 rfl))
    have f646 := congrArg Int32.toInt (eA_c (j := 5512) (hF577.2.1 234 rfl))
    have f647 := congrArg Int32.toInt (eA_c (j := 5513) (hF577.2.1 234 rfl))
    have f648 := congrArg Int32.toInt (eA_c (j := 0) (hF577.2.1 235 rfl))
    have f649 := congrArg Int32.toInt (eA_c (j := 1) (hF577.2.1 235 rfl))
    have f650 := congrArg Int32.toInt (hF577.1 231 8 rfl)
    have f651 := congrArg Int32.toInt (hF577.1 231 6 rfl)
    have f652 := congrArg Int32.toInt (hF577.1 231 13 rfl)
    refine At.enter rfl ?_
    refine r_pop rfl ?_
    refine r_goto ?_
    have zr : v497.toInt = v578.toInt := by
      apply Decidable.byContradiction
      intro hne
      exfalso
      omega
    have zsu := SU.eq su500 su581 zr
    exact K _ hI576 (show LwR _ from ⟨by first | (clear f510 f511 f512 f514 f515 f516 f517 f518 f519 f520 f521 f522 f523 f524 f525 f526 f527 f528 f529 f530 f531 f532 f533 f534 f537 f538 f539 f540 f541 f542 f543 f544 f545 f546 f547 f548 f549 f550 f551 f552 f553 f554 f555 f556 f557 f558 f559 f560 f561 f562 f601 f602 f603 f604 f605 f606 f607 f608 f609 f610 f611 f612 f613 f614 f615 f616 f617 f618 f619 f620 f621 f622 f623 f624 f625 f626 f634 f635 f636 f637 f638 f639 f640 f641 f642 f643 f644 f645 f646 f647 f648 f649 f650 f651 f652; omega) | omega, by first | (clear f509 f511 f512 f514 f515 f516 f517 f518 f519 f520 f521 f522 f523 f524 f525 f526 f527 f528 f529 f530 f531 f532 f533 f534 f536 f538 f539 f540 f541 f542 f543 f544 f545 f546 f547 f548 f549 f550 f551 f552 f553 f554 f555 f556 f557 f558 f559 f560 f561 f562 f600 f602 f603 f604 f605 f606 f607 f608 f609 f610 f611 f612 f613 f614 f615 f616 f617 f618 f619 f620 f621 f622 f623 f624 f625 f626 f634 f635 f636 f637 f638 f639 f640 f641 f642 f643 f644 f645 f646 f647 f648 f649 f650 f651 f652; omega) | omega, by first | (clear f509 f510 f512 f514 f515 f516 f517 f518 f519 f520 f521 f522 f523 f524 f525 f526 f527 f528 f529 f530 f531 f532 f533 f534 f536 f537 f539 f540 f541 f542 f543 f544 f545 f546 f547 f548 f549 f550 f551 f552 f553 f554 f555 f556 f557 f558 f559 f560 f561 f562 f600 f601 f603 f604 f605 f606 f607 f608 f609 f610 f611 f612 f613 f614 f615 f616 f617 f618 f619 f620 f621 f622 f623 f624 f625 f626 f634 f635 f636 f637 f638 f639 f640 f641 f642 f643 f644 f645 f646 f647 f648 f649 f650 f651 f652; omega) | omega, by first | (clear f509 f510 f511 f514 f515 f516 f517 f518 f519 f520 f521 f522 f523 f524 f525 f526 f527 f528 f529 f530 f531 f532 f533 f534 f536 f537 f538 f540 f541 f542 f543 f544 f545 f546 f547 f548 f549 f550 f551 f552 f553 f554 f555 f556 f557 f558 f559 f560 f561 f562 f600 f601 f602 f604 f605 f606 f607 f608 f609 f610 f611 f612 f613 f614 f615 f616 f617 f618 f619 f620 f621 f622 f623 f624 f625 f626 f634 f635 f636 f637 f638 f639 f640 f641 f642 f643 f644 f645 f646 f647 f648 f649 f650 f651 f652; omega) | omega, by first | (clear f509 f510 f511 f512 f514 f515 f516 f517 f518 f519 f520 f521 f522 f523 f524 f525 f526 f527 f528 f529 f530 f531 f532 f533 f534 f536 f537 f538 f539 f541 f542 f543 f544 f545 f546 f547 f548 f549 f550 f551 f552 f553 f554 f555 f556 f557 f558 f559 f560 f561 f562 f600 f601 f602 f603 f605 f606 f607 f608 f609 f610 f611 f612 f613 f614 f615 f616 f617 f618 f619 f620 f621 f622 f623 f624 f625 f626 f634 f635 f636 f637 f638 f639 f640 f641 f642 f643 f644 f645 f646 f647 f648 f649 f650 f651 f652; omega) | omega, by first | (clear f509 f510 f511 f512 f515 f516 f517 f518 f519 f520 f521 f522 f523 f524 f525 f526 f527 f528 f529 f530 f531 f532 f533 f534 f536 f537 f538 f539 f540 f542 f543 f544 f545 f546 f547 f548 f549 f550 f551 f552 f553 f554 f555 f556 f557 f558 f559 f560 f561 f562 f600 f601 f602 f603 f604 f606 f607 f608 f609 f610 f611 f612 f613 f614 f615 f616 f617 f618 f619 f620 f621 f622 f623 f624 f625 f626 f634 f635 f636 f637 f638 f639 f640 f641 f642 f643 f644 f645 f646 f647 f648 f649 f650 f651 f652; omega) | omega, by first | (clear f509 f510 f511 f512 f514 f516 f517 f518 f519 f520 f521 f522 f523 f524 f525 f526 f527 f528 f529 f530 f531 f532 f533 f534 f536 f537 f538 f539 f540 f541 f543 f544 f545 f546 f547 f548 f549 f550 f551 f552 f553 f554 f555 f556 f557 f558 f559 f560 f561 f562 f600 f601 f602 f603 f604 f605 f607 f608 f609 f610 f611 f612 f613 f614 f615 f616 f617 f618 f619 f620 f621 f622 f623 f624 f625 f626 f634 f635 f636 f637 f638 f639 f640 f641 f642 f643 f644 f645 f646 f647 f648 f649 f650 f651 f652; omega) | omega, (eA_ti (j := 0) (((hF577.2.1 173 (by decide)).trans (hF496.2.1 173 (by decide))))).trans (hR_7.trans (eA_ti (j := 0) (((hF577.2.1 235 (by decide)).trans (hF496.2.1 235 (by decide))))).symm), (eA_ti (j := 1) (((hF577.2.1 173 (by decide)).trans (hF496.2.1 173 (by decide))))).trans (hR_8.trans (eA_ti (j := 1) (((hF577.2.1 235 (by decide)).trans (hF496.2.1 235 (by decide))))).symm), (congrArg Int32.toInt (((hF577.1 174 1 (by decide)).trans (hF496.1 174 1 (by decide))))).trans (hR_9.trans (congrArg Int32.toInt (((hF577.1 231 8 (by decide)).trans (hF496.1 231 8 (by decide))))).symm), (congrArg Int32.toInt (((hF577.1 0 16 (by decide)).trans (hF496.1 0 16 (by decide))))).trans (hR_10.trans (congrArg Int32.toInt (((hF577.1 231 6 (by decide)).trans (hF496.1 231 6 (by decide))))).symm), (congrArg Int32.toInt (((hF577.1 176 2 (by decide)).trans (hF496.1 176 2 (by decide))))).trans (hR_11.trans (congrArg Int32.toInt (((hF577.1 231 13 (by decide)).trans (hF496.1 231 13 (by decide))))).symm), by first | (clear f509 f510 f511 f512 f514 f515 f516 f517 f518 f519 f520 f521 f522 f523 f524 f525 f526 f527 f528 f529 f530 f531 f532 f533 f534 f536 f537 f538 f539 f540 f541 f542 f543 f544 f545 f546 f547 f548 f549 f550 f551 f552 f553 f554 f555 f556 f557 f558 f559 f560 f561 f600 f601 f602 f603 f604 f605 f606 f607 f608 f609 f610 f611 f612 f613 f614 f615 f616 f617 f618 f619 f620 f621 f622 f623 f624 f625 f634 f635 f636 f637 f638 f639 f640 f641 f642 f643 f644 f645 f646 f647 f648 f649 f650 f651 f652; omega) | omega, IM0.cong hR_13 (eA_ti (j := 0) (((hF577.2.1 173 (by decide)).trans (hF496.2.1 173 (by decide))))) (congrArg Int32.toInt (((hF577.1 59 0 (by decide)).trans (hF496.1 59 0 (by decide))))) (eA_ti (j := 0) (((hF577.2.1 234 (by decide)).trans (hF496.2.1 234 (by decide))))) (congrArg Int32.toInt (((hF577.1 59 12 (by decide)).trans (hF496.1 59 12 (by decide))))) (eA_ti (j := 4) (((hF577.2.1 234 (by decide)).trans (hF496.2.1 234 (by decide))))) (congrArg Int32.toInt (((hF577.1 59 10 (by decide)).trans (hF496.1 59 10 (by decide))))) (eA_ti (j := 5) (((hF577.2.1 234 (by decide)).trans (hF496.2.1 234 (by decide))))) (congrArg Int32.toInt (((hF577.1 59 11 (by decide)).trans (hF496.1 59 11 (by decide))))) (eA_ti (j := 6) (((hF577.2.1 234 (by decide)).trans (hF496.2.1 234 (by decide))))) (congrArg Int32.toInt (((hF577.1 59 4 (by decide)).trans (hF496.1 59 4 (by decide))))) (eA_ti (j := 1) (((hF577.2.1 234 (by decide)).trans (hF496.2.1 234 (by decide))))) (congrArg Int32.toInt (((hF577.1 59 6 (by decide)).trans (hF496.1 59 6 (by decide))))) (eA_ti (j := 2) (((hF577.2.1 234 (by decide)).trans (hF496.2.1 234 (by decide))))) (congrArg Int32.toInt (((hF577.1 59 9 (by decide)).trans (hF496.1 59 9 (by decide))))) (eA_ti (j := 3) (((hF577.2.1 234 (by decide)).trans (hF496.2.1 234 (by decide))))), IM1.cong hR_14 (eA_ti (j := 1) (((hF577.2.1 173 (by decide)).trans (hF496.2.1 173 (by decide))))) (congrArg Int32.toInt (((hF577.1 116 0 (by decide)).trans (hF496.1 116 0 (by decide))))) (eA_ti (j := 5510) (((hF577.2.1 234 (by decide)).trans (hF496.2.1 234 (by decide))))) (congrArg Int32.toInt (((hF577.1 116 12 (by decide)).trans (hF496.1 116 12 (by decide))))) (eA_ti (j := 5514) (((hF577.2.1 234 (by decide)).trans (hF496.2.1 234 (by decide))))) (congrArg Int32.toInt (((hF577.1 116 10 (by decide)).trans (hF496.1 116 10 (by decide))))) (eA_ti (j := 5515) (((hF577.2.1 234 (by decide)).trans (hF496.2.1 234 (by decide))))) (congrArg Int32.toInt (((hF577.1 116 11 (by decide)).trans (hF496.1 116 11 (by decide))))) (eA_ti (j := 5516) (((hF577.2.1 234 (by decide)).trans (hF496.2.1 234 (by decide))))) (congrArg Int32.toInt (((hF577.1 116 4 (by decide)).trans (hF496.1 116 4 (by decide))))) (eA_ti (j := 5511) (((hF577.2.1 234 (by decide)).trans (hF496.2.1 234 (by decide))))) (congrArg Int32.toInt (((hF577.1 116 6 (by decide)).trans (hF496.1 116 6 (by decide))))) (eA_ti (j := 5512) (((hF577.2.1 234 (by decide)).trans (hF496.2.1 234 (by decide))))) (congrArg Int32.toInt (((hF577.1 116 9 (by decide)).trans (hF496.1 116 9 (by decide))))) (eA_ti (j := 5513) (((hF577.2.1 234 (by decide)).trans (hF496.2.1 234 (by decide))))), (show CT _ from ⟨fun i i0 i1 => ⟨(by first | (clear f516 f517 f518 f519 f520 f521 f522 f523 f524 f525 f526 f527 f528 f529 f532 f533 f534 f543 f544 f545 f546 f547 f548 f549 f550 f551 f552 f553 f554 f555 f556 f559 f560 f561 f562 f607 f608 f609 f610 f611 f612 f613 f614 f615 f616 f617 f618 f619 f620 f623 f624 f625 f626 f634 f635 f636 f637 f638 f639 f640 f641 f642 f643 f644 f645 f646 f647 f650 f651 f652; have t0_ := hI0.t0; have t1_ := hI0.t1; have o := (hR_15.1 i i0 i1).1; have x := eA_ti (j := i) (((hF577.2.1 2 (by decide)).trans (hF496.2.1 2 (by decide)))); have m := q584 (10 + 3 * i) (by omega) (by omega); have y1 := eA_ti (j := ((10 + 3 * i))) (hF496.2.1 233 (by decide)); first | exact x.trans (o.trans (m.trans y1).symm) | omega) | (have t0_ := hI0.t0; have t1_ := hI0.t1; have o := (hR_15.1 i i0 i1).1; have x := eA_ti (j := i) (((hF577.2.1 2 (by decide)).trans (hF496.2.1 2 (by decide)))); have m := q584 (10 + 3 * i) (by omega) (by omega); have y1 := eA_ti (j := ((10 + 3 * i))) (hF496.2.1 233 (by decide)); first | exact x.trans (o.trans (m.trans y1).symm) | omega)), (by first | (clear f516 f517 f518 f519 f520 f521 f522 f523 f524 f525 f526 f527 f528 f529 f532 f533 f534 f543 f544 f545 f546 f547 f548 f549 f550 f551 f552 f553 f554 f555 f556 f559 f560 f561 f562 f607 f608 f609 f610 f611 f612 f613 f614 f615 f616 f617 f618 f619 f620 f623 f624 f625 f626 f634 f635 f636 f637 f638 f639 f640 f641 f642 f643 f644 f645 f646 f647 f650 f651 f652; have t0_ := hI0.t0; have t1_ := hI0.t1; have o := (hR_15.1 i i0 i1).2.1; have x := eA_ti (j := i) (((hF577.2.1 3 (by decide)).trans (hF496.2.1 3 (by decide)))); have m := q584 (10 + 3 * i + 1) (by omega) (by omega); have y1 := eA_ti (j := ((10 + 3 * i + 1))) (hF496.2.1 233 (by decide)); first | exact x.trans (o.trans (m.trans y1).symm) | omega) | (have t0_ := hI0.t0; have t1_ := hI0.t1; have o := (hR_15.1 i i0 i1).2.1; have x := eA_ti (j := i) (((hF577.2.1 3 (by decide)).trans (hF496.2.1 3 (by decide)))); have m := q584 (10 + 3 * i + 1) (by omega) (by omega); have y1 := eA_ti (j := ((10 + 3 * i + 1))) (hF496.2.1 233 (by decide)); first | exact x.trans (o.trans (m.trans y1).symm) | omega)), (by first | (clear f516 f517 f518 f519 f520 f521 f522 f523 f524 f525 f526 f527 f528 f529 f532 f533 f534 f543 f544 f545 f546 f547 f548 f549 f550 f551 f552 f553 f554 f555 f556 f559 f560 f561 f562 f607 f608 f609 f610 f611 f612 f613 f614 f615 f616 f617 f618 f619 f620 f623 f624 f625 f626 f634 f635 f636 f637 f638 f639 f640 f641 f642 f643 f644 f645 f646 f647 f650 f651 f652; have t0_ := hI0.t0; have t1_ := hI0.t1; have o := (hR_15.1 i i0 i1).2.2; have x := eA_ti (j := i) (((hF577.2.1 4 (by decide)).trans (hF496.2.1 4 (by decide)))); have m := q584 (10 + 3 * i + 2) (by omega) (by omega); have y1 := eA_ti (j := ((10 + 3 * i + 2))) (hF496.2.1 233 (by decide)); first | exact x.trans (o.trans (m.trans y1).symm) | omega) | (have t0_ := hI0.t0; have t1_ := hI0.t1; have o := (hR_15.1 i i0 i1).2.2; have x := eA_ti (j := i) (((hF577.2.1 4 (by decide)).trans (hF496.2.1 4 (by decide)))); have m := q584 (10 + 3 * i + 2) (by omega) (by omega); have y1 := eA_ti (j := ((10 + 3 * i + 2))) (hF496.2.1 233 (by decide)); first | exact x.trans (o.trans (m.trans y1).symm) | omega))⟩, fun i i0 i1 => ⟨(by first | (clear f516 f517 f518 f519 f520 f521 f522 f523 f524 f525 f526 f527 f528 f529 f532 f533 f534 f543 f544 f545 f546 f547 f548 f549 f550 f551 f552 f553 f554 f555 f556 f559 f560 f561 f562 f607 f608 f609 f610 f611 f612 f613 f614 f615 f616 f617 f618 f619 f620 f623 f624 f625 f626 f634 f635 f636 f637 f638 f639 f640 f641 f642 f643 f644 f645 f646 f647 f650 f651 f652; have t0_ := hI0.t0; have t1_ := hI0.t1; have o := (hR_15.2.1 i i0 i1).1; have x := eA_ti (j := i) (((hF577.2.1 14 (by decide)).trans (hF496.2.1 14 (by decide)))); have m := q585 (94 + 2 * i) (by omega) (by omega); have y1 := eA_ti (j := ((94 + 2 * i))) (hF496.2.1 233 (by decide)); first | exact x.trans (o.trans (m.trans y1).symm) | omega) | (have t0_ := hI0.t0; have t1_ := hI0.t1; have o := (hR_15.2.1 i i0 i1).1; have x := eA_ti (j := i) (((hF577.2.1 14 (by decide)).trans (hF496.2.1 14 (by decide)))); have m := q585 (94 + 2 * i) (by omega) (by omega); have y1 := eA_ti (j := ((94 + 2 * i))) (hF496.2.1 233 (by decide)); first | exact x.trans (o.trans (m.trans y1).symm) | omega)), (by first | (clear f516 f517 f518 f519 f520 f521 f522 f523 f524 f525 f526 f527 f528 f529 f532 f533 f534 f543 f544 f545 f546 f547 f548 f549 f550 f551 f552 f553 f554 f555 f556 f559 f560 f561 f562 f607 f608 f609 f610 f611 f612 f613 f614 f615 f616 f617 f618 f619 f620 f623 f624 f625 f626 f634 f635 f636 f637 f638 f639 f640 f641 f642 f643 f644 f645 f646 f647 f650 f651 f652; have t0_ := hI0.t0; have t1_ := hI0.t1; have o := (hR_15.2.1 i i0 i1).2; have x := eA_ti (j := i) (((hF577.2.1 15 (by decide)).trans (hF496.2.1 15 (by decide)))); have m := q585 (94 + 2 * i + 1) (by omega) (by omega); have y1 := eA_ti (j := ((94 + 2 * i + 1))) (hF496.2.1 233 (by decide)); first | exact x.trans (o.trans (m.trans y1).symm) | omega) | (have t0_ := hI0.t0; have t1_ := hI0.t1; have o := (hR_15.2.1 i i0 i1).2; have x := eA_ti (j := i) (((hF577.2.1 15 (by decide)).trans (hF496.2.1 15 (by decide)))); have m := q585 (94 + 2 * i + 1) (by omega) (by omega); have y1 := eA_ti (j := ((94 + 2 * i + 1))) (hF496.2.1 233 (by decide)); first | exact x.trans (o.trans (m.trans y1).symm) | omega))⟩, fun i i0 i1 => (by first | (clear f516 f517 f518 f519 f520 f521 f522 f523 f524 f525 f526 f527 f528 f529 f532 f533 f534 f543 f544 f545 f546 f547 f548 f549 f550 f551 f552 f553 f554 f555 f556 f559 f560 f561 f562 f607 f608 f609 f610 f611 f612 f613 f614 f615 f616 f617 f618 f619 f620 f623 f624 f625 f626 f634 f635 f636 f637 f638 f639 f640 f641 f642 f643 f644 f645 f646 f647 f650 f651 f652; have t0_ := hI0.t0; have t1_ := hI0.t1; have o : i < 6 * (gI g0 1 4).toInt → _ := fun hz => hR_15.2.2 i i0 hz; have t9_ := RgF.at hI576.2.1 (p := 1) (b := 4) rfl; dsimp only at t9_; have i9_ : i < 48 := (by omega); have x := (eA_ti (j := i) (hF577.2.1 5 (by decide))).trans (q503 i i0 i9_); have m := q586 (46 + i) (by omega) (by omega); have y1 := eA_ti (j := ((46 + i))) (hF496.2.1 233 (by decide)); have ek0 : (eA g494 233 0).toInt = (gI g0 1 0).toInt := (eA_ti (j := 0) (hF496.2.1 233 (by decide))).trans hR_0.symm; have ek1 : (eA g494 233 1).toInt = (gI g0 1 4).toInt := (eA_ti (j := 1) (hF496.2.1 233 (by decide))).trans hR_4.symm; have eC : ((1 ≤ v2.toInt ∧ v2.toInt ≤ 9 ∧ 0 ≤ v8.toInt ∧ v8.toInt ≤ 99 ∧ 0 ≤ v10.toInt ∧ v10.toInt ≤ 9 ∧ 0 ≤ v12.toInt ∧ v12.toInt ≤ 9999) ∧ (0 ≤ v4.toInt ∧ v4.toInt < (eA g494 233 0).toInt ∧ 0 ≤ v6.toInt ∧ v6.toInt < (eA g494 233 0).toInt) ∧ (eA g494 233 1).toInt < 8) = ((1 ≤ v2.toInt ∧ v2.toInt ≤ 9 ∧ 0 ≤ v8.toInt ∧ v8.toInt ≤ 99 ∧ 0 ≤ v10.toInt ∧ v10.toInt ≤ 9 ∧ 0 ≤ v12.toInt ∧ v12.toInt ≤ 9999) ∧ (0 ≤ v4.toInt ∧ v4.toInt < (gI g0 1 0).toInt ∧ 0 ≤ v6.toInt ∧ v6.toInt < (gI g0 1 0).toInt) ∧ (gI g0 1 4).toInt < 8) := (by rw [ek0, ek1]); have k : (1 ≤ v2.toInt ∧ v2.toInt ≤ 9 ∧ 0 ≤ v8.toInt ∧ v8.toInt ≤ 99 ∧ 0 ≤ v10.toInt ∧ v10.toInt ≤ 9 ∧ 0 ≤ v12.toInt ∧ v12.toInt ≤ 9999) ∧ (0 ≤ v4.toInt ∧ v4.toInt < (gI g0 1 0).toInt ∧ 0 ≤ v6.toInt ∧ v6.toInt < (gI g0 1 0).toInt) ∧ (gI g0 1 4).toInt < 8 := ⟨pk13.1, pk13.2.1, Int.not_le.mp pk13.2.2⟩; rw [ite_ap k, ite_ap k, ite_ap k, ite_ap k, ite_ap k, ite_ap k] at x; have k2 := eC.mpr k; rw [ite_ap k2, ite_ap k2, ite_ap k2, ite_ap k2, ite_ap k2, ite_ap k2] at m; clear eC k2; rw [ek1] at m; exact x.trans ((ld6 (fun z => (o z).trans y1.symm) (by omega)).trans m.symm)) | (have t0_ := hI0.t0; have t1_ := hI0.t1; have o : i < 6 * (gI g0 1 4).toInt → _ := fun hz => hR_15.2.2 i i0 hz; have t9_ := RgF.at hI576.2.1 (p := 1) (b := 4) rfl; dsimp only at t9_; have i9_ : i < 48 := (by omega); have x := (eA_ti (j := i) (hF577.2.1 5 (by decide))).trans (q503 i i0 i9_); have m := q586 (46 + i) (by omega) (by omega); have y1 := eA_ti (j := ((46 + i))) (hF496.2.1 233 (by decide)); have ek0 : (eA g494 233 0).toInt = (gI g0 1 0).toInt := (eA_ti (j := 0) (hF496.2.1 233 (by decide))).trans hR_0.symm; have ek1 : (eA g494 233 1).toInt = (gI g0 1 4).toInt := (eA_ti (j := 1) (hF496.2.1 233 (by decide))).trans hR_4.symm; have eC : ((1 ≤ v2.toInt ∧ v2.toInt ≤ 9 ∧ 0 ≤ v8.toInt ∧ v8.toInt ≤ 99 ∧ 0 ≤ v10.toInt ∧ v10.toInt ≤ 9 ∧ 0 ≤ v12.toInt ∧ v12.toInt ≤ 9999) ∧ (0 ≤ v4.toInt ∧ v4.toInt < (eA g494 233 0).toInt ∧ 0 ≤ v6.toInt ∧ v6.toInt < (eA g494 233 0).toInt) ∧ (eA g494 233 1).toInt < 8) = ((1 ≤ v2.toInt ∧ v2.toInt ≤ 9 ∧ 0 ≤ v8.toInt ∧ v8.toInt ≤ 99 ∧ 0 ≤ v10.toInt ∧ v10.toInt ≤ 9 ∧ 0 ≤ v12.toInt ∧ v12.toInt ≤ 9999) ∧ (0 ≤ v4.toInt ∧ v4.toInt < (gI g0 1 0).toInt ∧ 0 ≤ v6.toInt ∧ v6.toInt < (gI g0 1 0).toInt) ∧ (gI g0 1 4).toInt < 8) := (by rw [ek0, ek1]); have k : (1 ≤ v2.toInt ∧ v2.toInt ≤ 9 ∧ 0 ≤ v8.toInt ∧ v8.toInt ≤ 99 ∧ 0 ≤ v10.toInt ∧ v10.toInt ≤ 9 ∧ 0 ≤ v12.toInt ∧ v12.toInt ≤ 9999) ∧ (0 ≤ v4.toInt ∧ v4.toInt < (gI g0 1 0).toInt ∧ 0 ≤ v6.toInt ∧ v6.toInt < (gI g0 1 0).toInt) ∧ (gI g0 1 4).toInt < 8 := ⟨pk13.1, pk13.2.1, Int.not_le.mp pk13.2.2⟩; rw [ite_ap k, ite_ap k, ite_ap k, ite_ap k, ite_ap k, ite_ap k] at x; have k2 := eC.mpr k; rw [ite_ap k2, ite_ap k2, ite_ap k2, ite_ap k2, ite_ap k2, ite_ap k2] at m; clear eC k2; rw [ek1] at m; exact x.trans ((ld6 (fun z => (o z).trans y1.symm) (by omega)).trans m.symm)))⟩), CI0.cong hR_16 (((hF577.2.1 60 (by decide)).trans (hF496.2.1 60 (by decide)))) (((hF577.2.1 61 (by decide)).trans (hF496.2.1 61 (by decide)))) (((hF577.2.1 62 (by decide)).trans (hF496.2.1 62 (by decide)))) (((hF577.2.1 72 (by decide)).trans (hF496.2.1 72 (by decide)))) (((hF577.2.1 73 (by decide)).trans (hF496.2.1 73 (by decide)))) (((hF577.2.1 63 (by decide)).trans (hF496.2.1 63 (by decide)))) (((hF577.2.1 234 (by decide)).trans (hF496.2.1 234 (by decide)))) (congrArg Int32.toInt (((hF577.1 59 4 (by decide)).trans (hF496.1 59 4 (by decide))))), CI1.cong hR_17 (((hF577.2.1 117 (by decide)).trans (hF496.2.1 117 (by decide)))) (((hF577.2.1 118 (by decide)).trans (hF496.2.1 118 (by decide)))) (((hF577.2.1 119 (by decide)).trans (hF496.2.1 119 (by decide)))) (((hF577.2.1 129 (by decide)).trans (hF496.2.1 129 (by decide)))) (((hF577.2.1 130 (by decide)).trans (hF496.2.1 130 (by decide)))) (((hF577.2.1 120 (by decide)).trans (hF496.2.1 120 (by decide)))) (((hF577.2.1 234 (by decide)).trans (hF496.2.1 234 (by decide)))) (congrArg Int32.toInt (((hF577.1 116 4 (by decide)).trans (hF496.1 116 4 (by decide))))), (show RT _ from fun i i0 i1 => (eA_ti (((hF577.2.1 175 (by decide)).trans (hF496.2.1 175 (by decide))))).trans ((hR_18 i i0 (by omega)).trans (eA_ti (((hF577.2.1 236 (by decide)).trans (hF496.2.1 236 (by decide))))).symm)), (show BYX _ from fun i i0 i1 => by rw [TX.c (((hF577.2.1 175 (by decide)).trans (hF496.2.1 175 (by decide))))]; exact hR_19 i i0 (by have i2 : i < (gI _ 174 1).toInt := i1; show i < (gI g0 174 1).toInt; omega))⟩)
