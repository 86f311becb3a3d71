set_option maxRecDepth 100000 in
set_option maxHeartbeats 8000000 in
theorem lq_c3 (d : Nat) {N : Nat} {g0 : List en_E} (hI0 : HI g0) (hR0 : LwR g0) {ys : List Int32} {L : Nat} (hL : ys.length = L) (hL2 : L ≤ 3584) {l : en_L} {i : Int32} (e0 : en_get 0 l = some (.float 0)) (e1 : en_get 1 l = some (.ref 0)) (e2 : en_get 2 l = some (.ref 231)) (e3 : en_get 3 l = some (.int i)) (hi : 0 ≤ i.toInt ∧ i.toInt + 7 ≤ L) {Ph : Option Value → en_H → Prop} (K : ∀ g1 : List en_E, HI g1 → LwR g1 → At (d + 423) (some ys) (some .boolean) bs_L_law (1330, l, [], (g1, N)) Ph) : At (d + 423) (some ys) (some .boolean) bs_L_law (327, l, [], (g0, N)) Ph := by
  have hF0 : Fr F_law A_law g0 g0 := Fr.rf
  have hx_1 : -2147483648 ≤ i.toInt + 1 ∧ i.toInt + 1 ≤ 2147483647 := by omega
  have hx_2 : -2147483648 ≤ i.toInt + 2 ∧ i.toInt + 2 ≤ 2147483647 := by omega
  have hx_3 : -2147483648 ≤ i.toInt + 3 ∧ i.toInt + 3 ≤ 2147483647 := by omega
  have hx_4 : -2147483648 ≤ i.toInt + 4 ∧ i.toInt + 4 ≤ 2147483647 := by omega
  have hx_5 : -2147483648 ≤ i.toInt + 5 ∧ i.toInt + 5 ≤ 2147483647 := by omega
  have hx_6 : -2147483648 ≤ i.toInt + 6 ∧ i.toInt + 6 ≤ 2147483647 := by omega
  have hy_0 : 0 ≤ i.toInt ∧ i.toInt < (L : Int) := by omega
  have hy_1 : 0 ≤ i.toInt + 1 ∧ i.toInt + 1 < (L : Int) := by omega
  have hy_2 : 0 ≤ i.toInt + 2 ∧ i.toInt + 2 < (L : Int) := by omega
  have hy_3 : 0 ≤ i.toInt + 3 ∧ i.toInt + 3 < (L : Int) := by omega
  have hy_4 : 0 ≤ i.toInt + 4 ∧ i.toInt + 4 < (L : Int) := by omega
  have hy_5 : 0 ≤ i.toInt + 5 ∧ i.toInt + 5 < (L : Int) := by omega
  have hy_6 : 0 ≤ i.toInt + 6 ∧ i.toInt + 6 < (L : Int) := by omega
  unfold LwR at hR0
  obtain ⟨hR_0, hR_1, hR_2, hR_3, hR_4, hR_5, hR_6, hR_7, hR_8, hR_9, hR_10, hR_11, hR_12, hR_13, hR_14, hR_15, hR_16, hR_17, hR_18, hR_19, hR_20⟩ := hR0
  refine At.enter rfl ?_
  refine r_aload_n e1 ?_
  refine r_sload_n e0 ?_
  refine r_iload_n e3 ?_
  refine r_iconst 1 rfl ?_
  refine q_iadd (i.toInt + 1) rfl hx_1 (fun v1 hv1 => ?_)
  refine q_scald (m := L) hL (i.toInt + 1) hv1 hy_1 (fun v2 hv2 => ?_)
  refine r_sload_n e0 ?_
  refine r_iload_n e3 ?_
  refine r_iconst 2 rfl ?_
  refine q_iadd (i.toInt + 2) rfl hx_2 (fun v3 hv3 => ?_)
  refine q_scald (m := L) hL (i.toInt + 2) hv3 hy_2 (fun v4 hv4 => ?_)
  refine r_sload_n e0 ?_
  refine r_iload_n e3 ?_
  refine r_iconst 3 rfl ?_
  refine q_iadd (i.toInt + 3) rfl hx_3 (fun v5 hv5 => ?_)
  refine q_scald (m := L) hL (i.toInt + 3) hv5 hy_3 (fun v6 hv6 => ?_)
  refine r_sload_n e0 ?_
  refine r_iload_n e3 ?_
  refine r_iconst 4 rfl ?_
  refine q_iadd (i.toInt + 4) rfl hx_4 (fun v7 hv7 => ?_)
  refine q_scald (m := L) hL (i.toInt + 4) hv7 hy_4 (fun v8 hv8 => ?_)
  refine r_sload_n e0 ?_
  refine r_iload_n e3 ?_
  refine r_iconst 5 rfl ?_
  refine q_iadd (i.toInt + 5) rfl hx_5 (fun v9 hv9 => ?_)
  refine q_scald (m := L) hL (i.toInt + 5) hv9 hy_5 (fun v10 hv10 => ?_)
  refine r_sload_n e0 ?_
  refine r_iload_n e3 ?_
  refine r_bipush 6 rfl ?_
  refine q_iadd (i.toInt + 6) rfl hx_6 (fun v11 hv11 => ?_)
  refine q_scald (m := L) hL (i.toInt + 6) hv11 hy_6 (fun v12 hv12 => ?_)
  rcases cs4 (1 ≤ v2.toInt ∧ v2.toInt ≤ 9 ∧ 0 ≤ v8.toInt ∧ v8.toInt ≤ 99 ∧ 0 ≤ v10.toInt ∧ v10.toInt ≤ 9 ∧ 0 ≤ v12.toInt ∧ v12.toInt ≤ 9999) (0 ≤ v4.toInt ∧ v4.toInt < (gI g0 1 0).toInt ∧ 0 ≤ v6.toInt ∧ v6.toInt < (gI g0 1 0).toInt) (8 ≤ (gI g0 1 4).toInt) with pk13 | pk13 | pk13 | pk13
  · refine r_callV 362 rfl [.ref 0, .int v2, .int v4, .int v6, .int v8, .int v10, .int v12] [] (Nat.le_of_ble_eq_true rfl) rfl (T_X10_load_0 _ hI0 v2 v4 v6 v8 v10 v12) ?_
    rintro _ _ ⟨g14, rfl, hI15, hF16, v17, rfl, hr18⟩
    refine At.sti ?_
    have hF19 := Fr.tr hF0 hF16 rfl rfl
    have fe20 : PH _ := hr18.2.2
    replace hr18 := And.intro hr18.1 hr18.2.1
    obtain ⟨q21, q22, q23⟩ := hr18
    obtain ⟨i25, i26, i27, i28⟩ := q22
    have w24 := i25 pk13
    clear i25 i26 i27 i28
    have f29 := congrArg Int32.toInt (hF16.1 1 0 rfl)
    have f30 := congrArg Int32.toInt (hF16.1 1 12 rfl)
    have f31 := congrArg Int32.toInt (hF16.1 1 10 rfl)
    have f32 := congrArg Int32.toInt (hF16.1 1 11 rfl)
    have f33 := congrArg Int32.toInt (hF16.1 1 6 rfl)
    have f34 := congrArg Int32.toInt (hF16.1 1 9 rfl)
    have f35 := congrArg Int32.toInt (hF16.1 59 0 rfl)
    have f36 := congrArg Int32.toInt (hF16.1 59 12 rfl)
    have f37 := congrArg Int32.toInt (hF16.1 59 10 rfl)
    have f38 := congrArg Int32.toInt (hF16.1 59 11 rfl)
    have f39 := congrArg Int32.toInt (hF16.1 59 4 rfl)
    have f40 := congrArg Int32.toInt (hF16.1 59 6 rfl)
    have f41 := congrArg Int32.toInt (hF16.1 59 9 rfl)
    have f42 := congrArg Int32.toInt (hF16.1 116 0 rfl)
    have f43 := congrArg Int32.toInt (hF16.1 116 12 rfl)
    have f44 := congrArg Int32.toInt (hF16.1 116 10 rfl)
    have f45 := congrArg Int32.toInt (hF16.1 116 11 rfl)
    have f46 := congrArg Int32.toInt (hF16.1 116 4 rfl)
    have f47 := congrArg Int32.toInt (hF16.1 116 6 rfl)
    have f48 := congrArg Int32.toInt (hF16.1 116 9 rfl)
    have f49 := congrArg Int32.toInt (eA_c (j := 0) (hF16.2.1 173 rfl))
    have f50 := congrArg Int32.toInt (eA_c (j := 1) (hF16.2.1 173 rfl))
    have f51 := congrArg Int32.toInt (hF16.1 174 1 rfl)
    have f52 := congrArg Int32.toInt (hF16.1 0 16 rfl)
    have f53 := congrArg Int32.toInt (hF16.1 176 2 rfl)
    have f54 := congrArg Int32.toInt (eA_c (j := 0) (hF16.2.1 233 rfl))
    have f55 := congrArg Int32.toInt (eA_c (j := 4) (hF16.2.1 233 rfl))
    have f56 := congrArg Int32.toInt (eA_c (j := 5) (hF16.2.1 233 rfl))
    have f57 := congrArg Int32.toInt (eA_c (j := 6) (hF16.2.1 233 rfl))
    have f58 := congrArg Int32.toInt (eA_c (j := 1) (hF16.2.1 233 rfl))
    have f59 := congrArg Int32.toInt (eA_c (j := 2) (hF16.2.1 233 rfl))
    have f60 := congrArg Int32.toInt (eA_c (j := 3) (hF16.2.1 233 rfl))
    have f61 := congrArg Int32.toInt (eA_c (j := 0) (hF16.2.1 234 rfl))
    have f62 := congrArg Int32.toInt (eA_c (j := 4) (hF16.2.1 234 rfl))
    have f63 := congrArg Int32.toInt (eA_c (j := 5) (hF16.2.1 234 rfl))
    have f64 := congrArg Int32.toInt (eA_c (j := 6) (hF16.2.1 234 rfl))
    have f65 := congrArg Int32.toInt (eA_c (j := 1) (hF16.2.1 234 rfl))
    have f66 := congrArg Int32.toInt (eA_c (j := 2) (hF16.2.1 234 rfl))
    have f67 := congrArg Int32.toInt (eA_c (j := 3) (hF16.2.1 234 rfl))
    have f68 := congrArg Int32.toInt (eA_c (j := 5510) (hF16.2.1 234 rfl))
    have f69 := congrArg Int32.toInt (eA_c (j := 5514) (hF16.2.1 234 rfl))
    have f70 := congrArg Int32.toInt (eA_c (j := 5515) (hF16.2.1 234 rfl))
    have f71 := congrArg Int32.toInt (eA_c (j := 5516) (hF16.2.1 234 rfl))
    have f72 := congrArg Int32.toInt (eA_c (j := 5511) (hF16.2.1 234 rfl))
    have f73 := congrArg Int32.toInt (eA_c (j := 5512) (hF16.2.1 234 rfl))
    have f74 := congrArg Int32.toInt (eA_c (j := 5513) (hF16.2.1 234 rfl))
    have f75 := congrArg Int32.toInt (eA_c (j := 0) (hF16.2.1 235 rfl))
    have f76 := congrArg Int32.toInt (eA_c (j := 1) (hF16.2.1 235 rfl))
    have f77 := congrArg Int32.toInt (hF16.1 231 8 rfl)
    have f78 := congrArg Int32.toInt (hF16.1 231 6 rfl)
    have f79 := congrArg Int32.toInt (hF16.1 231 13 rfl)
    refine At.enter rfl ?_
    refine r_pop rfl ?_
    refine r_aload_n e2 ?_
    refine r_sload_n e0 ?_
    refine r_iload_n e3 ?_
    refine r_iconst 1 rfl ?_
    refine q_iadd (i.toInt + 1) rfl hx_1 (fun v80 hv80 => ?_)
    refine q_scald (m := L) hL (i.toInt + 1) hv80 hy_1 (fun v81 hv81 => ?_)
    have sv81 := hv2.symm.trans hv81
    subst sv81
    refine r_sload_n e0 ?_
    refine r_iload_n e3 ?_
    refine r_iconst 2 rfl ?_
    refine q_iadd (i.toInt + 2) rfl hx_2 (fun v82 hv82 => ?_)
    refine q_scald (m := L) hL (i.toInt + 2) hv82 hy_2 (fun v83 hv83 => ?_)
    have sv83 := hv4.symm.trans hv83
    subst sv83
    refine r_sload_n e0 ?_
    refine r_iload_n e3 ?_
    refine r_iconst 3 rfl ?_
    refine q_iadd (i.toInt + 3) rfl hx_3 (fun v84 hv84 => ?_)
    refine q_scald (m := L) hL (i.toInt + 3) hv84 hy_3 (fun v85 hv85 => ?_)
    have sv85 := hv6.symm.trans hv85
    subst sv85
    refine r_sload_n e0 ?_
    refine r_iload_n e3 ?_
    refine r_iconst 4 rfl ?_
    refine q_iadd (i.toInt + 4) rfl hx_4 (fun v86 hv86 => ?_)
    refine q_scald (m := L) hL (i.toInt + 4) hv86 hy_4 (fun v87 hv87 => ?_)
    have sv87 := hv8.symm.trans hv87
    subst sv87
    refine r_sload_n e0 ?_
    refine r_iload_n e3 ?_
    refine r_iconst 5 rfl ?_
    refine q_iadd (i.toInt + 5) rfl hx_5 (fun v88 hv88 => ?_)
    refine q_scald (m := L) hL (i.toInt + 5) hv88 hy_5 (fun v89 hv89 => ?_)
    have sv89 := hv10.symm.trans hv89
    subst sv89
    refine r_sload_n e0 ?_
    refine r_iload_n e3 ?_
    refine r_bipush 6 rfl ?_
    refine q_iadd (i.toInt + 6) rfl hx_6 (fun v90 hv90 => ?_)
    refine q_scald (m := L) hL (i.toInt + 6) hv90 hy_6 (fun v91 hv91 => ?_)
    have sv91 := hv12.symm.trans hv91
    subst sv91
    refine r_callV 398 rfl [.ref 231, .int v2, .int v4, .int v6, .int v8, .int v10, .int v12] [] (Nat.le_of_ble_eq_true rfl) rfl (T_X11_load_231 _ hI15 v2 v4 v6 v8 v10 v12) ?_
    rintro _ _ ⟨g92, rfl, hI93, hF94, v95, rfl, hr96⟩
    refine At.sti ?_
    have hF97 := Fr.tr hF19 hF94 rfl rfl
    obtain ⟨q99, q100, q101, q102, q103⟩ := hr96
    have ek115 : (eA g14 233 0).toInt = (gI g0 1 0).toInt := (eA_ti (j := 0) (hF16.2.1 233 (by decide))).trans hR_0.symm
    have ek116 : (eA g14 233 1).toInt = (gI g0 1 4).toInt := (eA_ti (j := 1) (hF16.2.1 233 (by decide))).trans hR_4.symm
    obtain ⟨i105, i106, i107, i108, sm109, sm110, sm111, sm112, sm113, sm114⟩ := q100
    have w104 := i105 pk13
    clear i105 i106 i107 i108
    have f117 := congrArg Int32.toInt (hF94.1 1 0 rfl)
    have f118 := congrArg Int32.toInt (hF94.1 1 12 rfl)
    have f119 := congrArg Int32.toInt (hF94.1 1 10 rfl)
    have f120 := congrArg Int32.toInt (hF94.1 1 11 rfl)
    have f121 := congrArg Int32.toInt (hF94.1 1 4 rfl)
    have f122 := congrArg Int32.toInt (hF94.1 1 6 rfl)
    have f123 := congrArg Int32.toInt (hF94.1 1 9 rfl)
    have f124 := congrArg Int32.toInt (hF94.1 59 0 rfl)
    have f125 := congrArg Int32.toInt (hF94.1 59 12 rfl)
    have f126 := congrArg Int32.toInt (hF94.1 59 10 rfl)
    have f127 := congrArg Int32.toInt (hF94.1 59 11 rfl)
    have f128 := congrArg Int32.toInt (hF94.1 59 4 rfl)
    have f129 := congrArg Int32.toInt (hF94.1 59 6 rfl)
    have f130 := congrArg Int32.toInt (hF94.1 59 9 rfl)
    have f131 := congrArg Int32.toInt (hF94.1 116 0 rfl)
    have f132 := congrArg Int32.toInt (hF94.1 116 12 rfl)
    have f133 := congrArg Int32.toInt (hF94.1 116 10 rfl)
    have f134 := congrArg Int32.toInt (hF94.1 116 11 rfl)
    have f135 := congrArg Int32.toInt (hF94.1 116 4 rfl)
    have f136 := congrArg Int32.toInt (hF94.1 116 6 rfl)
    have f137 := congrArg Int32.toInt (hF94.1 116 9 rfl)
    have f138 := congrArg Int32.toInt (eA_c (j := 0) (hF94.2.1 173 rfl))
    have f139 := congrArg Int32.toInt (eA_c (j := 1) (hF94.2.1 173 rfl))
    have f140 := congrArg Int32.toInt (hF94.1 174 1 rfl)
    have f141 := congrArg Int32.toInt (hF94.1 0 16 rfl)
    have f142 := congrArg Int32.toInt (hF94.1 176 2 rfl)
    have f143 := congrArg Int32.toInt (eA_c (j := 0) (hF94.2.1 234 rfl))
    have f144 := congrArg Int32.toInt (eA_c (j := 4) (hF94.2.1 234 rfl))
    have f145 := congrArg Int32.toInt (eA_c (j := 5) (hF94.2.1 234 rfl))
    have f146 := congrArg Int32.toInt (eA_c (j := 6) (hF94.2.1 234 rfl))
    have f147 := congrArg Int32.toInt (eA_c (j := 1) (hF94.2.1 234 rfl))
    have f148 := congrArg Int32.toInt (eA_c (j := 2) (hF94.2.1 234 rfl))
    have f149 := congrArg Int32.toInt (eA_c (j := 3) (hF94.2.1 234 rfl))
    have f150 := congrArg Int32.toInt (eA_c (j := 5510) (hF94.2.1 234 rfl))
    have f151 := congrArg Int32.toInt (eA_c (j := 5514) (hF94.2.1 234 rfl))
    have f152 := congrArg Int32.toInt (eA_c (j := 5515) (hF94.2.1 234 rfl))
    have f153 := congrArg Int32.toInt (eA_c (j := 5516) (hF94.2.1 234 rfl))
    have f154 := congrArg Int32.toInt (eA_c (j := 5511) (hF94.2.1 234 rfl))
    have f155 := congrArg Int32.toInt (eA_c (j := 5512) (hF94.2.1 234 rfl))
    have f156 := congrArg Int32.toInt (eA_c (j := 5513) (hF94.2.1 234 rfl))
    have f157 := congrArg Int32.toInt (eA_c (j := 0) (hF94.2.1 235 rfl))
    have f158 := congrArg Int32.toInt (eA_c (j := 1) (hF94.2.1 235 rfl))
    have f159 := congrArg Int32.toInt (hF94.1 231 8 rfl)
    have f160 := congrArg Int32.toInt (hF94.1 231 6 rfl)
    have f161 := congrArg Int32.toInt (hF94.1 231 13 rfl)
    refine At.enter rfl ?_
    refine r_pop rfl ?_
    refine r_goto ?_
    exact K _ hI93 (show LwR _ from ⟨by omega, by omega, by omega, by omega, by omega, by omega, by omega, (eA_ti (j := 0) (((hF94.2.1 173 (by decide)).trans (hF16.2.1 173 (by decide))))).trans (hR_7.trans (eA_ti (j := 0) (((hF94.2.1 235 (by decide)).trans (hF16.2.1 235 (by decide))))).symm), (eA_ti (j := 1) (((hF94.2.1 173 (by decide)).trans (hF16.2.1 173 (by decide))))).trans (hR_8.trans (eA_ti (j := 1) (((hF94.2.1 235 (by decide)).trans (hF16.2.1 235 (by decide))))).symm), (congrArg Int32.toInt (((hF94.1 174 1 (by decide)).trans (hF16.1 174 1 (by decide))))).trans (hR_9.trans (congrArg Int32.toInt (((hF94.1 231 8 (by decide)).trans (hF16.1 231 8 (by decide))))).symm), (congrArg Int32.toInt (((hF94.1 0 16 (by decide)).trans (hF16.1 0 16 (by decide))))).trans (hR_10.trans (congrArg Int32.toInt (((hF94.1 231 6 (by decide)).trans (hF16.1 231 6 (by decide))))).symm), (congrArg Int32.toInt (((hF94.1 176 2 (by decide)).trans (hF16.1 176 2 (by decide))))).trans (hR_11.trans (congrArg Int32.toInt (((hF94.1 231 13 (by decide)).trans (hF16.1 231 13 (by decide))))).symm), IM0.cong hR_12 (eA_ti (j := 0) (((hF94.2.1 173 (by decide)).trans (hF16.2.1 173 (by decide))))) (congrArg Int32.toInt (((hF94.1 59 0 (by decide)).trans (hF16.1 59 0 (by decide))))) (eA_ti (j := 0) (((hF94.2.1 234 (by decide)).trans (hF16.2.1 234 (by decide))))) (congrArg Int32.toInt (((hF94.1 59 12 (by decide)).trans (hF16.1 59 12 (by decide))))) (eA_ti (j := 4) (((hF94.2.1 234 (by decide)).trans (hF16.2.1 234 (by decide))))) (congrArg Int32.toInt (((hF94.1 59 10 (by decide)).trans (hF16.1 59 10 (by decide))))) (eA_ti (j := 5) (((hF94.2.1 234 (by decide)).trans (hF16.2.1 234 (by decide))))) (congrArg Int32.toInt (((hF94.1 59 11 (by decide)).trans (hF16.1 59 11 (by decide))))) (eA_ti (j := 6) (((hF94.2.1 234 (by decide)).trans (hF16.2.1 234 (by decide))))) (congrArg Int32.toInt (((hF94.1 59 4 (by decide)).trans (hF16.1 59 4 (by decide))))) (eA_ti (j := 1) (((hF94.2.1 234 (by decide)).trans (hF16.2.1 234 (by decide))))) (congrArg Int32.toInt (((hF94.1 59 6 (by decide)).trans (hF16.1 59 6 (by decide))))) (eA_ti (j := 2) (((hF94.2.1 234 (by decide)).trans (hF16.2.1 234 (by decide))))) (congrArg Int32.toInt (((hF94.1 59 9 (by decide)).trans (hF16.1 59 9 (by decide))))) (eA_ti (j := 3) (((hF94.2.1 234 (by decide)).trans (hF16.2.1 234 (by decide))))), IM1.cong hR_13 (eA_ti (j := 1) (((hF94.2.1 173 (by decide)).trans (hF16.2.1 173 (by decide))))) (congrArg Int32.toInt (((hF94.1 116 0 (by decide)).trans (hF16.1 116 0 (by decide))))) (eA_ti (j := 5510) (((hF94.2.1 234 (by decide)).trans (hF16.2.1 234 (by decide))))) (congrArg Int32.toInt (((hF94.1 116 12 (by decide)).trans (hF16.1 116 12 (by decide))))) (eA_ti (j := 5514) (((hF94.2.1 234 (by decide)).trans (hF16.2.1 234 (by decide))))) (congrArg Int32.toInt (((hF94.1 116 10 (by decide)).trans (hF16.1 116 10 (by decide))))) (eA_ti (j := 5515) (((hF94.2.1 234 (by decide)).trans (hF16.2.1 234 (by decide))))) (congrArg Int32.toInt (((hF94.1 116 11 (by decide)).trans (hF16.1 116 11 (by decide))))) (eA_ti (j := 5516) (((hF94.2.1 234 (by decide)).trans (hF16.2.1 234 (by decide))))) (congrArg Int32.toInt (((hF94.1 116 4 (by decide)).trans (hF16.1 116 4 (by decide))))) (eA_ti (j := 5511) (((hF94.2.1 234 (by decide)).trans (hF16.2.1 234 (by decide))))) (congrArg Int32.toInt (((hF94.1 116 6 (by decide)).trans (hF16.1 116 6 (by decide))))) (eA_ti (j := 5512) (((hF94.2.1 234 (by decide)).trans (hF16.2.1 234 (by decide))))) (congrArg Int32.toInt (((hF94.1 116 9 (by decide)).trans (hF16.1 116 9 (by decide))))) (eA_ti (j := 5513) (((hF94.2.1 234 (by decide)).trans (hF16.2.1 234 (by decide))))), (show CT _ from ⟨fun i i0 i1 => ⟨(by have t0_ := hI0.t0; have t1_ := hI0.t1; have o := (hR_14.1 i i0 i1).1; have x := eA_ti (j := i) (((hF94.2.1 2 (by decide)).trans (hF16.2.1 2 (by decide)))); have m := q101 (10 + 3 * i) (by omega) (by omega); have y1 := eA_ti (j := ((10 + 3 * i))) (hF16.2.1 233 (by decide)); first | exact x.trans (o.trans (m.trans y1).symm) | omega), (by have t0_ := hI0.t0; have t1_ := hI0.t1; have o := (hR_14.1 i i0 i1).2.1; have x := eA_ti (j := i) (((hF94.2.1 3 (by decide)).trans (hF16.2.1 3 (by decide)))); have m := q101 (10 + 3 * i + 1) (by omega) (by omega); have y1 := eA_ti (j := ((10 + 3 * i + 1))) (hF16.2.1 233 (by decide)); first | exact x.trans (o.trans (m.trans y1).symm) | omega), (by have t0_ := hI0.t0; have t1_ := hI0.t1; have o := (hR_14.1 i i0 i1).2.2; have x := eA_ti (j := i) (((hF94.2.1 4 (by decide)).trans (hF16.2.1 4 (by decide)))); have m := q101 (10 + 3 * i + 2) (by omega) (by omega); have y1 := eA_ti (j := ((10 + 3 * i + 2))) (hF16.2.1 233 (by decide)); first | exact x.trans (o.trans (m.trans y1).symm) | omega)⟩, fun i i0 i1 => ⟨(by have t0_ := hI0.t0; have t1_ := hI0.t1; have o := (hR_14.2.1 i i0 i1).1; have x := eA_ti (j := i) (((hF94.2.1 14 (by decide)).trans (hF16.2.1 14 (by decide)))); have m := q102 (94 + 2 * i) (by omega) (by omega); have y1 := eA_ti (j := ((94 + 2 * i))) (hF16.2.1 233 (by decide)); first | exact x.trans (o.trans (m.trans y1).symm) | omega), (by have t0_ := hI0.t0; have t1_ := hI0.t1; have o := (hR_14.2.1 i i0 i1).2; have x := eA_ti (j := i) (((hF94.2.1 15 (by decide)).trans (hF16.2.1 15 (by decide)))); have m := q102 (94 + 2 * i + 1) (by omega) (by omega); have y1 := eA_ti (j := ((94 + 2 * i + 1))) (hF16.2.1 233 (by decide)); first | exact x.trans (o.trans (m.trans y1).symm) | omega)⟩, fun i i0 i1 => (by have t0_ := hI0.t0; have t1_ := hI0.t1; have o : i < 6 * (gI g0 1 4).toInt → _ := fun hz => hR_14.2.2 i i0 hz; have t9_ := RgF.at hI93.2.1 (p := 1) (b := 4) rfl; dsimp only at t9_; have i9_ : i < 48 := (by omega); have x := (eA_ti (j := i) (hF94.2.1 5 (by decide))).trans (q23 i i0 i9_); have m := q103 (46 + i) (by omega) (by omega); have y1 := eA_ti (j := ((46 + i))) (hF16.2.1 233 (by decide)); have ek0 : (eA g14 233 0).toInt = (gI g0 1 0).toInt := (eA_ti (j := 0) (hF16.2.1 233 (by decide))).trans hR_0.symm; have ek1 : (eA g14 233 1).toInt = (gI g0 1 4).toInt := (eA_ti (j := 1) (hF16.2.1 233 (by decide))).trans hR_4.symm; have eC : ((1 ≤ v2.toInt ∧ v2.toInt ≤ 9 ∧ 0 ≤ v8.toInt ∧ v8.toInt ≤ 99 ∧ 0 ≤ v10.toInt ∧ v10.toInt ≤ 9 ∧ 0 ≤ v12.toInt ∧ v12.toInt ≤ 9999) ∧ (0 ≤ v4.toInt ∧ v4.toInt < (eA g14 233 0).toInt ∧ 0 ≤ v6.toInt ∧ v6.toInt < (eA g14 233 0).toInt) ∧ (eA g14 233 1).toInt < 8) = ((1 ≤ v2.toInt ∧ v2.toInt ≤ 9 ∧ 0 ≤ v8.toInt ∧ v8.toInt ≤ 99 ∧ 0 ≤ v10.toInt ∧ v10.toInt ≤ 9 ∧ 0 ≤ v12.toInt ∧ v12.toInt ≤ 9999) ∧ (0 ≤ v4.toInt ∧ v4.toInt < (gI g0 1 0).toInt ∧ 0 ≤ v6.toInt ∧ v6.toInt < (gI g0 1 0).toInt) ∧ (gI g0 1 4).toInt < 8) := (by rw [ek0, ek1]); have k : ¬ ((1 ≤ v2.toInt ∧ v2.toInt ≤ 9 ∧ 0 ≤ v8.toInt ∧ v8.toInt ≤ 99 ∧ 0 ≤ v10.toInt ∧ v10.toInt ≤ 9 ∧ 0 ≤ v12.toInt ∧ v12.toInt ≤ 9999) ∧ (0 ≤ v4.toInt ∧ v4.toInt < (gI g0 1 0).toInt ∧ 0 ≤ v6.toInt ∧ v6.toInt < (gI g0 1 0).toInt) ∧ (gI g0 1 4).toInt < 8) := (fun z => (show ¬ _ from pk13) z.1); have k2 : ¬ ((1 ≤ v2.toInt ∧ v2.toInt ≤ 9 ∧ 0 ≤ v8.toInt ∧ v8.toInt ≤ 99 ∧ 0 ≤ v10.toInt ∧ v10.toInt ≤ 9 ∧ 0 ≤ v12.toInt ∧ v12.toInt ≤ 9999) ∧ (0 ≤ v4.toInt ∧ v4.toInt < (eA g14 233 0).toInt ∧ 0 ≤ v6.toInt ∧ v6.toInt < (eA g14 233 0).toInt) ∧ (eA g14 233 1).toInt < 8) := fun z => k (eC.mp z); rw [ite_an k, ite_an k, ite_an k, ite_an k, ite_an k, ite_an k] at x; rw [ite_an k2, ite_an k2, ite_an k2, ite_an k2, ite_an k2, ite_an k2] at m; clear eC k2 k; omega)⟩), CI0.cong hR_15 (((hF94.2.1 60 (by decide)).trans (hF16.2.1 60 (by decide)))) (((hF94.2.1 61 (by decide)).trans (hF16.2.1 61 (by decide)))) (((hF94.2.1 62 (by decide)).trans (hF16.2.1 62 (by decide)))) (((hF94.2.1 72 (by decide)).trans (hF16.2.1 72 (by decide)))) (((hF94.2.1 73 (by decide)).trans (hF16.2.1 73 (by decide)))) (((hF94.2.1 63 (by decide)).trans (hF16.2.1 63 (by decide)))) (((hF94.2.1 234 (by decide)).trans (hF16.2.1 234 (by decide)))) (congrArg Int32.toInt (((hF94.1 59 4 (by decide)).trans (hF16.1 59 4 (by decide))))), CI1.cong hR_16 (((hF94.2.1 117 (by decide)).trans (hF16.2.1 117 (by decide)))) (((hF94.2.1 118 (by decide)).trans (hF16.2.1 118 (by decide)))) (((hF94.2.1 119 (by decide)).trans (hF16.2.1 119 (by decide)))) (((hF94.2.1 129 (by decide)).trans (hF16.2.1 129 (by decide)))) (((hF94.2.1 130 (by decide)).trans (hF16.2.1 130 (by decide)))) (((hF94.2.1 120 (by decide)).trans (hF16.2.1 120 (by decide)))) (((hF94.2.1 234 (by decide)).trans (hF16.2.1 234 (by decide)))) (congrArg Int32.toInt (((hF94.1 116 4 (by decide)).trans (hF16.1 116 4 (by decide))))), (show RT _ from fun i i0 i1 => (eA_ti (((hF94.2.1 175 (by decide)).trans (hF16.2.1 175 (by decide))))).trans ((hR_17 i i0 (by omega)).trans (eA_ti (((hF94.2.1 236 (by decide)).trans (hF16.2.1 236 (by decide))))).symm)), (show BYX _ from fun i i0 i1 => by rw [TX.c (((hF94.2.1 175 (by decide)).trans (hF16.2.1 175 (by decide))))]; exact hR_18 i i0 (by have i2 : i < (gI _ 174 1).toInt := i1; show i < (gI g0 174 1).toInt; omega)), (LAWR_c hR_19 (LSA_tr (LSA_tr LSA_rf (LSA_fr hF16 rfl)) (LSA_fr hF94 rfl)) (((hF94.1 1 6 (by decide)).trans (hF16.1 1 6 (by decide)))) (((hF94.1 59 6 (by decide)).trans (hF16.1 59 6 (by decide)))) (((hF94.1 116 6 (by decide)).trans (hF16.1 116 6 (by decide)))) (((hF94.2.1 173 (by decide)).trans (hF16.2.1 173 (by decide)))) (fun i i0 i1 => (R3_load hI15 q102 i i0 i1).trans (eA_ti (hF16.2.1 233 (by decide)))) (((hF94.2.1 234 (by decide)).trans (hF16.2.1 234 (by decide)))) (TOLDX_fr hF94 rfl rfl rfl rfl (fe20.1 hR_19.2.2.2.2))), (SETX_fr hF94 rfl rfl rfl rfl rfl (fe20.2 hR_20))⟩)
  · refine r_callV 362 rfl [.ref 0, .int v2, .int v4, .int v6, .int v8, .int v10, .int v12] [] (Nat.le_of_ble_eq_true rfl) rfl (T_X10_load_0 _ hI0 v2 v4 v6 v8 v10 v12) ?_
    rintro _ _ ⟨g162, rfl, hI163, hF164, v165, rfl, hr166⟩
    refine At.sti ?_
    have hF167 := Fr.tr hF0 hF164 rfl rfl
    have fe168 : PH _ := hr166.2.2
    replace hr166 := And.intro hr166.1 hr166.2.1
    obtain ⟨q169, q170, q171⟩ := hr166
    obtain ⟨i173, i174, i175, i176⟩ := q170
    have w172 := i174 ⟨pk13.1, pk13.2⟩
    clear i173 i174 i175 i176
    have f177 := congrArg Int32.toInt (hF164.1 1 0 rfl)
    have f178 := congrArg Int32.toInt (hF164.1 1 12 rfl)
    have f179 := congrArg Int32.toInt (hF164.1 1 10 rfl)
    have f180 := congrArg Int32.toInt (hF164.1 1 11 rfl)
    have f181 := congrArg Int32.toInt (hF164.1 1 6 rfl)
    have f182 := congrArg Int32.toInt (hF164.1 1 9 rfl)
    have f183 := congrArg Int32.toInt (hF164.1 59 0 rfl)
    have f184 := congrArg Int32.toInt (hF164.1 59 12 rfl)
    have f185 := congrArg Int32.toInt (hF164.1 59 10 rfl)
    have f186 := congrArg Int32.toInt (hF164.1 59 11 rfl)
    have f187 := congrArg Int32.toInt (hF164.1 59 4 rfl)
    have f188 := congrArg Int32.toInt (hF164.1 59 6 rfl)
    have f189 := congrArg Int32.toInt (hF164.1 59 9 rfl)
    have f190 := congrArg Int32.toInt (hF164.1 116 0 rfl)
    have f191 := congrArg Int32.toInt (hF164.1 116 12 rfl)
    have f192 := congrArg Int32.toInt (hF164.1 116 10 rfl)
    have f193 := congrArg Int32.toInt (hF164.1 116 11 rfl)
    have f194 := congrArg Int32.toInt (hF164.1 116 4 rfl)
    have f195 := congrArg Int32.toInt (hF164.1 116 6 rfl)
    have f196 := congrArg Int32.toInt (hF164.1 116 9 rfl)
    have f197 := congrArg Int32.toInt (eA_c (j := 0) (hF164.2.1 173 rfl))
    have f198 := congrArg Int32.toInt (eA_c (j := 1) (hF164.2.1 173 rfl))
    have f199 := congrArg Int32.toInt (hF164.1 174 1 rfl)
    have f200 := congrArg Int32.toInt (hF164.1 0 16 rfl)
    have f201 := congrArg Int32.toInt (hF164.1 176 2 rfl)
    have f202 := congrArg Int32.toInt (eA_c (j := 0) (hF164.2.1 233 rfl))
    have f203 := congrArg Int32.toInt (eA_c (j := 4) (hF164.2.1 233 rfl))
    have f204 := congrArg Int32.toInt (eA_c (j := 5) (hF164.2.1 233 rfl))
    have f205 := congrArg Int32.toInt (eA_c (j := 6) (hF164.2.1 233 rfl))
    have f206 := congrArg Int32.toInt (eA_c (j := 1) (hF164.2.1 233 rfl))
    have f207 := congrArg Int32.toInt (eA_c (j := 2) (hF164.2.1 233 rfl))
    have f208 := congrArg Int32.toInt (eA_c (j := 3) (hF164.2.1 233 rfl))
    have f209 := congrArg Int32.toInt (eA_c (j := 0) (hF164.2.1 234 rfl))
    have f210 := congrArg Int32.toInt (eA_c (j := 4) (hF164.2.1 234 rfl))
    have f211 := congrArg Int32.toInt (eA_c (j := 5) (hF164.2.1 234 rfl))
    have f212 := congrArg Int32.toInt (eA_c (j := 6) (hF164.2.1 234 rfl))
    have f213 := congrArg Int32.toInt (eA_c (j := 1) (hF164.2.1 234 rfl))
    have f214 := congrArg Int32.toInt (eA_c (j := 2) (hF164.2.1 234 rfl))
    have f215 := congrArg Int32.toInt (eA_c (j := 3) (hF164.2.1 234 rfl))
    have f216 := congrArg Int32.toInt (eA_c (j := 5510) (hF164.2.1 234 rfl))
    have f217 := congrArg Int32.toInt (eA_c (j := 5514) (hF164.2.1 234 rfl))
    have f218 := congrArg Int32.toInt (eA_c (j := 5515) (hF164.2.1 234 rfl))
    have f219 := congrArg Int32.toInt (eA_c (j := 5516) (hF164.2.1 234 rfl))
    have f220 := congrArg Int32.toInt (eA_c (j := 5511) (hF164.2.1 234 rfl))
    have f221 := congrArg Int32.toInt (eA_c (j := 5512) (hF164.2.1 234 rfl))
    have f222 := congrArg Int32.toInt (eA_c (j := 5513) (hF164.2.1 234 rfl))
    have f223 := congrArg Int32.toInt (eA_c (j := 0) (hF164.2.1 235 rfl))
    have f224 := congrArg Int32.toInt (eA_c (j := 1) (hF164.2.1 235 rfl))
    have f225 := congrArg Int32.toInt (hF164.1 231 8 rfl)
    have f226 := congrArg Int32.toInt (hF164.1 231 6 rfl)
    have f227 := congrArg Int32.toInt (hF164.1 231 13 rfl)
    refine At.enter rfl ?_
    refine r_pop rfl ?_
    refine r_aload_n e2 ?_
    refine r_sload_n e0 ?_
    refine r_iload_n e3 ?_
    refine r_iconst 1 rfl ?_
    refine q_iadd (i.toInt + 1) rfl hx_1 (fun v228 hv228 => ?_)
    refine q_scald (m := L) hL (i.toInt + 1) hv228 hy_1 (fun v229 hv229 => ?_)
    have sv229 := hv2.symm.trans hv229
    subst sv229
    refine r_sload_n e0 ?_
    refine r_iload_n e3 ?_
    refine r_iconst 2 rfl ?_
    refine q_iadd (i.toInt + 2) rfl hx_2 (fun v230 hv230 => ?_)
    refine q_scald (m := L) hL (i.toInt + 2) hv230 hy_2 (fun v231 hv231 => ?_)
    have sv231 := hv4.symm.trans hv231
    subst sv231
    refine r_sload_n e0 ?_
    refine r_iload_n e3 ?_
    refine r_iconst 3 rfl ?_
    refine q_iadd (i.toInt + 3) rfl hx_3 (fun v232 hv232 => ?_)
    refine q_scald (m := L) hL (i.toInt + 3) hv232 hy_3 (fun v233 hv233 => ?_)
    have sv233 := hv6.symm.trans hv233
    subst sv233
    refine r_sload_n e0 ?_
    refine r_iload_n e3 ?_
    refine r_iconst 4 rfl ?_
    refine q_iadd (i.toInt + 4) rfl hx_4 (fun v234 hv234 => ?_)
    refine q_scald (m := L) hL (i.toInt + 4) hv234 hy_4 (fun v235 hv235 => ?_)
    have sv235 := hv8.symm.trans hv235
    subst sv235
    refine r_sload_n e0 ?_
    refine r_iload_n e3 ?_
    refine r_iconst 5 rfl ?_
    refine q_iadd (i.toInt + 5) rfl hx_5 (fun v236 hv236 => ?_)
    refine q_scald (m := L) hL (i.toInt + 5) hv236 hy_5 (fun v237 hv237 => ?_)
    have sv237 := hv10.symm.trans hv237
    subst sv237
    refine r_sload_n e0 ?_
    refine r_iload_n e3 ?_
    refine r_bipush 6 rfl ?_
    refine q_iadd (i.toInt + 6) rfl hx_6 (fun v238 hv238 => ?_)
    refine q_scald (m := L) hL (i.toInt + 6) hv238 hy_6 (fun v239 hv239 => ?_)
    have sv239 := hv12.symm.trans hv239
    subst sv239
    refine r_callV 398 rfl [.ref 231, .int v2, .int v4, .int v6, .int v8, .int v10, .int v12] [] (Nat.le_of_ble_eq_true rfl) rfl (T_X11_load_231 _ hI163 v2 v4 v6 v8 v10 v12) ?_
    rintro _ _ ⟨g240, rfl, hI241, hF242, v243, rfl, hr244⟩
    refine At.sti ?_
    have hF245 := Fr.tr hF167 hF242 rfl rfl
    obtain ⟨q247, q248, q249, q250, q251⟩ := hr244
    have ek263 : (eA g162 233 0).toInt = (gI g0 1 0).toInt := (eA_ti (j := 0) (hF164.2.1 233 (by decide))).trans hR_0.symm
    have ek264 : (eA g162 233 1).toInt = (gI g0 1 4).toInt := (eA_ti (j := 1) (hF164.2.1 233 (by decide))).trans hR_4.symm
    obtain ⟨i253, i254, i255, i256, sm257, sm258, sm259, sm260, sm261, sm262⟩ := q248
    have w252 := i254 ⟨pk13.1, (by rw [ek263]; exact pk13.2)⟩
    clear i253 i254 i255 i256
    have f265 := congrArg Int32.toInt (hF242.1 1 0 rfl)
    have f266 := congrArg Int32.toInt (hF242.1 1 12 rfl)
    have f267 := congrArg Int32.toInt (hF242.1 1 10 rfl)
    have f268 := congrArg Int32.toInt (hF242.1 1 11 rfl)
    have f269 := congrArg Int32.toInt (hF242.1 1 4 rfl)
    have f270 := congrArg Int32.toInt (hF242.1 1 6 rfl)
    have f271 := congrArg Int32.toInt (hF242.1 1 9 rfl)
    have f272 := congrArg Int32.toInt (hF242.1 59 0 rfl)
    have f273 := congrArg Int32.toInt (hF242.1 59 12 rfl)
    have f274 := congrArg Int32.toInt (hF242.1 59 10 rfl)
    have f275 := congrArg Int32.toInt (hF242.1 59 11 rfl)
    have f276 := congrArg Int32.toInt (hF242.1 59 4 rfl)
    have f277 := congrArg Int32.toInt (hF242.1 59 6 rfl)
    have f278 := congrArg Int32.toInt (hF242.1 59 9 rfl)
    have f279 := congrArg Int32.toInt (hF242.1 116 0 rfl)
    have f280 := congrArg Int32.toInt (hF242.1 116 12 rfl)
    have f281 := congrArg Int32.toInt (hF242.1 116 10 rfl)
    have f282 := congrArg Int32.toInt (hF242.1 116 11 rfl)
    have f283 := congrArg Int32.toInt (hF242.1 116 4 rfl)
    have f284 := congrArg Int32.toInt (hF242.1 116 6 rfl)
    have f285 := congrArg Int32.toInt (hF242.1 116 9 rfl)
    have f286 := congrArg Int32.toInt (eA_c (j := 0) (hF242.2.1 173 rfl))
    have f287 := congrArg Int32.toInt (eA_c (j := 1) (hF242.2.1 173 rfl))
    have f288 := congrArg Int32.toInt (hF242.1 174 1 rfl)
    have f289 := congrArg Int32.toInt (hF242.1 0 16 rfl)
    have f290 := congrArg Int32.toInt (hF242.1 176 2 rfl)
    have f291 := congrArg Int32.toInt (eA_c (j := 0) (hF242.2.1 234 rfl))
    have f292 := congrArg Int32.toInt (eA_c (j := 4) (hF242.2.1 234 rfl))
    have f293 := congrArg Int32.toInt (eA_c (j := 5) (hF242.2.1 234 rfl))
    have f294 := congrArg Int32.toInt (eA_c (j := 6) (hF242.2.1 234 rfl))
    have f295 := congrArg Int32.toInt (eA_c (j := 1) (hF242.2.1 234 rfl))
    have f296 := congrArg Int32.toInt (eA_c (j := 2) (hF242.2.1 234 rfl))
    have f297 := congrArg Int32.toInt (eA_c (j := 3) (hF242.2.1 234 rfl))
    have f298 := congrArg Int32.toInt (eA_c (j := 5510) (hF242.2.1 234 rfl))
    have f299 := congrArg Int32.toInt (eA_c (j := 5514) (hF242.2.1 234 rfl))
    have f300 := congrArg Int32.toInt (eA_c (j := 5515) (hF242.2.1 234 rfl))
    have f301 := congrArg Int32.toInt (eA_c (j := 5516) (hF242.2.1 234 rfl))
    have f302 := congrArg Int32.toInt (eA_c (j := 5511) (hF242.2.1 234 rfl))
    have f303 := congrArg Int32.toInt (eA_c (j := 5512) (hF242.2.1 234 rfl))
    have f304 := congrArg Int32.toInt (eA_c (j := 5513) (hF242.2.1 234 rfl))
    have f305 := congrArg Int32.toInt (eA_c (j := 0) (hF242.2.1 235 rfl))
    have f306 := congrArg Int32.toInt (eA_c (j := 1) (hF242.2.1 235 rfl))
    have f307 := congrArg Int32.toInt (hF242.1 231 8 rfl)
    have f308 := congrArg Int32.toInt (hF242.1 231 6 rfl)
    have f309 := congrArg Int32.toInt (hF242.1 231 13 rfl)
    refine At.enter rfl ?_
    refine r_pop rfl ?_
    refine r_goto ?_
    exact K _ hI241 (show LwR _ from ⟨by omega, by omega, by omega, by omega, by omega, by omega, by omega, (eA_ti (j := 0) (((hF242.2.1 173 (by decide)).trans (hF164.2.1 173 (by decide))))).trans (hR_7.trans (eA_ti (j := 0) (((hF242.2.1 235 (by decide)).trans (hF164.2.1 235 (by decide))))).symm), (eA_ti (j := 1) (((hF242.2.1 173 (by decide)).trans (hF164.2.1 173 (by decide))))).trans (hR_8.trans (eA_ti (j := 1) (((hF242.2.1 235 (by decide)).trans (hF164.2.1 235 (by decide))))).symm), (congrArg Int32.toInt (((hF242.1 174 1 (by decide)).trans (hF164.1 174 1 (by decide))))).trans (hR_9.trans (congrArg Int32.toInt (((hF242.1 231 8 (by decide)).trans (hF164.1 231 8 (by decide))))).symm), (congrArg Int32.toInt (((hF242.1 0 16 (by decide)).trans (hF164.1 0 16 (by decide))))).trans (hR_10.trans (congrArg Int32.toInt (((hF242.1 231 6 (by decide)).trans (hF164.1 231 6 (by decide))))).symm), (congrArg Int32.toInt (((hF242.1 176 2 (by decide)).trans (hF164.1 176 2 (by decide))))).trans (hR_11.trans (congrArg Int32.toInt (((hF242.1 231 13 (by decide)).trans (hF164.1 231 13 (by decide))))).symm), IM0.cong hR_12 (eA_ti (j := 0) (((hF242.2.1 173 (by decide)).trans (hF164.2.1 173 (by decide))))) (congrArg Int32.toInt (((hF242.1 59 0 (by decide)).trans (hF164.1 59 0 (by decide))))) (eA_ti (j := 0) (((hF242.2.1 234 (by decide)).trans (hF164.2.1 234 (by decide))))) (congrArg Int32.toInt (((hF242.1 59 12 (by decide)).trans (hF164.1 59 12 (by decide))))) (eA_ti (j := 4) (((hF242.2.1 234 (by decide)).trans (hF164.2.1 234 (by decide))))) (congrArg Int32.toInt (((hF242.1 59 10 (by decide)).trans (hF164.1 59 10 (by decide))))) (eA_ti (j := 5) (((hF242.2.1 234 (by decide)).trans (hF164.2.1 234 (by decide))))) (congrArg Int32.toInt (((hF242.1 59 11 (by decide)).trans (hF164.1 59 11 (by decide))))) (eA_ti (j := 6) (((hF242.2.1 234 (by decide)).trans (hF164.2.1 234 (by decide))))) (congrArg Int32.toInt (((hF242.1 59 4 (by decide)).trans (hF164.1 59 4 (by decide))))) (eA_ti (j := 1) (((hF242.2.1 234 (by decide)).trans (hF164.2.1 234 (by decide))))) (congrArg Int32.toInt (((hF242.1 59 6 (by decide)).trans (hF164.1 59 6 (by decide))))) (eA_ti (j := 2) (((hF242.2.1 234 (by decide)).trans (hF164.2.1 234 (by decide))))) (congrArg Int32.toInt (((hF242.1 59 9 (by decide)).trans (hF164.1 59 9 (by decide))))) (eA_ti (j := 3) (((hF242.2.1 234 (by decide)).trans (hF164.2.1 234 (by decide))))), IM1.cong hR_13 (eA_ti (j := 1) (((hF242.2.1 173 (by decide)).trans (hF164.2.1 173 (by decide))))) (congrArg Int32.toInt (((hF242.1 116 0 (by decide)).trans (hF164.1 116 0 (by decide))))) (eA_ti (j := 5510) (((hF242.2.1 234 (by decide)).trans (hF164.2.1 234 (by decide))))) (congrArg Int32.toInt (((hF242.1 116 12 (by decide)).trans (hF164.1 116 12 (by decide))))) (eA_ti (j := 5514) (((hF242.2.1 234 (by decide)).trans (hF164.2.1 234 (by decide))))) (congrArg Int32.toInt (((hF242.1 116 10 (by decide)).trans (hF164.1 116 10 (by decide))))) (eA_ti (j := 5515) (((hF242.2.1 234 (by decide)).trans (hF164.2.1 234 (by decide))))) (congrArg Int32.toInt (((hF242.1 116 11 (by decide)).trans (hF164.1 116 11 (by decide))))) (eA_ti (j := 5516) (((hF242.2.1 234 (by decide)).trans (hF164.2.1 234 (by decide))))) (congrArg Int32.toInt (((hF242.1 116 4 (by decide)).trans (hF164.1 116 4 (by decide))))) (eA_ti (j := 5511) (((hF242.2.1 234 (by decide)).trans (hF164.2.1 234 (by decide))))) (congrArg Int32.toInt (((hF242.1 116 6 (by decide)).trans (hF164.1 116 6 (by decide))))) (eA_ti (j := 5512) (((hF242.2.1 234 (by decide)).trans (hF164.2.1 234 (by decide))))) (congrArg Int32.toInt (((hF242.1 116 9 (by decide)).trans (hF164.1 116 9 (by decide))))) (eA_ti (j := 5513) (((hF242.2.1 234 (by decide)).trans (hF164.2.1 234 (by decide))))), (show CT _ from ⟨fun i i0 i1 => ⟨(by have t0_ := hI0.t0; have t1_ := hI0.t1; have o := (hR_14.1 i i0 i1).1; have x := eA_ti (j := i) (((hF242.2.1 2 (by decide)).trans (hF164.2.1 2 (by decide)))); have m := q249 (10 + 3 * i) (by omega) (by omega); have y1 := eA_ti (j := ((10 + 3 * i))) (hF164.2.1 233 (by decide)); first | exact x.trans (o.trans (m.trans y1).symm) | omega), (by have t0_ := hI0.t0; have t1_ := hI0.t1; have o := (hR_14.1 i i0 i1).2.1; have x := eA_ti (j := i) (((hF242.2.1 3 (by decide)).trans (hF164.2.1 3 (by decide)))); have m := q249 (10 + 3 * i + 1) (by omega) (by omega); have y1 := eA_ti (j := ((10 + 3 * i + 1))) (hF164.2.1 233 (by decide)); first | exact x.trans (o.trans (m.trans y1).symm) | omega), (by have t0_ := hI0.t0; have t1_ := hI0.t1; have o := (hR_14.1 i i0 i1).2.2; have x := eA_ti (j := i) (((hF242.2.1 4 (by decide)).trans (hF164.2.1 4 (by decide)))); have m := q249 (10 + 3 * i + 2) (by omega) (by omega); have y1 := eA_ti (j := ((10 + 3 * i + 2))) (hF164.2.1 233 (by decide)); first | exact x.trans (o.trans (m.trans y1).symm) | omega)⟩, fun i i0 i1 => ⟨(by have t0_ := hI0.t0; have t1_ := hI0.t1; have o := (hR_14.2.1 i i0 i1).1; have x := eA_ti (j := i) (((hF242.2.1 14 (by decide)).trans (hF164.2.1 14 (by decide)))); have m := q250 (94 + 2 * i) (by omega) (by omega); have y1 := eA_ti (j := ((94 + 2 * i))) (hF164.2.1 233 (by decide)); first | exact x.trans (o.trans (m.trans y1).symm) | omega), (by have t0_ := hI0.t0; have t1_ := hI0.t1; have o := (hR_14.2.1 i i0 i1).2; have x := eA_ti (j := i) (((hF242.2.1 15 (by decide)).trans (hF164.2.1 15 (by decide)))); have m := q250 (94 + 2 * i + 1) (by omega) (by omega); have y1 := eA_ti (j := ((94 + 2 * i + 1))) (hF164.2.1 233 (by decide)); first | exact x.trans (o.trans (m.trans y1).symm) | omega)⟩, fun i i0 i1 => (by have t0_ := hI0.t0; have t1_ := hI0.t1; have o : i < 6 * (gI g0 1 4).toInt → _ := fun hz => hR_14.2.2 i i0 hz; have t9_ := RgF.at hI241.2.1 (p := 1) (b := 4) rfl; dsimp only at t9_; have i9_ : i < 48 := (by omega); have x := (eA_ti (j := i) (hF242.2.1 5 (by decide))).trans (q171 i i0 i9_); have m := q251 (46 + i) (by omega) (by omega); have y1 := eA_ti (j := ((46 + i))) (hF164.2.1 233 (by decide)); have ek0 : (eA g162 233 0).toInt = (gI g0 1 0).toInt := (eA_ti (j := 0) (hF164.2.1 233 (by decide))).trans hR_0.symm; have ek1 : (eA g162 233 1).toInt = (gI g0 1 4).toInt := (eA_ti (j := 1) (hF164.2.1 233 (by decide))).trans hR_4.symm; have eC : ((1 ≤ v2.toInt ∧ v2.toInt ≤ 9 ∧ 0 ≤ v8.toInt ∧ v8.toInt ≤ 99 ∧ 0 ≤ v10.toInt ∧ v10.toInt ≤ 9 ∧ 0 ≤ v12.toInt ∧ v12.toInt ≤ 9999) ∧ (0 ≤ v4.toInt ∧ v4.toInt < (eA g162 233 0).toInt ∧ 0 ≤ v6.toInt ∧ v6.toInt < (eA g162 233 0).toInt) ∧ (eA g162 233 1).toInt < 8) = ((1 ≤ v2.toInt ∧ v2.toInt ≤ 9 ∧ 0 ≤ v8.toInt ∧ v8.toInt ≤ 99 ∧ 0 ≤ v10.toInt ∧ v10.toInt ≤ 9 ∧ 0 ≤ v12.toInt ∧ v12.toInt ≤ 9999) ∧ (0 ≤ v4.toInt ∧ v4.toInt < (gI g0 1 0).toInt ∧ 0 ≤ v6.toInt ∧ v6.toInt < (gI g0 1 0).toInt) ∧ (gI g0 1 4).toInt < 8) := (by rw [ek0, ek1]); have k : ¬ ((1 ≤ v2.toInt ∧ v2.toInt ≤ 9 ∧ 0 ≤ v8.toInt ∧ v8.toInt ≤ 99 ∧ 0 ≤ v10.toInt ∧ v10.toInt ≤ 9 ∧ 0 ≤ v12.toInt ∧ v12.toInt ≤ 9999) ∧ (0 ≤ v4.toInt ∧ v4.toInt < (gI g0 1 0).toInt ∧ 0 ≤ v6.toInt ∧ v6.toInt < (gI g0 1 0).toInt) ∧ (gI g0 1 4).toInt < 8) := (fun z => absurd z.2.1 pk13.2); have k2 : ¬ ((1 ≤ v2.toInt ∧ v2.toInt ≤ 9 ∧ 0 ≤ v8.toInt ∧ v8.toInt ≤ 99 ∧ 0 ≤ v10.toInt ∧ v10.toInt ≤ 9 ∧ 0 ≤ v12.toInt ∧ v12.toInt ≤ 9999) ∧ (0 ≤ v4.toInt ∧ v4.toInt < (eA g162 233 0).toInt ∧ 0 ≤ v6.toInt ∧ v6.toInt < (eA g162 233 0).toInt) ∧ (eA g162 233 1).toInt < 8) := fun z => k (eC.mp z); rw [ite_an k, ite_an k, ite_an k, ite_an k, ite_an k, ite_an k] at x; rw [ite_an k2, ite_an k2, ite_an k2, ite_an k2, ite_an k2, ite_an k2] at m; clear eC k2 k; omega)⟩), CI0.cong hR_15 (((hF242.2.1 60 (by decide)).trans (hF164.2.1 60 (by decide)))) (((hF242.2.1 61 (by decide)).trans (hF164.2.1 61 (by decide)))) (((hF242.2.1 62 (by decide)).trans (hF164.2.1 62 (by decide)))) (((hF242.2.1 72 (by decide)).trans (hF164.2.1 72 (by decide)))) (((hF242.2.1 73 (by decide)).trans (hF164.2.1 73 (by decide)))) (((hF242.2.1 63 (by decide)).trans (hF164.2.1 63 (by decide)))) (((hF242.2.1 234 (by decide)).trans (hF164.2.1 234 (by decide)))) (congrArg Int32.toInt (((hF242.1 59 4 (by decide)).trans (hF164.1 59 4 (by decide))))), CI1.cong hR_16 (((hF242.2.1 117 (by decide)).trans (hF164.2.1 117 (by decide)))) (((hF242.2.1 118 (by decide)).trans (hF164.2.1 118 (by decide)))) (((hF242.2.1 119 (by decide)).trans (hF164.2.1 119 (by decide)))) (((hF242.2.1 129 (by decide)).trans (hF164.2.1 129 (by decide)))) (((hF242.2.1 130 (by decide)).trans (hF164.2.1 130 (by decide)))) (((hF242.2.1 120 (by decide)).trans (hF164.2.1 120 (by decide)))) (((hF242.2.1 234 (by decide)).trans (hF164.2.1 234 (by decide)))) (congrArg Int32.toInt (((hF242.1 116 4 (by decide)).trans (hF164.1 116 4 (by decide))))), (show RT _ from fun i i0 i1 => (eA_ti (((hF242.2.1 175 (by decide)).trans (hF164.2.1 175 (by decide))))).trans ((hR_17 i i0 (by omega)).trans (eA_ti (((hF242.2.1 236 (by decide)).trans (hF164.2.1 236 (by decide))))).symm)), (show BYX _ from fun i i0 i1 => by rw [TX.c (((hF242.2.1 175 (by decide)).trans (hF164.2.1 175 (by decide))))]; exact hR_18 i i0 (by have i2 : i < (gI _ 174 1).toInt := i1; show i < (gI g0 174 1).toInt; omega)), (LAWR_c hR_19 (LSA_tr (LSA_tr LSA_rf (LSA_fr hF164 rfl)) (LSA_fr hF242 rfl)) (((hF242.1 1 6 (by decide)).trans (hF164.1 1 6 (by decide)))) (((hF242.1 59 6 (by decide)).trans (hF164.1 59 6 (by decide)))) (((hF242.1 116 6 (by decide)).trans (hF164.1 116 6 (by decide)))) (((hF242.2.1 173 (by decide)).trans (hF164.2.1 173 (by decide)))) (fun i i0 i1 => (R3_load hI163 q250 i i0 i1).trans (eA_ti (hF164.2.1 233 (by decide)))) (((hF242.2.1 234 (by decide)).trans (hF164.2.1 234 (by decide)))) (TOLDX_fr hF242 rfl rfl rfl rfl (fe168.1 hR_19.2.2.2.2))), (SETX_fr hF242 rfl rfl rfl rfl rfl (fe168.2 hR_20))⟩)
  · refine r_callV 362 rfl [.ref 0, .int v2, .int v4, .int v6, .int v8, .int v10, .int v12] [] (Nat.le_of_ble_eq_true rfl) rfl (T_X10_load_0 _ hI0 v2 v4 v6 v8 v10 v12) ?_
    rintro _ _ ⟨g310, rfl, hI311, hF312, v313, rfl, hr314⟩
    refine At.sti ?_
    have hF315 := Fr.tr hF0 hF312 rfl rfl
    have fe316 : PH _ := hr314.2.2
    replace hr314 := And.intro hr314.1 hr314.2.1
    obtain ⟨q317, q318, q319⟩ := hr314
    obtain ⟨i321, i322, i323, i324⟩ := q318
    have w320 := i323 ⟨pk13.1, pk13.2.1, pk13.2.2⟩
    clear i321 i322 i323 i324
    have f325 := congrArg Int32.toInt (hF312.1 1 0 rfl)
    have f326 := congrArg Int32.toInt (hF312.1 1 12 rfl)
    have f327 := congrArg Int32.toInt (hF312.1 1 10 rfl)
    have f328 := congrArg Int32.toInt (hF312.1 1 11 rfl)
    have f329 := congrArg Int32.toInt (hF312.1 1 6 rfl)
    have f330 := congrArg Int32.toInt (hF312.1 1 9 rfl)
    have f331 := congrArg Int32.toInt (hF312.1 59 0 rfl)
    have f332 := congrArg Int32.toInt (hF312.1 59 12 rfl)
    have f333 := congrArg Int32.toInt (hF312.1 59 10 rfl)
    have f334 := congrArg Int32.toInt (hF312.1 59 11 rfl)
    have f335 := congrArg Int32.toInt (hF312.1 59 4 rfl)
    have f336 := congrArg Int32.toInt (hF312.1 59 6 rfl)
    have f337 := congrArg Int32.toInt (hF312.1 59 9 rfl)
    have f338 := congrArg Int32.toInt (hF312.1 116 0 rfl)
    have f339 := congrArg Int32.toInt (hF312.1 116 12 rfl)
    have f340 := congrArg Int32.toInt (hF312.1 116 10 rfl)
    have f341 := congrArg Int32.toInt (hF312.1 116 11 rfl)
    have f342 := congrArg Int32.toInt (hF312.1 116 4 rfl)
    have f343 := congrArg Int32.toInt (hF312.1 116 6 rfl)
    have f344 := congrArg Int32.toInt (hF312.1 116 9 rfl)
    have f345 := congrArg Int32.toInt (eA_c (j := 0) (hF312.2.1 173 rfl))
    have f346 := congrArg Int32.toInt (eA_c (j := 1) (hF312.2.1 173 rfl))
    have f347 := congrArg Int32.toInt (hF312.1 174 1 rfl)
    have f348 := congrArg Int32.toInt (hF312.1 0 16 rfl)
    have f349 := congrArg Int32.toInt (hF312.1 176 2 rfl)
    have f350 := congrArg Int32.toInt (eA_c (j := 0) (hF312.2.1 233 rfl))
    have f351 := congrArg Int32.toInt (eA_c (j := 4) (hF312.2.1 233 rfl))
    have f352 := congrArg Int32.toInt (eA_c (j := 5) (hF312.2.1 233 rfl))
    have f353 := congrArg Int32.toInt (eA_c (j := 6) (hF312.2.1 233 rfl))
    have f354 := congrArg Int32.toInt (eA_c (j := 1) (hF312.2.1 233 rfl))
    have f355 := congrArg Int32.toInt (eA_c (j := 2) (hF312.2.1 233 rfl))
    have f356 := congrArg Int32.toInt (eA_c (j := 3) (hF312.2.1 233 rfl))
    have f357 := congrArg Int32.toInt (eA_c (j := 0) (hF312.2.1 234 rfl))
    have f358 := congrArg Int32.toInt (eA_c (j := 4) (hF312.2.1 234 rfl))
    have f359 := congrArg Int32.toInt (eA_c (j := 5) (hF312.2.1 234 rfl))
    have f360 := congrArg Int32.toInt (eA_c (j := 6) (hF312.2.1 234 rfl))
    have f361 := congrArg Int32.toInt (eA_c (j := 1) (hF312.2.1 234 rfl))
    have f362 := congrArg Int32.toInt (eA_c (j := 2) (hF312.2.1 234 rfl))
    have f363 := congrArg Int32.toInt (eA_c (j := 3) (hF312.2.1 234 rfl))
    have f364 := congrArg Int32.toInt (eA_c (j := 5510) (hF312.2.1 234 rfl))
    have f365 := congrArg Int32.toInt (eA_c (j := 5514) (hF312.2.1 234 rfl))
    have f366 := congrArg Int32.toInt (eA_c (j := 5515) (hF312.2.1 234 rfl))
    have f367 := congrArg Int32.toInt (eA_c (j := 5516) (hF312.2.1 234 rfl))
    have f368 := congrArg Int32.toInt (eA_c (j := 5511) (hF312.2.1 234 rfl))
    have f369 := congrArg Int32.toInt (eA_c (j := 5512) (hF312.2.1 234 rfl))
    have f370 := congrArg Int32.toInt (eA_c (j := 5513) (hF312.2.1 234 rfl))
    have f371 := congrArg Int32.toInt (eA_c (j := 0) (hF312.2.1 235 rfl))
    have f372 := congrArg Int32.toInt (eA_c (j := 1) (hF312.2.1 235 rfl))
    have f373 := congrArg Int32.toInt (hF312.1 231 8 rfl)
    have f374 := congrArg Int32.toInt (hF312.1 231 6 rfl)
    have f375 := congrArg Int32.toInt (hF312.1 231 13 rfl)
    refine At.enter rfl ?_
    refine r_pop rfl ?_
    refine r_aload_n e2 ?_
    refine r_sload_n e0 ?_
    refine r_iload_n e3 ?_
    refine r_iconst 1 rfl ?_
    refine q_iadd (i.toInt + 1) rfl hx_1 (fun v376 hv376 => ?_)
    refine q_scald (m := L) hL (i.toInt + 1) hv376 hy_1 (fun v377 hv377 => ?_)
    have sv377 := hv2.symm.trans hv377
    subst sv377
    refine r_sload_n e0 ?_
    refine r_iload_n e3 ?_
    refine r_iconst 2 rfl ?_
    refine q_iadd (i.toInt + 2) rfl hx_2 (fun v378 hv378 => ?_)
    refine q_scald (m := L) hL (i.toInt + 2) hv378 hy_2 (fun v379 hv379 => ?_)
    have sv379 := hv4.symm.trans hv379
    subst sv379
    refine r_sload_n e0 ?_
    refine r_iload_n e3 ?_
    refine r_iconst 3 rfl ?_
    refine q_iadd (i.toInt + 3) rfl hx_3 (fun v380 hv380 => ?_)
    refine q_scald (m := L) hL (i.toInt + 3) hv380 hy_3 (fun v381 hv381 => ?_)
    have sv381 := hv6.symm.trans hv381
    subst sv381
    refine r_sload_n e0 ?_
    refine r_iload_n e3 ?_
    refine r_iconst 4 rfl ?_
    refine q_iadd (i.toInt + 4) rfl hx_4 (fun v382 hv382 => ?_)
    refine q_scald (m := L) hL (i.toInt + 4) hv382 hy_4 (fun v383 hv383 => ?_)
    have sv383 := hv8.symm.trans hv383
    subst sv383
    refine r_sload_n e0 ?_
    refine r_iload_n e3 ?_
    refine r_iconst 5 rfl ?_
    refine q_iadd (i.toInt + 5) rfl hx_5 (fun v384 hv384 => ?_)
    refine q_scald (m := L) hL (i.toInt + 5) hv384 hy_5 (fun v385 hv385 => ?_)
    have sv385 := hv10.symm.trans hv385
    subst sv385
    refine r_sload_n e0 ?_
    refine r_iload_n e3 ?_
    refine r_bipush 6 rfl ?_
    refine q_iadd (i.toInt + 6) rfl hx_6 (fun v386 hv386 => ?_)
    refine q_scald (m := L) hL (i.toInt + 6) hv386 hy_6 (fun v387 hv387 => ?_)
    have sv387 := hv12.symm.trans hv387
    subst sv387
    refine r_callV 398 rfl [.ref 231, .int v2, .int v4, .int v6, .int v8, .int v10, .int v12] [] (Nat.le_of_ble_eq_true rfl) rfl (T_X11_load_231 _ hI311 v2 v4 v6 v8 v10 v12) ?_
    rintro _ _ ⟨g388, rfl, hI389, hF390, v391, rfl, hr392⟩
    refine At.sti ?_
    have hF393 := Fr.tr hF315 hF390 rfl rfl
    obtain ⟨q395, q396, q397, q398, q399⟩ := hr392
    have ek411 : (eA g310 233 0).toInt = (gI g0 1 0).toInt := (eA_ti (j := 0) (hF312.2.1 233 (by decide))).trans hR_0.symm
    have ek412 : (eA g310 233 1).toInt = (gI g0 1 4).toInt := (eA_ti (j := 1) (hF312.2.1 233 (by decide))).trans hR_4.symm
    obtain ⟨i401, i402, i403, i404, sm405, sm406, sm407, sm408, sm409, sm410⟩ := q396
    have w400 := i403 ⟨pk13.1, (by rw [ek411]; exact pk13.2.1), (by rw [ek412]; exact pk13.2.2)⟩
    clear i401 i402 i403 i404
    have f413 := congrArg Int32.toInt (hF390.1 1 0 rfl)
    have f414 := congrArg Int32.toInt (hF390.1 1 12 rfl)
    have f415 := congrArg Int32.toInt (hF390.1 1 10 rfl)
    have f416 := congrArg Int32.toInt (hF390.1 1 11 rfl)
    have f417 := congrArg Int32.toInt (hF390.1 1 4 rfl)
    have f418 := congrArg Int32.toInt (hF390.1 1 6 rfl)
    have f419 := congrArg Int32.toInt (hF390.1 1 9 rfl)
    have f420 := congrArg Int32.toInt (hF390.1 59 0 rfl)
    have f421 := congrArg Int32.toInt (hF390.1 59 12 rfl)
    have f422 := congrArg Int32.toInt (hF390.1 59 10 rfl)
    have f423 := congrArg Int32.toInt (hF390.1 59 11 rfl)
    have f424 := congrArg Int32.toInt (hF390.1 59 4 rfl)
    have f425 := congrArg Int32.toInt (hF390.1 59 6 rfl)
    have f426 := congrArg Int32.toInt (hF390.1 59 9 rfl)
    have f427 := congrArg Int32.toInt (hF390.1 116 0 rfl)
    have f428 := congrArg Int32.toInt (hF390.1 116 12 rfl)
    have f429 := congrArg Int32.toInt (hF390.1 116 10 rfl)
    have f430 := congrArg Int32.toInt (hF390.1 116 11 rfl)
    have f431 := congrArg Int32.toInt (hF390.1 116 4 rfl)
    have f432 := congrArg Int32.toInt (hF390.1 116 6 rfl)
    have f433 := congrArg Int32.toInt (hF390.1 116 9 rfl)
    have f434 := congrArg Int32.toInt (eA_c (j := 0) (hF390.2.1 173 rfl))
    have f435 := congrArg Int32.toInt (eA_c (j := 1) (hF390.2.1 173 rfl))
    have f436 := congrArg Int32.toInt (hF390.1 174 1 rfl)
    have f437 := congrArg Int32.toInt (hF390.1 0 16 rfl)
    have f438 := congrArg Int32.toInt (hF390.1 176 2 rfl)
    have f439 := congrArg Int32.toInt (eA_c (j := 0) (hF390.2.1 234 rfl))
    have f440 := congrArg Int32.toInt (eA_c (j := 4) (hF390.2.1 234 rfl))
    have f441 := congrArg Int32.toInt (eA_c (j := 5) (hF390.2.1 234 rfl))
    have f442 := congrArg Int32.toInt (eA_c (j := 6) (hF390.2.1 234 rfl))
    have f443 := congrArg Int32.toInt (eA_c (j := 1) (hF390.2.1 234 rfl))
    have f444 := congrArg Int32.toInt (eA_c (j := 2) (hF390.2.1 234 rfl))
    have f445 := congrArg Int32.toInt (eA_c (j := 3) (hF390.2.1 234 rfl))
    have f446 := congrArg Int32.toInt (eA_c (j := 5510) (hF390.2.1 234 rfl))
    have f447 := congrArg Int32.toInt (eA_c (j := 5514) (hF390.2.1 234 rfl))
    have f448 := congrArg Int32.toInt (eA_c (j := 5515) (hF390.2.1 234 rfl))
    have f449 := congrArg Int32.toInt (eA_c (j := 5516) (hF390.2.1 234 rfl))
    have f450 := congrArg Int32.toInt (eA_c (j := 5511) (hF390.2.1 234 rfl))
    have f451 := congrArg Int32.toInt (eA_c (j := 5512) (hF390.2.1 234 rfl))
    have f452 := congrArg Int32.toInt (eA_c (j := 5513) (hF390.2.1 234 rfl))
    have f453 := congrArg Int32.toInt (eA_c (j := 0) (hF390.2.1 235 rfl))
    have f454 := congrArg Int32.toInt (eA_c (j := 1) (hF390.2.1 235 rfl))
    have f455 := congrArg Int32.toInt (hF390.1 231 8 rfl)
    have f456 := congrArg Int32.toInt (hF390.1 231 6 rfl)
    have f457 := congrArg Int32.toInt (hF390.1 231 13 rfl)
    refine At.enter rfl ?_
    refine r_pop rfl ?_
    refine r_goto ?_
    exact K _ hI389 (show LwR _ from ⟨by omega, by omega, by omega, by omega, by omega, by omega, by omega, (eA_ti (j := 0) (((hF390.2.1 173 (by decide)).trans (hF312.2.1 173 (by decide))))).trans (hR_7.trans (eA_ti (j := 0) (((hF390.2.1 235 (by decide)).trans (hF312.2.1 235 (by decide))))).symm), (eA_ti (j := 1) (((hF390.2.1 173 (by decide)).trans (hF312.2.1 173 (by decide))))).trans (hR_8.trans (eA_ti (j := 1) (((hF390.2.1 235 (by decide)).trans (hF312.2.1 235 (by decide))))).symm), (congrArg Int32.toInt (((hF390.1 174 1 (by decide)).trans (hF312.1 174 1 (by decide))))).trans (hR_9.trans (congrArg Int32.toInt (((hF390.1 231 8 (by decide)).trans (hF312.1 231 8 (by decide))))).symm), (congrArg Int32.toInt (((hF390.1 0 16 (by decide)).trans (hF312.1 0 16 (by decide))))).trans (hR_10.trans (congrArg Int32.toInt (((hF390.1 231 6 (by decide)).trans (hF312.1 231 6 (by decide))))).symm), (congrArg Int32.toInt (((hF390.1 176 2 (by decide)).trans (hF312.1 176 2 (by decide))))).trans (hR_11.trans (congrArg Int32.toInt (((hF390.1 231 13 (by decide)).trans (hF312.1 231 13 (by decide))))).symm), IM0.cong hR_12 (eA_ti (j := 0) (((hF390.2.1 173 (by decide)).trans (hF312.2.1 173 (by decide))))) (congrArg Int32.toInt (((hF390.1 59 0 (by decide)).trans (hF312.1 59 0 (by decide))))) (eA_ti (j := 0) (((hF390.2.1 234 (by decide)).trans (hF312.2.1 234 (by decide))))) (congrArg Int32.toInt (((hF390.1 59 12 (by decide)).trans (hF312.1 59 12 (by decide))))) (eA_ti (j := 4) (((hF390.2.1 234 (by decide)).trans (hF312.2.1 234 (by decide))))) (congrArg Int32.toInt (((hF390.1 59 10 (by decide)).trans (hF312.1 59 10 (by decide))))) (eA_ti (j := 5) (((hF390.2.1 234 (by decide)).trans (hF312.2.1 234 (by decide))))) (congrArg Int32.toInt (((hF390.1 59 11 (by decide)).trans (hF312.1 59 11 (by decide))))) (eA_ti (j := 6) (((hF390.2.1 234 (by decide)).trans (hF312.2.1 234 (by decide))))) (congrArg Int32.toInt (((hF390.1 59 4 (by decide)).trans (hF312.1 59 4 (by decide))))) (eA_ti (j := 1) (((hF390.2.1 234 (by decide)).trans (hF312.2.1 234 (by decide))))) (congrArg Int32.toInt (((hF390.1 59 6 (by decide)).trans (hF312.1 59 6 (by decide))))) (eA_ti (j := 2) (((hF390.2.1 234 (by decide)).trans (hF312.2.1 234 (by decide))))) (congrArg Int32.toInt (((hF390.1 59 9 (by decide)).trans (hF312.1 59 9 (by decide))))) (eA_ti (j := 3) (((hF390.2.1 234 (by decide)).trans (hF312.2.1 234 (by decide))))), IM1.cong hR_13 (eA_ti (j := 1) (((hF390.2.1 173 (by decide)).trans (hF312.2.1 173 (by decide))))) (congrArg Int32.toInt (((hF390.1 116 0 (by decide)).trans (hF312.1 116 0 (by decide))))) (eA_ti (j := 5510) (((hF390.2.1 234 (by decide)).trans (hF312.2.1 234 (by decide))))) (congrArg Int32.toInt (((hF390.1 116 12 (by decide)).trans (hF312.1 116 12 (by decide))))) (eA_ti (j := 5514) (((hF390.2.1 234 (by decide)).trans (hF312.2.1 234 (by decide))))) (congrArg Int32.toInt (((hF390.1 116 10 (by decide)).trans (hF312.1 116 10 (by decide))))) (eA_ti (j := 5515) (((hF390.2.1 234 (by decide)).trans (hF312.2.1 234 (by decide))))) (congrArg Int32.toInt (((hF390.1 116 11 (by decide)).trans (hF312.1 116 11 (by decide))))) (eA_ti (j := 5516) (((hF390.2.1 234 (by decide)).trans (hF312.2.1 234 (by decide))))) (congrArg Int32.toInt (((hF390.1 116 4 (by decide)).trans (hF312.1 116 4 (by decide))))) (eA_ti (j := 5511) (((hF390.2.1 234 (by decide)).trans (hF312.2.1 234 (by decide))))) (congrArg Int32.toInt (((hF390.1 116 6 (by decide)).trans (hF312.1 116 6 (by decide))))) (eA_ti (j := 5512) (((hF390.2.1 234 (by decide)).trans (hF312.2.1 234 (by decide))))) (congrArg Int32.toInt (((hF390.1 116 9 (by decide)).trans (hF312.1 116 9 (by decide))))) (eA_ti (j := 5513) (((hF390.2.1 234 (by decide)).trans (hF312.2.1 234 (by decide))))), (show CT _ from ⟨fun i i0 i1 => ⟨(by have t0_ := hI0.t0; have t1_ := hI0.t1; have o := (hR_14.1 i i0 i1).1; have x := eA_ti (j := i) (((hF390.2.1 2 (by decide)).trans (hF312.2.1 2 (by decide)))); have m := q397 (10 + 3 * i) (by omega) (by omega); have y1 := eA_ti (j := ((10 + 3 * i))) (hF312.2.1 233 (by decide)); first | exact x.trans (o.trans (m.trans y1).symm) | omega), (by have t0_ := hI0.t0; have t1_ := hI0.t1; have o := (hR_14.1 i i0 i1).2.1; have x := eA_ti (j := i) (((hF390.2.1 3 (by decide)).trans (hF312.2.1 3 (by decide)))); have m := q397 (10 + 3 * i + 1) (by omega) (by omega); have y1 := eA_ti (j := ((10 + 3 * i + 1))) (hF312.2.1 233 (by decide)); first | exact x.trans (o.trans (m.trans y1).symm) | omega), (by have t0_ := hI0.t0; have t1_ := hI0.t1; have o := (hR_14.1 i i0 i1).2.2; have x := eA_ti (j := i) (((hF390.2.1 4 (by decide)).trans (hF312.2.1 4 (by decide)))); have m := q397 (10 + 3 * i + 2) (by omega) (by omega); have y1 := eA_ti (j := ((10 + 3 * i + 2))) (hF312.2.1 233 (by decide)); first | exact x.trans (o.trans (m.trans y1).symm) | omega)⟩, fun i i0 i1 => ⟨(by have t0_ := hI0.t0; have t1_ := hI0.t1; have o := (hR_14.2.1 i i0 i1).1; have x := eA_ti (j := i) (((hF390.2.1 14 (by decide)).trans (hF312.2.1 14 (by decide)))); have m := q398 (94 + 2 * i) (by omega) (by omega); have y1 := eA_ti (j := ((94 + 2 * i))) (hF312.2.1 233 (by decide)); first | exact x.trans (o.trans (m.trans y1).symm) | omega), (by have t0_ := hI0.t0; have t1_ := hI0.t1; have o := (hR_14.2.1 i i0 i1).2; have x := eA_ti (j := i) (((hF390.2.1 15 (by decide)).trans (hF312.2.1 15 (by decide)))); have m := q398 (94 + 2 * i + 1) (by omega) (by omega); have y1 := eA_ti (j := ((94 + 2 * i + 1))) (hF312.2.1 233 (by decide)); first | exact x.trans (o.trans (m.trans y1).symm) | omega)⟩, fun i i0 i1 => (by have t0_ := hI0.t0; have t1_ := hI0.t1; have o : i < 6 * (gI g0 1 4).toInt → _ := fun hz => hR_14.2.2 i i0 hz; have t9_ := RgF.at hI389.2.1 (p := 1) (b := 4) rfl; dsimp only at t9_; have i9_ : i < 48 := (by omega); have x := (eA_ti (j := i) (hF390.2.1 5 (by decide))).trans (q319 i i0 i9_); have m := q399 (46 + i) (by omega) (by omega); have y1 := eA_ti (j := ((46 + i))) (hF312.2.1 233 (by decide)); have ek0 : (eA g310 233 0).toInt = (gI g0 1 0).toInt := (eA_ti (j := 0) (hF312.2.1 233 (by decide))).trans hR_0.symm; have ek1 : (eA g310 233 1).toInt = (gI g0 1 4).toInt := (eA_ti (j := 1) (hF312.2.1 233 (by decide))).trans hR_4.symm; have eC : ((1 ≤ v2.toInt ∧ v2.toInt ≤ 9 ∧ 0 ≤ v8.toInt ∧ v8.toInt ≤ 99 ∧ 0 ≤ v10.toInt ∧ v10.toInt ≤ 9 ∧ 0 ≤ v12.toInt ∧ v12.toInt ≤ 9999) ∧ (0 ≤ v4.toInt ∧ v4.toInt < (eA g310 233 0).toInt ∧ 0 ≤ v6.toInt ∧ v6.toInt < (eA g310 233 0).toInt) ∧ (eA g310 233 1).toInt < 8) = ((1 ≤ v2.toInt ∧ v2.toInt ≤ 9 ∧ 0 ≤ v8.toInt ∧ v8.toInt ≤ 99 ∧ 0 ≤ v10.toInt ∧ v10.toInt ≤ 9 ∧ 0 ≤ v12.toInt ∧ v12.toInt ≤ 9999) ∧ (0 ≤ v4.toInt ∧ v4.toInt < (gI g0 1 0).toInt ∧ 0 ≤ v6.toInt ∧ v6.toInt < (gI g0 1 0).toInt) ∧ (gI g0 1 4).toInt < 8) := (by rw [ek0, ek1]); have k : ¬ ((1 ≤ v2.toInt ∧ v2.toInt ≤ 9 ∧ 0 ≤ v8.toInt ∧ v8.toInt ≤ 99 ∧ 0 ≤ v10.toInt ∧ v10.toInt ≤ 9 ∧ 0 ≤ v12.toInt ∧ v12.toInt ≤ 9999) ∧ (0 ≤ v4.toInt ∧ v4.toInt < (gI g0 1 0).toInt ∧ 0 ≤ v6.toInt ∧ v6.toInt < (gI g0 1 0).toInt) ∧ (gI g0 1 4).toInt < 8) := (fun z => absurd pk13.2.2 (Int.not_le.mpr z.2.2)); have k2 : ¬ ((1 ≤ v2.toInt ∧ v2.toInt ≤ 9 ∧ 0 ≤ v8.toInt ∧ v8.toInt ≤ 99 ∧ 0 ≤ v10.toInt ∧ v10.toInt ≤ 9 ∧ 0 ≤ v12.toInt ∧ v12.toInt ≤ 9999) ∧ (0 ≤ v4.toInt ∧ v4.toInt < (eA g310 233 0).toInt ∧ 0 ≤ v6.toInt ∧ v6.toInt < (eA g310 233 0).toInt) ∧ (eA g310 233 1).toInt < 8) := fun z => k (eC.mp z); rw [ite_an k, ite_an k, ite_an k, ite_an k, ite_an k, ite_an k] at x; rw [ite_an k2, ite_an k2, ite_an k2, ite_an k2, ite_an k2, ite_an k2] at m; clear eC k2 k; omega)⟩), CI0.cong hR_15 (((hF390.2.1 60 (by decide)).trans (hF312.2.1 60 (by decide)))) (((hF390.2.1 61 (by decide)).trans (hF312.2.1 61 (by decide)))) (((hF390.2.1 62 (by decide)).trans (hF312.2.1 62 (by decide)))) (((hF390.2.1 72 (by decide)).trans (hF312.2.1 72 (by decide)))) (((hF390.2.1 73 (by decide)).trans (hF312.2.1 73 (by decide)))) (((hF390.2.1 63 (by decide)).trans (hF312.2.1 63 (by decide)))) (((hF390.2.1 234 (by decide)).trans (hF312.2.1 234 (by decide)))) (congrArg Int32.toInt (((hF390.1 59 4 (by decide)).trans (hF312.1 59 4 (by decide))))), CI1.cong hR_16 (((hF390.2.1 117 (by decide)).trans (hF312.2.1 117 (by decide)))) (((hF390.2.1 118 (by decide)).trans (hF312.2.1 118 (by decide)))) (((hF390.2.1 119 (by decide)).trans (hF312.2.1 119 (by decide)))) (((hF390.2.1 129 (by decide)).trans (hF312.2.1 129 (by decide)))) (((hF390.2.1 130 (by decide)).trans (hF312.2.1 130 (by decide)))) (((hF390.2.1 120 (by decide)).trans (hF312.2.1 120 (by decide)))) (((hF390.2.1 234 (by decide)).trans (hF312.2.1 234 (by decide)))) (congrArg Int32.toInt (((hF390.1 116 4 (by decide)).trans (hF312.1 116 4 (by decide))))), (show RT _ from fun i i0 i1 => (eA_ti (((hF390.2.1 175 (by decide)).trans (hF312.2.1 175 (by decide))))).trans ((hR_17 i i0 (by omega)).trans (eA_ti (((hF390.2.1 236 (by decide)).trans (hF312.2.1 236 (by decide))))).symm)), (show BYX _ from fun i i0 i1 => by rw [TX.c (((hF390.2.1 175 (by decide)).trans (hF312.2.1 175 (by decide))))]; exact hR_18 i i0 (by have i2 : i < (gI _ 174 1).toInt := i1; show i < (gI g0 174 1).toInt; omega)), (LAWR_c hR_19 (LSA_tr (LSA_tr LSA_rf (LSA_fr hF312 rfl)) (LSA_fr hF390 rfl)) (((hF390.1 1 6 (by decide)).trans (hF312.1 1 6 (by decide)))) (((hF390.1 59 6 (by decide)).trans (hF312.1 59 6 (by decide)))) (((hF390.1 116 6 (by decide)).trans (hF312.1 116 6 (by decide)))) (((hF390.2.1 173 (by decide)).trans (hF312.2.1 173 (by decide)))) (fun i i0 i1 => (R3_load hI311 q398 i i0 i1).trans (eA_ti (hF312.2.1 233 (by decide)))) (((hF390.2.1 234 (by decide)).trans (hF312.2.1 234 (by decide)))) (TOLDX_fr hF390 rfl rfl rfl rfl (fe316.1 hR_19.2.2.2.2))), (SETX_fr hF390 rfl rfl rfl rfl rfl (fe316.2 hR_20))⟩)
  · refine r_callV 362 rfl [.ref 0, .int v2, .int v4, .int v6, .int v8, .int v10, .int v12] [] (Nat.le_of_ble_eq_true rfl) rfl (T_X10_load_0 _ hI0 v2 v4 v6 v8 v10 v12) ?_
    rintro _ _ ⟨g458, rfl, hI459, hF460, v461, rfl, hr462⟩
    refine At.sti ?_
    have hF463 := Fr.tr hF0 hF460 rfl rfl
    have fe464 : PH _ := hr462.2.2
    replace hr462 := And.intro hr462.1 hr462.2.1
    obtain ⟨q465, q466, q467⟩ := hr462
    obtain ⟨i469, i470, i471, i472⟩ := q466
    have w468 := i472 ⟨pk13.1, pk13.2.1, Int.not_le.mp pk13.2.2⟩
    clear i469 i470 i471 i472
    have f473 := congrArg Int32.toInt (hF460.1 1 0 rfl)
    have f474 := congrArg Int32.toInt (hF460.1 1 12 rfl)
    have f475 := congrArg Int32.toInt (hF460.1 1 10 rfl)
    have f476 := congrArg Int32.toInt (hF460.1 1 11 rfl)
    have f477 := congrArg Int32.toInt (hF460.1 1 6 rfl)
    have f478 := congrArg Int32.toInt (hF460.1 1 9 rfl)
    have f479 := congrArg Int32.toInt (hF460.1 59 0 rfl)
    have f480 := congrArg Int32.toInt (hF460.1 59 12 rfl)
    have f481 := congrArg Int32.toInt (hF460.1 59 10 rfl)
    have f482 := congrArg Int32.toInt (hF460.1 59 11 rfl)
    have f483 := congrArg Int32.toInt (hF460.1 59 4 rfl)
    have f484 := congrArg Int32.toInt (hF460.1 59 6 rfl)
    have f485 := congrArg Int32.toInt (hF460.1 59 9 rfl)
    have f486 := congrArg Int32.toInt (hF460.1 116 0 rfl)
    have f487 := congrArg Int32.toInt (hF460.1 116 12 rfl)
    have f488 := congrArg Int32.toInt (hF460.1 116 10 rfl)
    have f489 := congrArg Int32.toInt (hF460.1 116 11 rfl)
    have f490 := congrArg Int32.toInt (hF460.1 116 4 rfl)
    have f491 := congrArg Int32.toInt (hF460.1 116 6 rfl)
    have f492 := congrArg Int32.toInt (hF460.1 116 9 rfl)
    have f493 := congrArg Int32.toInt (eA_c (j := 0) (hF460.2.1 173 rfl))
    have f494 := congrArg Int32.toInt (eA_c (j := 1) (hF460.2.1 173 rfl))
    have f495 := congrArg Int32.toInt (hF460.1 174 1 rfl)
    have f496 := congrArg Int32.toInt (hF460.1 0 16 rfl)
    have f497 := congrArg Int32.toInt (hF460.1 176 2 rfl)
    have f498 := congrArg Int32.toInt (eA_c (j := 0) (hF460.2.1 233 rfl))
    have f499 := congrArg Int32.toInt (eA_c (j := 4) (hF460.2.1 233 rfl))
    have f500 := congrArg Int32.toInt (eA_c (j := 5) (hF460.2.1 233 rfl))
    have f501 := congrArg Int32.toInt (eA_c (j := 6) (hF460.2.1 233 rfl))
    have f502 := congrArg Int32.toInt (eA_c (j := 1) (hF460.2.1 233 rfl))
    have f503 := congrArg Int32.toInt (eA_c (j := 2) (hF460.2.1 233 rfl))
    have f504 := congrArg Int32.toInt (eA_c (j := 3) (hF460.2.1 233 rfl))
    have f505 := congrArg Int32.toInt (eA_c (j := 0) (hF460.2.1 234 rfl))
    have f506 := congrArg Int32.toInt (eA_c (j := 4) (hF460.2.1 234 rfl))
    have f507 := congrArg Int32.toInt (eA_c (j := 5) (hF460.2.1 234 rfl))
    have f508 := congrArg Int32.toInt (eA_c (j := 6) (hF460.2.1 234 rfl))
    have f509 := congrArg Int32.toInt (eA_c (j := 1) (hF460.2.1 234 rfl))
    have f510 := congrArg Int32.toInt (eA_c (j := 2) (hF460.2.1 234 rfl))
    have f511 := congrArg Int32.toInt (eA_c (j := 3) (hF460.2.1 234 rfl))
    have f512 := congrArg Int32.toInt (eA_c (j := 5510) (hF460.2.1 234 rfl))
    have f513 := congrArg Int32.toInt (eA_c (j := 5514) (hF460.2.1 234 rfl))
    have f514 := congrArg Int32.toInt (eA_c (j := 5515) (hF460.2.1 234 rfl))
    have f515 := congrArg Int32.toInt (eA_c (j := 5516) (hF460.2.1 234 rfl))
    have f516 := congrArg Int32.toInt (eA_c (j := 5511) (hF460.2.1 234 rfl))
    have f517 := congrArg Int32.toInt (eA_c (j := 5512) (hF460.2.1 234 rfl))
    have f518 := congrArg Int32.toInt (eA_c (j := 5513) (hF460.2.1 234 rfl))
    have f519 := congrArg Int32.toInt (eA_c (j := 0) (hF460.2.1 235 rfl))
    have f520 := congrArg Int32.toInt (eA_c (j := 1) (hF460.2.1 235 rfl))
    have f521 := congrArg Int32.toInt (hF460.1 231 8 rfl)
    have f522 := congrArg Int32.toInt (hF460.1 231 6 rfl)
    have f523 := congrArg Int32.toInt (hF460.1 231 13 rfl)
    refine At.enter rfl ?_
    refine r_pop rfl ?_
    refine r_aload_n e2 ?_
    refine r_sload_n e0 ?_
    refine r_iload_n e3 ?_
    refine r_iconst 1 rfl ?_
    refine q_iadd (i.toInt + 1) rfl hx_1 (fun v524 hv524 => ?_)
    refine q_scald (m := L) hL (i.toInt + 1) hv524 hy_1 (fun v525 hv525 => ?_)
    have sv525 := hv2.symm.trans hv525
    subst sv525
    refine r_sload_n e0 ?_
    refine r_iload_n e3 ?_
    refine r_iconst 2 rfl ?_
    refine q_iadd (i.toInt + 2) rfl hx_2 (fun v526 hv526 => ?_)
    refine q_scald (m := L) hL (i.toInt + 2) hv526 hy_2 (fun v527 hv527 => ?_)
    have sv527 := hv4.symm.trans hv527
    subst sv527
    refine r_sload_n e0 ?_
    refine r_iload_n e3 ?_
    refine r_iconst 3 rfl ?_
    refine q_iadd (i.toInt + 3) rfl hx_3 (fun v528 hv528 => ?_)
    refine q_scald (m := L) hL (i.toInt + 3) hv528 hy_3 (fun v529 hv529 => ?_)
    have sv529 := hv6.symm.trans hv529
    subst sv529
    refine r_sload_n e0 ?_
    refine r_iload_n e3 ?_
    refine r_iconst 4 rfl ?_
    refine q_iadd (i.toInt + 4) rfl hx_4 (fun v530 hv530 => ?_)
    refine q_scald (m := L) hL (i.toInt + 4) hv530 hy_4 (fun v531 hv531 => ?_)
    have sv531 := hv8.symm.trans hv531
    subst sv531
    refine r_sload_n e0 ?_
    refine r_iload_n e3 ?_
    refine r_iconst 5 rfl ?_
    refine q_iadd (i.toInt + 5) rfl hx_5 (fun v532 hv532 => ?_)
    refine q_scald (m := L) hL (i.toInt + 5) hv532 hy_5 (fun v533 hv533 => ?_)
    have sv533 := hv10.symm.trans hv533
    subst sv533
    refine r_sload_n e0 ?_
    refine r_iload_n e3 ?_
    refine r_bipush 6 rfl ?_
    refine q_iadd (i.toInt + 6) rfl hx_6 (fun v534 hv534 => ?_)
    refine q_scald (m := L) hL (i.toInt + 6) hv534 hy_6 (fun v535 hv535 => ?_)
    have sv535 := hv12.symm.trans hv535
    subst sv535
    refine r_callV 398 rfl [.ref 231, .int v2, .int v4, .int v6, .int v8, .int v10, .int v12] [] (Nat.le_of_ble_eq_true rfl) rfl (T_X11_load_231 _ hI459 v2 v4 v6 v8 v10 v12) ?_
    rintro _ _ ⟨g536, rfl, hI537, hF538, v539, rfl, hr540⟩
    refine At.sti ?_
    have hF541 := Fr.tr hF463 hF538 rfl rfl
    obtain ⟨q543, q544, q545, q546, q547⟩ := hr540
    have ek559 : (eA g458 233 0).toInt = (gI g0 1 0).toInt := (eA_ti (j := 0) (hF460.2.1 233 (by decide))).trans hR_0.symm
    have ek560 : (eA g458 233 1).toInt = (gI g0 1 4).toInt := (eA_ti (j := 1) (hF460.2.1 233 (by decide))).trans hR_4.symm
    obtain ⟨i549, i550, i551, i552, sm553, sm554, sm555, sm556, sm557, sm558⟩ := q544
    have w548 := i552 ⟨pk13.1, (by rw [ek559]; exact pk13.2.1), Int.not_le.mp (by rw [ek560]; exact pk13.2.2)⟩
    clear i549 i550 i551 i552
    have f561 := congrArg Int32.toInt (hF538.1 1 0 rfl)
    have f562 := congrArg Int32.toInt (hF538.1 1 12 rfl)
    have f563 := congrArg Int32.toInt (hF538.1 1 10 rfl)
    have f564 := congrArg Int32.toInt (hF538.1 1 11 rfl)
    have f565 := congrArg Int32.toInt (hF538.1 1 4 rfl)
    have f566 := congrArg Int32.toInt (hF538.1 1 6 rfl)
    have f567 := congrArg Int32.toInt (hF538.1 1 9 rfl)
    have f568 := congrArg Int32.toInt (hF538.1 59 0 rfl)
    have f569 := congrArg Int32.toInt (hF538.1 59 12 rfl)
    have f570 := congrArg Int32.toInt (hF538.1 59 10 rfl)
    have f571 := congrArg Int32.toInt (hF538.1 59 11 rfl)
    have f572 := congrArg Int32.toInt (hF538.1 59 4 rfl)
    have f573 := congrArg Int32.toInt (hF538.1 59 6 rfl)
    have f574 := congrArg Int32.toInt (hF538.1 59 9 rfl)
    have f575 := congrArg Int32.toInt (hF538.1 116 0 rfl)
    have f576 := congrArg Int32.toInt (hF538.1 116 12 rfl)
    have f577 := congrArg Int32.toInt (hF538.1 116 10 rfl)
    have f578 := congrArg Int32.toInt (hF538.1 116 11 rfl)
    have f579 := congrArg Int32.toInt (hF538.1 116 4 rfl)
    have f580 := congrArg Int32.toInt (hF538.1 116 6 rfl)
    have f581 := congrArg Int32.toInt (hF538.1 116 9 rfl)
    have f582 := congrArg Int32.toInt (eA_c (j := 0) (hF538.2.1 173 rfl))
    have f583 := congrArg Int32.toInt (eA_c (j := 1) (hF538.2.1 173 rfl))
    have f584 := congrArg Int32.toInt (hF538.1 174 1 rfl)
    have f585 := congrArg Int32.toInt (hF538.1 0 16 rfl)
    have f586 := congrArg Int32.toInt (hF538.1 176 2 rfl)
    have f587 := congrArg Int32.toInt (eA_c (j := 0) (hF538.2.1 234 rfl))
    have f588 := congrArg Int32.toInt (eA_c (j := 4) (hF538.2.1 234 rfl))
    have f589 := congrArg Int32.toInt (eA_c (j := 5) (hF538.2.1 234 rfl))
    have f590 := congrArg Int32.toInt (eA_c (j := 6) (hF538.2.1 234 rfl))
    have f591 := congrArg Int32.toInt (eA_c (j := 1) (hF538.2.1 234 rfl))
    have f592 := congrArg Int32.toInt (eA_c (j := 2) (hF538.2.1 234 rfl))
    have f593 := congrArg Int32.toInt (eA_c (j := 3) (hF538.2.1 234 rfl))
    have f594 := congrArg Int32.toInt (eA_c (j := 5510) (hF538.2.1 234 rfl))
    have f595 := congrArg Int32.toInt (eA_c (j := 5514) (hF538.2.1 234 rfl))
    have f596 := congrArg Int32.toInt (eA_c (j := 5515) (hF538.2.1 234 rfl))
    have f597 := congrArg Int32.toInt (eA_c (j := 5516) (hF538.2.1 234 rfl))
    have f598 := congrArg Int32.toInt (eA_c (j := 5511) (hF538.2.1 234 rfl))
    have f599 := congrArg Int32.toInt (eA_c (j := 5512) (hF538.2.1 234 rfl))
    have f600 := congrArg Int32.toInt (eA_c (j := 5513) (hF538.2.1 234 rfl))
    have f601 := congrArg Int32.toInt (eA_c (j := 0) (hF538.2.1 235 rfl))
    have f602 := congrArg Int32.toInt (eA_c (j := 1) (hF538.2.1 235 rfl))
    have f603 := congrArg Int32.toInt (hF538.1 231 8 rfl)
    have f604 := congrArg Int32.toInt (hF538.1 231 6 rfl)
    have f605 := congrArg Int32.toInt (hF538.1 231 13 rfl)
    refine At.enter rfl ?_
    refine r_pop rfl ?_
    refine r_goto ?_
    exact K _ hI537 (show LwR _ from ⟨by omega, by omega, by omega, by omega, by omega, by omega, by omega, (eA_ti (j := 0) (((hF538.2.1 173 (by decide)).trans (hF460.2.1 173 (by decide))))).trans (hR_7.trans (eA_ti (j := 0) (((hF538.2.1 235 (by decide)).trans (hF460.2.1 235 (by decide))))).symm), (eA_ti (j := 1) (((hF538.2.1 173 (by decide)).trans (hF460.2.1 173 (by decide))))).trans (hR_8.trans (eA_ti (j := 1) (((hF538.2.1 235 (by decide)).trans (hF460.2.1 235 (by decide))))).symm), (congrArg Int32.toInt (((hF538.1 174 1 (by decide)).trans (hF460.1 174 1 (by decide))))).trans (hR_9.trans (congrArg Int32.toInt (((hF538.1 231 8 (by decide)).trans (hF460.1 231 8 (by decide))))).symm), (congrArg Int32.toInt (((hF538.1 0 16 (by decide)).trans (hF460.1 0 16 (by decide))))).trans (hR_10.trans (congrArg Int32.toInt (((hF538.1 231 6 (by decide)).trans (hF460.1 231 6 (by decide))))).symm), (congrArg Int32.toInt (((hF538.1 176 2 (by decide)).trans (hF460.1 176 2 (by decide))))).trans (hR_11.trans (congrArg Int32.toInt (((hF538.1 231 13 (by decide)).trans (hF460.1 231 13 (by decide))))).symm), IM0.cong hR_12 (eA_ti (j := 0) (((hF538.2.1 173 (by decide)).trans (hF460.2.1 173 (by decide))))) (congrArg Int32.toInt (((hF538.1 59 0 (by decide)).trans (hF460.1 59 0 (by decide))))) (eA_ti (j := 0) (((hF538.2.1 234 (by decide)).trans (hF460.2.1 234 (by decide))))) (congrArg Int32.toInt (((hF538.1 59 12 (by decide)).trans (hF460.1 59 12 (by decide))))) (eA_ti (j := 4) (((hF538.2.1 234 (by decide)).trans (hF460.2.1 234 (by decide))))) (congrArg Int32.toInt (((hF538.1 59 10 (by decide)).trans (hF460.1 59 10 (by decide))))) (eA_ti (j := 5) (((hF538.2.1 234 (by decide)).trans (hF460.2.1 234 (by decide))))) (congrArg Int32.toInt (((hF538.1 59 11 (by decide)).trans (hF460.1 59 11 (by decide))))) (eA_ti (j := 6) (((hF538.2.1 234 (by decide)).trans (hF460.2.1 234 (by decide))))) (congrArg Int32.toInt (((hF538.1 59 4 (by decide)).trans (hF460.1 59 4 (by decide))))) (eA_ti (j := 1) (((hF538.2.1 234 (by decide)).trans (hF460.2.1 234 (by decide))))) (congrArg Int32.toInt (((hF538.1 59 6 (by decide)).trans (hF460.1 59 6 (by decide))))) (eA_ti (j := 2) (((hF538.2.1 234 (by decide)).trans (hF460.2.1 234 (by decide))))) (congrArg Int32.toInt (((hF538.1 59 9 (by decide)).trans (hF460.1 59 9 (by decide))))) (eA_ti (j := 3) (((hF538.2.1 234 (by decide)).trans (hF460.2.1 234 (by decide))))), IM1.cong hR_13 (eA_ti (j := 1) (((hF538.2.1 173 (by decide)).trans (hF460.2.1 173 (by decide))))) (congrArg Int32.toInt (((hF538.1 116 0 (by decide)).trans (hF460.1 116 0 (by decide))))) (eA_ti (j := 5510) (((hF538.2.1 234 (by decide)).trans (hF460.2.1 234 (by decide))))) (congrArg Int32.toInt (((hF538.1 116 12 (by decide)).trans (hF460.1 116 12 (by decide))))) (eA_ti (j := 5514) (((hF538.2.1 234 (by decide)).trans (hF460.2.1 234 (by decide))))) (congrArg Int32.toInt (((hF538.1 116 10 (by decide)).trans (hF460.1 116 10 (by decide))))) (eA_ti (j := 5515) (((hF538.2.1 234 (by decide)).trans (hF460.2.1 234 (by decide))))) (congrArg Int32.toInt (((hF538.1 116 11 (by decide)).trans (hF460.1 116 11 (by decide))))) (eA_ti (j := 5516) (((hF538.2.1 234 (by decide)).trans (hF460.2.1 234 (by decide))))) (congrArg Int32.toInt (((hF538.1 116 4 (by decide)).trans (hF460.1 116 4 (by decide))))) (eA_ti (j := 5511) (((hF538.2.1 234 (by decide)).trans (hF460.2.1 234 (by decide))))) (congrArg Int32.toInt (((hF538.1 116 6 (by decide)).trans (hF460.1 116 6 (by decide))))) (eA_ti (j := 5512) (((hF538.2.1 234 (by decide)).trans (hF460.2.1 234 (by decide))))) (congrArg Int32.toInt (((hF538.1 116 9 (by decide)).trans (hF460.1 116 9 (by decide))))) (eA_ti (j := 5513) (((hF538.2.1 234 (by decide)).trans (hF460.2.1 234 (by decide))))), (show CT _ from ⟨fun i i0 i1 => ⟨(by have t0_ := hI0.t0; have t1_ := hI0.t1; have o := (hR_14.1 i i0 i1).1; have x := eA_ti (j := i) (((hF538.2.1 2 (by decide)).trans (hF460.2.1 2 (by decide)))); have m := q545 (10 + 3 * i) (by omega) (by omega); have y1 := eA_ti (j := ((10 + 3 * i))) (hF460.2.1 233 (by decide)); first | exact x.trans (o.trans (m.trans y1).symm) | omega), (by have t0_ := hI0.t0; have t1_ := hI0.t1; have o := (hR_14.1 i i0 i1).2.1; have x := eA_ti (j := i) (((hF538.2.1 3 (by decide)).trans (hF460.2.1 3 (by decide)))); have m := q545 (10 + 3 * i + 1) (by omega) (by omega); have y1 := eA_ti (j := ((10 + 3 * i + 1))) (hF460.2.1 233 (by decide)); first | exact x.trans (o.trans (m.trans y1).symm) | omega), (by have t0_ := hI0.t0; have t1_ := hI0.t1; have o := (hR_14.1 i i0 i1).2.2; have x := eA_ti (j := i) (((hF538.2.1 4 (by decide)).trans (hF460.2.1 4 (by decide)))); have m := q545 (10 + 3 * i + 2) (by omega) (by omega); have y1 := eA_ti (j := ((10 + 3 * i + 2))) (hF460.2.1 233 (by decide)); first | exact x.trans (o.trans (m.trans y1).symm) | omega)⟩, fun i i0 i1 => ⟨(by have t0_ := hI0.t0; have t1_ := hI0.t1; have o := (hR_14.2.1 i i0 i1).1; have x := eA_ti (j := i) (((hF538.2.1 14 (by decide)).trans (hF460.2.1 14 (by decide)))); have m := q546 (94 + 2 * i) (by omega) (by omega); have y1 := eA_ti (j := ((94 + 2 * i))) (hF460.2.1 233 (by decide)); first | exact x.trans (o.trans (m.trans y1).symm) | omega), (by have t0_ := hI0.t0; have t1_ := hI0.t1; have o := (hR_14.2.1 i i0 i1).2; have x := eA_ti (j := i) (((hF538.2.1 15 (by decide)).trans (hF460.2.1 15 (by decide)))); have m := q546 (94 + 2 * i + 1) (by omega) (by omega); have y1 := eA_ti (j := ((94 + 2 * i + 1))) (hF460.2.1 233 (by decide)); first | exact x.trans (o.trans (m.trans y1).symm) | omega)⟩, fun i i0 i1 => (by have t0_ := hI0.t0; have t1_ := hI0.t1; have o : i < 6 * (gI g0 1 4).toInt → _ := fun hz => hR_14.2.2 i i0 hz; have t9_ := RgF.at hI537.2.1 (p := 1) (b := 4) rfl; dsimp only at t9_; have i9_ : i < 48 := (by omega); have x := (eA_ti (j := i) (hF538.2.1 5 (by decide))).trans (q467 i i0 i9_); have m := q547 (46 + i) (by omega) (by omega); have y1 := eA_ti (j := ((46 + i))) (hF460.2.1 233 (by decide)); have ek0 : (eA g458 233 0).toInt = (gI g0 1 0).toInt := (eA_ti (j := 0) (hF460.2.1 233 (by decide))).trans hR_0.symm; have ek1 : (eA g458 233 1).toInt = (gI g0 1 4).toInt := (eA_ti (j := 1) (hF460.2.1 233 (by decide))).trans hR_4.symm; have eC : ((1 ≤ v2.toInt ∧ v2.toInt ≤ 9 ∧ 0 ≤ v8.toInt ∧ v8.toInt ≤ 99 ∧ 0 ≤ v10.toInt ∧ v10.toInt ≤ 9 ∧ 0 ≤ v12.toInt ∧ v12.toInt ≤ 9999) ∧ (0 ≤ v4.toInt ∧ v4.toInt < (eA g458 233 0).toInt ∧ 0 ≤ v6.toInt ∧ v6.toInt < (eA g458 233 0).toInt) ∧ (eA g458 233 1).toInt < 8) = ((1 ≤ v2.toInt ∧ v2.toInt ≤ 9 ∧ 0 ≤ v8.toInt ∧ v8.toInt ≤ 99 ∧ 0 ≤ v10.toInt ∧ v10.toInt ≤ 9 ∧ 0 ≤ v12.toInt ∧ v12.toInt ≤ 9999) ∧ (0 ≤ v4.toInt ∧ v4.toInt < (gI g0 1 0).toInt ∧ 0 ≤ v6.toInt ∧ v6.toInt < (gI g0 1 0).toInt) ∧ (gI g0 1 4).toInt < 8) := (by rw [ek0, ek1]); have k : (1 ≤ v2.toInt ∧ v2.toInt ≤ 9 ∧ 0 ≤ v8.toInt ∧ v8.toInt ≤ 99 ∧ 0 ≤ v10.toInt ∧ v10.toInt ≤ 9 ∧ 0 ≤ v12.toInt ∧ v12.toInt ≤ 9999) ∧ (0 ≤ v4.toInt ∧ v4.toInt < (gI g0 1 0).toInt ∧ 0 ≤ v6.toInt ∧ v6.toInt < (gI g0 1 0).toInt) ∧ (gI g0 1 4).toInt < 8 := ⟨pk13.1, pk13.2.1, Int.not_le.mp pk13.2.2⟩; rw [ite_ap k, ite_ap k, ite_ap k, ite_ap k, ite_ap k, ite_ap k] at x; have k2 := eC.mpr k; rw [ite_ap k2, ite_ap k2, ite_ap k2, ite_ap k2, ite_ap k2, ite_ap k2] at m; clear eC k2; rw [ek1] at m; exact x.trans ((ld6 (fun z => (o z).trans y1.symm) (by omega)).trans m.symm))⟩), CI0.cong hR_15 (((hF538.2.1 60 (by decide)).trans (hF460.2.1 60 (by decide)))) (((hF538.2.1 61 (by decide)).trans (hF460.2.1 61 (by decide)))) (((hF538.2.1 62 (by decide)).trans (hF460.2.1 62 (by decide)))) (((hF538.2.1 72 (by decide)).trans (hF460.2.1 72 (by decide)))) (((hF538.2.1 73 (by decide)).trans (hF460.2.1 73 (by decide)))) (((hF538.2.1 63 (by decide)).trans (hF460.2.1 63 (by decide)))) (((hF538.2.1 234 (by decide)).trans (hF460.2.1 234 (by decide)))) (congrArg Int32.toInt (((hF538.1 59 4 (by decide)).trans (hF460.1 59 4 (by decide))))), CI1.cong hR_16 (((hF538.2.1 117 (by decide)).trans (hF460.2.1 117 (by decide)))) (((hF538.2.1 118 (by decide)).trans (hF460.2.1 118 (by decide)))) (((hF538.2.1 119 (by decide)).trans (hF460.2.1 119 (by decide)))) (((hF538.2.1 129 (by decide)).trans (hF460.2.1 129 (by decide)))) (((hF538.2.1 130 (by decide)).trans (hF460.2.1 130 (by decide)))) (((hF538.2.1 120 (by decide)).trans (hF460.2.1 120 (by decide)))) (((hF538.2.1 234 (by decide)).trans (hF460.2.1 234 (by decide)))) (congrArg Int32.toInt (((hF538.1 116 4 (by decide)).trans (hF460.1 116 4 (by decide))))), (show RT _ from fun i i0 i1 => (eA_ti (((hF538.2.1 175 (by decide)).trans (hF460.2.1 175 (by decide))))).trans ((hR_17 i i0 (by omega)).trans (eA_ti (((hF538.2.1 236 (by decide)).trans (hF460.2.1 236 (by decide))))).symm)), (show BYX _ from fun i i0 i1 => by rw [TX.c (((hF538.2.1 175 (by decide)).trans (hF460.2.1 175 (by decide))))]; exact hR_18 i i0 (by have i2 : i < (gI _ 174 1).toInt := i1; show i < (gI g0 174 1).toInt; omega)), (LAWR_c hR_19 (LSA_tr (LSA_tr LSA_rf (LSA_fr hF460 rfl)) (LSA_fr hF538 rfl)) (((hF538.1 1 6 (by decide)).trans (hF460.1 1 6 (by decide)))) (((hF538.1 59 6 (by decide)).trans (hF460.1 59 6 (by decide)))) (((hF538.1 116 6 (by decide)).trans (hF460.1 116 6 (by decide)))) (((hF538.2.1 173 (by decide)).trans (hF460.2.1 173 (by decide)))) (fun i i0 i1 => (R3_load hI459 q546 i i0 i1).trans (eA_ti (hF460.2.1 233 (by decide)))) (((hF538.2.1 234 (by decide)).trans (hF460.2.1 234 (by decide)))) (TOLDX_fr hF538 rfl rfl rfl rfl (fe464.1 hR_19.2.2.2.2))), (SETX_fr hF538 rfl rfl rfl rfl rfl (fe464.2 hR_20))⟩)
