set_option maxRecDepth 100000 in
set_option maxHeartbeats 8000000 in
theorem lq_c35 (d : Nat) {N : Nat} {g0 : List en_E} (hI0 : HI g0) (hR0 : LwR g0) {ys : List Int32} {L : Nat} (hL : ys.length = L) (hL2 : L ≤ 3584) {l : en_L} {i : Int32} (e0 : en_get 0 l = some (.float 0)) (e1 : en_get 1 l = some (.ref 0)) (e2 : en_get 2 l = some (.ref 231)) (e3 : en_get 3 l = some (.int i)) (hi : 0 ≤ i.toInt ∧ i.toInt + 7 ≤ L) {Ph : Option Value → en_H → Prop} (K : ∀ g1 : List en_E, HI g1 → LwR g1 → At (d + 423) (some ys) (some .boolean) bs_L_law (1330, l, [], (g1, N)) Ph) : At (d + 423) (some ys) (some .boolean) bs_L_law (1215, l, [], (g0, N)) Ph := by
  have hF0 : Fr F_law A_law g0 g0 := Fr.rf
  have hx_1 : -2147483648 ≤ i.toInt + 1 ∧ i.toInt + 1 ≤ 2147483647 := by omega
  have hx_2 : -2147483648 ≤ i.toInt + 2 ∧ i.toInt + 2 ≤ 2147483647 := by omega
  have hx_3 : -2147483648 ≤ i.toInt + 3 ∧ i.toInt + 3 ≤ 2147483647 := by omega
  have hx_4 : -2147483648 ≤ i.toInt + 4 ∧ i.toInt + 4 ≤ 2147483647 := by omega
  have hx_5 : -2147483648 ≤ i.toInt + 5 ∧ i.toInt + 5 ≤ 2147483647 := by omega
  have hx_6 : -2147483648 ≤ i.toInt + 6 ∧ i.toInt + 6 ≤ 2147483647 := by omega
  have hy_0 : 0 ≤ i.toInt ∧ i.toInt < (L : Int) := by omega
  have hy_1 : 0 ≤ i.toInt + 1 ∧ i.toInt + 1 < (L : Int) := by omega
  have hy_2 : 0 ≤ i.toInt + 2 ∧ i.toInt + 2 < (L : Int) := by omega
  have hy_3 : 0 ≤ i.toInt + 3 ∧ i.toInt + 3 < (L : Int) := by omega
  have hy_4 : 0 ≤ i.toInt + 4 ∧ i.toInt + 4 < (L : Int) := by omega
  have hy_5 : 0 ≤ i.toInt + 5 ∧ i.toInt + 5 < (L : Int) := by omega
  have hy_6 : 0 ≤ i.toInt + 6 ∧ i.toInt + 6 < (L : Int) := by omega
  unfold LwR at hR0
  obtain ⟨hR_0, hR_1, hR_2, hR_3, hR_4, hR_5, hR_6, hR_7, hR_8⟩ := hR0
  refine At.enter rfl ?_
  refine r_aload_n e1 ?_
  refine r_sload_n e0 ?_
  refine r_iload_n e3 ?_
  refine r_iconst 1 rfl ?_
  refine q_iadd (i.toInt + 1) rfl hx_1 (fun v1 hv1 => ?_)
  refine q_scald (m := L) hL (i.toInt + 1) hv1 hy_1 (fun v2 hv2 => ?_)
  refine r_sload_n e0 ?_
  refine r_iload_n e3 ?_
  refine r_iconst 2 rfl ?_
  refine q_iadd (i.toInt + 2) rfl hx_2 (fun v3 hv3 => ?_)
  refine q_scald (m := L) hL (i.toInt + 2) hv3 hy_2 (fun v4 hv4 => ?_)
  refine r_callV 1229 rfl [.ref 0, .int v2, .int v4] [] (Nat.le_of_ble_eq_true rfl) rfl (T_X10_drawn_0 _ hI0 v2 v4) ?_
  rintro _ _ ⟨g5, rfl, hI6, hF7, v8, rfl, hr9⟩
  refine At.sti ?_
  have hF10 := Fr.tr hF0 hF7 rfl rfl
  have f11 := congrArg Int32.toInt (hF7.1 1 0 rfl)
  have f12 := congrArg Int32.toInt (hF7.1 1 12 rfl)
  have f13 := congrArg Int32.toInt (hF7.1 1 10 rfl)
  have f14 := congrArg Int32.toInt (hF7.1 1 11 rfl)
  have f15 := congrArg Int32.toInt (hF7.1 59 0 rfl)
  have f16 := congrArg Int32.toInt (hF7.1 59 12 rfl)
  have f17 := congrArg Int32.toInt (hF7.1 59 10 rfl)
  have f18 := congrArg Int32.toInt (hF7.1 59 11 rfl)
  have f19 := congrArg Int32.toInt (hF7.1 116 0 rfl)
  have f20 := congrArg Int32.toInt (hF7.1 116 12 rfl)
  have f21 := congrArg Int32.toInt (hF7.1 116 10 rfl)
  have f22 := congrArg Int32.toInt (hF7.1 116 11 rfl)
  have f23 := congrArg Int32.toInt (eA_c (j := 0) (hF7.2.1 173 rfl))
  have f24 := congrArg Int32.toInt (eA_c (j := 1) (hF7.2.1 173 rfl))
  have f25 := congrArg Int32.toInt (hF7.1 174 1 rfl)
  have f26 := congrArg Int32.toInt (eA_c (j := 0) (hF7.2.1 233 rfl))
  have f27 := congrArg Int32.toInt (eA_c (j := 4) (hF7.2.1 233 rfl))
  have f28 := congrArg Int32.toInt (eA_c (j := 5) (hF7.2.1 233 rfl))
  have f29 := congrArg Int32.toInt (eA_c (j := 6) (hF7.2.1 233 rfl))
  have f30 := congrArg Int32.toInt (eA_c (j := 0) (hF7.2.1 234 rfl))
  have f31 := congrArg Int32.toInt (eA_c (j := 4) (hF7.2.1 234 rfl))
  have f32 := congrArg Int32.toInt (eA_c (j := 5) (hF7.2.1 234 rfl))
  have f33 := congrArg Int32.toInt (eA_c (j := 6) (hF7.2.1 234 rfl))
  have f34 := congrArg Int32.toInt (eA_c (j := 5510) (hF7.2.1 234 rfl))
  have f35 := congrArg Int32.toInt (eA_c (j := 5514) (hF7.2.1 234 rfl))
  have f36 := congrArg Int32.toInt (eA_c (j := 5515) (hF7.2.1 234 rfl))
  have f37 := congrArg Int32.toInt (eA_c (j := 5516) (hF7.2.1 234 rfl))
  have f38 := congrArg Int32.toInt (eA_c (j := 0) (hF7.2.1 235 rfl))
  have f39 := congrArg Int32.toInt (eA_c (j := 1) (hF7.2.1 235 rfl))
  have f40 := congrArg Int32.toInt (hF7.1 231 8 rfl)
  refine At.enter rfl ?_
  refine r_pop rfl ?_
  refine r_aload_n e2 ?_
  refine r_sload_n e0 ?_
  refine r_iload_n e3 ?_
  refine r_iconst 1 rfl ?_
  refine q_iadd (i.toInt + 1) rfl hx_1 (fun v41 hv41 => ?_)
  refine q_scald (m := L) hL (i.toInt + 1) hv41 hy_1 (fun v42 hv42 => ?_)
  have sv42 := congrArg Int32.toInt (hv2.symm.trans hv42)
  refine r_sload_n e0 ?_
  refine r_iload_n e3 ?_
  refine r_iconst 2 rfl ?_
  refine q_iadd (i.toInt + 2) rfl hx_2 (fun v43 hv43 => ?_)
  refine q_scald (m := L) hL (i.toInt + 2) hv43 hy_2 (fun v44 hv44 => ?_)
  have sv44 := congrArg Int32.toInt (hv4.symm.trans hv44)
  refine r_callV 1244 rfl [.ref 231, .int v42, .int v44] [] (Nat.le_of_ble_eq_true rfl) rfl (T_X11_drawn_231 _ hI6 v42 v44) ?_
  rintro _ _ ⟨g45, rfl, hI46, hF47, v48, rfl, hr49⟩
  refine At.sti ?_
  have hF50 := Fr.tr hF10 hF47 rfl rfl
  have f51 := congrArg Int32.toInt (hF47.1 1 0 rfl)
  have f52 := congrArg Int32.toInt (hF47.1 1 12 rfl)
  have f53 := congrArg Int32.toInt (hF47.1 1 10 rfl)
  have f54 := congrArg Int32.toInt (hF47.1 1 11 rfl)
  have f55 := congrArg Int32.toInt (hF47.1 59 0 rfl)
  have f56 := congrArg Int32.toInt (hF47.1 59 12 rfl)
  have f57 := congrArg Int32.toInt (hF47.1 59 10 rfl)
  have f58 := congrArg Int32.toInt (hF47.1 59 11 rfl)
  have f59 := congrArg Int32.toInt (hF47.1 116 0 rfl)
  have f60 := congrArg Int32.toInt (hF47.1 116 12 rfl)
  have f61 := congrArg Int32.toInt (hF47.1 116 10 rfl)
  have f62 := congrArg Int32.toInt (hF47.1 116 11 rfl)
  have f63 := congrArg Int32.toInt (eA_c (j := 0) (hF47.2.1 173 rfl))
  have f64 := congrArg Int32.toInt (eA_c (j := 1) (hF47.2.1 173 rfl))
  have f65 := congrArg Int32.toInt (hF47.1 174 1 rfl)
  have f66 := congrArg Int32.toInt (eA_c (j := 0) (hF47.2.1 233 rfl))
  have f67 := congrArg Int32.toInt (eA_c (j := 4) (hF47.2.1 233 rfl))
  have f68 := congrArg Int32.toInt (eA_c (j := 5) (hF47.2.1 233 rfl))
  have f69 := congrArg Int32.toInt (eA_c (j := 6) (hF47.2.1 233 rfl))
  have f70 := congrArg Int32.toInt (eA_c (j := 0) (hF47.2.1 234 rfl))
  have f71 := congrArg Int32.toInt (eA_c (j := 4) (hF47.2.1 234 rfl))
  have f72 := congrArg Int32.toInt (eA_c (j := 5) (hF47.2.1 234 rfl))
  have f73 := congrArg Int32.toInt (eA_c (j := 6) (hF47.2.1 234 rfl))
  have f74 := congrArg Int32.toInt (eA_c (j := 5510) (hF47.2.1 234 rfl))
  have f75 := congrArg Int32.toInt (eA_c (j := 5514) (hF47.2.1 234 rfl))
  have f76 := congrArg Int32.toInt (eA_c (j := 5515) (hF47.2.1 234 rfl))
  have f77 := congrArg Int32.toInt (eA_c (j := 5516) (hF47.2.1 234 rfl))
  have f78 := congrArg Int32.toInt (eA_c (j := 0) (hF47.2.1 235 rfl))
  have f79 := congrArg Int32.toInt (eA_c (j := 1) (hF47.2.1 235 rfl))
  have f80 := congrArg Int32.toInt (hF47.1 231 8 rfl)
  refine At.enter rfl ?_
  refine r_pop rfl ?_
  refine r_goto ?_
  exact K _ hI46 (show LwR _ from ⟨by omega, by omega, by omega, by omega, by omega, by omega, by omega, IM0.cong hR_7 (by omega) (by omega) (by omega) (by omega) (by omega) (by omega) (by omega) (by omega) (by omega), IM1.cong hR_8 (by omega) (by omega) (by omega) (by omega) (by omega) (by omega) (by omega) (by omega) (by omega)⟩)

set_option maxRecDepth 100000 in
set_option maxHeartbeats 8000000 in
theorem lq_c36 (d : Nat) {N : Nat} {g0 : List en_E} (hI0 : HI g0) (hR0 : LwR g0) {ys : List Int32} {L : Nat} (hL : ys.length = L) (hL2 : L ≤ 3584) {l : en_L} {i : Int32} (e0 : en_get 0 l = some (.float 0)) (e1 : en_get 1 l = some (.ref 0)) (e2 : en_get 2 l = some (.ref 231)) (e3 : en_get 3 l = some (.int i)) (hi : 0 ≤ i.toInt ∧ i.toInt + 7 ≤ L) {Ph : Option Value → en_H → Prop} (K : ∀ g1 : List en_E, HI g1 → LwR g1 → At (d + 423) (some ys) (some .boolean) bs_L_law (1330, l, [], (g1, N)) Ph) : At (d + 423) (some ys) (some .boolean) bs_L_law (1248, l, [], (g0, N)) Ph := by
  have hF0 : Fr F_law A_law g0 g0 := Fr.rf
  have hx_1 : -2147483648 ≤ i.toInt + 1 ∧ i.toInt + 1 ≤ 2147483647 := by omega
  have hx_2 : -2147483648 ≤ i.toInt + 2 ∧ i.toInt + 2 ≤ 2147483647 := by omega
  have hx_3 : -2147483648 ≤ i.toInt + 3 ∧ i.toInt + 3 ≤ 2147483647 := by omega
  have hx_4 : -2147483648 ≤ i.toInt + 4 ∧ i.toInt + 4 ≤ 2147483647 := by omega
  have hx_5 : -2147483648 ≤ i.toInt + 5 ∧ i.toInt + 5 ≤ 2147483647 := by omega
  have hx_6 : -2147483648 ≤ i.toInt + 6 ∧ i.toInt + 6 ≤ 2147483647 := by omega
  have hy_0 : 0 ≤ i.toInt ∧ i.toInt < (L : Int) := by omega
  have hy_1 : 0 ≤ i.toInt + 1 ∧ i.toInt + 1 < (L : Int) := by omega
  have hy_2 : 0 ≤ i.toInt + 2 ∧ i.toInt + 2 < (L : Int) := by omega
  have hy_3 : 0 ≤ i.toInt + 3 ∧ i.toInt + 3 < (L : Int) := by omega
  have hy_4 : 0 ≤ i.toInt + 4 ∧ i.toInt + 4 < (L : Int) := by omega
  have hy_5 : 0 ≤ i.toInt + 5 ∧ i.toInt + 5 < (L : Int) := by omega
  have hy_6 : 0 ≤ i.toInt + 6 ∧ i.toInt + 6 < (L : Int) := by omega
  unfold LwR at hR0
  obtain ⟨hR_0, hR_1, hR_2, hR_3, hR_4, hR_5, hR_6, hR_7, hR_8⟩ := hR0
  refine At.enter rfl ?_
  refine r_aload_n e1 ?_
  refine r_sload_n e0 ?_
  refine r_iload_n e3 ?_
  refine r_iconst 1 rfl ?_
  refine q_iadd (i.toInt + 1) rfl hx_1 (fun v1 hv1 => ?_)
  refine q_scald (m := L) hL (i.toInt + 1) hv1 hy_1 (fun v2 hv2 => ?_)
  rcases (show v2.toInt = 0 ∨ v2.toInt = 1 ∨ (v2.toInt < 0 ∨ 1 < v2.toInt) by omega) with u3 | u3 | u3
  · have n4_e : v2.toInt = 0 := by omega
    have n4_1 : v2.toInt ≠ 1 := by omega
    refine r_callV 1257 rfl [.ref 0, .int v2] [] (Nat.le_of_ble_eq_true rfl) rfl (T_X10_image_0 _ hI0 v2) ?_
    rintro _ _ ⟨g5, rfl, hI6, hF7, v8, rfl, hr9⟩
    refine At.sti ?_
    have hF10 := Fr.tr hF0 hF7 rfl rfl
    obtain ⟨p11, p12, p13, p14, p15, p16⟩ := hr9
    have w17 := p12 n4_e
    have w18 := p15 n4_1
    clear p12 p13 p14 p15 p16
    have f20 := congrArg Int32.toInt (hF7.1 1 0 rfl)
    have f21 := congrArg Int32.toInt (hF7.1 1 12 rfl)
    have f22 := congrArg Int32.toInt (hF7.1 1 10 rfl)
    have f23 := congrArg Int32.toInt (hF7.1 1 11 rfl)
    have f24 := congrArg Int32.toInt (hF7.1 174 1 rfl)
    have f25 := congrArg Int32.toInt (eA_c (j := 0) (hF7.2.1 233 rfl))
    have f26 := congrArg Int32.toInt (eA_c (j := 4) (hF7.2.1 233 rfl))
    have f27 := congrArg Int32.toInt (eA_c (j := 5) (hF7.2.1 233 rfl))
    have f28 := congrArg Int32.toInt (eA_c (j := 6) (hF7.2.1 233 rfl))
    have f29 := congrArg Int32.toInt (eA_c (j := 0) (hF7.2.1 234 rfl))
    have f30 := congrArg Int32.toInt (eA_c (j := 4) (hF7.2.1 234 rfl))
    have f31 := congrArg Int32.toInt (eA_c (j := 5) (hF7.2.1 234 rfl))
    have f32 := congrArg Int32.toInt (eA_c (j := 6) (hF7.2.1 234 rfl))
    have f33 := congrArg Int32.toInt (eA_c (j := 5510) (hF7.2.1 234 rfl))
    have f34 := congrArg Int32.toInt (eA_c (j := 5514) (hF7.2.1 234 rfl))
    have f35 := congrArg Int32.toInt (eA_c (j := 5515) (hF7.2.1 234 rfl))
    have f36 := congrArg Int32.toInt (eA_c (j := 5516) (hF7.2.1 234 rfl))
    have f37 := congrArg Int32.toInt (eA_c (j := 0) (hF7.2.1 235 rfl))
    have f38 := congrArg Int32.toInt (eA_c (j := 1) (hF7.2.1 235 rfl))
    have f39 := congrArg Int32.toInt (hF7.1 231 8 rfl)
    refine At.enter rfl ?_
    refine r_pop rfl ?_
    refine r_aload_n e2 ?_
    refine r_sload_n e0 ?_
    refine r_iload_n e3 ?_
    refine r_iconst 1 rfl ?_
    refine q_iadd (i.toInt + 1) rfl hx_1 (fun v40 hv40 => ?_)
    refine q_scald (m := L) hL (i.toInt + 1) hv40 hy_1 (fun v41 hv41 => ?_)
    have sv41 := congrArg Int32.toInt (hv2.symm.trans hv41)
    have n42_e : v41.toInt = 0 := by omega
    have n42_1 : v41.toInt ≠ 1 := by omega
    refine r_callV 1267 rfl [.ref 231, .int v41] [] (Nat.le_of_ble_eq_true rfl) rfl (T_X11_image_231 _ hI6 v41) ?_
    rintro _ _ ⟨g43, rfl, hI44, hF45, v46, rfl, hr47⟩
    refine At.sti ?_
    have hF48 := Fr.tr hF10 hF45 rfl rfl
    obtain ⟨p49, p50, p51, p52, p53, p54⟩ := hr47
    have w55 := p50 n42_e
    have w56 := p53 n42_1
    clear p50 p51 p52 p53 p54
    have f58 := congrArg Int32.toInt (hF45.1 1 0 rfl)
    have f59 := congrArg Int32.toInt (hF45.1 1 12 rfl)
    have f60 := congrArg Int32.toInt (hF45.1 1 10 rfl)
    have f61 := congrArg Int32.toInt (hF45.1 1 11 rfl)
    have f62 := congrArg Int32.toInt (hF45.1 59 0 rfl)
    have f63 := congrArg Int32.toInt (hF45.1 59 12 rfl)
    have f64 := congrArg Int32.toInt (hF45.1 59 10 rfl)
    have f65 := congrArg Int32.toInt (hF45.1 59 11 rfl)
    have f66 := congrArg Int32.toInt (hF45.1 116 0 rfl)
    have f67 := congrArg Int32.toInt (hF45.1 116 12 rfl)
    have f68 := congrArg Int32.toInt (hF45.1 116 10 rfl)
    have f69 := congrArg Int32.toInt (hF45.1 116 11 rfl)
    have f70 := congrArg Int32.toInt (eA_c (j := 0) (hF45.2.1 173 rfl))
    have f71 := congrArg Int32.toInt (eA_c (j := 1) (hF45.2.1 173 rfl))
    have f72 := congrArg Int32.toInt (hF45.1 174 1 rfl)
    have f73 := congrArg Int32.toInt (eA_c (j := 0) (hF45.2.1 233 rfl))
    have f74 := congrArg Int32.toInt (eA_c (j := 4) (hF45.2.1 233 rfl))
    have f75 := congrArg Int32.toInt (eA_c (j := 5) (hF45.2.1 233 rfl))
    have f76 := congrArg Int32.toInt (eA_c (j := 6) (hF45.2.1 233 rfl))
    have f77 := congrArg Int32.toInt (hF45.1 231 8 rfl)
    refine At.enter rfl ?_
    refine r_pop rfl ?_
    refine r_goto ?_
    exact K _ hI44 (show LwR _ from ⟨by omega, by omega, by omega, by omega, by omega, by omega, by omega, (fun _ => ⟨by omega, by omega, by omega, by omega⟩), IM1.cong hR_8 (by omega) (by omega) (by omega) (by omega) (by omega) (by omega) (by omega) (by omega) (by omega)⟩)
  · have n78_e : v2.toInt = 1 := by omega
    have n78_0 : v2.toInt ≠ 0 := by omega
    refine r_callV 1257 rfl [.ref 0, .int v2] [] (Nat.le_of_ble_eq_true rfl) rfl (T_X10_image_0 _ hI0 v2) ?_
    rintro _ _ ⟨g79, rfl, hI80, hF81, v82, rfl, hr83⟩
    refine At.sti ?_
    have hF84 := Fr.tr hF0 hF81 rfl rfl
    obtain ⟨p85, p86, p87, p88, p89, p90⟩ := hr83
    have w91 := p87 n78_0
    have w92 := p88 n78_e
    clear p86 p87 p88 p89 p90
    have f94 := congrArg Int32.toInt (hF81.1 1 0 rfl)
    have f95 := congrArg Int32.toInt (hF81.1 1 12 rfl)
    have f96 := congrArg Int32.toInt (hF81.1 1 10 rfl)
    have f97 := congrArg Int32.toInt (hF81.1 1 11 rfl)
    have f98 := congrArg Int32.toInt (hF81.1 174 1 rfl)
    have f99 := congrArg Int32.toInt (eA_c (j := 0) (hF81.2.1 233 rfl))
    have f100 := congrArg Int32.toInt (eA_c (j := 4) (hF81.2.1 233 rfl))
    have f101 := congrArg Int32.toInt (eA_c (j := 5) (hF81.2.1 233 rfl))
    have f102 := congrArg Int32.toInt (eA_c (j := 6) (hF81.2.1 233 rfl))
    have f103 := congrArg Int32.toInt (eA_c (j := 0) (hF81.2.1 234 rfl))
    have f104 := congrArg Int32.toInt (eA_c (j := 4) (hF81.2.1 234 rfl))
    have f105 := congrArg Int32.toInt (eA_c (j := 5) (hF81.2.1 234 rfl))
    have f106 := congrArg Int32.toInt (eA_c (j := 6) (hF81.2.1 234 rfl))
    have f107 := congrArg Int32.toInt (eA_c (j := 5510) (hF81.2.1 234 rfl))
    have f108 := congrArg Int32.toInt (eA_c (j := 5514) (hF81.2.1 234 rfl))
    have f109 := congrArg Int32.toInt (eA_c (j := 5515) (hF81.2.1 234 rfl))
    have f110 := congrArg Int32.toInt (eA_c (j := 5516) (hF81.2.1 234 rfl))
    have f111 := congrArg Int32.toInt (eA_c (j := 0) (hF81.2.1 235 rfl))
    have f112 := congrArg Int32.toInt (eA_c (j := 1) (hF81.2.1 235 rfl))
    have f113 := congrArg Int32.toInt (hF81.1 231 8 rfl)
    refine At.enter rfl ?_
    refine r_pop rfl ?_
    refine r_aload_n e2 ?_
    refine r_sload_n e0 ?_
    refine r_iload_n e3 ?_
    refine r_iconst 1 rfl ?_
    refine q_iadd (i.toInt + 1) rfl hx_1 (fun v114 hv114 => ?_)
    refine q_scald (m := L) hL (i.toInt + 1) hv114 hy_1 (fun v115 hv115 => ?_)
    have sv115 := congrArg Int32.toInt (hv2.symm.trans hv115)
    have n116_e : v115.toInt = 1 := by omega
    have n116_0 : v115.toInt ≠ 0 := by omega
    refine r_callV 1267 rfl [.ref 231, .int v115] [] (Nat.le_of_ble_eq_true rfl) rfl (T_X11_image_231 _ hI80 v115) ?_
    rintro _ _ ⟨g117, rfl, hI118, hF119, v120, rfl, hr121⟩
    refine At.sti ?_
    have hF122 := Fr.tr hF84 hF119 rfl rfl
    obtain ⟨p123, p124, p125, p126, p127, p128⟩ := hr121
    have w129 := p125 n116_0
    have w130 := p126 n116_e
    clear p124 p125 p126 p127 p128
    have f132 := congrArg Int32.toInt (hF119.1 1 0 rfl)
    have f133 := congrArg Int32.toInt (hF119.1 1 12 rfl)
    have f134 := congrArg Int32.toInt (hF119.1 1 10 rfl)
    have f135 := congrArg Int32.toInt (hF119.1 1 11 rfl)
    have f136 := congrArg Int32.toInt (hF119.1 59 0 rfl)
    have f137 := congrArg Int32.toInt (hF119.1 59 12 rfl)
    have f138 := congrArg Int32.toInt (hF119.1 59 10 rfl)
    have f139 := congrArg Int32.toInt (hF119.1 59 11 rfl)
    have f140 := congrArg Int32.toInt (hF119.1 116 0 rfl)
    have f141 := congrArg Int32.toInt (hF119.1 116 12 rfl)
    have f142 := congrArg Int32.toInt (hF119.1 116 10 rfl)
    have f143 := congrArg Int32.toInt (hF119.1 116 11 rfl)
    have f144 := congrArg Int32.toInt (eA_c (j := 0) (hF119.2.1 173 rfl))
    have f145 := congrArg Int32.toInt (eA_c (j := 1) (hF119.2.1 173 rfl))
    have f146 := congrArg Int32.toInt (hF119.1 174 1 rfl)
    have f147 := congrArg Int32.toInt (eA_c (j := 0) (hF119.2.1 233 rfl))
    have f148 := congrArg Int32.toInt (eA_c (j := 4) (hF119.2.1 233 rfl))
    have f149 := congrArg Int32.toInt (eA_c (j := 5) (hF119.2.1 233 rfl))
    have f150 := congrArg Int32.toInt (eA_c (j := 6) (hF119.2.1 233 rfl))
    have f151 := congrArg Int32.toInt (hF119.1 231 8 rfl)
    refine At.enter rfl ?_
    refine r_pop rfl ?_
    refine r_goto ?_
    exact K _ hI118 (show LwR _ from ⟨by omega, by omega, by omega, by omega, by omega, by omega, by omega, IM0.cong hR_7 (by omega) (by omega) (by omega) (by omega) (by omega) (by omega) (by omega) (by omega) (by omega), (fun _ => ⟨by omega, by omega, by omega, by omega⟩)⟩)
  · have n152_e : (v2.toInt < 0 ∨ 1 < v2.toInt) := by omega
    have n152_0 : v2.toInt ≠ 0 := by omega
    have n152_1 : v2.toInt ≠ 1 := by omega
    refine r_callV 1257 rfl [.ref 0, .int v2] [] (Nat.le_of_ble_eq_true rfl) rfl (T_X10_image_0 _ hI0 v2) ?_
    rintro _ _ ⟨g153, rfl, hI154, hF155, v156, rfl, hr157⟩
    refine At.sti ?_
    have hF158 := Fr.tr hF0 hF155 rfl rfl
    obtain ⟨p159, p160, p161, p162, p163, p164⟩ := hr157
    have w165 := p164 n152_e
    have w166 := p161 n152_0
    have w167 := p163 n152_1
    clear p160 p161 p162 p163 p164
    have f168 := congrArg Int32.toInt (hF155.1 1 0 rfl)
    have f169 := congrArg Int32.toInt (hF155.1 1 12 rfl)
    have f170 := congrArg Int32.toInt (hF155.1 1 10 rfl)
    have f171 := congrArg Int32.toInt (hF155.1 1 11 rfl)
    have f172 := congrArg Int32.toInt (hF155.1 174 1 rfl)
    have f173 := congrArg Int32.toInt (eA_c (j := 0) (hF155.2.1 233 rfl))
    have f174 := congrArg Int32.toInt (eA_c (j := 4) (hF155.2.1 233 rfl))
    have f175 := congrArg Int32.toInt (eA_c (j := 5) (hF155.2.1 233 rfl))
    have f176 := congrArg Int32.toInt (eA_c (j := 6) (hF155.2.1 233 rfl))
    have f177 := congrArg Int32.toInt (eA_c (j := 0) (hF155.2.1 234 rfl))
    have f178 := congrArg Int32.toInt (eA_c (j := 4) (hF155.2.1 234 rfl))
    have f179 := congrArg Int32.toInt (eA_c (j := 5) (hF155.2.1 234 rfl))
    have f180 := congrArg Int32.toInt (eA_c (j := 6) (hF155.2.1 234 rfl))
    have f181 := congrArg Int32.toInt (eA_c (j := 5510) (hF155.2.1 234 rfl))
    have f182 := congrArg Int32.toInt (eA_c (j := 5514) (hF155.2.1 234 rfl))
    have f183 := congrArg Int32.toInt (eA_c (j := 5515) (hF155.2.1 234 rfl))
    have f184 := congrArg Int32.toInt (eA_c (j := 5516) (hF155.2.1 234 rfl))
    have f185 := congrArg Int32.toInt (eA_c (j := 0) (hF155.2.1 235 rfl))
    have f186 := congrArg Int32.toInt (eA_c (j := 1) (hF155.2.1 235 rfl))
    have f187 := congrArg Int32.toInt (hF155.1 231 8 rfl)
    refine At.enter rfl ?_
    refine r_pop rfl ?_
    refine r_aload_n e2 ?_
    refine r_sload_n e0 ?_
    refine r_iload_n e3 ?_
    refine r_iconst 1 rfl ?_
    refine q_iadd (i.toInt + 1) rfl hx_1 (fun v188 hv188 => ?_)
    refine q_scald (m := L) hL (i.toInt + 1) hv188 hy_1 (fun v189 hv189 => ?_)
    have sv189 := congrArg Int32.toInt (hv2.symm.trans hv189)
    have n190_e : (v189.toInt < 0 ∨ 1 < v189.toInt) := by omega
    have n190_0 : v189.toInt ≠ 0 := by omega
    have n190_1 : v189.toInt ≠ 1 := by omega
    refine r_callV 1267 rfl [.ref 231, .int v189] [] (Nat.le_of_ble_eq_true rfl) rfl (T_X11_image_231 _ hI154 v189) ?_
    rintro _ _ ⟨g191, rfl, hI192, hF193, v194, rfl, hr195⟩
    refine At.sti ?_
    have hF196 := Fr.tr hF158 hF193 rfl rfl
    obtain ⟨p197, p198, p199, p200, p201, p202⟩ := hr195
    have w203 := p202 n190_e
    have w204 := p199 n190_0
    have w205 := p201 n190_1
    clear p198 p199 p200 p201 p202
    have f206 := congrArg Int32.toInt (hF193.1 1 0 rfl)
    have f207 := congrArg Int32.toInt (hF193.1 1 12 rfl)
    have f208 := congrArg Int32.toInt (hF193.1 1 10 rfl)
    have f209 := congrArg Int32.toInt (hF193.1 1 11 rfl)
    have f210 := congrArg Int32.toInt (hF193.1 59 0 rfl)
    have f211 := congrArg Int32.toInt (hF193.1 59 12 rfl)
    have f212 := congrArg Int32.toInt (hF193.1 59 10 rfl)
    have f213 := congrArg Int32.toInt (hF193.1 59 11 rfl)
    have f214 := congrArg Int32.toInt (hF193.1 116 0 rfl)
    have f215 := congrArg Int32.toInt (hF193.1 116 12 rfl)
    have f216 := congrArg Int32.toInt (hF193.1 116 10 rfl)
    have f217 := congrArg Int32.toInt (hF193.1 116 11 rfl)
    have f218 := congrArg Int32.toInt (eA_c (j := 0) (hF193.2.1 173 rfl))
    have f219 := congrArg Int32.toInt (eA_c (j := 1) (hF193.2.1 173 rfl))
    have f220 := congrArg Int32.toInt (hF193.1 174 1 rfl)
    have f221 := congrArg Int32.toInt (eA_c (j := 0) (hF193.2.1 233 rfl))
    have f222 := congrArg Int32.toInt (eA_c (j := 4) (hF193.2.1 233 rfl))
    have f223 := congrArg Int32.toInt (eA_c (j := 5) (hF193.2.1 233 rfl))
    have f224 := congrArg Int32.toInt (eA_c (j := 6) (hF193.2.1 233 rfl))
    have f225 := congrArg Int32.toInt (hF193.1 231 8 rfl)
    refine At.enter rfl ?_
    refine r_pop rfl ?_
    refine r_goto ?_
    exact K _ hI192 (show LwR _ from ⟨by omega, by omega, by omega, by omega, by omega, by omega, by omega, IM0.cong hR_7 (by omega) (by omega) (by omega) (by omega) (by omega) (by omega) (by omega) (by omega) (by omega), IM1.cong hR_8 (by omega) (by omega) (by omega) (by omega) (by omega) (by omega) (by omega) (by omega) (by omega)⟩)

set_option maxRecDepth 100000 in
set_option maxHeartbeats 8000000 in
theorem lq_c37 (d : Nat) {N : Nat} {g0 : List en_E} (hI0 : HI g0) (hR0 : LwR g0) {ys : List Int32} {L : Nat} (hL : ys.length = L) (hL2 : L ≤ 3584) {l : en_L} {i : Int32} (e0 : en_get 0 l = some (.float 0)) (e1 : en_get 1 l = some (.ref 0)) (e2 : en_get 2 l = some (.ref 231)) (e3 : en_get 3 l = some (.int i)) (hi : 0 ≤ i.toInt ∧ i.toInt + 7 ≤ L) {Ph : Option Value → en_H → Prop} (K : ∀ g1 : List en_E, HI g1 → LwR g1 → At (d + 423) (some ys) (some .boolean) bs_L_law (1330, l, [], (g1, N)) Ph) : At (d + 423) (some ys) (some .boolean) bs_L_law (1271, l, [], (g0, N)) Ph := by
  have hF0 : Fr F_law A_law g0 g0 := Fr.rf
  have hx_1 : -2147483648 ≤ i.toInt + 1 ∧ i.toInt + 1 ≤ 2147483647 := by omega
  have hx_2 : -2147483648 ≤ i.toInt + 2 ∧ i.toInt + 2 ≤ 2147483647 := by omega
  have hx_3 : -2147483648 ≤ i.toInt + 3 ∧ i.toInt + 3 ≤ 2147483647 := by omega
  have hx_4 : -2147483648 ≤ i.toInt + 4 ∧ i.toInt + 4 ≤ 2147483647 := by omega
  have hx_5 : -2147483648 ≤ i.toInt + 5 ∧ i.toInt + 5 ≤ 2147483647 := by omega
  have hx_6 : -2147483648 ≤ i.toInt + 6 ∧ i.toInt + 6 ≤ 2147483647 := by omega
  have hy_0 : 0 ≤ i.toInt ∧ i.toInt < (L : Int) := by omega
  have hy_1 : 0 ≤ i.toInt + 1 ∧ i.toInt + 1 < (L : Int) := by omega
  have hy_2 : 0 ≤ i.toInt + 2 ∧ i.toInt + 2 < (L : Int) := by omega
  have hy_3 : 0 ≤ i.toInt + 3 ∧ i.toInt + 3 < (L : Int) := by omega
  have hy_4 : 0 ≤ i.toInt + 4 ∧ i.toInt + 4 < (L : Int) := by omega
  have hy_5 : 0 ≤ i.toInt + 5 ∧ i.toInt + 5 < (L : Int) := by omega
  have hy_6 : 0 ≤ i.toInt + 6 ∧ i.toInt + 6 < (L : Int) := by omega
  unfold LwR at hR0
  obtain ⟨hR_0, hR_1, hR_2, hR_3, hR_4, hR_5, hR_6, hR_7, hR_8⟩ := hR0
  refine At.enter rfl ?_
  refine r_aload_n e1 ?_
  refine r_sload_n e0 ?_
  refine r_iload_n e3 ?_
  refine r_iconst 1 rfl ?_
  refine q_iadd (i.toInt + 1) rfl hx_1 (fun v1 hv1 => ?_)
  refine q_scald (m := L) hL (i.toInt + 1) hv1 hy_1 (fun v2 hv2 => ?_)
  rcases (show (v2.toInt = 0 ∧ ¬ (eA g0 173 0).toInt = 0) ∨ (v2.toInt = 0 ∧ (eA g0 173 0).toInt = 0) ∨ (v2.toInt = 1 ∧ ¬ (eA g0 173 1).toInt = 0) ∨ (v2.toInt = 1 ∧ (eA g0 173 1).toInt = 0) ∨ (v2.toInt < 0 ∨ 1 < v2.toInt) by omega) with u3 | u3 | u3 | u3 | u3
  · have n5_e : v2.toInt = 0 := by omega
    have n5_1 : v2.toInt ≠ 1 := by omega
    have n5_k : (eA g0 173 0).toInt ≠ 0 := by omega
    have n5_i := hR_7 (by omega)
    refine r_callV 1280 rfl [.ref 0, .int v2] [] (Nat.le_of_ble_eq_true rfl) rfl (T_X10_back_0 _ hI0 v2) ?_
    rintro _ _ ⟨g6, rfl, hI7, hF8, v9, rfl, hr10⟩
    refine At.sti ?_
    have hF11 := Fr.tr hF0 hF8 rfl rfl
    obtain ⟨p12, p13, p14, p15, p16, p17⟩ := hr10
    have w18 := p13 ⟨n5_e, n5_k⟩
    clear p13 p14 p15 p16 p17
    have f21 := congrArg Int32.toInt (hF8.1 59 0 rfl)
    have f22 := congrArg Int32.toInt (hF8.1 59 12 rfl)
    have f23 := congrArg Int32.toInt (hF8.1 59 10 rfl)
    have f24 := congrArg Int32.toInt (hF8.1 59 11 rfl)
    have f25 := congrArg Int32.toInt (hF8.1 116 0 rfl)
    have f26 := congrArg Int32.toInt (hF8.1 116 12 rfl)
    have f27 := congrArg Int32.toInt (hF8.1 116 10 rfl)
    have f28 := congrArg Int32.toInt (hF8.1 116 11 rfl)
    have f29 := congrArg Int32.toInt (eA_c (j := 0) (hF8.2.1 173 rfl))
    have f30 := congrArg Int32.toInt (eA_c (j := 1) (hF8.2.1 173 rfl))
    have f31 := congrArg Int32.toInt (hF8.1 174 1 rfl)
    have f32 := congrArg Int32.toInt (eA_c (j := 0) (hF8.2.1 233 rfl))
    have f33 := congrArg Int32.toInt (eA_c (j := 4) (hF8.2.1 233 rfl))
    have f34 := congrArg Int32.toInt (eA_c (j := 5) (hF8.2.1 233 rfl))
    have f35 := congrArg Int32.toInt (eA_c (j := 6) (hF8.2.1 233 rfl))
    have f36 := congrArg Int32.toInt (eA_c (j := 0) (hF8.2.1 234 rfl))
    have f37 := congrArg Int32.toInt (eA_c (j := 4) (hF8.2.1 234 rfl))
    have f38 := congrArg Int32.toInt (eA_c (j := 5) (hF8.2.1 234 rfl))
    have f39 := congrArg Int32.toInt (eA_c (j := 6) (hF8.2.1 234 rfl))
    have f40 := congrArg Int32.toInt (eA_c (j := 5510) (hF8.2.1 234 rfl))
    have f41 := congrArg Int32.toInt (eA_c (j := 5514) (hF8.2.1 234 rfl))
    have f42 := congrArg Int32.toInt (eA_c (j := 5515) (hF8.2.1 234 rfl))
    have f43 := congrArg Int32.toInt (eA_c (j := 5516) (hF8.2.1 234 rfl))
    have f44 := congrArg Int32.toInt (eA_c (j := 0) (hF8.2.1 235 rfl))
    have f45 := congrArg Int32.toInt (eA_c (j := 1) (hF8.2.1 235 rfl))
    have f46 := congrArg Int32.toInt (hF8.1 231 8 rfl)
    refine At.enter rfl ?_
    refine r_aload_n e2 ?_
    refine r_sload_n e0 ?_
    refine r_iload_n e3 ?_
    refine r_iconst 1 rfl ?_
    refine q_iadd (i.toInt + 1) rfl hx_1 (fun v47 hv47 => ?_)
    refine q_scald (m := L) hL (i.toInt + 1) hv47 hy_1 (fun v48 hv48 => ?_)
    have sv48 := congrArg Int32.toInt (hv2.symm.trans hv48)
    have n49_e : v48.toInt = 0 := by omega
    have n49_1 : v48.toInt ≠ 1 := by omega
    have n49_k : (eA g6 235 0).toInt ≠ 0 := by omega
    refine r_callV 1289 rfl [.ref 231, .int v48] [.int v9] (Nat.le_of_ble_eq_true rfl) rfl (T_X11_back_231 _ hI7 v48) ?_
    rintro _ _ ⟨g50, rfl, hI51, hF52, v53, rfl, hr54⟩
    refine At.sti ?_
    have hF55 := Fr.tr hF11 hF52 rfl rfl
    obtain ⟨p56, p57, p58, p59, p60, p61⟩ := hr54
    have w62 := p57 ⟨n49_e, n49_k⟩
    clear p57 p58 p59 p60 p61
    have f65 := congrArg Int32.toInt (hF52.1 1 0 rfl)
    have f66 := congrArg Int32.toInt (hF52.1 1 12 rfl)
    have f67 := congrArg Int32.toInt (hF52.1 1 10 rfl)
    have f68 := congrArg Int32.toInt (hF52.1 1 11 rfl)
    have f69 := congrArg Int32.toInt (hF52.1 59 0 rfl)
    have f70 := congrArg Int32.toInt (hF52.1 59 12 rfl)
    have f71 := congrArg Int32.toInt (hF52.1 59 10 rfl)
    have f72 := congrArg Int32.toInt (hF52.1 59 11 rfl)
    have f73 := congrArg Int32.toInt (hF52.1 116 0 rfl)
    have f74 := congrArg Int32.toInt (hF52.1 116 12 rfl)
    have f75 := congrArg Int32.toInt (hF52.1 116 10 rfl)
    have f76 := congrArg Int32.toInt (hF52.1 116 11 rfl)
    have f77 := congrArg Int32.toInt (eA_c (j := 0) (hF52.2.1 173 rfl))
    have f78 := congrArg Int32.toInt (eA_c (j := 1) (hF52.2.1 173 rfl))
    have f79 := congrArg Int32.toInt (hF52.1 174 1 rfl)
    have f80 := congrArg Int32.toInt (eA_c (j := 0) (hF52.2.1 234 rfl))
    have f81 := congrArg Int32.toInt (eA_c (j := 4) (hF52.2.1 234 rfl))
    have f82 := congrArg Int32.toInt (eA_c (j := 5) (hF52.2.1 234 rfl))
    have f83 := congrArg Int32.toInt (eA_c (j := 6) (hF52.2.1 234 rfl))
    have f84 := congrArg Int32.toInt (eA_c (j := 5510) (hF52.2.1 234 rfl))
    have f85 := congrArg Int32.toInt (eA_c (j := 5514) (hF52.2.1 234 rfl))
    have f86 := congrArg Int32.toInt (eA_c (j := 5515) (hF52.2.1 234 rfl))
    have f87 := congrArg Int32.toInt (eA_c (j := 5516) (hF52.2.1 234 rfl))
    have f88 := congrArg Int32.toInt (eA_c (j := 0) (hF52.2.1 235 rfl))
    have f89 := congrArg Int32.toInt (eA_c (j := 1) (hF52.2.1 235 rfl))
    have f90 := congrArg Int32.toInt (hF52.1 231 8 rfl)
    refine At.enter rfl ?_
    refine r_ics 1292 rfl (fun c91 => ?_) (fun c91 => ?_)
    · have c91_ : v9.toInt = v53.toInt := en_i_eq_t c91
      exact K _ hI51 (show LwR _ from ⟨by omega, by omega, by omega, by omega, by omega, by omega, by omega, IM0.cong hR_7 (by omega) (by omega) (by omega) (by omega) (by omega) (by omega) (by omega) (by omega) (by omega), IM1.cong hR_8 (by omega) (by omega) (by omega) (by omega) (by omega) (by omega) (by omega) (by omega) (by omega)⟩)
    · have c91_ : v9.toInt ≠ v53.toInt := en_i_eq_f c91
      refine At.enter rfl ?_
      refine r_iconst 0 rfl ?_
      exfalso
      omega
  · have n92_e : v2.toInt = 0 := by omega
    have n92_1 : v2.toInt ≠ 1 := by omega
    have n92_k : (eA g0 173 0).toInt = 0 := by omega
    refine r_callV 1280 rfl [.ref 0, .int v2] [] (Nat.le_of_ble_eq_true rfl) rfl (T_X10_back_0 _ hI0 v2) ?_
    rintro _ _ ⟨g93, rfl, hI94, hF95, v96, rfl, hr97⟩
    refine At.sti ?_
    have hF98 := Fr.tr hF0 hF95 rfl rfl
    obtain ⟨p99, p100, p101, p102, p103, p104⟩ := hr97
    have w105 := p102 ⟨fun h => h.2 n92_k, fun h => n92_1 h.1⟩
    have w106 := p104 ⟨by omega, by omega, fun h => h.2 n92_k, fun h => n92_1 h.1⟩
    clear p100 p101 p102 p103 p104
    have f108 := congrArg Int32.toInt (hF95.1 59 0 rfl)
    have f109 := congrArg Int32.toInt (hF95.1 59 12 rfl)
    have f110 := congrArg Int32.toInt (hF95.1 59 10 rfl)
    have f111 := congrArg Int32.toInt (hF95.1 59 11 rfl)
    have f112 := congrArg Int32.toInt (hF95.1 116 0 rfl)
    have f113 := congrArg Int32.toInt (hF95.1 116 12 rfl)
    have f114 := congrArg Int32.toInt (hF95.1 116 10 rfl)
    have f115 := congrArg Int32.toInt (hF95.1 116 11 rfl)
    have f116 := congrArg Int32.toInt (eA_c (j := 0) (hF95.2.1 173 rfl))
    have f117 := congrArg Int32.toInt (eA_c (j := 1) (hF95.2.1 173 rfl))
    have f118 := congrArg Int32.toInt (hF95.1 174 1 rfl)
    have f119 := congrArg Int32.toInt (eA_c (j := 0) (hF95.2.1 233 rfl))
    have f120 := congrArg Int32.toInt (eA_c (j := 4) (hF95.2.1 233 rfl))
    have f121 := congrArg Int32.toInt (eA_c (j := 5) (hF95.2.1 233 rfl))
    have f122 := congrArg Int32.toInt (eA_c (j := 6) (hF95.2.1 233 rfl))
    have f123 := congrArg Int32.toInt (eA_c (j := 0) (hF95.2.1 234 rfl))
    have f124 := congrArg Int32.toInt (eA_c (j := 4) (hF95.2.1 234 rfl))
    have f125 := congrArg Int32.toInt (eA_c (j := 5) (hF95.2.1 234 rfl))
    have f126 := congrArg Int32.toInt (eA_c (j := 6) (hF95.2.1 234 rfl))
    have f127 := congrArg Int32.toInt (eA_c (j := 5510) (hF95.2.1 234 rfl))
    have f128 := congrArg Int32.toInt (eA_c (j := 5514) (hF95.2.1 234 rfl))
    have f129 := congrArg Int32.toInt (eA_c (j := 5515) (hF95.2.1 234 rfl))
    have f130 := congrArg Int32.toInt (eA_c (j := 5516) (hF95.2.1 234 rfl))
    have f131 := congrArg Int32.toInt (eA_c (j := 0) (hF95.2.1 235 rfl))
    have f132 := congrArg Int32.toInt (eA_c (j := 1) (hF95.2.1 235 rfl))
    have f133 := congrArg Int32.toInt (hF95.1 231 8 rfl)
    refine At.enter rfl ?_
    refine r_aload_n e2 ?_
    refine r_sload_n e0 ?_
    refine r_iload_n e3 ?_
    refine r_iconst 1 rfl ?_
    refine q_iadd (i.toInt + 1) rfl hx_1 (fun v134 hv134 => ?_)
    refine q_scald (m := L) hL (i.toInt + 1) hv134 hy_1 (fun v135 hv135 => ?_)
    have sv135 := congrArg Int32.toInt (hv2.symm.trans hv135)
    have n136_e : v135.toInt = 0 := by omega
    have n136_1 : v135.toInt ≠ 1 := by omega
    have n136_k : (eA g93 235 0).toInt = 0 := by omega
    refine r_callV 1289 rfl [.ref 231, .int v135] [.int v96] (Nat.le_of_ble_eq_true rfl) rfl (T_X11_back_231 _ hI94 v135) ?_
    rintro _ _ ⟨g137, rfl, hI138, hF139, v140, rfl, hr141⟩
    refine At.sti ?_
    have hF142 := Fr.tr hF98 hF139 rfl rfl
    obtain ⟨p143, p144, p145, p146, p147, p148⟩ := hr141
    have w149 := p146 ⟨fun h => h.2 n136_k, fun h => n136_1 h.1⟩
    have w150 := p148 ⟨by omega, by omega, fun h => h.2 n136_k, fun h => n136_1 h.1⟩
    clear p144 p145 p146 p147 p148
    have f152 := congrArg Int32.toInt (hF139.1 1 0 rfl)
    have f153 := congrArg Int32.toInt (hF139.1 1 12 rfl)
    have f154 := congrArg Int32.toInt (hF139.1 1 10 rfl)
    have f155 := congrArg Int32.toInt (hF139.1 1 11 rfl)
    have f156 := congrArg Int32.toInt (hF139.1 59 0 rfl)
    have f157 := congrArg Int32.toInt (hF139.1 59 12 rfl)
    have f158 := congrArg Int32.toInt (hF139.1 59 10 rfl)
    have f159 := congrArg Int32.toInt (hF139.1 59 11 rfl)
    have f160 := congrArg Int32.toInt (hF139.1 116 0 rfl)
    have f161 := congrArg Int32.toInt (hF139.1 116 12 rfl)
    have f162 := congrArg Int32.toInt (hF139.1 116 10 rfl)
    have f163 := congrArg Int32.toInt (hF139.1 116 11 rfl)
    have f164 := congrArg Int32.toInt (eA_c (j := 0) (hF139.2.1 173 rfl))
    have f165 := congrArg Int32.toInt (eA_c (j := 1) (hF139.2.1 173 rfl))
    have f166 := congrArg Int32.toInt (hF139.1 174 1 rfl)
    have f167 := congrArg Int32.toInt (eA_c (j := 0) (hF139.2.1 234 rfl))
    have f168 := congrArg Int32.toInt (eA_c (j := 4) (hF139.2.1 234 rfl))
    have f169 := congrArg Int32.toInt (eA_c (j := 5) (hF139.2.1 234 rfl))
    have f170 := congrArg Int32.toInt (eA_c (j := 6) (hF139.2.1 234 rfl))
    have f171 := congrArg Int32.toInt (eA_c (j := 5510) (hF139.2.1 234 rfl))
    have f172 := congrArg Int32.toInt (eA_c (j := 5514) (hF139.2.1 234 rfl))
    have f173 := congrArg Int32.toInt (eA_c (j := 5515) (hF139.2.1 234 rfl))
    have f174 := congrArg Int32.toInt (eA_c (j := 5516) (hF139.2.1 234 rfl))
    have f175 := congrArg Int32.toInt (eA_c (j := 0) (hF139.2.1 235 rfl))
    have f176 := congrArg Int32.toInt (eA_c (j := 1) (hF139.2.1 235 rfl))
    have f177 := congrArg Int32.toInt (hF139.1 231 8 rfl)
    refine At.enter rfl ?_
    refine r_ics 1292 rfl (fun c178 => ?_) (fun c178 => ?_)
    · have c178_ : v96.toInt = v140.toInt := en_i_eq_t c178
      exact K _ hI138 (show LwR _ from ⟨by omega, by omega, by omega, by omega, by omega, by omega, by omega, IM0.cong hR_7 (by omega) (by omega) (by omega) (by omega) (by omega) (by omega) (by omega) (by omega) (by omega), IM1.cong hR_8 (by omega) (by omega) (by omega) (by omega) (by omega) (by omega) (by omega) (by omega) (by omega)⟩)
    · have c178_ : v96.toInt ≠ v140.toInt := en_i_eq_f c178
      refine At.enter rfl ?_
      refine r_iconst 0 rfl ?_
      exfalso
      omega
  · have n179_e : v2.toInt = 1 := by omega
    have n179_0 : v2.toInt ≠ 0 := by omega
    have n179_k : (eA g0 173 1).toInt ≠ 0 := by omega
    have n179_i := hR_8 (by omega)
    refine r_callV 1280 rfl [.ref 0, .int v2] [] (Nat.le_of_ble_eq_true rfl) rfl (T_X10_back_0 _ hI0 v2) ?_
    rintro _ _ ⟨g180, rfl, hI181, hF182, v183, rfl, hr184⟩
    refine At.sti ?_
    have hF185 := Fr.tr hF0 hF182 rfl rfl
    obtain ⟨p186, p187, p188, p189, p190, p191⟩ := hr184
    have w192 := p188 ⟨n179_e, n179_k⟩
    clear p187 p188 p189 p190 p191
    have f195 := congrArg Int32.toInt (hF182.1 59 0 rfl)
    have f196 := congrArg Int32.toInt (hF182.1 59 12 rfl)
    have f197 := congrArg Int32.toInt (hF182.1 59 10 rfl)
    have f198 := congrArg Int32.toInt (hF182.1 59 11 rfl)
    have f199 := congrArg Int32.toInt (hF182.1 116 0 rfl)
    have f200 := congrArg Int32.toInt (hF182.1 116 12 rfl)
    have f201 := congrArg Int32.toInt (hF182.1 116 10 rfl)
    have f202 := congrArg Int32.toInt (hF182.1 116 11 rfl)
    have f203 := congrArg Int32.toInt (eA_c (j := 0) (hF182.2.1 173 rfl))
    have f204 := congrArg Int32.toInt (eA_c (j := 1) (hF182.2.1 173 rfl))
    have f205 := congrArg Int32.toInt (hF182.1 174 1 rfl)
    have f206 := congrArg Int32.toInt (eA_c (j := 0) (hF182.2.1 233 rfl))
    have f207 := congrArg Int32.toInt (eA_c (j := 4) (hF182.2.1 233 rfl))
    have f208 := congrArg Int32.toInt (eA_c (j := 5) (hF182.2.1 233 rfl))
    have f209 := congrArg Int32.toInt (eA_c (j := 6) (hF182.2.1 233 rfl))
    have f210 := congrArg Int32.toInt (eA_c (j := 0) (hF182.2.1 234 rfl))
    have f211 := congrArg Int32.toInt (eA_c (j := 4) (hF182.2.1 234 rfl))
    have f212 := congrArg Int32.toInt (eA_c (j := 5) (hF182.2.1 234 rfl))
    have f213 := congrArg Int32.toInt (eA_c (j := 6) (hF182.2.1 234 rfl))
    have f214 := congrArg Int32.toInt (eA_c (j := 5510) (hF182.2.1 234 rfl))
    have f215 := congrArg Int32.toInt (eA_c (j := 5514) (hF182.2.1 234 rfl))
    have f216 := congrArg Int32.toInt (eA_c (j := 5515) (hF182.2.1 234 rfl))
    have f217 := congrArg Int32.toInt (eA_c (j := 5516) (hF182.2.1 234 rfl))
    have f218 := congrArg Int32.toInt (eA_c (j := 0) (hF182.2.1 235 rfl))
    have f219 := congrArg Int32.toInt (eA_c (j := 1) (hF182.2.1 235 rfl))
    have f220 := congrArg Int32.toInt (hF182.1 231 8 rfl)
    refine At.enter rfl ?_
    refine r_aload_n e2 ?_
    refine r_sload_n e0 ?_
    refine r_iload_n e3 ?_
    refine r_iconst 1 rfl ?_
    refine q_iadd (i.toInt + 1) rfl hx_1 (fun v221 hv221 => ?_)
    refine q_scald (m := L) hL (i.toInt + 1) hv221 hy_1 (fun v222 hv222 => ?_)
    have sv222 := congrArg Int32.toInt (hv2.symm.trans hv222)
    have n223_e : v222.toInt = 1 := by omega
    have n223_0 : v222.toInt ≠ 0 := by omega
    have n223_k : (eA g180 235 1).toInt ≠ 0 := by omega
    refine r_callV 1289 rfl [.ref 231, .int v222] [.int v183] (Nat.le_of_ble_eq_true rfl) rfl (T_X11_back_231 _ hI181 v222) ?_
    rintro _ _ ⟨g224, rfl, hI225, hF226, v227, rfl, hr228⟩
    refine At.sti ?_
    have hF229 := Fr.tr hF185 hF226 rfl rfl
    obtain ⟨p230, p231, p232, p233, p234, p235⟩ := hr228
    have w236 := p232 ⟨n223_e, n223_k⟩
    clear p231 p232 p233 p234 p235
    have f239 := congrArg Int32.toInt (hF226.1 1 0 rfl)
    have f240 := congrArg Int32.toInt (hF226.1 1 12 rfl)
    have f241 := congrArg Int32.toInt (hF226.1 1 10 rfl)
    have f242 := congrArg Int32.toInt (hF226.1 1 11 rfl)
    have f243 := congrArg Int32.toInt (hF226.1 59 0 rfl)
    have f244 := congrArg Int32.toInt (hF226.1 59 12 rfl)
    have f245 := congrArg Int32.toInt (hF226.1 59 10 rfl)
    have f246 := congrArg Int32.toInt (hF226.1 59 11 rfl)
    have f247 := congrArg Int32.toInt (hF226.1 116 0 rfl)
    have f248 := congrArg Int32.toInt (hF226.1 116 12 rfl)
    have f249 := congrArg Int32.toInt (hF226.1 116 10 rfl)
    have f250 := congrArg Int32.toInt (hF226.1 116 11 rfl)
    have f251 := congrArg Int32.toInt (eA_c (j := 0) (hF226.2.1 173 rfl))
    have f252 := congrArg Int32.toInt (eA_c (j := 1) (hF226.2.1 173 rfl))
    have f253 := congrArg Int32.toInt (hF226.1 174 1 rfl)
    have f254 := congrArg Int32.toInt (eA_c (j := 0) (hF226.2.1 234 rfl))
    have f255 := congrArg Int32.toInt (eA_c (j := 4) (hF226.2.1 234 rfl))
    have f256 := congrArg Int32.toInt (eA_c (j := 5) (hF226.2.1 234 rfl))
    have f257 := congrArg Int32.toInt (eA_c (j := 6) (hF226.2.1 234 rfl))
    have f258 := congrArg Int32.toInt (eA_c (j := 5510) (hF226.2.1 234 rfl))
    have f259 := congrArg Int32.toInt (eA_c (j := 5514) (hF226.2.1 234 rfl))
    have f260 := congrArg Int32.toInt (eA_c (j := 5515) (hF226.2.1 234 rfl))
    have f261 := congrArg Int32.toInt (eA_c (j := 5516) (hF226.2.1 234 rfl))
    have f262 := congrArg Int32.toInt (eA_c (j := 0) (hF226.2.1 235 rfl))
    have f263 := congrArg Int32.toInt (eA_c (j := 1) (hF226.2.1 235 rfl))
    have f264 := congrArg Int32.toInt (hF226.1 231 8 rfl)
    refine At.enter rfl ?_
    refine r_ics 1292 rfl (fun c265 => ?_) (fun c265 => ?_)
    · have c265_ : v183.toInt = v227.toInt := en_i_eq_t c265
      exact K _ hI225 (show LwR _ from ⟨by omega, by omega, by omega, by omega, by omega, by omega, by omega, IM0.cong hR_7 (by omega) (by omega) (by omega) (by omega) (by omega) (by omega) (by omega) (by omega) (by omega), IM1.cong hR_8 (by omega) (by omega) (by omega) (by omega) (by omega) (by omega) (by omega) (by omega) (by omega)⟩)
    · have c265_ : v183.toInt ≠ v227.toInt := en_i_eq_f c265
      refine At.enter rfl ?_
      refine r_iconst 0 rfl ?_
      exfalso
      omega
  · have n266_e : v2.toInt = 1 := by omega
    have n266_0 : v2.toInt ≠ 0 := by omega
    have n266_k : (eA g0 173 1).toInt = 0 := by omega
    refine r_callV 1280 rfl [.ref 0, .int v2] [] (Nat.le_of_ble_eq_true rfl) rfl (T_X10_back_0 _ hI0 v2) ?_
    rintro _ _ ⟨g267, rfl, hI268, hF269, v270, rfl, hr271⟩
    refine At.sti ?_
    have hF272 := Fr.tr hF0 hF269 rfl rfl
    obtain ⟨p273, p274, p275, p276, p277, p278⟩ := hr271
    have w279 := p276 ⟨fun h => n266_0 h.1, fun h => h.2 n266_k⟩
    have w280 := p278 ⟨by omega, by omega, fun h => n266_0 h.1, fun h => h.2 n266_k⟩
    clear p274 p275 p276 p277 p278
    have f282 := congrArg Int32.toInt (hF269.1 59 0 rfl)
    have f283 := congrArg Int32.toInt (hF269.1 59 12 rfl)
    have f284 := congrArg Int32.toInt (hF269.1 59 10 rfl)
    have f285 := congrArg Int32.toInt (hF269.1 59 11 rfl)
    have f286 := congrArg Int32.toInt (hF269.1 116 0 rfl)
    have f287 := congrArg Int32.toInt (hF269.1 116 12 rfl)
    have f288 := congrArg Int32.toInt (hF269.1 116 10 rfl)
    have f289 := congrArg Int32.toInt (hF269.1 116 11 rfl)
    have f290 := congrArg Int32.toInt (eA_c (j := 0) (hF269.2.1 173 rfl))
    have f291 := congrArg Int32.toInt (eA_c (j := 1) (hF269.2.1 173 rfl))
    have f292 := congrArg Int32.toInt (hF269.1 174 1 rfl)
    have f293 := congrArg Int32.toInt (eA_c (j := 0) (hF269.2.1 233 rfl))
    have f294 := congrArg Int32.toInt (eA_c (j := 4) (hF269.2.1 233 rfl))
    have f295 := congrArg Int32.toInt (eA_c (j := 5) (hF269.2.1 233 rfl))
    have f296 := congrArg Int32.toInt (eA_c (j := 6) (hF269.2.1 233 rfl))
    have f297 := congrArg Int32.toInt (eA_c (j := 0) (hF269.2.1 234 rfl))
    have f298 := congrArg Int32.toInt (eA_c (j := 4) (hF269.2.1 234 rfl))
    have f299 := congrArg Int32.toInt (eA_c (j := 5) (hF269.2.1 234 rfl))
    have f300 := congrArg Int32.toInt (eA_c (j := 6) (hF269.2.1 234 rfl))
    have f301 := congrArg Int32.toInt (eA_c (j := 5510) (hF269.2.1 234 rfl))
    have f302 := congrArg Int32.toInt (eA_c (j := 5514) (hF269.2.1 234 rfl))
    have f303 := congrArg Int32.toInt (eA_c (j := 5515) (hF269.2.1 234 rfl))
    have f304 := congrArg Int32.toInt (eA_c (j := 5516) (hF269.2.1 234 rfl))
    have f305 := congrArg Int32.toInt (eA_c (j := 0) (hF269.2.1 235 rfl))
    have f306 := congrArg Int32.toInt (eA_c (j := 1) (hF269.2.1 235 rfl))
    have f307 := congrArg Int32.toInt (hF269.1 231 8 rfl)
    refine At.enter rfl ?_
    refine r_aload_n e2 ?_
    refine r_sload_n e0 ?_
    refine r_iload_n e3 ?_
    refine r_iconst 1 rfl ?_
    refine q_iadd (i.toInt + 1) rfl hx_1 (fun v308 hv308 => ?_)
    refine q_scald (m := L) hL (i.toInt + 1) hv308 hy_1 (fun v309 hv309 => ?_)
    have sv309 := congrArg Int32.toInt (hv2.symm.trans hv309)
    have n310_e : v309.toInt = 1 := by omega
    have n310_0 : v309.toInt ≠ 0 := by omega
    have n310_k : (eA g267 235 1).toInt = 0 := by omega
    refine r_callV 1289 rfl [.ref 231, .int v309] [.int v270] (Nat.le_of_ble_eq_true rfl) rfl (T_X11_back_231 _ hI268 v309) ?_
    rintro _ _ ⟨g311, rfl, hI312, hF313, v314, rfl, hr315⟩
    refine At.sti ?_
    have hF316 := Fr.tr hF272 hF313 rfl rfl
    obtain ⟨p317, p318, p319, p320, p321, p322⟩ := hr315
    have w323 := p320 ⟨fun h => n310_0 h.1, fun h => h.2 n310_k⟩
    have w324 := p322 ⟨by omega, by omega, fun h => n310_0 h.1, fun h => h.2 n310_k⟩
    clear p318 p319 p320 p321 p322
    have f326 := congrArg Int32.toInt (hF313.1 1 0 rfl)
    have f327 := congrArg Int32.toInt (hF313.1 1 12 rfl)
    have f328 := congrArg Int32.toInt (hF313.1 1 10 rfl)
    have f329 := congrArg Int32.toInt (hF313.1 1 11 rfl)
    have f330 := congrArg Int32.toInt (hF313.1 59 0 rfl)
    have f331 := congrArg Int32.toInt (hF313.1 59 12 rfl)
    have f332 := congrArg Int32.toInt (hF313.1 59 10 rfl)
    have f333 := congrArg Int32.toInt (hF313.1 59 11 rfl)
    have f334 := congrArg Int32.toInt (hF313.1 116 0 rfl)
    have f335 := congrArg Int32.toInt (hF313.1 116 12 rfl)
    have f336 := congrArg Int32.toInt (hF313.1 116 10 rfl)
    have f337 := congrArg Int32.toInt (hF313.1 116 11 rfl)
    have f338 := congrArg Int32.toInt (eA_c (j := 0) (hF313.2.1 173 rfl))
    have f339 := congrArg Int32.toInt (eA_c (j := 1) (hF313.2.1 173 rfl))
    have f340 := congrArg Int32.toInt (hF313.1 174 1 rfl)
    have f341 := congrArg Int32.toInt (eA_c (j := 0) (hF313.2.1 234 rfl))
    have f342 := congrArg Int32.toInt (eA_c (j := 4) (hF313.2.1 234 rfl))
    have f343 := congrArg Int32.toInt (eA_c (j := 5) (hF313.2.1 234 rfl))
    have f344 := congrArg Int32.toInt (eA_c (j := 6) (hF313.2.1 234 rfl))
    have f345 := congrArg Int32.toInt (eA_c (j := 5510) (hF313.2.1 234 rfl))
    have f346 := congrArg Int32.toInt (eA_c (j := 5514) (hF313.2.1 234 rfl))
    have f347 := congrArg Int32.toInt (eA_c (j := 5515) (hF313.2.1 234 rfl))
    have f348 := congrArg Int32.toInt (eA_c (j := 5516) (hF313.2.1 234 rfl))
    have f349 := congrArg Int32.toInt (eA_c (j := 0) (hF313.2.1 235 rfl))
    have f350 := congrArg Int32.toInt (eA_c (j := 1) (hF313.2.1 235 rfl))
    have f351 := congrArg Int32.toInt (hF313.1 231 8 rfl)
    refine At.enter rfl ?_
    refine r_ics 1292 rfl (fun c352 => ?_) (fun c352 => ?_)
    · have c352_ : v270.toInt = v314.toInt := en_i_eq_t c352
      exact K _ hI312 (show LwR _ from ⟨by omega, by omega, by omega, by omega, by omega, by omega, by omega, IM0.cong hR_7 (by omega) (by omega) (by omega) (by omega) (by omega) (by omega) (by omega) (by omega) (by omega), IM1.cong hR_8 (by omega) (by omega) (by omega) (by omega) (by omega) (by omega) (by omega) (by omega) (by omega)⟩)
    · have c352_ : v270.toInt ≠ v314.toInt := en_i_eq_f c352
      refine At.enter rfl ?_
      refine r_iconst 0 rfl ?_
      exfalso
      omega
  · have n353_e : (v2.toInt < 0 ∨ 1 < v2.toInt) := by omega
    have n353_0 : v2.toInt ≠ 0 := by omega
    have n353_1 : v2.toInt ≠ 1 := by omega
    refine r_callV 1280 rfl [.ref 0, .int v2] [] (Nat.le_of_ble_eq_true rfl) rfl (T_X10_back_0 _ hI0 v2) ?_
    rintro _ _ ⟨g354, rfl, hI355, hF356, v357, rfl, hr358⟩
    refine At.sti ?_
    have hF359 := Fr.tr hF0 hF356 rfl rfl
    obtain ⟨p360, p361, p362, p363, p364, p365⟩ := hr358
    have w366 := p364 n353_e
    have w367 := p363 ⟨fun h => n353_0 h.1, fun h => n353_1 h.1⟩
    clear p361 p362 p363 p364 p365
    have f369 := congrArg Int32.toInt (hF356.1 59 0 rfl)
    have f370 := congrArg Int32.toInt (hF356.1 59 12 rfl)
    have f371 := congrArg Int32.toInt (hF356.1 59 10 rfl)
    have f372 := congrArg Int32.toInt (hF356.1 59 11 rfl)
    have f373 := congrArg Int32.toInt (hF356.1 116 0 rfl)
    have f374 := congrArg Int32.toInt (hF356.1 116 12 rfl)
    have f375 := congrArg Int32.toInt (hF356.1 116 10 rfl)
    have f376 := congrArg Int32.toInt (hF356.1 116 11 rfl)
    have f377 := congrArg Int32.toInt (eA_c (j := 0) (hF356.2.1 173 rfl))
    have f378 := congrArg Int32.toInt (eA_c (j := 1) (hF356.2.1 173 rfl))
    have f379 := congrArg Int32.toInt (hF356.1 174 1 rfl)
    have f380 := congrArg Int32.toInt (eA_c (j := 0) (hF356.2.1 233 rfl))
    have f381 := congrArg Int32.toInt (eA_c (j := 4) (hF356.2.1 233 rfl))
    have f382 := congrArg Int32.toInt (eA_c (j := 5) (hF356.2.1 233 rfl))
    have f383 := congrArg Int32.toInt (eA_c (j := 6) (hF356.2.1 233 rfl))
    have f384 := congrArg Int32.toInt (eA_c (j := 0) (hF356.2.1 234 rfl))
    have f385 := congrArg Int32.toInt (eA_c (j := 4) (hF356.2.1 234 rfl))
    have f386 := congrArg Int32.toInt (eA_c (j := 5) (hF356.2.1 234 rfl))
    have f387 := congrArg Int32.toInt (eA_c (j := 6) (hF356.2.1 234 rfl))
    have f388 := congrArg Int32.toInt (eA_c (j := 5510) (hF356.2.1 234 rfl))
    have f389 := congrArg Int32.toInt (eA_c (j := 5514) (hF356.2.1 234 rfl))
    have f390 := congrArg Int32.toInt (eA_c (j := 5515) (hF356.2.1 234 rfl))
    have f391 := congrArg Int32.toInt (eA_c (j := 5516) (hF356.2.1 234 rfl))
    have f392 := congrArg Int32.toInt (eA_c (j := 0) (hF356.2.1 235 rfl))
    have f393 := congrArg Int32.toInt (eA_c (j := 1) (hF356.2.1 235 rfl))
    have f394 := congrArg Int32.toInt (hF356.1 231 8 rfl)
    refine At.enter rfl ?_
    refine r_aload_n e2 ?_
    refine r_sload_n e0 ?_
    refine r_iload_n e3 ?_
    refine r_iconst 1 rfl ?_
    refine q_iadd (i.toInt + 1) rfl hx_1 (fun v395 hv395 => ?_)
    refine q_scald (m := L) hL (i.toInt + 1) hv395 hy_1 (fun v396 hv396 => ?_)
    have sv396 := congrArg Int32.toInt (hv2.symm.trans hv396)
    have n397_e : (v396.toInt < 0 ∨ 1 < v396.toInt) := by omega
    have n397_0 : v396.toInt ≠ 0 := by omega
    have n397_1 : v396.toInt ≠ 1 := by omega
    refine r_callV 1289 rfl [.ref 231, .int v396] [.int v357] (Nat.le_of_ble_eq_true rfl) rfl (T_X11_back_231 _ hI355 v396) ?_
    rintro _ _ ⟨g398, rfl, hI399, hF400, v401, rfl, hr402⟩
    refine At.sti ?_
    have hF403 := Fr.tr hF359 hF400 rfl rfl
    obtain ⟨p404, p405, p406, p407, p408, p409⟩ := hr402
    have w410 := p408 n397_e
    have w411 := p407 ⟨fun h => n397_0 h.1, fun h => n397_1 h.1⟩
    clear p405 p406 p407 p408 p409
    have f413 := congrArg Int32.toInt (hF400.1 1 0 rfl)
    have f414 := congrArg Int32.toInt (hF400.1 1 12 rfl)
    have f415 := congrArg Int32.toInt (hF400.1 1 10 rfl)
    have f416 := congrArg Int32.toInt (hF400.1 1 11 rfl)
    have f417 := congrArg Int32.toInt (hF400.1 59 0 rfl)
    have f418 := congrArg Int32.toInt (hF400.1 59 12 rfl)
    have f419 := congrArg Int32.toInt (hF400.1 59 10 rfl)
    have f420 := congrArg Int32.toInt (hF400.1 59 11 rfl)
    have f421 := congrArg Int32.toInt (hF400.1 116 0 rfl)
    have f422 := congrArg Int32.toInt (hF400.1 116 12 rfl)
    have f423 := congrArg Int32.toInt (hF400.1 116 10 rfl)
    have f424 := congrArg Int32.toInt (hF400.1 116 11 rfl)
    have f425 := congrArg Int32.toInt (eA_c (j := 0) (hF400.2.1 173 rfl))
    have f426 := congrArg Int32.toInt (eA_c (j := 1) (hF400.2.1 173 rfl))
    have f427 := congrArg Int32.toInt (hF400.1 174 1 rfl)
    have f428 := congrArg Int32.toInt (eA_c (j := 0) (hF400.2.1 234 rfl))
    have f429 := congrArg Int32.toInt (eA_c (j := 4) (hF400.2.1 234 rfl))
    have f430 := congrArg Int32.toInt (eA_c (j := 5) (hF400.2.1 234 rfl))
    have f431 := congrArg Int32.toInt (eA_c (j := 6) (hF400.2.1 234 rfl))
    have f432 := congrArg Int32.toInt (eA_c (j := 5510) (hF400.2.1 234 rfl))
    have f433 := congrArg Int32.toInt (eA_c (j := 5514) (hF400.2.1 234 rfl))
    have f434 := congrArg Int32.toInt (eA_c (j := 5515) (hF400.2.1 234 rfl))
    have f435 := congrArg Int32.toInt (eA_c (j := 5516) (hF400.2.1 234 rfl))
    have f436 := congrArg Int32.toInt (eA_c (j := 0) (hF400.2.1 235 rfl))
    have f437 := congrArg Int32.toInt (eA_c (j := 1) (hF400.2.1 235 rfl))
    have f438 := congrArg Int32.toInt (hF400.1 231 8 rfl)
    refine At.enter rfl ?_
    refine r_ics 1292 rfl (fun c439 => ?_) (fun c439 => ?_)
    · have c439_ : v357.toInt = v401.toInt := en_i_eq_t c439
      exact K _ hI399 (show LwR _ from ⟨by omega, by omega, by omega, by omega, by omega, by omega, by omega, IM0.cong hR_7 (by omega) (by omega) (by omega) (by omega) (by omega) (by omega) (by omega) (by omega) (by omega), IM1.cong hR_8 (by omega) (by omega) (by omega) (by omega) (by omega) (by omega) (by omega) (by omega) (by omega)⟩)
    · have c439_ : v357.toInt ≠ v401.toInt := en_i_eq_f c439
      refine At.enter rfl ?_
      refine r_iconst 0 rfl ?_
      exfalso
      omega
