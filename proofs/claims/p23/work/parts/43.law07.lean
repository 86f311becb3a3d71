set_option maxRecDepth 100000 in
set_option maxHeartbeats 8000000 in
theorem lq_c35 (d : Nat) {N : Nat} {g0 : List en_E} (hI0 : HI g0) (hR0 : LwR g0) {ys : List Int32} {L : Nat} (hL : ys.length = L) (hL2 : L ≤ 3584) {l : en_L} {i : Int32} (e0 : en_get 0 l = some (.float 0)) (e1 : en_get 1 l = some (.ref 0)) (e2 : en_get 2 l = some (.ref 231)) (e3 : en_get 3 l = some (.int i)) (hi : 0 ≤ i.toInt ∧ i.toInt + 7 ≤ L) {Ph : Option Value → en_H → Prop} (K : ∀ g1 : List en_E, HI g1 → LwR g1 → At (d + 423) (some ys) (some .boolean) bs_L_law (1330, l, [], (g1, N)) Ph) : At (d + 423) (some ys) (some .boolean) bs_L_law (1215, l, [], (g0, N)) Ph := by
  have hF0 : Fr F_law A_law g0 g0 := Fr.rf
  have hx_1 : -2147483648 ≤ i.toInt + 1 ∧ i.toInt + 1 ≤ 2147483647 := by omega
  have hx_2 : -2147483648 ≤ i.toInt + 2 ∧ i.toInt + 2 ≤ 2147483647 := by omega
  have hx_3 : -2147483648 ≤ i.toInt + 3 ∧ i.toInt + 3 ≤ 2147483647 := by omega
  have hx_4 : -2147483648 ≤ i.toInt + 4 ∧ i.toInt + 4 ≤ 2147483647 := by omega
  have hx_5 : -2147483648 ≤ i.toInt + 5 ∧ i.toInt + 5 ≤ 2147483647 := by omega
  have hx_6 : -2147483648 ≤ i.toInt + 6 ∧ i.toInt + 6 ≤ 2147483647 := by omega
  have hy_0 : 0 ≤ i.toInt ∧ i.toInt < (L : Int) := by omega
  have hy_1 : 0 ≤ i.toInt + 1 ∧ i.toInt + 1 < (L : Int) := by omega
  have hy_2 : 0 ≤ i.toInt + 2 ∧ i.toInt + 2 < (L : Int) := by omega
  have hy_3 : 0 ≤ i.toInt + 3 ∧ i.toInt + 3 < (L : Int) := by omega
  have hy_4 : 0 ≤ i.toInt + 4 ∧ i.toInt + 4 < (L : Int) := by omega
  have hy_5 : 0 ≤ i.toInt + 5 ∧ i.toInt + 5 < (L : Int) := by omega
  have hy_6 : 0 ≤ i.toInt + 6 ∧ i.toInt + 6 < (L : Int) := by omega
  unfold LwR at hR0
  obtain ⟨hR_0, hR_1, hR_2, hR_3, hR_4, hR_5, hR_6, hR_7, hR_8⟩ := hR0
  refine At.enter rfl ?_
  refine r_aload_n e1 ?_
  refine r_sload_n e0 ?_
  refine r_iload_n e3 ?_
  refine r_iconst 1 rfl ?_
  refine q_iadd (i.toInt + 1) rfl hx_1 (fun v1 hv1 => ?_)
  refine q_scald (m := L) hL (i.toInt + 1) hv1 hy_1 (fun v2 hv2 => ?_)
  refine r_sload_n e0 ?_
  refine r_iload_n e3 ?_
  refine r_iconst 2 rfl ?_
  refine q_iadd (i.toInt + 2) rfl hx_2 (fun v3 hv3 => ?_)
  refine q_scald (m := L) hL (i.toInt + 2) hv3 hy_2 (fun v4 hv4 => ?_)
  refine r_callV 1229 rfl [.ref 0, .int v2, .int v4] [] (Nat.le_of_ble_eq_true rfl) rfl (T_X10_drawn_0 _ hI0 v2 v4) ?_
  rintro _ _ ⟨g5, rfl, hI6, hF7, v8, rfl, hr9⟩
  refine At.sti ?_
  have hF10 := Fr.tr hF0 hF7 rfl rfl
  have f11 := congrArg Int32.toInt (hF7.1 1 0 rfl)
  have f12 := congrArg Int32.toInt (hF7.1 1 12 rfl)
  have f13 := congrArg Int32.toInt (hF7.1 1 10 rfl)
  have f14 := congrArg Int32.toInt (hF7.1 1 11 rfl)
  have f15 := congrArg Int32.toInt (hF7.1 59 0 rfl)
  have f16 := congrArg Int32.toInt (hF7.1 59 12 rfl)
  have f17 := congrArg Int32.toInt (hF7.1 59 10 rfl)
  have f18 := congrArg Int32.toInt (hF7.1 59 11 rfl)
  have f19 := congrArg Int32.toInt (hF7.1 116 0 rfl)
  have f20 := congrArg Int32.toInt (hF7.1 116 12 rfl)
  have f21 := congrArg Int32.toInt (hF7.1 116 10 rfl)
  have f22 := congrArg Int32.toInt (hF7.1 116 11 rfl)
  have f23 := congrArg Int32.toInt (eA_c (j := 0) (hF7.2.1 173 rfl))
  have f24 := congrArg Int32.toInt (eA_c (j := 1) (hF7.2.1 173 rfl))
  have f25 := congrArg Int32.toInt (hF7.1 174 1 rfl)
  have f26 := congrArg Int32.toInt (eA_c (j := 0) (hF7.2.1 233 rfl))
  have f27 := congrArg Int32.toInt (eA_c (j := 4) (hF7.2.1 233 rfl))
  have f28 := congrArg Int32.toInt (eA_c (j := 5) (hF7.2.1 233 rfl))
  have f29 := congrArg Int32.toInt (eA_c (j := 6) (hF7.2.1 233 rfl))
  have f30 := congrArg Int32.toInt (eA_c (j := 0) (hF7.2.1 234 rfl))
  have f31 := congrArg Int32.toInt (eA_c (j := 4) (hF7.2.1 234 rfl))
  have f32 := congrArg Int32.toInt (eA_c (j := 5) (hF7.2.1 234 rfl))
  have f33 := congrArg Int32.toInt (eA_c (j := 6) (hF7.2.1 234 rfl))
  have f34 := congrArg Int32.toInt (eA_c (j := 5510) (hF7.2.1 234 rfl))
  have f35 := congrArg Int32.toInt (eA_c (j := 5514) (hF7.2.1 234 rfl))
  have f36 := congrArg Int32.toInt (eA_c (j := 5515) (hF7.2.1 234 rfl))
  have f37 := congrArg Int32.toInt (eA_c (j := 5516) (hF7.2.1 234 rfl))
  have f38 := congrArg Int32.toInt (eA_c (j := 0) (hF7.2.1 235 rfl))
  have f39 := congrArg Int32.toInt (eA_c (j := 1) (hF7.2.1 235 rfl))
  have f40 := congrArg Int32.toInt (hF7.1 231 8 rfl)
  refine At.enter rfl ?_
  refine r_pop rfl ?_
  refine r_aload_n e2 ?_
  refine r_sload_n e0 ?_
  refine r_iload_n e3 ?_
  refine r_iconst 1 rfl ?_
  refine q_iadd (i.toInt + 1) rfl hx_1 (fun v41 hv41 => ?_)
  refine q_scald (m := L) hL (i.toInt + 1) hv41 hy_1 (fun v42 hv42 => ?_)
  have sv42 := hv2.symm.trans hv42
  subst sv42
  refine r_sload_n e0 ?_
  refine r_iload_n e3 ?_
  refine r_iconst 2 rfl ?_
  refine q_iadd (i.toInt + 2) rfl hx_2 (fun v43 hv43 => ?_)
  refine q_scald (m := L) hL (i.toInt + 2) hv43 hy_2 (fun v44 hv44 => ?_)
  have sv44 := hv4.symm.trans hv44
  subst sv44
  refine r_callV 1244 rfl [.ref 231, .int v2, .int v4] [] (Nat.le_of_ble_eq_true rfl) rfl (T_X11_drawn_231 _ hI6 v2 v4) ?_
  rintro _ _ ⟨g45, rfl, hI46, hF47, v48, rfl, hr49⟩
  refine At.sti ?_
  have hF50 := Fr.tr hF10 hF47 rfl rfl
  have f51 := congrArg Int32.toInt (hF47.1 1 0 rfl)
  have f52 := congrArg Int32.toInt (hF47.1 1 12 rfl)
  have f53 := congrArg Int32.toInt (hF47.1 1 10 rfl)
  have f54 := congrArg Int32.toInt (hF47.1 1 11 rfl)
  have f55 := congrArg Int32.toInt (hF47.1 59 0 rfl)
  have f56 := congrArg Int32.toInt (hF47.1 59 12 rfl)
  have f57 := congrArg Int32.toInt (hF47.1 59 10 rfl)
  have f58 := congrArg Int32.toInt (hF47.1 59 11 rfl)
  have f59 := congrArg Int32.toInt (hF47.1 116 0 rfl)
  have f60 := congrArg Int32.toInt (hF47.1 116 12 rfl)
  have f61 := congrArg Int32.toInt (hF47.1 116 10 rfl)
  have f62 := congrArg Int32.toInt (hF47.1 116 11 rfl)
  have f63 := congrArg Int32.toInt (eA_c (j := 0) (hF47.2.1 173 rfl))
  have f64 := congrArg Int32.toInt (eA_c (j := 1) (hF47.2.1 173 rfl))
  have f65 := congrArg Int32.toInt (hF47.1 174 1 rfl)
  have f66 := congrArg Int32.toInt (eA_c (j := 0) (hF47.2.1 233 rfl))
  have f67 := congrArg Int32.toInt (eA_c (j := 4) (hF47.2.1 233 rfl))
  have f68 := congrArg Int32.toInt (eA_c (j := 5) (hF47.2.1 233 rfl))
  have f69 := congrArg Int32.toInt (eA_c (j := 6) (hF47.2.1 233 rfl))
  have f70 := congrArg Int32.toInt (eA_c (j := 0) (hF47.2.1 234 rfl))
  have f71 := congrArg Int32.toInt (eA_c (j := 4) (hF47.2.1 234 rfl))
  have f72 := congrArg Int32.toInt (eA_c (j := 5) (hF47.2.1 234 rfl))
  have f73 := congrArg Int32.toInt (eA_c (j := 6) (hF47.2.1 234 rfl))
  have f74 := congrArg Int32.toInt (eA_c (j := 5510) (hF47.2.1 234 rfl))
  have f75 := congrArg Int32.toInt (eA_c (j := 5514) (hF47.2.1 234 rfl))
  have f76 := congrArg Int32.toInt (eA_c (j := 5515) (hF47.2.1 234 rfl))
  have f77 := congrArg Int32.toInt (eA_c (j := 5516) (hF47.2.1 234 rfl))
  have f78 := congrArg Int32.toInt (eA_c (j := 0) (hF47.2.1 235 rfl))
  have f79 := congrArg Int32.toInt (eA_c (j := 1) (hF47.2.1 235 rfl))
  have f80 := congrArg Int32.toInt (hF47.1 231 8 rfl)
  refine At.enter rfl ?_
  refine r_pop rfl ?_
  refine r_goto ?_
  exact K _ hI46 (show LwR _ from ⟨by omega, by omega, by omega, by omega, by omega, by omega, by omega, IM0.cong hR_7 (by omega) (by omega) (by omega) (by omega) (by omega) (by omega) (by omega) (by omega) (by omega), IM1.cong hR_8 (by omega) (by omega) (by omega) (by omega) (by omega) (by omega) (by omega) (by omega) (by omega)⟩)

set_option maxRecDepth 100000 in
set_option maxHeartbeats 8000000 in
theorem lq_c36 (d : Nat) {N : Nat} {g0 : List en_E} (hI0 : HI g0) (hR0 : LwR g0) {ys : List Int32} {L : Nat} (hL : ys.length = L) (hL2 : L ≤ 3584) {l : en_L} {i : Int32} (e0 : en_get 0 l = some (.float 0)) (e1 : en_get 1 l = some (.ref 0)) (e2 : en_get 2 l = some (.ref 231)) (e3 : en_get 3 l = some (.int i)) (hi : 0 ≤ i.toInt ∧ i.toInt + 7 ≤ L) {Ph : Option Value → en_H → Prop} (K : ∀ g1 : List en_E, HI g1 → LwR g1 → At (d + 423) (some ys) (some .boolean) bs_L_law (1330, l, [], (g1, N)) Ph) : At (d + 423) (some ys) (some .boolean) bs_L_law (1248, l, [], (g0, N)) Ph := by
  have hF0 : Fr F_law A_law g0 g0 := Fr.rf
  have hx_1 : -2147483648 ≤ i.toInt + 1 ∧ i.toInt + 1 ≤ 2147483647 := by omega
  have hx_2 : -2147483648 ≤ i.toInt + 2 ∧ i.toInt + 2 ≤ 2147483647 := by omega
  have hx_3 : -2147483648 ≤ i.toInt + 3 ∧ i.toInt + 3 ≤ 2147483647 := by omega
  have hx_4 : -2147483648 ≤ i.toInt + 4 ∧ i.toInt + 4 ≤ 2147483647 := by omega
  have hx_5 : -2147483648 ≤ i.toInt + 5 ∧ i.toInt + 5 ≤ 2147483647 := by omega
  have hx_6 : -2147483648 ≤ i.toInt + 6 ∧ i.toInt + 6 ≤ 2147483647 := by omega
  have hy_0 : 0 ≤ i.toInt ∧ i.toInt < (L : Int) := by omega
  have hy_1 : 0 ≤ i.toInt + 1 ∧ i.toInt + 1 < (L : Int) := by omega
  have hy_2 : 0 ≤ i.toInt + 2 ∧ i.toInt + 2 < (L : Int) := by omega
  have hy_3 : 0 ≤ i.toInt + 3 ∧ i.toInt + 3 < (L : Int) := by omega
  have hy_4 : 0 ≤ i.toInt + 4 ∧ i.toInt + 4 < (L : Int) := by omega
  have hy_5 : 0 ≤ i.toInt + 5 ∧ i.toInt + 5 < (L : Int) := by omega
  have hy_6 : 0 ≤ i.toInt + 6 ∧ i.toInt + 6 < (L : Int) := by omega
  unfold LwR at hR0
  obtain ⟨hR_0, hR_1, hR_2, hR_3, hR_4, hR_5, hR_6, hR_7, hR_8⟩ := hR0
  refine At.enter rfl ?_
  refine r_aload_n e1 ?_
  refine r_sload_n e0 ?_
  refine r_iload_n e3 ?_
  refine r_iconst 1 rfl ?_
  refine q_iadd (i.toInt + 1) rfl hx_1 (fun v1 hv1 => ?_)
  refine q_scald (m := L) hL (i.toInt + 1) hv1 hy_1 (fun v2 hv2 => ?_)
  rcases (show v2.toInt = 0 ∨ v2.toInt = 1 ∨ (v2.toInt < 0 ∨ 1 < v2.toInt) by omega) with u3 | u3 | u3
  · have n4_e : v2.toInt = 0 := by omega
    have n4_1 : v2.toInt ≠ 1 := by omega
    refine r_callV 1257 rfl [.ref 0, .int v2] [] (Nat.le_of_ble_eq_true rfl) rfl (T_X10_image_0 _ hI0 v2) ?_
    rintro _ _ ⟨g5, rfl, hI6, hF7, v8, rfl, hr9⟩
    refine At.sti ?_
    have hF10 := Fr.tr hF0 hF7 rfl rfl
    obtain ⟨p11, p12, p13, p14, p15, p16⟩ := hr9
    have w17 := p12 n4_e
    have w18 := p15 n4_1
    clear p12 p13 p14 p15 p16
    have f20 := congrArg Int32.toInt (hF7.1 1 0 rfl)
    have f21 := congrArg Int32.toInt (hF7.1 1 12 rfl)
    have f22 := congrArg Int32.toInt (hF7.1 1 10 rfl)
    have f23 := congrArg Int32.toInt (hF7.1 1 11 rfl)
    have f24 := congrArg Int32.toInt (hF7.1 174 1 rfl)
    have f25 := congrArg Int32.toInt (eA_c (j := 0) (hF7.2.1 233 rfl))
    have f26 := congrArg Int32.toInt (eA_c (j := 4) (hF7.2.1 233 rfl))
    have f27 := congrArg Int32.toInt (eA_c (j := 5) (hF7.2.1 233 rfl))
    have f28 := congrArg Int32.toInt (eA_c (j := 6) (hF7.2.1 233 rfl))
    have f29 := congrArg Int32.toInt (eA_c (j := 0) (hF7.2.1 234 rfl))
    have f30 := congrArg Int32.toInt (eA_c (j := 4) (hF7.2.1 234 rfl))
    have f31 := congrArg Int32.toInt (eA_c (j := 5) (hF7.2.1 234 rfl))
    have f32 := congrArg Int32.toInt (eA_c (j := 6) (hF7.2.1 234 rfl))
    have f33 := congrArg Int32.toInt (eA_c (j := 5510) (hF7.2.1 234 rfl))
    have f34 := congrArg Int32.toInt (eA_c (j := 5514) (hF7.2.1 234 rfl))
    have f35 := congrArg Int32.toInt (eA_c (j := 5515) (hF7.2.1 234 rfl))
    have f36 := congrArg Int32.toInt (eA_c (j := 5516) (hF7.2.1 234 rfl))
    have f37 := congrArg Int32.toInt (eA_c (j := 0) (hF7.2.1 235 rfl))
    have f38 := congrArg Int32.toInt (eA_c (j := 1) (hF7.2.1 235 rfl))
    have f39 := congrArg Int32.toInt (hF7.1 231 8 rfl)
    refine At.enter rfl ?_
    refine r_pop rfl ?_
    refine r_aload_n e2 ?_
    refine r_sload_n e0 ?_
    refine r_iload_n e3 ?_
    refine r_iconst 1 rfl ?_
    refine q_iadd (i.toInt + 1) rfl hx_1 (fun v40 hv40 => ?_)
    refine q_scald (m := L) hL (i.toInt + 1) hv40 hy_1 (fun v41 hv41 => ?_)
    have sv41 := hv2.symm.trans hv41
    subst sv41
    have n42_e : v2.toInt = 0 := by omega
    have n42_1 : v2.toInt ≠ 1 := by omega
    refine r_callV 1267 rfl [.ref 231, .int v2] [] (Nat.le_of_ble_eq_true rfl) rfl (T_X11_image_231 _ hI6 v2) ?_
    rintro _ _ ⟨g43, rfl, hI44, hF45, v46, rfl, hr47⟩
    refine At.sti ?_
    have hF48 := Fr.tr hF10 hF45 rfl rfl
    obtain ⟨p49, p50, p51, p52, p53, p54⟩ := hr47
    have w55 := p50 n42_e
    have w56 := p53 n42_1
    clear p50 p51 p52 p53 p54
    have f58 := congrArg Int32.toInt (hF45.1 1 0 rfl)
    have f59 := congrArg Int32.toInt (hF45.1 1 12 rfl)
    have f60 := congrArg Int32.toInt (hF45.1 1 10 rfl)
    have f61 := congrArg Int32.toInt (hF45.1 1 11 rfl)
    have f62 := congrArg Int32.toInt (hF45.1 59 0 rfl)
    have f63 := congrArg Int32.toInt (hF45.1 59 12 rfl)
    have f64 := congrArg Int32.toInt (hF45.1 59 10 rfl)
    have f65 := congrArg Int32.toInt (hF45.1 59 11 rfl)
    have f66 := congrArg Int32.toInt (hF45.1 116 0 rfl)
    have f67 := congrArg Int32.toInt (hF45.1 116 12 rfl)
    have f68 := congrArg Int32.toInt (hF45.1 116 10 rfl)
    have f69 := congrArg Int32.toInt (hF45.1 116 11 rfl)
    have f70 := congrArg Int32.toInt (eA_c (j := 0) (hF45.2.1 173 rfl))
    have f71 := congrArg Int32.toInt (eA_c (j := 1) (hF45.2.1 173 rfl))
    have f72 := congrArg Int32.toInt (hF45.1 174 1 rfl)
    have f73 := congrArg Int32.toInt (eA_c (j := 0) (hF45.2.1 233 rfl))
    have f74 := congrArg Int32.toInt (eA_c (j := 4) (hF45.2.1 233 rfl))
    have f75 := congrArg Int32.toInt (eA_c (j := 5) (hF45.2.1 233 rfl))
    have f76 := congrArg Int32.toInt (eA_c (j := 6) (hF45.2.1 233 rfl))
    have f77 := congrArg Int32.toInt (hF45.1 231 8 rfl)
    refine At.enter rfl ?_
    refine r_pop rfl ?_
    refine r_goto ?_
    exact K _ hI44 (show LwR _ from ⟨by omega, by omega, by omega, by omega, by omega, by omega, by omega, (fun _ => ⟨by omega, by omega, by omega, by omega⟩), IM1.cong hR_8 (by omega) (by omega) (by omega) (by omega) (by omega) (by omega) (by omega) (by omega) (by omega)⟩)
  · have n78_e : v2.toInt = 1 := by omega
    have n78_0 : v2.toInt ≠ 0 := by omega
    refine r_callV 1257 rfl [.ref 0, .int v2] [] (Nat.le_of_ble_eq_true rfl) rfl (T_X10_image_0 _ hI0 v2) ?_
    rintro _ _ ⟨g79, rfl, hI80, hF81, v82, rfl, hr83⟩
    refine At.sti ?_
    have hF84 := Fr.tr hF0 hF81 rfl rfl
    obtain ⟨p85, p86, p87, p88, p89, p90⟩ := hr83
    have w91 := p87 n78_0
    have w92 := p88 n78_e
    clear p86 p87 p88 p89 p90
    have f94 := congrArg Int32.toInt (hF81.1 1 0 rfl)
    have f95 := congrArg Int32.toInt (hF81.1 1 12 rfl)
    have f96 := congrArg Int32.toInt (hF81.1 1 10 rfl)
    have f97 := congrArg Int32.toInt (hF81.1 1 11 rfl)
    have f98 := congrArg Int32.toInt (hF81.1 174 1 rfl)
    have f99 := congrArg Int32.toInt (eA_c (j := 0) (hF81.2.1 233 rfl))
    have f100 := congrArg Int32.toInt (eA_c (j := 4) (hF81.2.1 233 rfl))
    have f101 := congrArg Int32.toInt (eA_c (j := 5) (hF81.2.1 233 rfl))
    have f102 := congrArg Int32.toInt (eA_c (j := 6) (hF81.2.1 233 rfl))
    have f103 := congrArg Int32.toInt (eA_c (j := 0) (hF81.2.1 234 rfl))
    have f104 := congrArg Int32.toInt (eA_c (j := 4) (hF81.2.1 234 rfl))
    have f105 := congrArg Int32.toInt (eA_c (j := 5) (hF81.2.1 234 rfl))
    have f106 := congrArg Int32.toInt (eA_c (j := 6) (hF81.2.1 234 rfl))
    have f107 := congrArg Int32.toInt (eA_c (j := 5510) (hF81.2.1 234 rfl))
    have f108 := congrArg Int32.toInt (eA_c (j := 5514) (hF81.2.1 234 rfl))
    have f109 := congrArg Int32.toInt (eA_c (j := 5515) (hF81.2.1 234 rfl))
    have f110 := congrArg Int32.toInt (eA_c (j := 5516) (hF81.2.1 234 rfl))
    have f111 := congrArg Int32.toInt (eA_c (j := 0) (hF81.2.1 235 rfl))
    have f112 := congrArg Int32.toInt (eA_c (j := 1) (hF81.2.1 235 rfl))
    have f113 := congrArg Int32.toInt (hF81.1 231 8 rfl)
    refine At.enter rfl ?_
    refine r_pop rfl ?_
    refine r_aload_n e2 ?_
    refine r_sload_n e0 ?_
    refine r_iload_n e3 ?_
    refine r_iconst 1 rfl ?_
    refine q_iadd (i.toInt + 1) rfl hx_1 (fun v114 hv114 => ?_)
    refine q_scald (m := L) hL (i.toInt + 1) hv114 hy_1 (fun v115 hv115 => ?_)
    have sv115 := hv2.symm.trans hv115
    subst sv115
    have n116_e : v2.toInt = 1 := by omega
    have n116_0 : v2.toInt ≠ 0 := by omega
    refine r_callV 1267 rfl [.ref 231, .int v2] [] (Nat.le_of_ble_eq_true rfl) rfl (T_X11_image_231 _ hI80 v2) ?_
    rintro _ _ ⟨g117, rfl, hI118, hF119, v120, rfl, hr121⟩
    refine At.sti ?_
    have hF122 := Fr.tr hF84 hF119 rfl rfl
    obtain ⟨p123, p124, p125, p126, p127, p128⟩ := hr121
    have w129 := p125 n116_0
    have w130 := p126 n116_e
    clear p124 p125 p126 p127 p128
    have f132 := congrArg Int32.toInt (hF119.1 1 0 rfl)
    have f133 := congrArg Int32.toInt (hF119.1 1 12 rfl)
    have f134 := congrArg Int32.toInt (hF119.1 1 10 rfl)
    have f135 := congrArg Int32.toInt (hF119.1 1 11 rfl)
    have f136 := congrArg Int32.toInt (hF119.1 59 0 rfl)
    have f137 := congrArg Int32.toInt (hF119.1 59 12 rfl)
    have f138 := congrArg Int32.toInt (hF119.1 59 10 rfl)
    have f139 := congrArg Int32.toInt (hF119.1 59 11 rfl)
    have f140 := congrArg Int32.toInt (hF119.1 116 0 rfl)
    have f141 := congrArg Int32.toInt (hF119.1 116 12 rfl)
    have f142 := congrArg Int32.toInt (hF119.1 116 10 rfl)
    have f143 := congrArg Int32.toInt (hF119.1 116 11 rfl)
    have f144 := congrArg Int32.toInt (eA_c (j := 0) (hF119.2.1 173 rfl))
    have f145 := congrArg Int32.toInt (eA_c (j := 1) (hF119.2.1 173 rfl))
    have f146 := congrArg Int32.toInt (hF119.1 174 1 rfl)
    have f147 := congrArg Int32.toInt (eA_c (j := 0) (hF119.2.1 233 rfl))
    have f148 := congrArg Int32.toInt (eA_c (j := 4) (hF119.2.1 233 rfl))
    have f149 := congrArg Int32.toInt (eA_c (j := 5) (hF119.2.1 233 rfl))
    have f150 := congrArg Int32.toInt (eA_c (j := 6) (hF119.2.1 233 rfl))
    have f151 := congrArg Int32.toInt (hF119.1 231 8 rfl)
    refine At.enter rfl ?_
    refine r_pop rfl ?_
    refine r_goto ?_
    exact K _ hI118 (show LwR _ from ⟨by omega, by omega, by omega, by omega, by omega, by omega, by omega, IM0.cong hR_7 (by omega) (by omega) (by omega) (by omega) (by omega) (by omega) (by omega) (by omega) (by omega), (fun _ => ⟨by omega, by omega, by omega, by omega⟩)⟩)
  · have n152_e : (v2.toInt < 0 ∨ 1 < v2.toInt) := by omega
    have n152_0 : v2.toInt ≠ 0 := by omega
    have n152_1 : v2.toInt ≠ 1 := by omega
    refine r_callV 1257 rfl [.ref 0, .int v2] [] (Nat.le_of_ble_eq_true rfl) rfl (T_X10_image_0 _ hI0 v2) ?_
    rintro _ _ ⟨g153, rfl, hI154, hF155, v156, rfl, hr157⟩
    refine At.sti ?_
    have hF158 := Fr.tr hF0 hF155 rfl rfl
    obtain ⟨p159, p160, p161, p162, p163, p164⟩ := hr157
    have w165 := p164 n152_e
    have w166 := p161 n152_0
    have w167 := p163 n152_1
    clear p160 p161 p162 p163 p164
    have f168 := congrArg Int32.toInt (hF155.1 1 0 rfl)
    have f169 := congrArg Int32.toInt (hF155.1 1 12 rfl)
    have f170 := congrArg Int32.toInt (hF155.1 1 10 rfl)
    have f171 := congrArg Int32.toInt (hF155.1 1 11 rfl)
    have f172 := congrArg Int32.toInt (hF155.1 174 1 rfl)
    have f173 := congrArg Int32.toInt (eA_c (j := 0) (hF155.2.1 233 rfl))
    have f174 := congrArg Int32.toInt (eA_c (j := 4) (hF155.2.1 233 rfl))
    have f175 := congrArg Int32.toInt (eA_c (j := 5) (hF155.2.1 233 rfl))
    have f176 := congrArg Int32.toInt (eA_c (j := 6) (hF155.2.1 233 rfl))
    have f177 := congrArg Int32.toInt (eA_c (j := 0) (hF155.2.1 234 rfl))
    have f178 := congrArg Int32.toInt (eA_c (j := 4) (hF155.2.1 234 rfl))
    have f179 := congrArg Int32.toInt (eA_c (j := 5) (hF155.2.1 234 rfl))
    have f180 := congrArg Int32.toInt (eA_c (j := 6) (hF155.2.1 234 rfl))
    have f181 := congrArg Int32.toInt (eA_c (j := 5510) (hF155.2.1 234 rfl))
    have f182 := congrArg Int32.toInt (eA_c (j := 5514) (hF155.2.1 234 rfl))
    have f183 := congrArg Int32.toInt (eA_c (j := 5515) (hF155.2.1 234 rfl))
    have f184 := congrArg Int32.toInt (eA_c (j := 5516) (hF155.2.1 234 rfl))
    have f185 := congrArg Int32.toInt (eA_c (j := 0) (hF155.2.1 235 rfl))
    have f186 := congrArg Int32.toInt (eA_c (j := 1) (hF155.2.1 235 rfl))
    have f187 := congrArg Int32.toInt (hF155.1 231 8 rfl)
    refine At.enter rfl ?_
    refine r_pop rfl ?_
    refine r_aload_n e2 ?_
    refine r_sload_n e0 ?_
    refine r_iload_n e3 ?_
    refine r_iconst 1 rfl ?_
    refine q_iadd (i.toInt + 1) rfl hx_1 (fun v188 hv188 => ?_)
    refine q_scald (m := L) hL (i.toInt + 1) hv188 hy_1 (fun v189 hv189 => ?_)
    have sv189 := hv2.symm.trans hv189
    subst sv189
    have n190_e : (v2.toInt < 0 ∨ 1 < v2.toInt) := by omega
    have n190_0 : v2.toInt ≠ 0 := by omega
    have n190_1 : v2.toInt ≠ 1 := by omega
    refine r_callV 1267 rfl [.ref 231, .int v2] [] (Nat.le_of_ble_eq_true rfl) rfl (T_X11_image_231 _ hI154 v2) ?_
    rintro _ _ ⟨g191, rfl, hI192, hF193, v194, rfl, hr195⟩
    refine At.sti ?_
    have hF196 := Fr.tr hF158 hF193 rfl rfl
    obtain ⟨p197, p198, p199, p200, p201, p202⟩ := hr195
    have w203 := p202 n190_e
    have w204 := p199 n190_0
    have w205 := p201 n190_1
    clear p198 p199 p200 p201 p202
    have f206 := congrArg Int32.toInt (hF193.1 1 0 rfl)
    have f207 := congrArg Int32.toInt (hF193.1 1 12 rfl)
    have f208 := congrArg Int32.toInt (hF193.1 1 10 rfl)
    have f209 := congrArg Int32.toInt (hF193.1 1 11 rfl)
    have f210 := congrArg Int32.toInt (hF193.1 59 0 rfl)
    have f211 := congrArg Int32.toInt (hF193.1 59 12 rfl)
    have f212 := congrArg Int32.toInt (hF193.1 59 10 rfl)
    have f213 := congrArg Int32.toInt (hF193.1 59 11 rfl)
    have f214 := congrArg Int32.toInt (hF193.1 116 0 rfl)
    have f215 := congrArg Int32.toInt (hF193.1 116 12 rfl)
    have f216 := congrArg Int32.toInt (hF193.1 116 10 rfl)
    have f217 := congrArg Int32.toInt (hF193.1 116 11 rfl)
    have f218 := congrArg Int32.toInt (eA_c (j := 0) (hF193.2.1 173 rfl))
    have f219 := congrArg Int32.toInt (eA_c (j := 1) (hF193.2.1 173 rfl))
    have f220 := congrArg Int32.toInt (hF193.1 174 1 rfl)
    have f221 := congrArg Int32.toInt (eA_c (j := 0) (hF193.2.1 233 rfl))
    have f222 := congrArg Int32.toInt (eA_c (j := 4) (hF193.2.1 233 rfl))
    have f223 := congrArg Int32.toInt (eA_c (j := 5) (hF193.2.1 233 rfl))
    have f224 := congrArg Int32.toInt (eA_c (j := 6) (hF193.2.1 233 rfl))
    have f225 := congrArg Int32.toInt (hF193.1 231 8 rfl)
    refine At.enter rfl ?_
    refine r_pop rfl ?_
    refine r_goto ?_
    exact K _ hI192 (show LwR _ from ⟨by omega, by omega, by omega, by omega, by omega, by omega, by omega, IM0.cong hR_7 (by omega) (by omega) (by omega) (by omega) (by omega) (by omega) (by omega) (by omega) (by omega), IM1.cong hR_8 (by omega) (by omega) (by omega) (by omega) (by omega) (by omega) (by omega) (by omega) (by omega)⟩)

set_option maxRecDepth 100000 in
set_option maxHeartbeats 8000000 in
theorem lq_c37 (d : Nat) {N : Nat} {g0 : List en_E} (hI0 : HI g0) (hR0 : LwR g0) {ys : List Int32} {L : Nat} (hL : ys.length = L) (hL2 : L ≤ 3584) {l : en_L} {i : Int32} (e0 : en_get 0 l = some (.float 0)) (e1 : en_get 1 l = some (.ref 0)) (e2 : en_get 2 l = some (.ref 231)) (e3 : en_get 3 l = some (.int i)) (hi : 0 ≤ i.toInt ∧ i.toInt + 7 ≤ L) {Ph : Option Value → en_H → Prop} (K : ∀ g1 : List en_E, HI g1 → LwR g1 → At (d + 423) (some ys) (some .boolean) bs_L_law (1330, l, [], (g1, N)) Ph) : At (d + 423) (some ys) (some .boolean) bs_L_law (1271, l, [], (g0, N)) Ph := by
  have hF0 : Fr F_law A_law g0 g0 := Fr.rf
  have hx_1 : -2147483648 ≤ i.toInt + 1 ∧ i.toInt + 1 ≤ 2147483647 := by omega
  have hx_2 : -2147483648 ≤ i.toInt + 2 ∧ i.toInt + 2 ≤ 2147483647 := by omega
  have hx_3 : -2147483648 ≤ i.toInt + 3 ∧ i.toInt + 3 ≤ 2147483647 := by omega
  have hx_4 : -2147483648 ≤ i.toInt + 4 ∧ i.toInt + 4 ≤ 2147483647 := by omega
  have hx_5 : -2147483648 ≤ i.toInt + 5 ∧ i.toInt + 5 ≤ 2147483647 := by omega
  have hx_6 : -2147483648 ≤ i.toInt + 6 ∧ i.toInt + 6 ≤ 2147483647 := by omega
  have hy_0 : 0 ≤ i.toInt ∧ i.toInt < (L : Int) := by omega
  have hy_1 : 0 ≤ i.toInt + 1 ∧ i.toInt + 1 < (L : Int) := by omega
  have hy_2 : 0 ≤ i.toInt + 2 ∧ i.toInt + 2 < (L : Int) := by omega
  have hy_3 : 0 ≤ i.toInt + 3 ∧ i.toInt + 3 < (L : Int) := by omega
  have hy_4 : 0 ≤ i.toInt + 4 ∧ i.toInt + 4 < (L : Int) := by omega
  have hy_5 : 0 ≤ i.toInt + 5 ∧ i.toInt + 5 < (L : Int) := by omega
  have hy_6 : 0 ≤ i.toInt + 6 ∧ i.toInt + 6 < (L : Int) := by omega
  unfold LwR at hR0
  obtain ⟨hR_0, hR_1, hR_2, hR_3, hR_4, hR_5, hR_6, hR_7, hR_8⟩ := hR0
  refine At.enter rfl ?_
  refine r_aload_n e1 ?_
  refine r_sload_n e0 ?_
  refine r_iload_n e3 ?_
  refine r_iconst 1 rfl ?_
  refine q_iadd (i.toInt + 1) rfl hx_1 (fun v1 hv1 => ?_)
  refine q_scald (m := L) hL (i.toInt + 1) hv1 hy_1 (fun v2 hv2 => ?_)
  rcases (show (v2.toInt = 0 ∧ ¬ (eA g0 173 0).toInt = 0) ∨ (v2.toInt = 0 ∧ (eA g0 173 0).toInt = 0) ∨ (v2.toInt = 1 ∧ ¬ (eA g0 173 1).toInt = 0) ∨ (v2.toInt = 1 ∧ (eA g0 173 1).toInt = 0) ∨ (v2.toInt < 0 ∨ 1 < v2.toInt) by omega) with u3 | u3 | u3 | u3 | u3
  · have n5_e : v2.toInt = 0 := by omega
    have n5_1 : v2.toInt ≠ 1 := by omega
    have n5_k : (eA g0 173 0).toInt ≠ 0 := by omega
    have n5_i := hR_7 (by omega)
    refine r_callV 1280 rfl [.ref 0, .int v2] [] (Nat.le_of_ble_eq_true rfl) rfl (T_X10_back_0 _ hI0 v2) ?_
    rintro _ _ ⟨g6, rfl, hI7, hF8, v9, rfl, hr10⟩
    refine At.sti ?_
    have hF11 := Fr.tr hF0 hF8 rfl rfl
    obtain ⟨p12, p13, p14, p15, p16, p17⟩ := hr10
    have w18 := p13 ⟨n5_e, n5_k⟩
    clear p13 p14 p15 p16 p17
    have f21 := congrArg Int32.toInt (hF8.1 59 0 rfl)
    have f22 := congrArg Int32.toInt (hF8.1 59 12 rfl)
    have f23 := congrArg Int32.toInt (hF8.1 59 10 rfl)
    have f24 := congrArg Int32.toInt (hF8.1 59 11 rfl)
    have f25 := congrArg Int32.toInt (hF8.1 116 0 rfl)
    have f26 := congrArg Int32.toInt (hF8.1 116 12 rfl)
    have f27 := congrArg Int32.toInt (hF8.1 116 10 rfl)
    have f28 := congrArg Int32.toInt (hF8.1 116 11 rfl)
    have f29 := congrArg Int32.toInt (eA_c (j := 0) (hF8.2.1 173 rfl))
    have f30 := congrArg Int32.toInt (eA_c (j := 1) (hF8.2.1 173 rfl))
    have f31 := congrArg Int32.toInt (hF8.1 174 1 rfl)
    have f32 := congrArg Int32.toInt (eA_c (j := 0) (hF8.2.1 233 rfl))
    have f33 := congrArg Int32.toInt (eA_c (j := 4) (hF8.2.1 233 rfl))
    have f34 := congrArg Int32.toInt (eA_c (j := 5) (hF8.2.1 233 rfl))
    have f35 := congrArg Int32.toInt (eA_c (j := 6) (hF8.2.1 233 rfl))
    have f36 := congrArg Int32.toInt (eA_c (j := 0) (hF8.2.1 234 rfl))
    have f37 := congrArg Int32.toInt (eA_c (j := 4) (hF8.2.1 234 rfl))
    have f38 := congrArg Int32.toInt (eA_c (j := 5) (hF8.2.1 234 rfl))
    have f39 := congrArg Int32.toInt (eA_c (j := 6) (hF8.2.1 234 rfl))
    have f40 := congrArg Int32.toInt (eA_c (j := 5510) (hF8.2.1 234 rfl))
    have f41 := congrArg Int32.toInt (eA_c (j := 5514) (hF8.2.1 234 rfl))
    have f42 := congrArg Int32.toInt (eA_c (j := 5515) (hF8.2.1 234 rfl))
    have f43 := congrArg Int32.toInt (eA_c (j := 5516) (hF8.2.1 234 rfl))
    have f44 := congrArg Int32.toInt (eA_c (j := 0) (hF8.2.1 235 rfl))
    have f45 := congrArg Int32.toInt (eA_c (j := 1) (hF8.2.1 235 rfl))
    have f46 := congrArg Int32.toInt (hF8.1 231 8 rfl)
    refine At.enter rfl ?_
    refine r_pop rfl ?_
    refine r_aload_n e2 ?_
    refine r_sload_n e0 ?_
    refine r_iload_n e3 ?_
    refine r_iconst 1 rfl ?_
    refine q_iadd (i.toInt + 1) rfl hx_1 (fun v47 hv47 => ?_)
    refine q_scald (m := L) hL (i.toInt + 1) hv47 hy_1 (fun v48 hv48 => ?_)
    have sv48 := hv2.symm.trans hv48
    subst sv48
    have n49_e : v2.toInt = 0 := by omega
    have n49_1 : v2.toInt ≠ 1 := by omega
    have n49_k : (eA g6 235 0).toInt ≠ 0 := by omega
    refine r_callV 1290 rfl [.ref 231, .int v2] [] (Nat.le_of_ble_eq_true rfl) rfl (T_X11_back_231 _ hI7 v2) ?_
    rintro _ _ ⟨g50, rfl, hI51, hF52, v53, rfl, hr54⟩
    refine At.sti ?_
    have hF55 := Fr.tr hF11 hF52 rfl rfl
    obtain ⟨p56, p57, p58, p59, p60, p61⟩ := hr54
    have w62 := p57 ⟨n49_e, n49_k⟩
    clear p57 p58 p59 p60 p61
    have f65 := congrArg Int32.toInt (hF52.1 1 0 rfl)
    have f66 := congrArg Int32.toInt (hF52.1 1 12 rfl)
    have f67 := congrArg Int32.toInt (hF52.1 1 10 rfl)
    have f68 := congrArg Int32.toInt (hF52.1 1 11 rfl)
    have f69 := congrArg Int32.toInt (hF52.1 59 0 rfl)
    have f70 := congrArg Int32.toInt (hF52.1 59 12 rfl)
    have f71 := congrArg Int32.toInt (hF52.1 59 10 rfl)
    have f72 := congrArg Int32.toInt (hF52.1 59 11 rfl)
    have f73 := congrArg Int32.toInt (hF52.1 116 0 rfl)
    have f74 := congrArg Int32.toInt (hF52.1 116 12 rfl)
    have f75 := congrArg Int32.toInt (hF52.1 116 10 rfl)
    have f76 := congrArg Int32.toInt (hF52.1 116 11 rfl)
    have f77 := congrArg Int32.toInt (eA_c (j := 0) (hF52.2.1 173 rfl))
    have f78 := congrArg Int32.toInt (eA_c (j := 1) (hF52.2.1 173 rfl))
    have f79 := congrArg Int32.toInt (hF52.1 174 1 rfl)
    have f80 := congrArg Int32.toInt (eA_c (j := 0) (hF52.2.1 234 rfl))
    have f81 := congrArg Int32.toInt (eA_c (j := 4) (hF52.2.1 234 rfl))
    have f82 := congrArg Int32.toInt (eA_c (j := 5) (hF52.2.1 234 rfl))
    have f83 := congrArg Int32.toInt (eA_c (j := 6) (hF52.2.1 234 rfl))
    have f84 := congrArg Int32.toInt (eA_c (j := 5510) (hF52.2.1 234 rfl))
    have f85 := congrArg Int32.toInt (eA_c (j := 5514) (hF52.2.1 234 rfl))
    have f86 := congrArg Int32.toInt (eA_c (j := 5515) (hF52.2.1 234 rfl))
    have f87 := congrArg Int32.toInt (eA_c (j := 5516) (hF52.2.1 234 rfl))
    have f88 := congrArg Int32.toInt (eA_c (j := 0) (hF52.2.1 235 rfl))
    have f89 := congrArg Int32.toInt (eA_c (j := 1) (hF52.2.1 235 rfl))
    have f90 := congrArg Int32.toInt (hF52.1 231 8 rfl)
    refine At.enter rfl ?_
    refine r_pop rfl ?_
    refine r_goto ?_
    exact K _ hI51 (show LwR _ from ⟨by omega, by omega, by omega, by omega, by omega, by omega, by omega, IM0.cong hR_7 (by omega) (by omega) (by omega) (by omega) (by omega) (by omega) (by omega) (by omega) (by omega), IM1.cong hR_8 (by omega) (by omega) (by omega) (by omega) (by omega) (by omega) (by omega) (by omega) (by omega)⟩)
  · have n91_e : v2.toInt = 0 := by omega
    have n91_1 : v2.toInt ≠ 1 := by omega
    have n91_k : (eA g0 173 0).toInt = 0 := by omega
    refine r_callV 1280 rfl [.ref 0, .int v2] [] (Nat.le_of_ble_eq_true rfl) rfl (T_X10_back_0 _ hI0 v2) ?_
    rintro _ _ ⟨g92, rfl, hI93, hF94, v95, rfl, hr96⟩
    refine At.sti ?_
    have hF97 := Fr.tr hF0 hF94 rfl rfl
    obtain ⟨p98, p99, p100, p101, p102, p103⟩ := hr96
    have w104 := p101 ⟨fun h => h.2 n91_k, fun h => n91_1 h.1⟩
    have w105 := p103 ⟨by omega, by omega, fun h => h.2 n91_k, fun h => n91_1 h.1⟩
    clear p99 p100 p101 p102 p103
    have f107 := congrArg Int32.toInt (hF94.1 59 0 rfl)
    have f108 := congrArg Int32.toInt (hF94.1 59 12 rfl)
    have f109 := congrArg Int32.toInt (hF94.1 59 10 rfl)
    have f110 := congrArg Int32.toInt (hF94.1 59 11 rfl)
    have f111 := congrArg Int32.toInt (hF94.1 116 0 rfl)
    have f112 := congrArg Int32.toInt (hF94.1 116 12 rfl)
    have f113 := congrArg Int32.toInt (hF94.1 116 10 rfl)
    have f114 := congrArg Int32.toInt (hF94.1 116 11 rfl)
    have f115 := congrArg Int32.toInt (eA_c (j := 0) (hF94.2.1 173 rfl))
    have f116 := congrArg Int32.toInt (eA_c (j := 1) (hF94.2.1 173 rfl))
    have f117 := congrArg Int32.toInt (hF94.1 174 1 rfl)
    have f118 := congrArg Int32.toInt (eA_c (j := 0) (hF94.2.1 233 rfl))
    have f119 := congrArg Int32.toInt (eA_c (j := 4) (hF94.2.1 233 rfl))
    have f120 := congrArg Int32.toInt (eA_c (j := 5) (hF94.2.1 233 rfl))
    have f121 := congrArg Int32.toInt (eA_c (j := 6) (hF94.2.1 233 rfl))
    have f122 := congrArg Int32.toInt (eA_c (j := 0) (hF94.2.1 234 rfl))
    have f123 := congrArg Int32.toInt (eA_c (j := 4) (hF94.2.1 234 rfl))
    have f124 := congrArg Int32.toInt (eA_c (j := 5) (hF94.2.1 234 rfl))
    have f125 := congrArg Int32.toInt (eA_c (j := 6) (hF94.2.1 234 rfl))
    have f126 := congrArg Int32.toInt (eA_c (j := 5510) (hF94.2.1 234 rfl))
    have f127 := congrArg Int32.toInt (eA_c (j := 5514) (hF94.2.1 234 rfl))
    have f128 := congrArg Int32.toInt (eA_c (j := 5515) (hF94.2.1 234 rfl))
    have f129 := congrArg Int32.toInt (eA_c (j := 5516) (hF94.2.1 234 rfl))
    have f130 := congrArg Int32.toInt (eA_c (j := 0) (hF94.2.1 235 rfl))
    have f131 := congrArg Int32.toInt (eA_c (j := 1) (hF94.2.1 235 rfl))
    have f132 := congrArg Int32.toInt (hF94.1 231 8 rfl)
    refine At.enter rfl ?_
    refine r_pop rfl ?_
    refine r_aload_n e2 ?_
    refine r_sload_n e0 ?_
    refine r_iload_n e3 ?_
    refine r_iconst 1 rfl ?_
    refine q_iadd (i.toInt + 1) rfl hx_1 (fun v133 hv133 => ?_)
    refine q_scald (m := L) hL (i.toInt + 1) hv133 hy_1 (fun v134 hv134 => ?_)
    have sv134 := hv2.symm.trans hv134
    subst sv134
    have n135_e : v2.toInt = 0 := by omega
    have n135_1 : v2.toInt ≠ 1 := by omega
    have n135_k : (eA g92 235 0).toInt = 0 := by omega
    refine r_callV 1290 rfl [.ref 231, .int v2] [] (Nat.le_of_ble_eq_true rfl) rfl (T_X11_back_231 _ hI93 v2) ?_
    rintro _ _ ⟨g136, rfl, hI137, hF138, v139, rfl, hr140⟩
    refine At.sti ?_
    have hF141 := Fr.tr hF97 hF138 rfl rfl
    obtain ⟨p142, p143, p144, p145, p146, p147⟩ := hr140
    have w148 := p145 ⟨fun h => h.2 n135_k, fun h => n135_1 h.1⟩
    have w149 := p147 ⟨by omega, by omega, fun h => h.2 n135_k, fun h => n135_1 h.1⟩
    clear p143 p144 p145 p146 p147
    have f151 := congrArg Int32.toInt (hF138.1 1 0 rfl)
    have f152 := congrArg Int32.toInt (hF138.1 1 12 rfl)
    have f153 := congrArg Int32.toInt (hF138.1 1 10 rfl)
    have f154 := congrArg Int32.toInt (hF138.1 1 11 rfl)
    have f155 := congrArg Int32.toInt (hF138.1 59 0 rfl)
    have f156 := congrArg Int32.toInt (hF138.1 59 12 rfl)
    have f157 := congrArg Int32.toInt (hF138.1 59 10 rfl)
    have f158 := congrArg Int32.toInt (hF138.1 59 11 rfl)
    have f159 := congrArg Int32.toInt (hF138.1 116 0 rfl)
    have f160 := congrArg Int32.toInt (hF138.1 116 12 rfl)
    have f161 := congrArg Int32.toInt (hF138.1 116 10 rfl)
    have f162 := congrArg Int32.toInt (hF138.1 116 11 rfl)
    have f163 := congrArg Int32.toInt (eA_c (j := 0) (hF138.2.1 173 rfl))
    have f164 := congrArg Int32.toInt (eA_c (j := 1) (hF138.2.1 173 rfl))
    have f165 := congrArg Int32.toInt (hF138.1 174 1 rfl)
    have f166 := congrArg Int32.toInt (eA_c (j := 0) (hF138.2.1 234 rfl))
    have f167 := congrArg Int32.toInt (eA_c (j := 4) (hF138.2.1 234 rfl))
    have f168 := congrArg Int32.toInt (eA_c (j := 5) (hF138.2.1 234 rfl))
    have f169 := congrArg Int32.toInt (eA_c (j := 6) (hF138.2.1 234 rfl))
    have f170 := congrArg Int32.toInt (eA_c (j := 5510) (hF138.2.1 234 rfl))
    have f171 := congrArg Int32.toInt (eA_c (j := 5514) (hF138.2.1 234 rfl))
    have f172 := congrArg Int32.toInt (eA_c (j := 5515) (hF138.2.1 234 rfl))
    have f173 := congrArg Int32.toInt (eA_c (j := 5516) (hF138.2.1 234 rfl))
    have f174 := congrArg Int32.toInt (eA_c (j := 0) (hF138.2.1 235 rfl))
    have f175 := congrArg Int32.toInt (eA_c (j := 1) (hF138.2.1 235 rfl))
    have f176 := congrArg Int32.toInt (hF138.1 231 8 rfl)
    refine At.enter rfl ?_
    refine r_pop rfl ?_
    refine r_goto ?_
    exact K _ hI137 (show LwR _ from ⟨by omega, by omega, by omega, by omega, by omega, by omega, by omega, IM0.cong hR_7 (by omega) (by omega) (by omega) (by omega) (by omega) (by omega) (by omega) (by omega) (by omega), IM1.cong hR_8 (by omega) (by omega) (by omega) (by omega) (by omega) (by omega) (by omega) (by omega) (by omega)⟩)
  · have n177_e : v2.toInt = 1 := by omega
    have n177_0 : v2.toInt ≠ 0 := by omega
    have n177_k : (eA g0 173 1).toInt ≠ 0 := by omega
    have n177_i := hR_8 (by omega)
    refine r_callV 1280 rfl [.ref 0, .int v2] [] (Nat.le_of_ble_eq_true rfl) rfl (T_X10_back_0 _ hI0 v2) ?_
    rintro _ _ ⟨g178, rfl, hI179, hF180, v181, rfl, hr182⟩
    refine At.sti ?_
    have hF183 := Fr.tr hF0 hF180 rfl rfl
    obtain ⟨p184, p185, p186, p187, p188, p189⟩ := hr182
    have w190 := p186 ⟨n177_e, n177_k⟩
    clear p185 p186 p187 p188 p189
    have f193 := congrArg Int32.toInt (hF180.1 59 0 rfl)
    have f194 := congrArg Int32.toInt (hF180.1 59 12 rfl)
    have f195 := congrArg Int32.toInt (hF180.1 59 10 rfl)
    have f196 := congrArg Int32.toInt (hF180.1 59 11 rfl)
    have f197 := congrArg Int32.toInt (hF180.1 116 0 rfl)
    have f198 := congrArg Int32.toInt (hF180.1 116 12 rfl)
    have f199 := congrArg Int32.toInt (hF180.1 116 10 rfl)
    have f200 := congrArg Int32.toInt (hF180.1 116 11 rfl)
    have f201 := congrArg Int32.toInt (eA_c (j := 0) (hF180.2.1 173 rfl))
    have f202 := congrArg Int32.toInt (eA_c (j := 1) (hF180.2.1 173 rfl))
    have f203 := congrArg Int32.toInt (hF180.1 174 1 rfl)
    have f204 := congrArg Int32.toInt (eA_c (j := 0) (hF180.2.1 233 rfl))
    have f205 := congrArg Int32.toInt (eA_c (j := 4) (hF180.2.1 233 rfl))
    have f206 := congrArg Int32.toInt (eA_c (j := 5) (hF180.2.1 233 rfl))
    have f207 := congrArg Int32.toInt (eA_c (j := 6) (hF180.2.1 233 rfl))
    have f208 := congrArg Int32.toInt (eA_c (j := 0) (hF180.2.1 234 rfl))
    have f209 := congrArg Int32.toInt (eA_c (j := 4) (hF180.2.1 234 rfl))
    have f210 := congrArg Int32.toInt (eA_c (j := 5) (hF180.2.1 234 rfl))
    have f211 := congrArg Int32.toInt (eA_c (j := 6) (hF180.2.1 234 rfl))
    have f212 := congrArg Int32.toInt (eA_c (j := 5510) (hF180.2.1 234 rfl))
    have f213 := congrArg Int32.toInt (eA_c (j := 5514) (hF180.2.1 234 rfl))
    have f214 := congrArg Int32.toInt (eA_c (j := 5515) (hF180.2.1 234 rfl))
    have f215 := congrArg Int32.toInt (eA_c (j := 5516) (hF180.2.1 234 rfl))
    have f216 := congrArg Int32.toInt (eA_c (j := 0) (hF180.2.1 235 rfl))
    have f217 := congrArg Int32.toInt (eA_c (j := 1) (hF180.2.1 235 rfl))
    have f218 := congrArg Int32.toInt (hF180.1 231 8 rfl)
    refine At.enter rfl ?_
    refine r_pop rfl ?_
    refine r_aload_n e2 ?_
    refine r_sload_n e0 ?_
    refine r_iload_n e3 ?_
    refine r_iconst 1 rfl ?_
    refine q_iadd (i.toInt + 1) rfl hx_1 (fun v219 hv219 => ?_)
    refine q_scald (m := L) hL (i.toInt + 1) hv219 hy_1 (fun v220 hv220 => ?_)
    have sv220 := hv2.symm.trans hv220
    subst sv220
    have n221_e : v2.toInt = 1 := by omega
    have n221_0 : v2.toInt ≠ 0 := by omega
    have n221_k : (eA g178 235 1).toInt ≠ 0 := by omega
    refine r_callV 1290 rfl [.ref 231, .int v2] [] (Nat.le_of_ble_eq_true rfl) rfl (T_X11_back_231 _ hI179 v2) ?_
    rintro _ _ ⟨g222, rfl, hI223, hF224, v225, rfl, hr226⟩
    refine At.sti ?_
    have hF227 := Fr.tr hF183 hF224 rfl rfl
    obtain ⟨p228, p229, p230, p231, p232, p233⟩ := hr226
    have w234 := p230 ⟨n221_e, n221_k⟩
    clear p229 p230 p231 p232 p233
    have f237 := congrArg Int32.toInt (hF224.1 1 0 rfl)
    have f238 := congrArg Int32.toInt (hF224.1 1 12 rfl)
    have f239 := congrArg Int32.toInt (hF224.1 1 10 rfl)
    have f240 := congrArg Int32.toInt (hF224.1 1 11 rfl)
    have f241 := congrArg Int32.toInt (hF224.1 59 0 rfl)
    have f242 := congrArg Int32.toInt (hF224.1 59 12 rfl)
    have f243 := congrArg Int32.toInt (hF224.1 59 10 rfl)
    have f244 := congrArg Int32.toInt (hF224.1 59 11 rfl)
    have f245 := congrArg Int32.toInt (hF224.1 116 0 rfl)
    have f246 := congrArg Int32.toInt (hF224.1 116 12 rfl)
    have f247 := congrArg Int32.toInt (hF224.1 116 10 rfl)
    have f248 := congrArg Int32.toInt (hF224.1 116 11 rfl)
    have f249 := congrArg Int32.toInt (eA_c (j := 0) (hF224.2.1 173 rfl))
    have f250 := congrArg Int32.toInt (eA_c (j := 1) (hF224.2.1 173 rfl))
    have f251 := congrArg Int32.toInt (hF224.1 174 1 rfl)
    have f252 := congrArg Int32.toInt (eA_c (j := 0) (hF224.2.1 234 rfl))
    have f253 := congrArg Int32.toInt (eA_c (j := 4) (hF224.2.1 234 rfl))
    have f254 := congrArg Int32.toInt (eA_c (j := 5) (hF224.2.1 234 rfl))
    have f255 := congrArg Int32.toInt (eA_c (j := 6) (hF224.2.1 234 rfl))
    have f256 := congrArg Int32.toInt (eA_c (j := 5510) (hF224.2.1 234 rfl))
    have f257 := congrArg Int32.toInt (eA_c (j := 5514) (hF224.2.1 234 rfl))
    have f258 := congrArg Int32.toInt (eA_c (j := 5515) (hF224.2.1 234 rfl))
    have f259 := congrArg Int32.toInt (eA_c (j := 5516) (hF224.2.1 234 rfl))
    have f260 := congrArg Int32.toInt (eA_c (j := 0) (hF224.2.1 235 rfl))
    have f261 := congrArg Int32.toInt (eA_c (j := 1) (hF224.2.1 235 rfl))
    have f262 := congrArg Int32.toInt (hF224.1 231 8 rfl)
    refine At.enter rfl ?_
    refine r_pop rfl ?_
    refine r_goto ?_
    exact K _ hI223 (show LwR _ from ⟨by omega, by omega, by omega, by omega, by omega, by omega, by omega, IM0.cong hR_7 (by omega) (by omega) (by omega) (by omega) (by omega) (by omega) (by omega) (by omega) (by omega), IM1.cong hR_8 (by omega) (by omega) (by omega) (by omega) (by omega) (by omega) (by omega) (by omega) (by omega)⟩)
  · have n263_e : v2.toInt = 1 := by omega
    have n263_0 : v2.toInt ≠ 0 := by omega
    have n263_k : (eA g0 173 1).toInt = 0 := by omega
    refine r_callV 1280 rfl [.ref 0, .int v2] [] (Nat.le_of_ble_eq_true rfl) rfl (T_X10_back_0 _ hI0 v2) ?_
    rintro _ _ ⟨g264, rfl, hI265, hF266, v267, rfl, hr268⟩
    refine At.sti ?_
    have hF269 := Fr.tr hF0 hF266 rfl rfl
    obtain ⟨p270, p271, p272, p273, p274, p275⟩ := hr268
    have w276 := p273 ⟨fun h => n263_0 h.1, fun h => h.2 n263_k⟩
    have w277 := p275 ⟨by omega, by omega, fun h => n263_0 h.1, fun h => h.2 n263_k⟩
    clear p271 p272 p273 p274 p275
    have f279 := congrArg Int32.toInt (hF266.1 59 0 rfl)
    have f280 := congrArg Int32.toInt (hF266.1 59 12 rfl)
    have f281 := congrArg Int32.toInt (hF266.1 59 10 rfl)
    have f282 := congrArg Int32.toInt (hF266.1 59 11 rfl)
    have f283 := congrArg Int32.toInt (hF266.1 116 0 rfl)
    have f284 := congrArg Int32.toInt (hF266.1 116 12 rfl)
    have f285 := congrArg Int32.toInt (hF266.1 116 10 rfl)
    have f286 := congrArg Int32.toInt (hF266.1 116 11 rfl)
    have f287 := congrArg Int32.toInt (eA_c (j := 0) (hF266.2.1 173 rfl))
    have f288 := congrArg Int32.toInt (eA_c (j := 1) (hF266.2.1 173 rfl))
    have f289 := congrArg Int32.toInt (hF266.1 174 1 rfl)
    have f290 := congrArg Int32.toInt (eA_c (j := 0) (hF266.2.1 233 rfl))
    have f291 := congrArg Int32.toInt (eA_c (j := 4) (hF266.2.1 233 rfl))
    have f292 := congrArg Int32.toInt (eA_c (j := 5) (hF266.2.1 233 rfl))
    have f293 := congrArg Int32.toInt (eA_c (j := 6) (hF266.2.1 233 rfl))
    have f294 := congrArg Int32.toInt (eA_c (j := 0) (hF266.2.1 234 rfl))
    have f295 := congrArg Int32.toInt (eA_c (j := 4) (hF266.2.1 234 rfl))
    have f296 := congrArg Int32.toInt (eA_c (j := 5) (hF266.2.1 234 rfl))
    have f297 := congrArg Int32.toInt (eA_c (j := 6) (hF266.2.1 234 rfl))
    have f298 := congrArg Int32.toInt (eA_c (j := 5510) (hF266.2.1 234 rfl))
    have f299 := congrArg Int32.toInt (eA_c (j := 5514) (hF266.2.1 234 rfl))
    have f300 := congrArg Int32.toInt (eA_c (j := 5515) (hF266.2.1 234 rfl))
    have f301 := congrArg Int32.toInt (eA_c (j := 5516) (hF266.2.1 234 rfl))
    have f302 := congrArg Int32.toInt (eA_c (j := 0) (hF266.2.1 235 rfl))
    have f303 := congrArg Int32.toInt (eA_c (j := 1) (hF266.2.1 235 rfl))
    have f304 := congrArg Int32.toInt (hF266.1 231 8 rfl)
    refine At.enter rfl ?_
    refine r_pop rfl ?_
    refine r_aload_n e2 ?_
    refine r_sload_n e0 ?_
    refine r_iload_n e3 ?_
    refine r_iconst 1 rfl ?_
    refine q_iadd (i.toInt + 1) rfl hx_1 (fun v305 hv305 => ?_)
    refine q_scald (m := L) hL (i.toInt + 1) hv305 hy_1 (fun v306 hv306 => ?_)
    have sv306 := hv2.symm.trans hv306
    subst sv306
    have n307_e : v2.toInt = 1 := by omega
    have n307_0 : v2.toInt ≠ 0 := by omega
    have n307_k : (eA g264 235 1).toInt = 0 := by omega
    refine r_callV 1290 rfl [.ref 231, .int v2] [] (Nat.le_of_ble_eq_true rfl) rfl (T_X11_back_231 _ hI265 v2) ?_
    rintro _ _ ⟨g308, rfl, hI309, hF310, v311, rfl, hr312⟩
    refine At.sti ?_
    have hF313 := Fr.tr hF269 hF310 rfl rfl
    obtain ⟨p314, p315, p316, p317, p318, p319⟩ := hr312
    have w320 := p317 ⟨fun h => n307_0 h.1, fun h => h.2 n307_k⟩
    have w321 := p319 ⟨by omega, by omega, fun h => n307_0 h.1, fun h => h.2 n307_k⟩
    clear p315 p316 p317 p318 p319
    have f323 := congrArg Int32.toInt (hF310.1 1 0 rfl)
    have f324 := congrArg Int32.toInt (hF310.1 1 12 rfl)
    have f325 := congrArg Int32.toInt (hF310.1 1 10 rfl)
    have f326 := congrArg Int32.toInt (hF310.1 1 11 rfl)
    have f327 := congrArg Int32.toInt (hF310.1 59 0 rfl)
    have f328 := congrArg Int32.toInt (hF310.1 59 12 rfl)
    have f329 := congrArg Int32.toInt (hF310.1 59 10 rfl)
    have f330 := congrArg Int32.toInt (hF310.1 59 11 rfl)
    have f331 := congrArg Int32.toInt (hF310.1 116 0 rfl)
    have f332 := congrArg Int32.toInt (hF310.1 116 12 rfl)
    have f333 := congrArg Int32.toInt (hF310.1 116 10 rfl)
    have f334 := congrArg Int32.toInt (hF310.1 116 11 rfl)
    have f335 := congrArg Int32.toInt (eA_c (j := 0) (hF310.2.1 173 rfl))
    have f336 := congrArg Int32.toInt (eA_c (j := 1) (hF310.2.1 173 rfl))
    have f337 := congrArg Int32.toInt (hF310.1 174 1 rfl)
    have f338 := congrArg Int32.toInt (eA_c (j := 0) (hF310.2.1 234 rfl))
    have f339 := congrArg Int32.toInt (eA_c (j := 4) (hF310.2.1 234 rfl))
    have f340 := congrArg Int32.toInt (eA_c (j := 5) (hF310.2.1 234 rfl))
    have f341 := congrArg Int32.toInt (eA_c (j := 6) (hF310.2.1 234 rfl))
    have f342 := congrArg Int32.toInt (eA_c (j := 5510) (hF310.2.1 234 rfl))
    have f343 := congrArg Int32.toInt (eA_c (j := 5514) (hF310.2.1 234 rfl))
    have f344 := congrArg Int32.toInt (eA_c (j := 5515) (hF310.2.1 234 rfl))
    have f345 := congrArg Int32.toInt (eA_c (j := 5516) (hF310.2.1 234 rfl))
    have f346 := congrArg Int32.toInt (eA_c (j := 0) (hF310.2.1 235 rfl))
    have f347 := congrArg Int32.toInt (eA_c (j := 1) (hF310.2.1 235 rfl))
    have f348 := congrArg Int32.toInt (hF310.1 231 8 rfl)
    refine At.enter rfl ?_
    refine r_pop rfl ?_
    refine r_goto ?_
    exact K _ hI309 (show LwR _ from ⟨by omega, by omega, by omega, by omega, by omega, by omega, by omega, IM0.cong hR_7 (by omega) (by omega) (by omega) (by omega) (by omega) (by omega) (by omega) (by omega) (by omega), IM1.cong hR_8 (by omega) (by omega) (by omega) (by omega) (by omega) (by omega) (by omega) (by omega) (by omega)⟩)
  · have n349_e : (v2.toInt < 0 ∨ 1 < v2.toInt) := by omega
    have n349_0 : v2.toInt ≠ 0 := by omega
    have n349_1 : v2.toInt ≠ 1 := by omega
    refine r_callV 1280 rfl [.ref 0, .int v2] [] (Nat.le_of_ble_eq_true rfl) rfl (T_X10_back_0 _ hI0 v2) ?_
    rintro _ _ ⟨g350, rfl, hI351, hF352, v353, rfl, hr354⟩
    refine At.sti ?_
    have hF355 := Fr.tr hF0 hF352 rfl rfl
    obtain ⟨p356, p357, p358, p359, p360, p361⟩ := hr354
    have w362 := p360 n349_e
    have w363 := p359 ⟨fun h => n349_0 h.1, fun h => n349_1 h.1⟩
    clear p357 p358 p359 p360 p361
    have f365 := congrArg Int32.toInt (hF352.1 59 0 rfl)
    have f366 := congrArg Int32.toInt (hF352.1 59 12 rfl)
    have f367 := congrArg Int32.toInt (hF352.1 59 10 rfl)
    have f368 := congrArg Int32.toInt (hF352.1 59 11 rfl)
    have f369 := congrArg Int32.toInt (hF352.1 116 0 rfl)
    have f370 := congrArg Int32.toInt (hF352.1 116 12 rfl)
    have f371 := congrArg Int32.toInt (hF352.1 116 10 rfl)
    have f372 := congrArg Int32.toInt (hF352.1 116 11 rfl)
    have f373 := congrArg Int32.toInt (eA_c (j := 0) (hF352.2.1 173 rfl))
    have f374 := congrArg Int32.toInt (eA_c (j := 1) (hF352.2.1 173 rfl))
    have f375 := congrArg Int32.toInt (hF352.1 174 1 rfl)
    have f376 := congrArg Int32.toInt (eA_c (j := 0) (hF352.2.1 233 rfl))
    have f377 := congrArg Int32.toInt (eA_c (j := 4) (hF352.2.1 233 rfl))
    have f378 := congrArg Int32.toInt (eA_c (j := 5) (hF352.2.1 233 rfl))
    have f379 := congrArg Int32.toInt (eA_c (j := 6) (hF352.2.1 233 rfl))
    have f380 := congrArg Int32.toInt (eA_c (j := 0) (hF352.2.1 234 rfl))
    have f381 := congrArg Int32.toInt (eA_c (j := 4) (hF352.2.1 234 rfl))
    have f382 := congrArg Int32.toInt (eA_c (j := 5) (hF352.2.1 234 rfl))
    have f383 := congrArg Int32.toInt (eA_c (j := 6) (hF352.2.1 234 rfl))
    have f384 := congrArg Int32.toInt (eA_c (j := 5510) (hF352.2.1 234 rfl))
    have f385 := congrArg Int32.toInt (eA_c (j := 5514) (hF352.2.1 234 rfl))
    have f386 := congrArg Int32.toInt (eA_c (j := 5515) (hF352.2.1 234 rfl))
    have f387 := congrArg Int32.toInt (eA_c (j := 5516) (hF352.2.1 234 rfl))
    have f388 := congrArg Int32.toInt (eA_c (j := 0) (hF352.2.1 235 rfl))
    have f389 := congrArg Int32.toInt (eA_c (j := 1) (hF352.2.1 235 rfl))
    have f390 := congrArg Int32.toInt (hF352.1 231 8 rfl)
    refine At.enter rfl ?_
    refine r_pop rfl ?_
    refine r_aload_n e2 ?_
    refine r_sload_n e0 ?_
    refine r_iload_n e3 ?_
    refine r_iconst 1 rfl ?_
    refine q_iadd (i.toInt + 1) rfl hx_1 (fun v391 hv391 => ?_)
    refine q_scald (m := L) hL (i.toInt + 1) hv391 hy_1 (fun v392 hv392 => ?_)
    have sv392 := hv2.symm.trans hv392
    subst sv392
    have n393_e : (v2.toInt < 0 ∨ 1 < v2.toInt) := by omega
    have n393_0 : v2.toInt ≠ 0 := by omega
    have n393_1 : v2.toInt ≠ 1 := by omega
    refine r_callV 1290 rfl [.ref 231, .int v2] [] (Nat.le_of_ble_eq_true rfl) rfl (T_X11_back_231 _ hI351 v2) ?_
    rintro _ _ ⟨g394, rfl, hI395, hF396, v397, rfl, hr398⟩
    refine At.sti ?_
    have hF399 := Fr.tr hF355 hF396 rfl rfl
    obtain ⟨p400, p401, p402, p403, p404, p405⟩ := hr398
    have w406 := p404 n393_e
    have w407 := p403 ⟨fun h => n393_0 h.1, fun h => n393_1 h.1⟩
    clear p401 p402 p403 p404 p405
    have f409 := congrArg Int32.toInt (hF396.1 1 0 rfl)
    have f410 := congrArg Int32.toInt (hF396.1 1 12 rfl)
    have f411 := congrArg Int32.toInt (hF396.1 1 10 rfl)
    have f412 := congrArg Int32.toInt (hF396.1 1 11 rfl)
    have f413 := congrArg Int32.toInt (hF396.1 59 0 rfl)
    have f414 := congrArg Int32.toInt (hF396.1 59 12 rfl)
    have f415 := congrArg Int32.toInt (hF396.1 59 10 rfl)
    have f416 := congrArg Int32.toInt (hF396.1 59 11 rfl)
    have f417 := congrArg Int32.toInt (hF396.1 116 0 rfl)
    have f418 := congrArg Int32.toInt (hF396.1 116 12 rfl)
    have f419 := congrArg Int32.toInt (hF396.1 116 10 rfl)
    have f420 := congrArg Int32.toInt (hF396.1 116 11 rfl)
    have f421 := congrArg Int32.toInt (eA_c (j := 0) (hF396.2.1 173 rfl))
    have f422 := congrArg Int32.toInt (eA_c (j := 1) (hF396.2.1 173 rfl))
    have f423 := congrArg Int32.toInt (hF396.1 174 1 rfl)
    have f424 := congrArg Int32.toInt (eA_c (j := 0) (hF396.2.1 234 rfl))
    have f425 := congrArg Int32.toInt (eA_c (j := 4) (hF396.2.1 234 rfl))
    have f426 := congrArg Int32.toInt (eA_c (j := 5) (hF396.2.1 234 rfl))
    have f427 := congrArg Int32.toInt (eA_c (j := 6) (hF396.2.1 234 rfl))
    have f428 := congrArg Int32.toInt (eA_c (j := 5510) (hF396.2.1 234 rfl))
    have f429 := congrArg Int32.toInt (eA_c (j := 5514) (hF396.2.1 234 rfl))
    have f430 := congrArg Int32.toInt (eA_c (j := 5515) (hF396.2.1 234 rfl))
    have f431 := congrArg Int32.toInt (eA_c (j := 5516) (hF396.2.1 234 rfl))
    have f432 := congrArg Int32.toInt (eA_c (j := 0) (hF396.2.1 235 rfl))
    have f433 := congrArg Int32.toInt (eA_c (j := 1) (hF396.2.1 235 rfl))
    have f434 := congrArg Int32.toInt (hF396.1 231 8 rfl)
    refine At.enter rfl ?_
    refine r_pop rfl ?_
    refine r_goto ?_
    exact K _ hI395 (show LwR _ from ⟨by omega, by omega, by omega, by omega, by omega, by omega, by omega, IM0.cong hR_7 (by omega) (by omega) (by omega) (by omega) (by omega) (by omega) (by omega) (by omega) (by omega), IM1.cong hR_8 (by omega) (by omega) (by omega) (by omega) (by omega) (by omega) (by omega) (by omega) (by omega)⟩)
