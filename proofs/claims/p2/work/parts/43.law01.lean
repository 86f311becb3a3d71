set_option maxRecDepth 100000 in
set_option maxHeartbeats 8000000 in
theorem lq_c7 (d : Nat) {N : Nat} {g0 : List en_E} (hI0 : HI g0) (hR0 : LwR g0) {ys : List Int32} {L : Nat} (hL : ys.length = L) (hL2 : L ≤ 3584) {l : en_L} {i : Int32} (e0 : en_get 0 l = some (.float 0)) (e1 : en_get 1 l = some (.ref 0)) (e2 : en_get 2 l = some (.ref 231)) (e3 : en_get 3 l = some (.int i)) (hi : 0 ≤ i.toInt ∧ i.toInt + 7 ≤ L) {Ph : Option Value → en_H → Prop} (K : ∀ g1 : List en_E, HI g1 → LwR g1 → At (d + 423) (some ys) (some .boolean) bs_L_law (1330, l, [], (g1, N)) Ph) : At (d + 423) (some ys) (some .boolean) bs_L_law (491, l, [], (g0, N)) Ph := by
  have hF0 : Fr F_law A_law g0 g0 := Fr.rf
  unfold LwR at hR0
  refine At.enter rfl ?_
  refine r_aload_n e1 ?_
  refine r_sload_n e0 ?_
  refine r_iload_n e3 ?_
  refine r_iconst 1 rfl ?_
  refine q_iadd (i.toInt + 1) rfl (by omega) (fun v1 hv1 => ?_)
  refine q_scald (m := L) hL ((i.toInt + 1)) (by omega) (by omega) (fun v2 hv2 => ?_)
  refine r_sload_n e0 ?_
  refine r_iload_n e3 ?_
  refine r_iconst 2 rfl ?_
  refine q_iadd (i.toInt + 2) rfl (by omega) (fun v3 hv3 => ?_)
  refine q_scald (m := L) hL ((i.toInt + 2)) (by omega) (by omega) (fun v4 hv4 => ?_)
  refine r_sload_n e0 ?_
  refine r_iload_n e3 ?_
  refine r_iconst 3 rfl ?_
  refine q_iadd (i.toInt + 3) rfl (by omega) (fun v5 hv5 => ?_)
  refine q_scald (m := L) hL ((i.toInt + 3)) (by omega) (by omega) (fun v6 hv6 => ?_)
  refine r_sload_n e0 ?_
  refine r_iload_n e3 ?_
  refine r_iconst 4 rfl ?_
  refine q_iadd (i.toInt + 4) rfl (by omega) (fun v7 hv7 => ?_)
  refine q_scald (m := L) hL ((i.toInt + 4)) (by omega) (by omega) (fun v8 hv8 => ?_)
  refine r_sload_n e0 ?_
  refine r_iload_n e3 ?_
  refine r_iconst 5 rfl ?_
  refine q_iadd (i.toInt + 5) rfl (by omega) (fun v9 hv9 => ?_)
  refine q_scald (m := L) hL ((i.toInt + 5)) (by omega) (by omega) (fun v10 hv10 => ?_)
  refine r_callV 520 rfl [.ref 0, .int v2, .int v4, .int v6, .int v8, .int v10] [] (Nat.le_of_ble_eq_true rfl) rfl (T_X10_feed_0 _ hI0 v2 v4 v6 v8 v10) ?_
  rintro _ _ ⟨g11, rfl, hI12, hF13, v14, rfl, hr15⟩
  refine At.sti ?_
  have hF16 := Fr.tr hF0 hF13 rfl rfl
  have f17 := congrArg Int32.toInt (hF13.1 1 0 rfl)
  have f18 := congrArg Int32.toInt (hF13.1 59 0 rfl)
  have f19 := congrArg Int32.toInt (hF13.1 116 0 rfl)
  have f20 := congrArg Int32.toInt (eA_c (j := 0) (hF13.2.1 173 rfl))
  have f21 := congrArg Int32.toInt (eA_c (j := 1) (hF13.2.1 173 rfl))
  have f22 := congrArg Int32.toInt (eA_c (j := 0) (hF13.2.1 233 rfl))
  have f23 := congrArg Int32.toInt (eA_c (j := 0) (hF13.2.1 234 rfl))
  have f24 := congrArg Int32.toInt (eA_c (j := 5510) (hF13.2.1 234 rfl))
  have f25 := congrArg Int32.toInt (eA_c (j := 0) (hF13.2.1 235 rfl))
  have f26 := congrArg Int32.toInt (eA_c (j := 1) (hF13.2.1 235 rfl))
  refine At.enter rfl ?_
  refine r_pop rfl ?_
  refine r_aload_n e2 ?_
  refine r_sload_n e0 ?_
  refine r_iload_n e3 ?_
  refine r_iconst 1 rfl ?_
  refine q_iadd (i.toInt + 1) rfl (by omega) (fun v27 hv27 => ?_)
  refine q_scald (m := L) hL ((i.toInt + 1)) (by omega) (by omega) (fun v28 hv28 => ?_)
  have sv28 := congrArg Int32.toInt (hv2.symm.trans hv28)
  refine r_sload_n e0 ?_
  refine r_iload_n e3 ?_
  refine r_iconst 2 rfl ?_
  refine q_iadd (i.toInt + 2) rfl (by omega) (fun v29 hv29 => ?_)
  refine q_scald (m := L) hL ((i.toInt + 2)) (by omega) (by omega) (fun v30 hv30 => ?_)
  have sv30 := congrArg Int32.toInt (hv4.symm.trans hv30)
  refine r_sload_n e0 ?_
  refine r_iload_n e3 ?_
  refine r_iconst 3 rfl ?_
  refine q_iadd (i.toInt + 3) rfl (by omega) (fun v31 hv31 => ?_)
  refine q_scald (m := L) hL ((i.toInt + 3)) (by omega) (by omega) (fun v32 hv32 => ?_)
  have sv32 := congrArg Int32.toInt (hv6.symm.trans hv32)
  refine r_sload_n e0 ?_
  refine r_iload_n e3 ?_
  refine r_iconst 4 rfl ?_
  refine q_iadd (i.toInt + 4) rfl (by omega) (fun v33 hv33 => ?_)
  refine q_scald (m := L) hL ((i.toInt + 4)) (by omega) (by omega) (fun v34 hv34 => ?_)
  have sv34 := congrArg Int32.toInt (hv8.symm.trans hv34)
  refine r_sload_n e0 ?_
  refine r_iload_n e3 ?_
  refine r_iconst 5 rfl ?_
  refine q_iadd (i.toInt + 5) rfl (by omega) (fun v35 hv35 => ?_)
  refine q_scald (m := L) hL ((i.toInt + 5)) (by omega) (by omega) (fun v36 hv36 => ?_)
  have sv36 := congrArg Int32.toInt (hv10.symm.trans hv36)
  refine r_callV 550 rfl [.ref 231, .int v28, .int v30, .int v32, .int v34, .int v36] [] (Nat.le_of_ble_eq_true rfl) rfl (T_X11_feed_231 _ hI12 v28 v30 v32 v34 v36) ?_
  rintro _ _ ⟨g37, rfl, hI38, hF39, v40, rfl, hr41⟩
  refine At.sti ?_
  have hF42 := Fr.tr hF16 hF39 rfl rfl
  have f43 := congrArg Int32.toInt (hF39.1 1 0 rfl)
  have f44 := congrArg Int32.toInt (hF39.1 59 0 rfl)
  have f45 := congrArg Int32.toInt (hF39.1 116 0 rfl)
  have f46 := congrArg Int32.toInt (eA_c (j := 0) (hF39.2.1 173 rfl))
  have f47 := congrArg Int32.toInt (eA_c (j := 1) (hF39.2.1 173 rfl))
  have f48 := congrArg Int32.toInt (eA_c (j := 0) (hF39.2.1 233 rfl))
  have f49 := congrArg Int32.toInt (eA_c (j := 0) (hF39.2.1 234 rfl))
  have f50 := congrArg Int32.toInt (eA_c (j := 5510) (hF39.2.1 234 rfl))
  have f51 := congrArg Int32.toInt (eA_c (j := 0) (hF39.2.1 235 rfl))
  have f52 := congrArg Int32.toInt (eA_c (j := 1) (hF39.2.1 235 rfl))
  refine At.enter rfl ?_
  refine r_pop rfl ?_
  refine r_goto ?_
  exact K _ hI38 (by unfold LwR; omega)

set_option maxRecDepth 100000 in
set_option maxHeartbeats 8000000 in
theorem lq_c8 (d : Nat) {N : Nat} {g0 : List en_E} (hI0 : HI g0) (hR0 : LwR g0) {ys : List Int32} {L : Nat} (hL : ys.length = L) (hL2 : L ≤ 3584) {l : en_L} {i : Int32} (e0 : en_get 0 l = some (.float 0)) (e1 : en_get 1 l = some (.ref 0)) (e2 : en_get 2 l = some (.ref 231)) (e3 : en_get 3 l = some (.int i)) (hi : 0 ≤ i.toInt ∧ i.toInt + 7 ≤ L) {Ph : Option Value → en_H → Prop} (K : ∀ g1 : List en_E, HI g1 → LwR g1 → At (d + 423) (some ys) (some .boolean) bs_L_law (1330, l, [], (g1, N)) Ph) : At (d + 423) (some ys) (some .boolean) bs_L_law (554, l, [], (g0, N)) Ph := by
  have hF0 : Fr F_law A_law g0 g0 := Fr.rf
  unfold LwR at hR0
  refine At.enter rfl ?_
  refine r_aload_n e1 ?_
  refine r_sload_n e0 ?_
  refine r_iload_n e3 ?_
  refine r_iconst 1 rfl ?_
  refine q_iadd (i.toInt + 1) rfl (by omega) (fun v1 hv1 => ?_)
  refine q_scald (m := L) hL ((i.toInt + 1)) (by omega) (by omega) (fun v2 hv2 => ?_)
  refine r_callV 563 rfl [.ref 0, .int v2] [] (Nat.le_of_ble_eq_true rfl) rfl (T_X10_end_0 _ hI0 v2) ?_
  rintro _ _ ⟨g3, rfl, hI4, hF5, v6, rfl, hr7⟩
  refine At.sti ?_
  have hF8 := Fr.tr hF0 hF5 rfl rfl
  have f9 := congrArg Int32.toInt (hF5.1 1 0 rfl)
  have f10 := congrArg Int32.toInt (hF5.1 59 0 rfl)
  have f11 := congrArg Int32.toInt (hF5.1 116 0 rfl)
  have f12 := congrArg Int32.toInt (eA_c (j := 0) (hF5.2.1 173 rfl))
  have f13 := congrArg Int32.toInt (eA_c (j := 1) (hF5.2.1 173 rfl))
  have f14 := congrArg Int32.toInt (eA_c (j := 0) (hF5.2.1 233 rfl))
  have f15 := congrArg Int32.toInt (eA_c (j := 0) (hF5.2.1 234 rfl))
  have f16 := congrArg Int32.toInt (eA_c (j := 5510) (hF5.2.1 234 rfl))
  have f17 := congrArg Int32.toInt (eA_c (j := 0) (hF5.2.1 235 rfl))
  have f18 := congrArg Int32.toInt (eA_c (j := 1) (hF5.2.1 235 rfl))
  refine At.enter rfl ?_
  refine r_pop rfl ?_
  refine r_aload_n e2 ?_
  refine r_sload_n e0 ?_
  refine r_iload_n e3 ?_
  refine r_iconst 1 rfl ?_
  refine q_iadd (i.toInt + 1) rfl (by omega) (fun v19 hv19 => ?_)
  refine q_scald (m := L) hL ((i.toInt + 1)) (by omega) (by omega) (fun v20 hv20 => ?_)
  have sv20 := congrArg Int32.toInt (hv2.symm.trans hv20)
  refine r_callV 573 rfl [.ref 231, .int v20] [] (Nat.le_of_ble_eq_true rfl) rfl (T_X11_end_231 _ hI4 v20) ?_
  rintro _ _ ⟨g21, rfl, hI22, hF23, v24, rfl, hr25⟩
  refine At.sti ?_
  have hF26 := Fr.tr hF8 hF23 rfl rfl
  have f27 := congrArg Int32.toInt (hF23.1 1 0 rfl)
  have f28 := congrArg Int32.toInt (hF23.1 59 0 rfl)
  have f29 := congrArg Int32.toInt (hF23.1 116 0 rfl)
  have f30 := congrArg Int32.toInt (eA_c (j := 0) (hF23.2.1 173 rfl))
  have f31 := congrArg Int32.toInt (eA_c (j := 1) (hF23.2.1 173 rfl))
  have f32 := congrArg Int32.toInt (eA_c (j := 0) (hF23.2.1 233 rfl))
  have f33 := congrArg Int32.toInt (eA_c (j := 0) (hF23.2.1 234 rfl))
  have f34 := congrArg Int32.toInt (eA_c (j := 5510) (hF23.2.1 234 rfl))
  have f35 := congrArg Int32.toInt (eA_c (j := 0) (hF23.2.1 235 rfl))
  have f36 := congrArg Int32.toInt (eA_c (j := 1) (hF23.2.1 235 rfl))
  refine At.enter rfl ?_
  refine r_pop rfl ?_
  refine r_goto ?_
  exact K _ hI22 (by unfold LwR; omega)

set_option maxRecDepth 100000 in
set_option maxHeartbeats 8000000 in
theorem lq_c9 (d : Nat) {N : Nat} {g0 : List en_E} (hI0 : HI g0) (hR0 : LwR g0) {ys : List Int32} {L : Nat} (hL : ys.length = L) (hL2 : L ≤ 3584) {l : en_L} {i : Int32} (e0 : en_get 0 l = some (.float 0)) (e1 : en_get 1 l = some (.ref 0)) (e2 : en_get 2 l = some (.ref 231)) (e3 : en_get 3 l = some (.int i)) (hi : 0 ≤ i.toInt ∧ i.toInt + 7 ≤ L) {Ph : Option Value → en_H → Prop} (K : ∀ g1 : List en_E, HI g1 → LwR g1 → At (d + 423) (some ys) (some .boolean) bs_L_law (1330, l, [], (g1, N)) Ph) : At (d + 423) (some ys) (some .boolean) bs_L_law (577, l, [], (g0, N)) Ph := by
  have hF0 : Fr F_law A_law g0 g0 := Fr.rf
  unfold LwR at hR0
  refine At.enter rfl ?_
  refine r_aload_n e1 ?_
  refine r_callV 581 rfl [.ref 0] [] (Nat.le_of_ble_eq_true rfl) rfl (T_X10_row_0 _ hI0) ?_
  rintro _ _ ⟨g1, rfl, hI2, hF3, v4, rfl, hr5⟩
  refine At.sti ?_
  have hF6 := Fr.tr hF0 hF3 rfl rfl
  have f7 := congrArg Int32.toInt (hF3.1 1 0 rfl)
  have f8 := congrArg Int32.toInt (hF3.1 59 0 rfl)
  have f9 := congrArg Int32.toInt (hF3.1 116 0 rfl)
  have f10 := congrArg Int32.toInt (eA_c (j := 0) (hF3.2.1 173 rfl))
  have f11 := congrArg Int32.toInt (eA_c (j := 1) (hF3.2.1 173 rfl))
  have f12 := congrArg Int32.toInt (eA_c (j := 0) (hF3.2.1 233 rfl))
  have f13 := congrArg Int32.toInt (eA_c (j := 0) (hF3.2.1 234 rfl))
  have f14 := congrArg Int32.toInt (eA_c (j := 5510) (hF3.2.1 234 rfl))
  have f15 := congrArg Int32.toInt (eA_c (j := 0) (hF3.2.1 235 rfl))
  have f16 := congrArg Int32.toInt (eA_c (j := 1) (hF3.2.1 235 rfl))
  refine At.enter rfl ?_
  refine r_pop rfl ?_
  refine r_aload_n e2 ?_
  refine r_callV 586 rfl [.ref 231] [] (Nat.le_of_ble_eq_true rfl) rfl (T_X11_row_231 _ hI2) ?_
  rintro _ _ ⟨g17, rfl, hI18, hF19, v20, rfl, hr21⟩
  refine At.sti ?_
  have hF22 := Fr.tr hF6 hF19 rfl rfl
  have f23 := congrArg Int32.toInt (hF19.1 1 0 rfl)
  have f24 := congrArg Int32.toInt (hF19.1 59 0 rfl)
  have f25 := congrArg Int32.toInt (hF19.1 116 0 rfl)
  have f26 := congrArg Int32.toInt (eA_c (j := 0) (hF19.2.1 173 rfl))
  have f27 := congrArg Int32.toInt (eA_c (j := 1) (hF19.2.1 173 rfl))
  have f28 := congrArg Int32.toInt (eA_c (j := 0) (hF19.2.1 234 rfl))
  have f29 := congrArg Int32.toInt (eA_c (j := 5510) (hF19.2.1 234 rfl))
  have f30 := congrArg Int32.toInt (eA_c (j := 0) (hF19.2.1 235 rfl))
  have f31 := congrArg Int32.toInt (eA_c (j := 1) (hF19.2.1 235 rfl))
  refine At.enter rfl ?_
  refine r_pop rfl ?_
  refine r_goto ?_
  exact K _ hI18 (by unfold LwR; omega)

set_option maxRecDepth 100000 in
set_option maxHeartbeats 8000000 in
theorem lq_c10 (d : Nat) {N : Nat} {g0 : List en_E} (hI0 : HI g0) (hR0 : LwR g0) {ys : List Int32} {L : Nat} (hL : ys.length = L) (hL2 : L ≤ 3584) {l : en_L} {i : Int32} (e0 : en_get 0 l = some (.float 0)) (e1 : en_get 1 l = some (.ref 0)) (e2 : en_get 2 l = some (.ref 231)) (e3 : en_get 3 l = some (.int i)) (hi : 0 ≤ i.toInt ∧ i.toInt + 7 ≤ L) {Ph : Option Value → en_H → Prop} (K : ∀ g1 : List en_E, HI g1 → LwR g1 → At (d + 423) (some ys) (some .boolean) bs_L_law (1330, l, [], (g1, N)) Ph) : At (d + 423) (some ys) (some .boolean) bs_L_law (590, l, [], (g0, N)) Ph := by
  have hF0 : Fr F_law A_law g0 g0 := Fr.rf
  unfold LwR at hR0
  refine At.enter rfl ?_
  refine r_aload_n e1 ?_
  refine r_callV 594 rfl [.ref 0] [] (Nat.le_of_ble_eq_true rfl) rfl (T_X10_dropped_0 _ hI0) ?_
  rintro _ _ ⟨g1, rfl, hI2, hF3, v4, rfl, hr5⟩
  refine At.sti ?_
  have hF6 := Fr.tr hF0 hF3 rfl rfl
  have f7 := congrArg Int32.toInt (hF3.1 1 0 rfl)
  have f8 := congrArg Int32.toInt (hF3.1 59 0 rfl)
  have f9 := congrArg Int32.toInt (hF3.1 116 0 rfl)
  have f10 := congrArg Int32.toInt (eA_c (j := 0) (hF3.2.1 173 rfl))
  have f11 := congrArg Int32.toInt (eA_c (j := 1) (hF3.2.1 173 rfl))
  have f12 := congrArg Int32.toInt (eA_c (j := 0) (hF3.2.1 233 rfl))
  have f13 := congrArg Int32.toInt (eA_c (j := 0) (hF3.2.1 234 rfl))
  have f14 := congrArg Int32.toInt (eA_c (j := 5510) (hF3.2.1 234 rfl))
  have f15 := congrArg Int32.toInt (eA_c (j := 0) (hF3.2.1 235 rfl))
  have f16 := congrArg Int32.toInt (eA_c (j := 1) (hF3.2.1 235 rfl))
  refine At.enter rfl ?_
  refine r_pop rfl ?_
  refine r_aload_n e2 ?_
  refine r_callV 599 rfl [.ref 231] [] (Nat.le_of_ble_eq_true rfl) rfl (T_X11_dropped_231 _ hI2) ?_
  rintro _ _ ⟨g17, rfl, hI18, hF19, v20, rfl, hr21⟩
  refine At.sti ?_
  have hF22 := Fr.tr hF6 hF19 rfl rfl
  have f23 := congrArg Int32.toInt (hF19.1 1 0 rfl)
  have f24 := congrArg Int32.toInt (hF19.1 59 0 rfl)
  have f25 := congrArg Int32.toInt (hF19.1 116 0 rfl)
  have f26 := congrArg Int32.toInt (eA_c (j := 0) (hF19.2.1 173 rfl))
  have f27 := congrArg Int32.toInt (eA_c (j := 1) (hF19.2.1 173 rfl))
  have f28 := congrArg Int32.toInt (eA_c (j := 0) (hF19.2.1 233 rfl))
  have f29 := congrArg Int32.toInt (eA_c (j := 0) (hF19.2.1 234 rfl))
  have f30 := congrArg Int32.toInt (eA_c (j := 5510) (hF19.2.1 234 rfl))
  have f31 := congrArg Int32.toInt (eA_c (j := 0) (hF19.2.1 235 rfl))
  have f32 := congrArg Int32.toInt (eA_c (j := 1) (hF19.2.1 235 rfl))
  refine At.enter rfl ?_
  refine r_pop rfl ?_
  refine r_goto ?_
  exact K _ hI18 (by unfold LwR; omega)

set_option maxRecDepth 100000 in
set_option maxHeartbeats 8000000 in
theorem lq_c11 (d : Nat) {N : Nat} {g0 : List en_E} (hI0 : HI g0) (hR0 : LwR g0) {ys : List Int32} {L : Nat} (hL : ys.length = L) (hL2 : L ≤ 3584) {l : en_L} {i : Int32} (e0 : en_get 0 l = some (.float 0)) (e1 : en_get 1 l = some (.ref 0)) (e2 : en_get 2 l = some (.ref 231)) (e3 : en_get 3 l = some (.int i)) (hi : 0 ≤ i.toInt ∧ i.toInt + 7 ≤ L) {Ph : Option Value → en_H → Prop} (K : ∀ g1 : List en_E, HI g1 → LwR g1 → At (d + 423) (some ys) (some .boolean) bs_L_law (1330, l, [], (g1, N)) Ph) : At (d + 423) (some ys) (some .boolean) bs_L_law (603, l, [], (g0, N)) Ph := by
  have hF0 : Fr F_law A_law g0 g0 := Fr.rf
  unfold LwR at hR0
  refine At.enter rfl ?_
  refine r_aload_n e1 ?_
  refine r_callV 607 rfl [.ref 0] [] (Nat.le_of_ble_eq_true rfl) rfl (T_X10_law_0 _ hI0) ?_
  rintro _ _ ⟨g1, rfl, hI2, hF3, v4, rfl, hr5⟩
  refine At.sti ?_
  have hF6 := Fr.tr hF0 hF3 rfl rfl
  have f7 := congrArg Int32.toInt (hF3.1 1 0 rfl)
  have f8 := congrArg Int32.toInt (hF3.1 59 0 rfl)
  have f9 := congrArg Int32.toInt (hF3.1 116 0 rfl)
  have f10 := congrArg Int32.toInt (eA_c (j := 0) (hF3.2.1 173 rfl))
  have f11 := congrArg Int32.toInt (eA_c (j := 1) (hF3.2.1 173 rfl))
  have f12 := congrArg Int32.toInt (eA_c (j := 0) (hF3.2.1 233 rfl))
  have f13 := congrArg Int32.toInt (eA_c (j := 0) (hF3.2.1 234 rfl))
  have f14 := congrArg Int32.toInt (eA_c (j := 5510) (hF3.2.1 234 rfl))
  have f15 := congrArg Int32.toInt (eA_c (j := 0) (hF3.2.1 235 rfl))
  have f16 := congrArg Int32.toInt (eA_c (j := 1) (hF3.2.1 235 rfl))
  refine At.enter rfl ?_
  refine r_pop rfl ?_
  refine r_aload_n e2 ?_
  refine r_callV 612 rfl [.ref 231] [] (Nat.le_of_ble_eq_true rfl) rfl (T_X11_law_231 _ hI2) ?_
  rintro _ _ ⟨g17, rfl, hI18, hF19, v20, rfl, hr21⟩
  refine At.sti ?_
  have hF22 := Fr.tr hF6 hF19 rfl rfl
  have f23 := congrArg Int32.toInt (hr21.2 0 (by decide) (by decide) (by decide))
  have f24 := congrArg Int32.toInt (hF19.1 1 0 rfl)
  have f25 := congrArg Int32.toInt (hF19.1 59 0 rfl)
  have f26 := congrArg Int32.toInt (hF19.1 116 0 rfl)
  have f27 := congrArg Int32.toInt (eA_c (j := 0) (hF19.2.1 173 rfl))
  have f28 := congrArg Int32.toInt (eA_c (j := 1) (hF19.2.1 173 rfl))
  have f29 := congrArg Int32.toInt (eA_c (j := 0) (hF19.2.1 234 rfl))
  have f30 := congrArg Int32.toInt (eA_c (j := 5510) (hF19.2.1 234 rfl))
  have f31 := congrArg Int32.toInt (eA_c (j := 0) (hF19.2.1 235 rfl))
  have f32 := congrArg Int32.toInt (eA_c (j := 1) (hF19.2.1 235 rfl))
  refine At.enter rfl ?_
  refine r_pop rfl ?_
  refine r_goto ?_
  exact K _ hI18 (by unfold LwR; omega)

set_option maxRecDepth 100000 in
set_option maxHeartbeats 8000000 in
theorem lq_c12 (d : Nat) {N : Nat} {g0 : List en_E} (hI0 : HI g0) (hR0 : LwR g0) {ys : List Int32} {L : Nat} (hL : ys.length = L) (hL2 : L ≤ 3584) {l : en_L} {i : Int32} (e0 : en_get 0 l = some (.float 0)) (e1 : en_get 1 l = some (.ref 0)) (e2 : en_get 2 l = some (.ref 231)) (e3 : en_get 3 l = some (.int i)) (hi : 0 ≤ i.toInt ∧ i.toInt + 7 ≤ L) {Ph : Option Value → en_H → Prop} (K : ∀ g1 : List en_E, HI g1 → LwR g1 → At (d + 423) (some ys) (some .boolean) bs_L_law (1330, l, [], (g1, N)) Ph) : At (d + 423) (some ys) (some .boolean) bs_L_law (616, l, [], (g0, N)) Ph := by
  have hF0 : Fr F_law A_law g0 g0 := Fr.rf
  unfold LwR at hR0
  refine At.enter rfl ?_
  refine r_aload_n e1 ?_
  refine r_callV 620 rfl [.ref 0] [] (Nat.le_of_ble_eq_true rfl) rfl (T_X10_fault_0 _ hI0) ?_
  rintro _ _ ⟨g1, rfl, hI2, hF3, v4, rfl, hr5⟩
  refine At.sti ?_
  have hF6 := Fr.tr hF0 hF3 rfl rfl
  have f7 := congrArg Int32.toInt (hF3.1 1 0 rfl)
  have f8 := congrArg Int32.toInt (hF3.1 59 0 rfl)
  have f9 := congrArg Int32.toInt (hF3.1 116 0 rfl)
  have f10 := congrArg Int32.toInt (eA_c (j := 0) (hF3.2.1 173 rfl))
  have f11 := congrArg Int32.toInt (eA_c (j := 1) (hF3.2.1 173 rfl))
  have f12 := congrArg Int32.toInt (eA_c (j := 0) (hF3.2.1 233 rfl))
  have f13 := congrArg Int32.toInt (eA_c (j := 0) (hF3.2.1 234 rfl))
  have f14 := congrArg Int32.toInt (eA_c (j := 5510) (hF3.2.1 234 rfl))
  have f15 := congrArg Int32.toInt (eA_c (j := 0) (hF3.2.1 235 rfl))
  have f16 := congrArg Int32.toInt (eA_c (j := 1) (hF3.2.1 235 rfl))
  refine At.enter rfl ?_
  refine r_pop rfl ?_
  refine r_aload_n e2 ?_
  refine r_callV 625 rfl [.ref 231] [] (Nat.le_of_ble_eq_true rfl) rfl (T_X11_fault_231 _ hI2) ?_
  rintro _ _ ⟨g17, rfl, hI18, hF19, v20, rfl, hr21⟩
  refine At.sti ?_
  have hF22 := Fr.tr hF6 hF19 rfl rfl
  have f23 := congrArg Int32.toInt (hF19.1 1 0 rfl)
  have f24 := congrArg Int32.toInt (hF19.1 59 0 rfl)
  have f25 := congrArg Int32.toInt (hF19.1 116 0 rfl)
  have f26 := congrArg Int32.toInt (eA_c (j := 0) (hF19.2.1 173 rfl))
  have f27 := congrArg Int32.toInt (eA_c (j := 1) (hF19.2.1 173 rfl))
  have f28 := congrArg Int32.toInt (eA_c (j := 0) (hF19.2.1 233 rfl))
  have f29 := congrArg Int32.toInt (eA_c (j := 0) (hF19.2.1 234 rfl))
  have f30 := congrArg Int32.toInt (eA_c (j := 5510) (hF19.2.1 234 rfl))
  have f31 := congrArg Int32.toInt (eA_c (j := 0) (hF19.2.1 235 rfl))
  have f32 := congrArg Int32.toInt (eA_c (j := 1) (hF19.2.1 235 rfl))
  refine At.enter rfl ?_
  refine r_pop rfl ?_
  refine r_goto ?_
  exact K _ hI18 (by unfold LwR; omega)

set_option maxRecDepth 100000 in
set_option maxHeartbeats 8000000 in
theorem lq_c13 (d : Nat) {N : Nat} {g0 : List en_E} (hI0 : HI g0) (hR0 : LwR g0) {ys : List Int32} {L : Nat} (hL : ys.length = L) (hL2 : L ≤ 3584) {l : en_L} {i : Int32} (e0 : en_get 0 l = some (.float 0)) (e1 : en_get 1 l = some (.ref 0)) (e2 : en_get 2 l = some (.ref 231)) (e3 : en_get 3 l = some (.int i)) (hi : 0 ≤ i.toInt ∧ i.toInt + 7 ≤ L) {Ph : Option Value → en_H → Prop} (K : ∀ g1 : List en_E, HI g1 → LwR g1 → At (d + 423) (some ys) (some .boolean) bs_L_law (1330, l, [], (g1, N)) Ph) : At (d + 423) (some ys) (some .boolean) bs_L_law (629, l, [], (g0, N)) Ph := by
  have hF0 : Fr F_law A_law g0 g0 := Fr.rf
  unfold LwR at hR0
  refine At.enter rfl ?_
  refine r_aload_n e1 ?_
  refine r_sload_n e0 ?_
  refine r_iload_n e3 ?_
  refine r_iconst 1 rfl ?_
  refine q_iadd (i.toInt + 1) rfl (by omega) (fun v1 hv1 => ?_)
  refine q_scald (m := L) hL ((i.toInt + 1)) (by omega) (by omega) (fun v2 hv2 => ?_)
  refine r_callV 638 rfl [.ref 0, .int v2] [] (Nat.le_of_ble_eq_true rfl) rfl (T_X10_force_0 _ hI0 v2) ?_
  rintro _ _ ⟨g3, rfl, hI4, hF5, v6, rfl, hr7⟩
  refine At.sti ?_
  have hF8 := Fr.tr hF0 hF5 rfl rfl
  have f9 := congrArg Int32.toInt (hF5.1 1 0 rfl)
  have f10 := congrArg Int32.toInt (hF5.1 59 0 rfl)
  have f11 := congrArg Int32.toInt (hF5.1 116 0 rfl)
  have f12 := congrArg Int32.toInt (eA_c (j := 0) (hF5.2.1 173 rfl))
  have f13 := congrArg Int32.toInt (eA_c (j := 1) (hF5.2.1 173 rfl))
  have f14 := congrArg Int32.toInt (eA_c (j := 0) (hF5.2.1 233 rfl))
  have f15 := congrArg Int32.toInt (eA_c (j := 0) (hF5.2.1 234 rfl))
  have f16 := congrArg Int32.toInt (eA_c (j := 5510) (hF5.2.1 234 rfl))
  have f17 := congrArg Int32.toInt (eA_c (j := 0) (hF5.2.1 235 rfl))
  have f18 := congrArg Int32.toInt (eA_c (j := 1) (hF5.2.1 235 rfl))
  refine At.enter rfl ?_
  refine r_pop rfl ?_
  refine r_aload_n e2 ?_
  refine r_sload_n e0 ?_
  refine r_iload_n e3 ?_
  refine r_iconst 1 rfl ?_
  refine q_iadd (i.toInt + 1) rfl (by omega) (fun v19 hv19 => ?_)
  refine q_scald (m := L) hL ((i.toInt + 1)) (by omega) (by omega) (fun v20 hv20 => ?_)
  have sv20 := congrArg Int32.toInt (hv2.symm.trans hv20)
  refine r_callV 648 rfl [.ref 231, .int v20] [] (Nat.le_of_ble_eq_true rfl) rfl (T_X11_force_231 _ hI4 v20) ?_
  rintro _ _ ⟨g21, rfl, hI22, hF23, v24, rfl, hr25⟩
  refine At.sti ?_
  have hF26 := Fr.tr hF8 hF23 rfl rfl
  have f27 := congrArg Int32.toInt (hF23.1 1 0 rfl)
  have f28 := congrArg Int32.toInt (hF23.1 59 0 rfl)
  have f29 := congrArg Int32.toInt (hF23.1 116 0 rfl)
  have f30 := congrArg Int32.toInt (eA_c (j := 0) (hF23.2.1 173 rfl))
  have f31 := congrArg Int32.toInt (eA_c (j := 1) (hF23.2.1 173 rfl))
  have f32 := congrArg Int32.toInt (eA_c (j := 0) (hF23.2.1 234 rfl))
  have f33 := congrArg Int32.toInt (eA_c (j := 5510) (hF23.2.1 234 rfl))
  have f34 := congrArg Int32.toInt (eA_c (j := 0) (hF23.2.1 235 rfl))
  have f35 := congrArg Int32.toInt (eA_c (j := 1) (hF23.2.1 235 rfl))
  refine At.enter rfl ?_
  refine r_pop rfl ?_
  refine r_goto ?_
  exact K _ hI22 (by unfold LwR; omega)

set_option maxRecDepth 100000 in
set_option maxHeartbeats 8000000 in
theorem lq_c14 (d : Nat) {N : Nat} {g0 : List en_E} (hI0 : HI g0) (hR0 : LwR g0) {ys : List Int32} {L : Nat} (hL : ys.length = L) (hL2 : L ≤ 3584) {l : en_L} {i : Int32} (e0 : en_get 0 l = some (.float 0)) (e1 : en_get 1 l = some (.ref 0)) (e2 : en_get 2 l = some (.ref 231)) (e3 : en_get 3 l = some (.int i)) (hi : 0 ≤ i.toInt ∧ i.toInt + 7 ≤ L) {Ph : Option Value → en_H → Prop} (K : ∀ g1 : List en_E, HI g1 → LwR g1 → At (d + 423) (some ys) (some .boolean) bs_L_law (1330, l, [], (g1, N)) Ph) : At (d + 423) (some ys) (some .boolean) bs_L_law (652, l, [], (g0, N)) Ph := by
  have hF0 : Fr F_law A_law g0 g0 := Fr.rf
  unfold LwR at hR0
  refine At.enter rfl ?_
  refine r_aload_n e1 ?_
  refine r_sload_n e0 ?_
  refine r_iload_n e3 ?_
  refine r_iconst 1 rfl ?_
  refine q_iadd (i.toInt + 1) rfl (by omega) (fun v1 hv1 => ?_)
  refine q_scald (m := L) hL ((i.toInt + 1)) (by omega) (by omega) (fun v2 hv2 => ?_)
  refine r_sload_n e0 ?_
  refine r_iload_n e3 ?_
  refine r_iconst 2 rfl ?_
  refine q_iadd (i.toInt + 2) rfl (by omega) (fun v3 hv3 => ?_)
  refine q_scald (m := L) hL ((i.toInt + 2)) (by omega) (by omega) (fun v4 hv4 => ?_)
  refine r_callV 666 rfl [.ref 0, .int v2, .int v4] [] (Nat.le_of_ble_eq_true rfl) rfl (T_X10_way_0 _ hI0 v2 v4) ?_
  rintro _ _ ⟨g5, rfl, hI6, hF7, v8, rfl, hr9⟩
  refine At.sti ?_
  have hF10 := Fr.tr hF0 hF7 rfl rfl
  have f11 := congrArg Int32.toInt (hF7.1 1 0 rfl)
  have f12 := congrArg Int32.toInt (hF7.1 59 0 rfl)
  have f13 := congrArg Int32.toInt (hF7.1 116 0 rfl)
  have f14 := congrArg Int32.toInt (eA_c (j := 0) (hF7.2.1 173 rfl))
  have f15 := congrArg Int32.toInt (eA_c (j := 1) (hF7.2.1 173 rfl))
  have f16 := congrArg Int32.toInt (eA_c (j := 0) (hF7.2.1 233 rfl))
  have f17 := congrArg Int32.toInt (eA_c (j := 0) (hF7.2.1 234 rfl))
  have f18 := congrArg Int32.toInt (eA_c (j := 5510) (hF7.2.1 234 rfl))
  have f19 := congrArg Int32.toInt (eA_c (j := 0) (hF7.2.1 235 rfl))
  have f20 := congrArg Int32.toInt (eA_c (j := 1) (hF7.2.1 235 rfl))
  refine At.enter rfl ?_
  refine r_pop rfl ?_
  refine r_aload_n e2 ?_
  refine r_sload_n e0 ?_
  refine r_iload_n e3 ?_
  refine r_iconst 1 rfl ?_
  refine q_iadd (i.toInt + 1) rfl (by omega) (fun v21 hv21 => ?_)
  refine q_scald (m := L) hL ((i.toInt + 1)) (by omega) (by omega) (fun v22 hv22 => ?_)
  have sv22 := congrArg Int32.toInt (hv2.symm.trans hv22)
  refine r_sload_n e0 ?_
  refine r_iload_n e3 ?_
  refine r_iconst 2 rfl ?_
  refine q_iadd (i.toInt + 2) rfl (by omega) (fun v23 hv23 => ?_)
  refine q_scald (m := L) hL ((i.toInt + 2)) (by omega) (by omega) (fun v24 hv24 => ?_)
  have sv24 := congrArg Int32.toInt (hv4.symm.trans hv24)
  refine r_callV 681 rfl [.ref 231, .int v22, .int v24] [] (Nat.le_of_ble_eq_true rfl) rfl (T_X11_way_231 _ hI6 v22 v24) ?_
  rintro _ _ ⟨g25, rfl, hI26, hF27, v28, rfl, hr29⟩
  refine At.sti ?_
  have hF30 := Fr.tr hF10 hF27 rfl rfl
  have f31 := congrArg Int32.toInt (hF27.1 1 0 rfl)
  have f32 := congrArg Int32.toInt (hF27.1 59 0 rfl)
  have f33 := congrArg Int32.toInt (hF27.1 116 0 rfl)
  have f34 := congrArg Int32.toInt (eA_c (j := 0) (hF27.2.1 173 rfl))
  have f35 := congrArg Int32.toInt (eA_c (j := 1) (hF27.2.1 173 rfl))
  have f36 := congrArg Int32.toInt (eA_c (j := 0) (hF27.2.1 233 rfl))
  have f37 := congrArg Int32.toInt (eA_c (j := 0) (hF27.2.1 234 rfl))
  have f38 := congrArg Int32.toInt (eA_c (j := 5510) (hF27.2.1 234 rfl))
  have f39 := congrArg Int32.toInt (eA_c (j := 0) (hF27.2.1 235 rfl))
  have f40 := congrArg Int32.toInt (eA_c (j := 1) (hF27.2.1 235 rfl))
  refine At.enter rfl ?_
  refine r_pop rfl ?_
  refine r_goto ?_
  exact K _ hI26 (by unfold LwR; omega)

set_option maxRecDepth 100000 in
set_option maxHeartbeats 8000000 in
theorem lq_c15 (d : Nat) {N : Nat} {g0 : List en_E} (hI0 : HI g0) (hR0 : LwR g0) {ys : List Int32} {L : Nat} (hL : ys.length = L) (hL2 : L ≤ 3584) {l : en_L} {i : Int32} (e0 : en_get 0 l = some (.float 0)) (e1 : en_get 1 l = some (.ref 0)) (e2 : en_get 2 l = some (.ref 231)) (e3 : en_get 3 l = some (.int i)) (hi : 0 ≤ i.toInt ∧ i.toInt + 7 ≤ L) {Ph : Option Value → en_H → Prop} (K : ∀ g1 : List en_E, HI g1 → LwR g1 → At (d + 423) (some ys) (some .boolean) bs_L_law (1330, l, [], (g1, N)) Ph) : At (d + 423) (some ys) (some .boolean) bs_L_law (685, l, [], (g0, N)) Ph := by
  have hF0 : Fr F_law A_law g0 g0 := Fr.rf
  unfold LwR at hR0
  refine At.enter rfl ?_
  refine r_aload_n e1 ?_
  refine r_sload_n e0 ?_
  refine r_iload_n e3 ?_
  refine r_iconst 1 rfl ?_
  refine q_iadd (i.toInt + 1) rfl (by omega) (fun v1 hv1 => ?_)
  refine q_scald (m := L) hL ((i.toInt + 1)) (by omega) (by omega) (fun v2 hv2 => ?_)
  refine r_sload_n e0 ?_
  refine r_iload_n e3 ?_
  refine r_iconst 2 rfl ?_
  refine q_iadd (i.toInt + 2) rfl (by omega) (fun v3 hv3 => ?_)
  refine q_scald (m := L) hL ((i.toInt + 2)) (by omega) (by omega) (fun v4 hv4 => ?_)
  refine r_callV 699 rfl [.ref 0, .int v2, .int v4] [] (Nat.le_of_ble_eq_true rfl) rfl (T_X10_enter_0 _ hI0 v2 v4) ?_
  rintro _ _ ⟨g5, rfl, hI6, hF7, v8, rfl, hr9⟩
  refine At.sti ?_
  have hF10 := Fr.tr hF0 hF7 rfl rfl
  have f11 := congrArg Int32.toInt (hF7.1 1 0 rfl)
  have f12 := congrArg Int32.toInt (hF7.1 59 0 rfl)
  have f13 := congrArg Int32.toInt (hF7.1 116 0 rfl)
  have f14 := congrArg Int32.toInt (eA_c (j := 0) (hF7.2.1 173 rfl))
  have f15 := congrArg Int32.toInt (eA_c (j := 1) (hF7.2.1 173 rfl))
  have f16 := congrArg Int32.toInt (eA_c (j := 0) (hF7.2.1 233 rfl))
  have f17 := congrArg Int32.toInt (eA_c (j := 0) (hF7.2.1 234 rfl))
  have f18 := congrArg Int32.toInt (eA_c (j := 5510) (hF7.2.1 234 rfl))
  have f19 := congrArg Int32.toInt (eA_c (j := 0) (hF7.2.1 235 rfl))
  have f20 := congrArg Int32.toInt (eA_c (j := 1) (hF7.2.1 235 rfl))
  refine At.enter rfl ?_
  refine r_pop rfl ?_
  refine r_aload_n e2 ?_
  refine r_sload_n e0 ?_
  refine r_iload_n e3 ?_
  refine r_iconst 1 rfl ?_
  refine q_iadd (i.toInt + 1) rfl (by omega) (fun v21 hv21 => ?_)
  refine q_scald (m := L) hL ((i.toInt + 1)) (by omega) (by omega) (fun v22 hv22 => ?_)
  have sv22 := congrArg Int32.toInt (hv2.symm.trans hv22)
  refine r_sload_n e0 ?_
  refine r_iload_n e3 ?_
  refine r_iconst 2 rfl ?_
  refine q_iadd (i.toInt + 2) rfl (by omega) (fun v23 hv23 => ?_)
  refine q_scald (m := L) hL ((i.toInt + 2)) (by omega) (by omega) (fun v24 hv24 => ?_)
  have sv24 := congrArg Int32.toInt (hv4.symm.trans hv24)
  refine r_callV 714 rfl [.ref 231, .int v22, .int v24] [] (Nat.le_of_ble_eq_true rfl) rfl (T_X11_enter_231 _ hI6 v22 v24) ?_
  rintro _ _ ⟨g25, rfl, hI26, hF27, v28, rfl, hr29⟩
  refine At.sti ?_
  have hF30 := Fr.tr hF10 hF27 rfl rfl
  have f31 := congrArg Int32.toInt (hF27.1 1 0 rfl)
  have f32 := congrArg Int32.toInt (hF27.1 59 0 rfl)
  have f33 := congrArg Int32.toInt (hF27.1 116 0 rfl)
  have f34 := congrArg Int32.toInt (eA_c (j := 0) (hF27.2.1 173 rfl))
  have f35 := congrArg Int32.toInt (eA_c (j := 1) (hF27.2.1 173 rfl))
  have f36 := congrArg Int32.toInt (eA_c (j := 0) (hF27.2.1 233 rfl))
  have f37 := congrArg Int32.toInt (eA_c (j := 0) (hF27.2.1 234 rfl))
  have f38 := congrArg Int32.toInt (eA_c (j := 5510) (hF27.2.1 234 rfl))
  have f39 := congrArg Int32.toInt (eA_c (j := 0) (hF27.2.1 235 rfl))
  have f40 := congrArg Int32.toInt (eA_c (j := 1) (hF27.2.1 235 rfl))
  refine At.enter rfl ?_
  refine r_pop rfl ?_
  refine r_goto ?_
  exact K _ hI26 (by unfold LwR; omega)

set_option maxRecDepth 100000 in
set_option maxHeartbeats 8000000 in
theorem lq_c16 (d : Nat) {N : Nat} {g0 : List en_E} (hI0 : HI g0) (hR0 : LwR g0) {ys : List Int32} {L : Nat} (hL : ys.length = L) (hL2 : L ≤ 3584) {l : en_L} {i : Int32} (e0 : en_get 0 l = some (.float 0)) (e1 : en_get 1 l = some (.ref 0)) (e2 : en_get 2 l = some (.ref 231)) (e3 : en_get 3 l = some (.int i)) (hi : 0 ≤ i.toInt ∧ i.toInt + 7 ≤ L) {Ph : Option Value → en_H → Prop} (K : ∀ g1 : List en_E, HI g1 → LwR g1 → At (d + 423) (some ys) (some .boolean) bs_L_law (1330, l, [], (g1, N)) Ph) : At (d + 423) (some ys) (some .boolean) bs_L_law (718, l, [], (g0, N)) Ph := by
  have hF0 : Fr F_law A_law g0 g0 := Fr.rf
  unfold LwR at hR0
  refine At.enter rfl ?_
  refine r_aload_n e1 ?_
  refine r_sload_n e0 ?_
  refine r_iload_n e3 ?_
  refine r_iconst 1 rfl ?_
  refine q_iadd (i.toInt + 1) rfl (by omega) (fun v1 hv1 => ?_)
  refine q_scald (m := L) hL ((i.toInt + 1)) (by omega) (by omega) (fun v2 hv2 => ?_)
  refine r_sload_n e0 ?_
  refine r_iload_n e3 ?_
  refine r_iconst 2 rfl ?_
  refine q_iadd (i.toInt + 2) rfl (by omega) (fun v3 hv3 => ?_)
  refine q_scald (m := L) hL ((i.toInt + 2)) (by omega) (by omega) (fun v4 hv4 => ?_)
  refine r_callV 732 rfl [.ref 0, .int v2, .int v4] [] (Nat.le_of_ble_eq_true rfl) rfl (T_X10_day_0 _ hI0 v2 v4) ?_
  rintro _ _ ⟨g5, rfl, hI6, hF7, v8, rfl, hr9⟩
  refine At.sti ?_
  have hF10 := Fr.tr hF0 hF7 rfl rfl
  have f11 := congrArg Int32.toInt (hF7.1 1 0 rfl)
  have f12 := congrArg Int32.toInt (hF7.1 59 0 rfl)
  have f13 := congrArg Int32.toInt (hF7.1 116 0 rfl)
  have f14 := congrArg Int32.toInt (eA_c (j := 0) (hF7.2.1 173 rfl))
  have f15 := congrArg Int32.toInt (eA_c (j := 1) (hF7.2.1 173 rfl))
  have f16 := congrArg Int32.toInt (eA_c (j := 0) (hF7.2.1 233 rfl))
  have f17 := congrArg Int32.toInt (eA_c (j := 0) (hF7.2.1 234 rfl))
  have f18 := congrArg Int32.toInt (eA_c (j := 5510) (hF7.2.1 234 rfl))
  have f19 := congrArg Int32.toInt (eA_c (j := 0) (hF7.2.1 235 rfl))
  have f20 := congrArg Int32.toInt (eA_c (j := 1) (hF7.2.1 235 rfl))
  refine At.enter rfl ?_
  refine r_pop rfl ?_
  refine r_aload_n e2 ?_
  refine r_sload_n e0 ?_
  refine r_iload_n e3 ?_
  refine r_iconst 1 rfl ?_
  refine q_iadd (i.toInt + 1) rfl (by omega) (fun v21 hv21 => ?_)
  refine q_scald (m := L) hL ((i.toInt + 1)) (by omega) (by omega) (fun v22 hv22 => ?_)
  have sv22 := congrArg Int32.toInt (hv2.symm.trans hv22)
  refine r_sload_n e0 ?_
  refine r_iload_n e3 ?_
  refine r_iconst 2 rfl ?_
  refine q_iadd (i.toInt + 2) rfl (by omega) (fun v23 hv23 => ?_)
  refine q_scald (m := L) hL ((i.toInt + 2)) (by omega) (by omega) (fun v24 hv24 => ?_)
  have sv24 := congrArg Int32.toInt (hv4.symm.trans hv24)
  refine r_callV 747 rfl [.ref 231, .int v22, .int v24] [] (Nat.le_of_ble_eq_true rfl) rfl (T_X11_day_231 _ hI6 v22 v24) ?_
  rintro _ _ ⟨g25, rfl, hI26, hF27, v28, rfl, hr29⟩
  refine At.sti ?_
  have hF30 := Fr.tr hF10 hF27 rfl rfl
  have f31 := congrArg Int32.toInt (hF27.1 1 0 rfl)
  have f32 := congrArg Int32.toInt (hF27.1 59 0 rfl)
  have f33 := congrArg Int32.toInt (hF27.1 116 0 rfl)
  have f34 := congrArg Int32.toInt (eA_c (j := 0) (hF27.2.1 173 rfl))
  have f35 := congrArg Int32.toInt (eA_c (j := 1) (hF27.2.1 173 rfl))
  have f36 := congrArg Int32.toInt (eA_c (j := 0) (hF27.2.1 233 rfl))
  have f37 := congrArg Int32.toInt (eA_c (j := 0) (hF27.2.1 234 rfl))
  have f38 := congrArg Int32.toInt (eA_c (j := 5510) (hF27.2.1 234 rfl))
  have f39 := congrArg Int32.toInt (eA_c (j := 0) (hF27.2.1 235 rfl))
  have f40 := congrArg Int32.toInt (eA_c (j := 1) (hF27.2.1 235 rfl))
  refine At.enter rfl ?_
  refine r_pop rfl ?_
  refine r_goto ?_
  exact K _ hI26 (by unfold LwR; omega)
