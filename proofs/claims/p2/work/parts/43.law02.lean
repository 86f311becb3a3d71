set_option maxRecDepth 100000 in
set_option maxHeartbeats 8000000 in
theorem lq_c17 (d : Nat) {N : Nat} {g0 : List en_E} (hI0 : HI g0) (hR0 : LwR g0) {ys : List Int32} {L : Nat} (hL : ys.length = L) (hL2 : L ≤ 3584) {l : en_L} {i : Int32} (e0 : en_get 0 l = some (.float 0)) (e1 : en_get 1 l = some (.ref 0)) (e2 : en_get 2 l = some (.ref 231)) (e3 : en_get 3 l = some (.int i)) (hi : 0 ≤ i.toInt ∧ i.toInt + 7 ≤ L) {Ph : Option Value → en_H → Prop} (K : ∀ g1 : List en_E, HI g1 → LwR g1 → At (d + 423) (some ys) (some .boolean) bs_L_law (1330, l, [], (g1, N)) Ph) : At (d + 423) (some ys) (some .boolean) bs_L_law (751, l, [], (g0, N)) Ph := by
  have hF0 : Fr F_law A_law g0 g0 := Fr.rf
  unfold LwR at hR0
  refine At.enter rfl ?_
  refine r_aload_n e1 ?_
  refine r_sload_n e0 ?_
  refine r_iload_n e3 ?_
  refine r_iconst 1 rfl ?_
  refine q_iadd (i.toInt + 1) rfl (by omega) (fun v1 hv1 => ?_)
  refine q_scald (m := L) hL ((i.toInt + 1)) (by omega) (by omega) (fun v2 hv2 => ?_)
  refine r_sload_n e0 ?_
  refine r_iload_n e3 ?_
  refine r_iconst 2 rfl ?_
  refine q_iadd (i.toInt + 2) rfl (by omega) (fun v3 hv3 => ?_)
  refine q_scald (m := L) hL ((i.toInt + 2)) (by omega) (by omega) (fun v4 hv4 => ?_)
  refine r_callV 765 rfl [.ref 0, .int v2, .int v4] [] (Nat.le_of_ble_eq_true rfl) rfl (T_X10_where_0 _ hI0 v2 v4) ?_
  rintro _ _ ⟨g5, rfl, hI6, hF7, v8, rfl, hr9⟩
  refine At.sti ?_
  have hF10 := Fr.tr hF0 hF7 rfl rfl
  have f11 := congrArg Int32.toInt (hF7.1 1 0 rfl)
  have f12 := congrArg Int32.toInt (hF7.1 59 0 rfl)
  have f13 := congrArg Int32.toInt (hF7.1 116 0 rfl)
  have f14 := congrArg Int32.toInt (eA_c (j := 0) (hF7.2.1 173 rfl))
  have f15 := congrArg Int32.toInt (eA_c (j := 1) (hF7.2.1 173 rfl))
  have f16 := congrArg Int32.toInt (eA_c (j := 0) (hF7.2.1 233 rfl))
  have f17 := congrArg Int32.toInt (eA_c (j := 0) (hF7.2.1 234 rfl))
  have f18 := congrArg Int32.toInt (eA_c (j := 5510) (hF7.2.1 234 rfl))
  have f19 := congrArg Int32.toInt (eA_c (j := 0) (hF7.2.1 235 rfl))
  have f20 := congrArg Int32.toInt (eA_c (j := 1) (hF7.2.1 235 rfl))
  refine At.enter rfl ?_
  refine r_pop rfl ?_
  refine r_aload_n e2 ?_
  refine r_sload_n e0 ?_
  refine r_iload_n e3 ?_
  refine r_iconst 1 rfl ?_
  refine q_iadd (i.toInt + 1) rfl (by omega) (fun v21 hv21 => ?_)
  refine q_scald (m := L) hL ((i.toInt + 1)) (by omega) (by omega) (fun v22 hv22 => ?_)
  have sv22 := congrArg Int32.toInt (hv2.symm.trans hv22)
  refine r_sload_n e0 ?_
  refine r_iload_n e3 ?_
  refine r_iconst 2 rfl ?_
  refine q_iadd (i.toInt + 2) rfl (by omega) (fun v23 hv23 => ?_)
  refine q_scald (m := L) hL ((i.toInt + 2)) (by omega) (by omega) (fun v24 hv24 => ?_)
  have sv24 := congrArg Int32.toInt (hv4.symm.trans hv24)
  refine r_callV 780 rfl [.ref 231, .int v22, .int v24] [] (Nat.le_of_ble_eq_true rfl) rfl (T_X11_where_231 _ hI6 v22 v24) ?_
  rintro _ _ ⟨g25, rfl, hI26, hF27, v28, rfl, hr29⟩
  refine At.sti ?_
  have hF30 := Fr.tr hF10 hF27 rfl rfl
  have f31 := congrArg Int32.toInt (hF27.1 1 0 rfl)
  have f32 := congrArg Int32.toInt (hF27.1 59 0 rfl)
  have f33 := congrArg Int32.toInt (hF27.1 116 0 rfl)
  have f34 := congrArg Int32.toInt (eA_c (j := 0) (hF27.2.1 173 rfl))
  have f35 := congrArg Int32.toInt (eA_c (j := 1) (hF27.2.1 173 rfl))
  have f36 := congrArg Int32.toInt (eA_c (j := 0) (hF27.2.1 233 rfl))
  have f37 := congrArg Int32.toInt (eA_c (j := 0) (hF27.2.1 234 rfl))
  have f38 := congrArg Int32.toInt (eA_c (j := 5510) (hF27.2.1 234 rfl))
  have f39 := congrArg Int32.toInt (eA_c (j := 0) (hF27.2.1 235 rfl))
  have f40 := congrArg Int32.toInt (eA_c (j := 1) (hF27.2.1 235 rfl))
  refine At.enter rfl ?_
  refine r_pop rfl ?_
  refine r_goto ?_
  exact K _ hI26 (by unfold LwR; omega)

set_option maxRecDepth 100000 in
set_option maxHeartbeats 8000000 in
theorem lq_c18 (d : Nat) {N : Nat} {g0 : List en_E} (hI0 : HI g0) (hR0 : LwR g0) {ys : List Int32} {L : Nat} (hL : ys.length = L) (hL2 : L ≤ 3584) {l : en_L} {i : Int32} (e0 : en_get 0 l = some (.float 0)) (e1 : en_get 1 l = some (.ref 0)) (e2 : en_get 2 l = some (.ref 231)) (e3 : en_get 3 l = some (.int i)) (hi : 0 ≤ i.toInt ∧ i.toInt + 7 ≤ L) {Ph : Option Value → en_H → Prop} (K : ∀ g1 : List en_E, HI g1 → LwR g1 → At (d + 423) (some ys) (some .boolean) bs_L_law (1330, l, [], (g1, N)) Ph) : At (d + 423) (some ys) (some .boolean) bs_L_law (784, l, [], (g0, N)) Ph := by
  have hF0 : Fr F_law A_law g0 g0 := Fr.rf
  unfold LwR at hR0
  refine At.enter rfl ?_
  refine r_aload_n e1 ?_
  refine r_sload_n e0 ?_
  refine r_iload_n e3 ?_
  refine r_iconst 1 rfl ?_
  refine q_iadd (i.toInt + 1) rfl (by omega) (fun v1 hv1 => ?_)
  refine q_scald (m := L) hL ((i.toInt + 1)) (by omega) (by omega) (fun v2 hv2 => ?_)
  refine r_sload_n e0 ?_
  refine r_iload_n e3 ?_
  refine r_iconst 2 rfl ?_
  refine q_iadd (i.toInt + 2) rfl (by omega) (fun v3 hv3 => ?_)
  refine q_scald (m := L) hL ((i.toInt + 2)) (by omega) (by omega) (fun v4 hv4 => ?_)
  refine r_sload_n e0 ?_
  refine r_iload_n e3 ?_
  refine r_iconst 3 rfl ?_
  refine q_iadd (i.toInt + 3) rfl (by omega) (fun v5 hv5 => ?_)
  refine q_scald (m := L) hL ((i.toInt + 3)) (by omega) (by omega) (fun v6 hv6 => ?_)
  refine r_callV 803 rfl [.ref 0, .int v2, .int v4, .int v6] [] (Nat.le_of_ble_eq_true rfl) rfl (T_X10_held_0 _ hI0 v2 v4 v6) ?_
  rintro _ _ ⟨g7, rfl, hI8, hF9, v10, rfl, hr11⟩
  refine At.sti ?_
  have hF12 := Fr.tr hF0 hF9 rfl rfl
  have f13 := congrArg Int32.toInt (hF9.1 1 0 rfl)
  have f14 := congrArg Int32.toInt (hF9.1 59 0 rfl)
  have f15 := congrArg Int32.toInt (hF9.1 116 0 rfl)
  have f16 := congrArg Int32.toInt (eA_c (j := 0) (hF9.2.1 173 rfl))
  have f17 := congrArg Int32.toInt (eA_c (j := 1) (hF9.2.1 173 rfl))
  have f18 := congrArg Int32.toInt (eA_c (j := 0) (hF9.2.1 233 rfl))
  have f19 := congrArg Int32.toInt (eA_c (j := 0) (hF9.2.1 234 rfl))
  have f20 := congrArg Int32.toInt (eA_c (j := 5510) (hF9.2.1 234 rfl))
  have f21 := congrArg Int32.toInt (eA_c (j := 0) (hF9.2.1 235 rfl))
  have f22 := congrArg Int32.toInt (eA_c (j := 1) (hF9.2.1 235 rfl))
  refine At.enter rfl ?_
  refine r_pop rfl ?_
  refine r_aload_n e2 ?_
  refine r_sload_n e0 ?_
  refine r_iload_n e3 ?_
  refine r_iconst 1 rfl ?_
  refine q_iadd (i.toInt + 1) rfl (by omega) (fun v23 hv23 => ?_)
  refine q_scald (m := L) hL ((i.toInt + 1)) (by omega) (by omega) (fun v24 hv24 => ?_)
  have sv24 := congrArg Int32.toInt (hv2.symm.trans hv24)
  refine r_sload_n e0 ?_
  refine r_iload_n e3 ?_
  refine r_iconst 2 rfl ?_
  refine q_iadd (i.toInt + 2) rfl (by omega) (fun v25 hv25 => ?_)
  refine q_scald (m := L) hL ((i.toInt + 2)) (by omega) (by omega) (fun v26 hv26 => ?_)
  have sv26 := congrArg Int32.toInt (hv4.symm.trans hv26)
  refine r_sload_n e0 ?_
  refine r_iload_n e3 ?_
  refine r_iconst 3 rfl ?_
  refine q_iadd (i.toInt + 3) rfl (by omega) (fun v27 hv27 => ?_)
  refine q_scald (m := L) hL ((i.toInt + 3)) (by omega) (by omega) (fun v28 hv28 => ?_)
  have sv28 := congrArg Int32.toInt (hv6.symm.trans hv28)
  refine r_callV 823 rfl [.ref 231, .int v24, .int v26, .int v28] [] (Nat.le_of_ble_eq_true rfl) rfl (T_X11_held_231 _ hI8 v24 v26 v28) ?_
  rintro _ _ ⟨g29, rfl, hI30, hF31, v32, rfl, hr33⟩
  refine At.sti ?_
  have hF34 := Fr.tr hF12 hF31 rfl rfl
  have f35 := congrArg Int32.toInt (hF31.1 1 0 rfl)
  have f36 := congrArg Int32.toInt (hF31.1 59 0 rfl)
  have f37 := congrArg Int32.toInt (hF31.1 116 0 rfl)
  have f38 := congrArg Int32.toInt (eA_c (j := 0) (hF31.2.1 173 rfl))
  have f39 := congrArg Int32.toInt (eA_c (j := 1) (hF31.2.1 173 rfl))
  have f40 := congrArg Int32.toInt (eA_c (j := 0) (hF31.2.1 233 rfl))
  have f41 := congrArg Int32.toInt (eA_c (j := 0) (hF31.2.1 234 rfl))
  have f42 := congrArg Int32.toInt (eA_c (j := 5510) (hF31.2.1 234 rfl))
  have f43 := congrArg Int32.toInt (eA_c (j := 0) (hF31.2.1 235 rfl))
  have f44 := congrArg Int32.toInt (eA_c (j := 1) (hF31.2.1 235 rfl))
  refine At.enter rfl ?_
  refine r_pop rfl ?_
  refine r_goto ?_
  exact K _ hI30 (by unfold LwR; omega)

set_option maxRecDepth 100000 in
set_option maxHeartbeats 8000000 in
theorem lq_c19 (d : Nat) {N : Nat} {g0 : List en_E} (hI0 : HI g0) (hR0 : LwR g0) {ys : List Int32} {L : Nat} (hL : ys.length = L) (hL2 : L ≤ 3584) {l : en_L} {i : Int32} (e0 : en_get 0 l = some (.float 0)) (e1 : en_get 1 l = some (.ref 0)) (e2 : en_get 2 l = some (.ref 231)) (e3 : en_get 3 l = some (.int i)) (hi : 0 ≤ i.toInt ∧ i.toInt + 7 ≤ L) {Ph : Option Value → en_H → Prop} (K : ∀ g1 : List en_E, HI g1 → LwR g1 → At (d + 423) (some ys) (some .boolean) bs_L_law (1330, l, [], (g1, N)) Ph) : At (d + 423) (some ys) (some .boolean) bs_L_law (827, l, [], (g0, N)) Ph := by
  have hF0 : Fr F_law A_law g0 g0 := Fr.rf
  unfold LwR at hR0
  refine At.enter rfl ?_
  refine r_aload_n e1 ?_
  refine r_callV 831 rfl [.ref 0] [] (Nat.le_of_ble_eq_true rfl) rfl (T_X10_choke_0 _ hI0) ?_
  rintro _ _ ⟨g1, rfl, hI2, hF3, v4, rfl, hr5⟩
  refine At.sti ?_
  have hF6 := Fr.tr hF0 hF3 rfl rfl
  have f7 := congrArg Int32.toInt (hF3.1 1 0 rfl)
  have f8 := congrArg Int32.toInt (hF3.1 59 0 rfl)
  have f9 := congrArg Int32.toInt (hF3.1 116 0 rfl)
  have f10 := congrArg Int32.toInt (eA_c (j := 0) (hF3.2.1 173 rfl))
  have f11 := congrArg Int32.toInt (eA_c (j := 1) (hF3.2.1 173 rfl))
  have f12 := congrArg Int32.toInt (eA_c (j := 0) (hF3.2.1 233 rfl))
  have f13 := congrArg Int32.toInt (eA_c (j := 0) (hF3.2.1 234 rfl))
  have f14 := congrArg Int32.toInt (eA_c (j := 5510) (hF3.2.1 234 rfl))
  have f15 := congrArg Int32.toInt (eA_c (j := 0) (hF3.2.1 235 rfl))
  have f16 := congrArg Int32.toInt (eA_c (j := 1) (hF3.2.1 235 rfl))
  refine At.enter rfl ?_
  refine r_pop rfl ?_
  refine r_aload_n e2 ?_
  refine r_callV 836 rfl [.ref 231] [] (Nat.le_of_ble_eq_true rfl) rfl (T_X11_choke_231 _ hI2) ?_
  rintro _ _ ⟨g17, rfl, hI18, hF19, v20, rfl, hr21⟩
  refine At.sti ?_
  have hF22 := Fr.tr hF6 hF19 rfl rfl
  have f23 := congrArg Int32.toInt (hF19.1 1 0 rfl)
  have f24 := congrArg Int32.toInt (hF19.1 59 0 rfl)
  have f25 := congrArg Int32.toInt (hF19.1 116 0 rfl)
  have f26 := congrArg Int32.toInt (eA_c (j := 0) (hF19.2.1 173 rfl))
  have f27 := congrArg Int32.toInt (eA_c (j := 1) (hF19.2.1 173 rfl))
  have f28 := congrArg Int32.toInt (eA_c (j := 0) (hF19.2.1 233 rfl))
  have f29 := congrArg Int32.toInt (eA_c (j := 0) (hF19.2.1 234 rfl))
  have f30 := congrArg Int32.toInt (eA_c (j := 5510) (hF19.2.1 234 rfl))
  have f31 := congrArg Int32.toInt (eA_c (j := 0) (hF19.2.1 235 rfl))
  have f32 := congrArg Int32.toInt (eA_c (j := 1) (hF19.2.1 235 rfl))
  refine At.enter rfl ?_
  refine r_pop rfl ?_
  refine r_goto ?_
  exact K _ hI18 (by unfold LwR; omega)

set_option maxRecDepth 100000 in
set_option maxHeartbeats 8000000 in
theorem lq_c20 (d : Nat) {N : Nat} {g0 : List en_E} (hI0 : HI g0) (hR0 : LwR g0) {ys : List Int32} {L : Nat} (hL : ys.length = L) (hL2 : L ≤ 3584) {l : en_L} {i : Int32} (e0 : en_get 0 l = some (.float 0)) (e1 : en_get 1 l = some (.ref 0)) (e2 : en_get 2 l = some (.ref 231)) (e3 : en_get 3 l = some (.int i)) (hi : 0 ≤ i.toInt ∧ i.toInt + 7 ≤ L) {Ph : Option Value → en_H → Prop} (K : ∀ g1 : List en_E, HI g1 → LwR g1 → At (d + 423) (some ys) (some .boolean) bs_L_law (1330, l, [], (g1, N)) Ph) : At (d + 423) (some ys) (some .boolean) bs_L_law (840, l, [], (g0, N)) Ph := by
  have hF0 : Fr F_law A_law g0 g0 := Fr.rf
  unfold LwR at hR0
  refine At.enter rfl ?_
  refine r_aload_n e1 ?_
  refine r_sload_n e0 ?_
  refine r_iload_n e3 ?_
  refine r_iconst 1 rfl ?_
  refine q_iadd (i.toInt + 1) rfl (by omega) (fun v1 hv1 => ?_)
  refine q_scald (m := L) hL ((i.toInt + 1)) (by omega) (by omega) (fun v2 hv2 => ?_)
  refine r_sload_n e0 ?_
  refine r_iload_n e3 ?_
  refine r_iconst 2 rfl ?_
  refine q_iadd (i.toInt + 2) rfl (by omega) (fun v3 hv3 => ?_)
  refine q_scald (m := L) hL ((i.toInt + 2)) (by omega) (by omega) (fun v4 hv4 => ?_)
  refine r_callV 854 rfl [.ref 0, .int v2, .int v4] [] (Nat.le_of_ble_eq_true rfl) rfl (T_X10_swaps_0 _ hI0 v2 v4) ?_
  rintro _ _ ⟨g5, rfl, hI6, hF7, v8, rfl, hr9⟩
  refine At.sti ?_
  have hF10 := Fr.tr hF0 hF7 rfl rfl
  have f11 := congrArg Int32.toInt (hF7.1 1 0 rfl)
  have f12 := congrArg Int32.toInt (hF7.1 59 0 rfl)
  have f13 := congrArg Int32.toInt (hF7.1 116 0 rfl)
  have f14 := congrArg Int32.toInt (eA_c (j := 0) (hF7.2.1 173 rfl))
  have f15 := congrArg Int32.toInt (eA_c (j := 1) (hF7.2.1 173 rfl))
  have f16 := congrArg Int32.toInt (eA_c (j := 0) (hF7.2.1 233 rfl))
  have f17 := congrArg Int32.toInt (eA_c (j := 0) (hF7.2.1 234 rfl))
  have f18 := congrArg Int32.toInt (eA_c (j := 5510) (hF7.2.1 234 rfl))
  have f19 := congrArg Int32.toInt (eA_c (j := 0) (hF7.2.1 235 rfl))
  have f20 := congrArg Int32.toInt (eA_c (j := 1) (hF7.2.1 235 rfl))
  refine At.enter rfl ?_
  refine r_pop rfl ?_
  refine r_aload_n e2 ?_
  refine r_sload_n e0 ?_
  refine r_iload_n e3 ?_
  refine r_iconst 1 rfl ?_
  refine q_iadd (i.toInt + 1) rfl (by omega) (fun v21 hv21 => ?_)
  refine q_scald (m := L) hL ((i.toInt + 1)) (by omega) (by omega) (fun v22 hv22 => ?_)
  have sv22 := congrArg Int32.toInt (hv2.symm.trans hv22)
  refine r_sload_n e0 ?_
  refine r_iload_n e3 ?_
  refine r_iconst 2 rfl ?_
  refine q_iadd (i.toInt + 2) rfl (by omega) (fun v23 hv23 => ?_)
  refine q_scald (m := L) hL ((i.toInt + 2)) (by omega) (by omega) (fun v24 hv24 => ?_)
  have sv24 := congrArg Int32.toInt (hv4.symm.trans hv24)
  refine r_callV 869 rfl [.ref 231, .int v22, .int v24] [] (Nat.le_of_ble_eq_true rfl) rfl (T_X11_swaps_231 _ hI6 v22 v24) ?_
  rintro _ _ ⟨g25, rfl, hI26, hF27, v28, rfl, hr29⟩
  refine At.sti ?_
  have hF30 := Fr.tr hF10 hF27 rfl rfl
  have f31 := congrArg Int32.toInt (hF27.1 1 0 rfl)
  have f32 := congrArg Int32.toInt (hF27.1 59 0 rfl)
  have f33 := congrArg Int32.toInt (hF27.1 116 0 rfl)
  have f34 := congrArg Int32.toInt (eA_c (j := 0) (hF27.2.1 173 rfl))
  have f35 := congrArg Int32.toInt (eA_c (j := 1) (hF27.2.1 173 rfl))
  have f36 := congrArg Int32.toInt (eA_c (j := 0) (hF27.2.1 233 rfl))
  have f37 := congrArg Int32.toInt (eA_c (j := 0) (hF27.2.1 234 rfl))
  have f38 := congrArg Int32.toInt (eA_c (j := 5510) (hF27.2.1 234 rfl))
  have f39 := congrArg Int32.toInt (eA_c (j := 0) (hF27.2.1 235 rfl))
  have f40 := congrArg Int32.toInt (eA_c (j := 1) (hF27.2.1 235 rfl))
  refine At.enter rfl ?_
  refine r_pop rfl ?_
  refine r_goto ?_
  exact K _ hI26 (by unfold LwR; omega)

set_option maxRecDepth 100000 in
set_option maxHeartbeats 8000000 in
theorem lq_c21 (d : Nat) {N : Nat} {g0 : List en_E} (hI0 : HI g0) (hR0 : LwR g0) {ys : List Int32} {L : Nat} (hL : ys.length = L) (hL2 : L ≤ 3584) {l : en_L} {i : Int32} (e0 : en_get 0 l = some (.float 0)) (e1 : en_get 1 l = some (.ref 0)) (e2 : en_get 2 l = some (.ref 231)) (e3 : en_get 3 l = some (.int i)) (hi : 0 ≤ i.toInt ∧ i.toInt + 7 ≤ L) {Ph : Option Value → en_H → Prop} (K : ∀ g1 : List en_E, HI g1 → LwR g1 → At (d + 423) (some ys) (some .boolean) bs_L_law (1330, l, [], (g1, N)) Ph) : At (d + 423) (some ys) (some .boolean) bs_L_law (873, l, [], (g0, N)) Ph := by
  have hF0 : Fr F_law A_law g0 g0 := Fr.rf
  unfold LwR at hR0
  refine At.enter rfl ?_
  refine r_aload_n e1 ?_
  refine r_sload_n e0 ?_
  refine r_iload_n e3 ?_
  refine r_iconst 1 rfl ?_
  refine q_iadd (i.toInt + 1) rfl (by omega) (fun v1 hv1 => ?_)
  refine q_scald (m := L) hL ((i.toInt + 1)) (by omega) (by omega) (fun v2 hv2 => ?_)
  refine r_sload_n e0 ?_
  refine r_iload_n e3 ?_
  refine r_iconst 2 rfl ?_
  refine q_iadd (i.toInt + 2) rfl (by omega) (fun v3 hv3 => ?_)
  refine q_scald (m := L) hL ((i.toInt + 2)) (by omega) (by omega) (fun v4 hv4 => ?_)
  refine r_callV 887 rfl [.ref 0, .int v2, .int v4] [] (Nat.le_of_ble_eq_true rfl) rfl (T_X10_swap_0 _ hI0 v2 v4) ?_
  rintro _ _ ⟨g5, rfl, hI6, hF7, v8, rfl, hr9⟩
  refine At.sti ?_
  have hF10 := Fr.tr hF0 hF7 rfl rfl
  have f11 := congrArg Int32.toInt (hF7.1 1 0 rfl)
  have f12 := congrArg Int32.toInt (hF7.1 59 0 rfl)
  have f13 := congrArg Int32.toInt (hF7.1 116 0 rfl)
  have f14 := congrArg Int32.toInt (eA_c (j := 0) (hF7.2.1 173 rfl))
  have f15 := congrArg Int32.toInt (eA_c (j := 1) (hF7.2.1 173 rfl))
  have f16 := congrArg Int32.toInt (eA_c (j := 0) (hF7.2.1 233 rfl))
  have f17 := congrArg Int32.toInt (eA_c (j := 0) (hF7.2.1 234 rfl))
  have f18 := congrArg Int32.toInt (eA_c (j := 5510) (hF7.2.1 234 rfl))
  have f19 := congrArg Int32.toInt (eA_c (j := 0) (hF7.2.1 235 rfl))
  have f20 := congrArg Int32.toInt (eA_c (j := 1) (hF7.2.1 235 rfl))
  refine At.enter rfl ?_
  refine r_pop rfl ?_
  refine r_aload_n e2 ?_
  refine r_sload_n e0 ?_
  refine r_iload_n e3 ?_
  refine r_iconst 1 rfl ?_
  refine q_iadd (i.toInt + 1) rfl (by omega) (fun v21 hv21 => ?_)
  refine q_scald (m := L) hL ((i.toInt + 1)) (by omega) (by omega) (fun v22 hv22 => ?_)
  have sv22 := congrArg Int32.toInt (hv2.symm.trans hv22)
  refine r_sload_n e0 ?_
  refine r_iload_n e3 ?_
  refine r_iconst 2 rfl ?_
  refine q_iadd (i.toInt + 2) rfl (by omega) (fun v23 hv23 => ?_)
  refine q_scald (m := L) hL ((i.toInt + 2)) (by omega) (by omega) (fun v24 hv24 => ?_)
  have sv24 := congrArg Int32.toInt (hv4.symm.trans hv24)
  refine r_callV 902 rfl [.ref 231, .int v22, .int v24] [] (Nat.le_of_ble_eq_true rfl) rfl (T_X11_swap_231 _ hI6 v22 v24) ?_
  rintro _ _ ⟨g25, rfl, hI26, hF27, v28, rfl, hr29⟩
  refine At.sti ?_
  have hF30 := Fr.tr hF10 hF27 rfl rfl
  have f31 := congrArg Int32.toInt (hF27.1 1 0 rfl)
  have f32 := congrArg Int32.toInt (hF27.1 59 0 rfl)
  have f33 := congrArg Int32.toInt (hF27.1 116 0 rfl)
  have f34 := congrArg Int32.toInt (eA_c (j := 0) (hF27.2.1 173 rfl))
  have f35 := congrArg Int32.toInt (eA_c (j := 1) (hF27.2.1 173 rfl))
  have f36 := congrArg Int32.toInt (eA_c (j := 0) (hF27.2.1 234 rfl))
  have f37 := congrArg Int32.toInt (eA_c (j := 5510) (hF27.2.1 234 rfl))
  have f38 := congrArg Int32.toInt (eA_c (j := 0) (hF27.2.1 235 rfl))
  have f39 := congrArg Int32.toInt (eA_c (j := 1) (hF27.2.1 235 rfl))
  refine At.enter rfl ?_
  refine r_pop rfl ?_
  refine r_goto ?_
  exact K _ hI26 (by unfold LwR; omega)

set_option maxRecDepth 100000 in
set_option maxHeartbeats 8000000 in
theorem lq_c22 (d : Nat) {N : Nat} {g0 : List en_E} (hI0 : HI g0) (hR0 : LwR g0) {ys : List Int32} {L : Nat} (hL : ys.length = L) (hL2 : L ≤ 3584) {l : en_L} {i : Int32} (e0 : en_get 0 l = some (.float 0)) (e1 : en_get 1 l = some (.ref 0)) (e2 : en_get 2 l = some (.ref 231)) (e3 : en_get 3 l = some (.int i)) (hi : 0 ≤ i.toInt ∧ i.toInt + 7 ≤ L) {Ph : Option Value → en_H → Prop} (K : ∀ g1 : List en_E, HI g1 → LwR g1 → At (d + 423) (some ys) (some .boolean) bs_L_law (1330, l, [], (g1, N)) Ph) : At (d + 423) (some ys) (some .boolean) bs_L_law (906, l, [], (g0, N)) Ph := by
  have hF0 : Fr F_law A_law g0 g0 := Fr.rf
  unfold LwR at hR0
  refine At.enter rfl ?_
  refine r_aload_n e1 ?_
  refine r_sload_n e0 ?_
  refine r_iload_n e3 ?_
  refine r_iconst 1 rfl ?_
  refine q_iadd (i.toInt + 1) rfl (by omega) (fun v1 hv1 => ?_)
  refine q_scald (m := L) hL ((i.toInt + 1)) (by omega) (by omega) (fun v2 hv2 => ?_)
  refine r_callV 915 rfl [.ref 0, .int v2] [] (Nat.le_of_ble_eq_true rfl) rfl (T_X10_home_0 _ hI0 v2) ?_
  rintro _ _ ⟨g3, rfl, hI4, hF5, v6, rfl, hr7⟩
  refine At.sti ?_
  have hF8 := Fr.tr hF0 hF5 rfl rfl
  have f9 := congrArg Int32.toInt (hF5.1 1 0 rfl)
  have f10 := congrArg Int32.toInt (hF5.1 59 0 rfl)
  have f11 := congrArg Int32.toInt (hF5.1 116 0 rfl)
  have f12 := congrArg Int32.toInt (eA_c (j := 0) (hF5.2.1 173 rfl))
  have f13 := congrArg Int32.toInt (eA_c (j := 1) (hF5.2.1 173 rfl))
  have f14 := congrArg Int32.toInt (eA_c (j := 0) (hF5.2.1 233 rfl))
  have f15 := congrArg Int32.toInt (eA_c (j := 0) (hF5.2.1 234 rfl))
  have f16 := congrArg Int32.toInt (eA_c (j := 5510) (hF5.2.1 234 rfl))
  have f17 := congrArg Int32.toInt (eA_c (j := 0) (hF5.2.1 235 rfl))
  have f18 := congrArg Int32.toInt (eA_c (j := 1) (hF5.2.1 235 rfl))
  refine At.enter rfl ?_
  refine r_pop rfl ?_
  refine r_aload_n e2 ?_
  refine r_sload_n e0 ?_
  refine r_iload_n e3 ?_
  refine r_iconst 1 rfl ?_
  refine q_iadd (i.toInt + 1) rfl (by omega) (fun v19 hv19 => ?_)
  refine q_scald (m := L) hL ((i.toInt + 1)) (by omega) (by omega) (fun v20 hv20 => ?_)
  have sv20 := congrArg Int32.toInt (hv2.symm.trans hv20)
  refine r_callV 925 rfl [.ref 231, .int v20] [] (Nat.le_of_ble_eq_true rfl) rfl (T_X11_home_231 _ hI4 v20) ?_
  rintro _ _ ⟨g21, rfl, hI22, hF23, v24, rfl, hr25⟩
  refine At.sti ?_
  have hF26 := Fr.tr hF8 hF23 rfl rfl
  have f27 := congrArg Int32.toInt (hF23.1 1 0 rfl)
  have f28 := congrArg Int32.toInt (hF23.1 59 0 rfl)
  have f29 := congrArg Int32.toInt (hF23.1 116 0 rfl)
  have f30 := congrArg Int32.toInt (eA_c (j := 0) (hF23.2.1 173 rfl))
  have f31 := congrArg Int32.toInt (eA_c (j := 1) (hF23.2.1 173 rfl))
  have f32 := congrArg Int32.toInt (eA_c (j := 0) (hF23.2.1 233 rfl))
  have f33 := congrArg Int32.toInt (eA_c (j := 0) (hF23.2.1 234 rfl))
  have f34 := congrArg Int32.toInt (eA_c (j := 5510) (hF23.2.1 234 rfl))
  have f35 := congrArg Int32.toInt (eA_c (j := 0) (hF23.2.1 235 rfl))
  have f36 := congrArg Int32.toInt (eA_c (j := 1) (hF23.2.1 235 rfl))
  refine At.enter rfl ?_
  refine r_pop rfl ?_
  refine r_goto ?_
  exact K _ hI22 (by unfold LwR; omega)

set_option maxRecDepth 100000 in
set_option maxHeartbeats 8000000 in
theorem lq_c23 (d : Nat) {N : Nat} {g0 : List en_E} (hI0 : HI g0) (hR0 : LwR g0) {ys : List Int32} {L : Nat} (hL : ys.length = L) (hL2 : L ≤ 3584) {l : en_L} {i : Int32} (e0 : en_get 0 l = some (.float 0)) (e1 : en_get 1 l = some (.ref 0)) (e2 : en_get 2 l = some (.ref 231)) (e3 : en_get 3 l = some (.int i)) (hi : 0 ≤ i.toInt ∧ i.toInt + 7 ≤ L) {Ph : Option Value → en_H → Prop} (K : ∀ g1 : List en_E, HI g1 → LwR g1 → At (d + 423) (some ys) (some .boolean) bs_L_law (1330, l, [], (g1, N)) Ph) : At (d + 423) (some ys) (some .boolean) bs_L_law (929, l, [], (g0, N)) Ph := by
  have hF0 : Fr F_law A_law g0 g0 := Fr.rf
  unfold LwR at hR0
  refine At.enter rfl ?_
  refine r_aload_n e1 ?_
  refine r_sload_n e0 ?_
  refine r_iload_n e3 ?_
  refine r_iconst 1 rfl ?_
  refine q_iadd (i.toInt + 1) rfl (by omega) (fun v1 hv1 => ?_)
  refine q_scald (m := L) hL ((i.toInt + 1)) (by omega) (by omega) (fun v2 hv2 => ?_)
  refine r_callV 938 rfl [.ref 0, .int v2] [] (Nat.le_of_ble_eq_true rfl) rfl (T_X10_cost_0 _ hI0 v2) ?_
  rintro _ _ ⟨g3, rfl, hI4, hF5, v6, rfl, hr7⟩
  refine At.sti ?_
  have hF8 := Fr.tr hF0 hF5 rfl rfl
  have f9 := congrArg Int32.toInt (hF5.1 1 0 rfl)
  have f10 := congrArg Int32.toInt (hF5.1 59 0 rfl)
  have f11 := congrArg Int32.toInt (hF5.1 116 0 rfl)
  have f12 := congrArg Int32.toInt (eA_c (j := 0) (hF5.2.1 173 rfl))
  have f13 := congrArg Int32.toInt (eA_c (j := 1) (hF5.2.1 173 rfl))
  have f14 := congrArg Int32.toInt (eA_c (j := 0) (hF5.2.1 233 rfl))
  have f15 := congrArg Int32.toInt (eA_c (j := 0) (hF5.2.1 234 rfl))
  have f16 := congrArg Int32.toInt (eA_c (j := 5510) (hF5.2.1 234 rfl))
  have f17 := congrArg Int32.toInt (eA_c (j := 0) (hF5.2.1 235 rfl))
  have f18 := congrArg Int32.toInt (eA_c (j := 1) (hF5.2.1 235 rfl))
  refine At.enter rfl ?_
  refine r_pop rfl ?_
  refine r_aload_n e2 ?_
  refine r_sload_n e0 ?_
  refine r_iload_n e3 ?_
  refine r_iconst 1 rfl ?_
  refine q_iadd (i.toInt + 1) rfl (by omega) (fun v19 hv19 => ?_)
  refine q_scald (m := L) hL ((i.toInt + 1)) (by omega) (by omega) (fun v20 hv20 => ?_)
  have sv20 := congrArg Int32.toInt (hv2.symm.trans hv20)
  refine r_callV 948 rfl [.ref 231, .int v20] [] (Nat.le_of_ble_eq_true rfl) rfl (T_X11_cost_231 _ hI4 v20) ?_
  rintro _ _ ⟨g21, rfl, hI22, hF23, v24, rfl, hr25⟩
  refine At.sti ?_
  have hF26 := Fr.tr hF8 hF23 rfl rfl
  have f27 := congrArg Int32.toInt (hF23.1 1 0 rfl)
  have f28 := congrArg Int32.toInt (hF23.1 59 0 rfl)
  have f29 := congrArg Int32.toInt (hF23.1 116 0 rfl)
  have f30 := congrArg Int32.toInt (eA_c (j := 0) (hF23.2.1 173 rfl))
  have f31 := congrArg Int32.toInt (eA_c (j := 1) (hF23.2.1 173 rfl))
  have f32 := congrArg Int32.toInt (eA_c (j := 0) (hF23.2.1 233 rfl))
  have f33 := congrArg Int32.toInt (eA_c (j := 0) (hF23.2.1 234 rfl))
  have f34 := congrArg Int32.toInt (eA_c (j := 5510) (hF23.2.1 234 rfl))
  have f35 := congrArg Int32.toInt (eA_c (j := 0) (hF23.2.1 235 rfl))
  have f36 := congrArg Int32.toInt (eA_c (j := 1) (hF23.2.1 235 rfl))
  refine At.enter rfl ?_
  refine r_pop rfl ?_
  refine r_goto ?_
  exact K _ hI22 (by unfold LwR; omega)

set_option maxRecDepth 100000 in
set_option maxHeartbeats 8000000 in
theorem lq_c24 (d : Nat) {N : Nat} {g0 : List en_E} (hI0 : HI g0) (hR0 : LwR g0) {ys : List Int32} {L : Nat} (hL : ys.length = L) (hL2 : L ≤ 3584) {l : en_L} {i : Int32} (e0 : en_get 0 l = some (.float 0)) (e1 : en_get 1 l = some (.ref 0)) (e2 : en_get 2 l = some (.ref 231)) (e3 : en_get 3 l = some (.int i)) (hi : 0 ≤ i.toInt ∧ i.toInt + 7 ≤ L) {Ph : Option Value → en_H → Prop} (K : ∀ g1 : List en_E, HI g1 → LwR g1 → At (d + 423) (some ys) (some .boolean) bs_L_law (1330, l, [], (g1, N)) Ph) : At (d + 423) (some ys) (some .boolean) bs_L_law (952, l, [], (g0, N)) Ph := by
  have hF0 : Fr F_law A_law g0 g0 := Fr.rf
  unfold LwR at hR0
  refine At.enter rfl ?_
  refine r_aload_n e1 ?_
  refine r_sload_n e0 ?_
  refine r_iload_n e3 ?_
  refine r_iconst 1 rfl ?_
  refine q_iadd (i.toInt + 1) rfl (by omega) (fun v1 hv1 => ?_)
  refine q_scald (m := L) hL ((i.toInt + 1)) (by omega) (by omega) (fun v2 hv2 => ?_)
  refine r_callV 961 rfl [.ref 0, .int v2] [] (Nat.le_of_ble_eq_true rfl) rfl (T_X10_sent_0 _ hI0 v2) ?_
  rintro _ _ ⟨g3, rfl, hI4, hF5, v6, rfl, hr7⟩
  refine At.sti ?_
  have hF8 := Fr.tr hF0 hF5 rfl rfl
  have f9 := congrArg Int32.toInt (hF5.1 1 0 rfl)
  have f10 := congrArg Int32.toInt (hF5.1 59 0 rfl)
  have f11 := congrArg Int32.toInt (hF5.1 116 0 rfl)
  have f12 := congrArg Int32.toInt (eA_c (j := 0) (hF5.2.1 173 rfl))
  have f13 := congrArg Int32.toInt (eA_c (j := 1) (hF5.2.1 173 rfl))
  have f14 := congrArg Int32.toInt (eA_c (j := 0) (hF5.2.1 233 rfl))
  have f15 := congrArg Int32.toInt (eA_c (j := 0) (hF5.2.1 234 rfl))
  have f16 := congrArg Int32.toInt (eA_c (j := 5510) (hF5.2.1 234 rfl))
  have f17 := congrArg Int32.toInt (eA_c (j := 0) (hF5.2.1 235 rfl))
  have f18 := congrArg Int32.toInt (eA_c (j := 1) (hF5.2.1 235 rfl))
  refine At.enter rfl ?_
  refine r_pop rfl ?_
  refine r_aload_n e2 ?_
  refine r_sload_n e0 ?_
  refine r_iload_n e3 ?_
  refine r_iconst 1 rfl ?_
  refine q_iadd (i.toInt + 1) rfl (by omega) (fun v19 hv19 => ?_)
  refine q_scald (m := L) hL ((i.toInt + 1)) (by omega) (by omega) (fun v20 hv20 => ?_)
  have sv20 := congrArg Int32.toInt (hv2.symm.trans hv20)
  refine r_callV 971 rfl [.ref 231, .int v20] [] (Nat.le_of_ble_eq_true rfl) rfl (T_X11_sent_231 _ hI4 v20) ?_
  rintro _ _ ⟨g21, rfl, hI22, hF23, v24, rfl, hr25⟩
  refine At.sti ?_
  have hF26 := Fr.tr hF8 hF23 rfl rfl
  have f27 := congrArg Int32.toInt (hF23.1 1 0 rfl)
  have f28 := congrArg Int32.toInt (hF23.1 59 0 rfl)
  have f29 := congrArg Int32.toInt (hF23.1 116 0 rfl)
  have f30 := congrArg Int32.toInt (eA_c (j := 0) (hF23.2.1 173 rfl))
  have f31 := congrArg Int32.toInt (eA_c (j := 1) (hF23.2.1 173 rfl))
  have f32 := congrArg Int32.toInt (eA_c (j := 0) (hF23.2.1 233 rfl))
  have f33 := congrArg Int32.toInt (eA_c (j := 0) (hF23.2.1 234 rfl))
  have f34 := congrArg Int32.toInt (eA_c (j := 5510) (hF23.2.1 234 rfl))
  have f35 := congrArg Int32.toInt (eA_c (j := 0) (hF23.2.1 235 rfl))
  have f36 := congrArg Int32.toInt (eA_c (j := 1) (hF23.2.1 235 rfl))
  refine At.enter rfl ?_
  refine r_pop rfl ?_
  refine r_goto ?_
  exact K _ hI22 (by unfold LwR; omega)

set_option maxRecDepth 100000 in
set_option maxHeartbeats 8000000 in
theorem lq_c25 (d : Nat) {N : Nat} {g0 : List en_E} (hI0 : HI g0) (hR0 : LwR g0) {ys : List Int32} {L : Nat} (hL : ys.length = L) (hL2 : L ≤ 3584) {l : en_L} {i : Int32} (e0 : en_get 0 l = some (.float 0)) (e1 : en_get 1 l = some (.ref 0)) (e2 : en_get 2 l = some (.ref 231)) (e3 : en_get 3 l = some (.int i)) (hi : 0 ≤ i.toInt ∧ i.toInt + 7 ≤ L) {Ph : Option Value → en_H → Prop} (K : ∀ g1 : List en_E, HI g1 → LwR g1 → At (d + 423) (some ys) (some .boolean) bs_L_law (1330, l, [], (g1, N)) Ph) : At (d + 423) (some ys) (some .boolean) bs_L_law (975, l, [], (g0, N)) Ph := by
  have hF0 : Fr F_law A_law g0 g0 := Fr.rf
  unfold LwR at hR0
  refine At.enter rfl ?_
  refine r_aload_n e1 ?_
  refine r_sload_n e0 ?_
  refine r_iload_n e3 ?_
  refine r_iconst 1 rfl ?_
  refine q_iadd (i.toInt + 1) rfl (by omega) (fun v1 hv1 => ?_)
  refine q_scald (m := L) hL ((i.toInt + 1)) (by omega) (by omega) (fun v2 hv2 => ?_)
  refine r_callV 984 rfl [.ref 0, .int v2] [] (Nat.le_of_ble_eq_true rfl) rfl (T_X10_income_0 _ hI0 v2) ?_
  rintro _ _ ⟨g3, rfl, hI4, hF5, v6, rfl, hr7⟩
  refine At.sti ?_
  have hF8 := Fr.tr hF0 hF5 rfl rfl
  have f9 := congrArg Int32.toInt (hF5.1 1 0 rfl)
  have f10 := congrArg Int32.toInt (hF5.1 59 0 rfl)
  have f11 := congrArg Int32.toInt (hF5.1 116 0 rfl)
  have f12 := congrArg Int32.toInt (eA_c (j := 0) (hF5.2.1 173 rfl))
  have f13 := congrArg Int32.toInt (eA_c (j := 1) (hF5.2.1 173 rfl))
  have f14 := congrArg Int32.toInt (eA_c (j := 0) (hF5.2.1 233 rfl))
  have f15 := congrArg Int32.toInt (eA_c (j := 0) (hF5.2.1 234 rfl))
  have f16 := congrArg Int32.toInt (eA_c (j := 5510) (hF5.2.1 234 rfl))
  have f17 := congrArg Int32.toInt (eA_c (j := 0) (hF5.2.1 235 rfl))
  have f18 := congrArg Int32.toInt (eA_c (j := 1) (hF5.2.1 235 rfl))
  refine At.enter rfl ?_
  refine r_pop rfl ?_
  refine r_aload_n e2 ?_
  refine r_sload_n e0 ?_
  refine r_iload_n e3 ?_
  refine r_iconst 1 rfl ?_
  refine q_iadd (i.toInt + 1) rfl (by omega) (fun v19 hv19 => ?_)
  refine q_scald (m := L) hL ((i.toInt + 1)) (by omega) (by omega) (fun v20 hv20 => ?_)
  have sv20 := congrArg Int32.toInt (hv2.symm.trans hv20)
  refine r_callV 994 rfl [.ref 231, .int v20] [] (Nat.le_of_ble_eq_true rfl) rfl (T_X11_income_231 _ hI4 v20) ?_
  rintro _ _ ⟨g21, rfl, hI22, hF23, v24, rfl, hr25⟩
  refine At.sti ?_
  have hF26 := Fr.tr hF8 hF23 rfl rfl
  have f27 := congrArg Int32.toInt (hF23.1 1 0 rfl)
  have f28 := congrArg Int32.toInt (hF23.1 59 0 rfl)
  have f29 := congrArg Int32.toInt (hF23.1 116 0 rfl)
  have f30 := congrArg Int32.toInt (eA_c (j := 0) (hF23.2.1 173 rfl))
  have f31 := congrArg Int32.toInt (eA_c (j := 1) (hF23.2.1 173 rfl))
  have f32 := congrArg Int32.toInt (eA_c (j := 0) (hF23.2.1 233 rfl))
  have f33 := congrArg Int32.toInt (eA_c (j := 0) (hF23.2.1 234 rfl))
  have f34 := congrArg Int32.toInt (eA_c (j := 5510) (hF23.2.1 234 rfl))
  have f35 := congrArg Int32.toInt (eA_c (j := 0) (hF23.2.1 235 rfl))
  have f36 := congrArg Int32.toInt (eA_c (j := 1) (hF23.2.1 235 rfl))
  refine At.enter rfl ?_
  refine r_pop rfl ?_
  refine r_goto ?_
  exact K _ hI22 (by unfold LwR; omega)
