set_option maxRecDepth 100000 in
theorem lw_c0 (s0 s1 s2 s3 s4 s5 s6 : Int32) : At 14 (some [s0, s1, s2, s3, s4, s5, s6]) (some .boolean) bs_L_law (208, [(3, .int 0), (2, .ref 231), (1, .ref 0), (0, .float 0)], [], (hp_X ++ hp_M, 51333)) LwE := by
  refine At.enter rfl ?_
  refine r_aload_n rfl ?_
  refine r_sload_n rfl ?_
  refine r_iload_n rfl ?_
  refine r_iconst 1 rfl ?_
  refine r_iadd 1 rfl ?_
  refine r_scald (v := s1) (by decide) rfl ?_
  refine r_sload_n rfl ?_
  refine r_iload_n rfl ?_
  refine r_iconst 2 rfl ?_
  refine r_iadd 2 rfl ?_
  refine r_scald (v := s2) (by decide) rfl ?_
  refine r_sload_n rfl ?_
  refine r_iload_n rfl ?_
  refine r_iconst 3 rfl ?_
  refine r_iadd 3 rfl ?_
  refine r_scald (v := s3) (by decide) rfl ?_
  refine r_lx 227 rfl [.ref 0, .int s1, .int s2, .int s3] [] (Nat.le_of_ble_eq_true rfl) rfl (zx_X10_stand 51333 s1 s2 s3) (fun a_ => ?_)
  refine At.enter rfl ?_
  refine r_aload_n rfl ?_
  refine r_sload_n rfl ?_
  refine r_iload_n rfl ?_
  refine r_iconst 1 rfl ?_
  refine r_iadd 1 rfl ?_
  refine r_scald (v := s1) (by decide) rfl ?_
  refine r_sload_n rfl ?_
  refine r_iload_n rfl ?_
  refine r_iconst 2 rfl ?_
  refine r_iadd 2 rfl ?_
  refine r_scald (v := s2) (by decide) rfl ?_
  refine r_sload_n rfl ?_
  refine r_iload_n rfl ?_
  refine r_iconst 3 rfl ?_
  refine r_iadd 3 rfl ?_
  refine r_scald (v := s3) (by decide) rfl ?_
  refine r_lm 246 rfl [.ref 231, .int s1, .int s2, .int s3] [.int (sp_stand s1 s2 s3)] (Nat.le_of_ble_eq_true rfl) rfl (zm_X11_stand a_ 51333 s1 s2 s3) (fun h_ q_ => ?_)
  refine At.enter rfl ?_
  refine r_ict (decide_eq_true rfl) ?_
  exact lw_tail q_
set_option maxRecDepth 100000 in
theorem lw_c1 (s0 s1 s2 s3 s4 s5 s6 : Int32) : At 14 (some [s0, s1, s2, s3, s4, s5, s6]) (some .boolean) bs_L_law (251, [(3, .int 0), (2, .ref 231), (1, .ref 0), (0, .float 0)], [], (hp_X ++ hp_M, 51333)) LwE := by
  refine At.enter rfl ?_
  refine r_aload_n rfl ?_
  refine r_sload_n rfl ?_
  refine r_iload_n rfl ?_
  refine r_iconst 1 rfl ?_
  refine r_iadd 1 rfl ?_
  refine r_scald (v := s1) (by decide) rfl ?_
  refine r_sload_n rfl ?_
  refine r_iload_n rfl ?_
  refine r_iconst 2 rfl ?_
  refine r_iadd 2 rfl ?_
  refine r_scald (v := s2) (by decide) rfl ?_
  refine r_sload_n rfl ?_
  refine r_iload_n rfl ?_
  refine r_iconst 3 rfl ?_
  refine r_iadd 3 rfl ?_
  refine r_scald (v := s3) (by decide) rfl ?_
  refine r_lx 270 rfl [.ref 0, .int s1, .int s2, .int s3] [] (Nat.le_of_ble_eq_true rfl) rfl (zx_X10_put 51333 s1 s2 s3) (fun a_ => ?_)
  refine At.enter rfl ?_
  refine r_aload_n rfl ?_
  refine r_sload_n rfl ?_
  refine r_iload_n rfl ?_
  refine r_iconst 1 rfl ?_
  refine r_iadd 1 rfl ?_
  refine r_scald (v := s1) (by decide) rfl ?_
  refine r_sload_n rfl ?_
  refine r_iload_n rfl ?_
  refine r_iconst 2 rfl ?_
  refine r_iadd 2 rfl ?_
  refine r_scald (v := s2) (by decide) rfl ?_
  refine r_sload_n rfl ?_
  refine r_iload_n rfl ?_
  refine r_iconst 3 rfl ?_
  refine r_iadd 3 rfl ?_
  refine r_scald (v := s3) (by decide) rfl ?_
  refine r_lm 289 rfl [.ref 231, .int s1, .int s2, .int s3] [.int (sp_put s1 s2 s3)] (Nat.le_of_ble_eq_true rfl) rfl (zm_X11_put a_ 51333 s1 s2 s3) (fun h_ q_ => ?_)
  refine At.enter rfl ?_
  refine r_ict (decide_eq_true rfl) ?_
  exact lw_tail q_
set_option maxRecDepth 100000 in
theorem lw_c2 (s0 s1 s2 s3 s4 s5 s6 : Int32) : At 14 (some [s0, s1, s2, s3, s4, s5, s6]) (some .boolean) bs_L_law (294, [(3, .int 0), (2, .ref 231), (1, .ref 0), (0, .float 0)], [], (hp_X ++ hp_M, 51333)) LwE := by
  refine At.enter rfl ?_
  refine r_aload_n rfl ?_
  refine r_sload_n rfl ?_
  refine r_iload_n rfl ?_
  refine r_iconst 1 rfl ?_
  refine r_iadd 1 rfl ?_
  refine r_scald (v := s1) (by decide) rfl ?_
  refine r_sload_n rfl ?_
  refine r_iload_n rfl ?_
  refine r_iconst 2 rfl ?_
  refine r_iadd 2 rfl ?_
  refine r_scald (v := s2) (by decide) rfl ?_
  refine r_lx 308 rfl [.ref 0, .int s1, .int s2] [] (Nat.le_of_ble_eq_true rfl) rfl (zx_X10_of 51333 s1 s2) (fun a_ => ?_)
  refine At.enter rfl ?_
  refine r_aload_n rfl ?_
  refine r_sload_n rfl ?_
  refine r_iload_n rfl ?_
  refine r_iconst 1 rfl ?_
  refine r_iadd 1 rfl ?_
  refine r_scald (v := s1) (by decide) rfl ?_
  refine r_sload_n rfl ?_
  refine r_iload_n rfl ?_
  refine r_iconst 2 rfl ?_
  refine r_iadd 2 rfl ?_
  refine r_scald (v := s2) (by decide) rfl ?_
  refine r_lm 322 rfl [.ref 231, .int s1, .int s2] [.int (-1)] (Nat.le_of_ble_eq_true rfl) rfl (zm_X11_of a_ 51333 s1 s2) (fun h_ q_ => ?_)
  refine At.enter rfl ?_
  refine r_ict (by decide) ?_
  exact lw_tail q_
set_option maxRecDepth 100000 in
theorem lw_c3 (s0 s1 s2 s3 s4 s5 s6 : Int32) : At 14 (some [s0, s1, s2, s3, s4, s5, s6]) (some .boolean) bs_L_law (327, [(3, .int 0), (2, .ref 231), (1, .ref 0), (0, .float 0)], [], (hp_X ++ hp_M, 51333)) LwE := by
  refine At.enter rfl ?_
  refine r_aload_n rfl ?_
  refine r_sload_n rfl ?_
  refine r_iload_n rfl ?_
  refine r_iconst 1 rfl ?_
  refine r_iadd 1 rfl ?_
  refine r_scald (v := s1) (by decide) rfl ?_
  refine r_sload_n rfl ?_
  refine r_iload_n rfl ?_
  refine r_iconst 2 rfl ?_
  refine r_iadd 2 rfl ?_
  refine r_scald (v := s2) (by decide) rfl ?_
  refine r_sload_n rfl ?_
  refine r_iload_n rfl ?_
  refine r_iconst 3 rfl ?_
  refine r_iadd 3 rfl ?_
  refine r_scald (v := s3) (by decide) rfl ?_
  refine r_sload_n rfl ?_
  refine r_iload_n rfl ?_
  refine r_iconst 4 rfl ?_
  refine r_iadd 4 rfl ?_
  refine r_scald (v := s4) (by decide) rfl ?_
  refine r_sload_n rfl ?_
  refine r_iload_n rfl ?_
  refine r_iconst 5 rfl ?_
  refine r_iadd 5 rfl ?_
  refine r_scald (v := s5) (by decide) rfl ?_
  refine r_sload_n rfl ?_
  refine r_iload_n rfl ?_
  refine r_bipush 6 rfl ?_
  refine r_iadd 6 rfl ?_
  refine r_scald (v := s6) (by decide) rfl ?_
  refine r_lx 362 rfl [.ref 0, .int s1, .int s2, .int s3, .int s4, .int s5, .int s6] [] (Nat.le_of_ble_eq_true rfl) rfl (zx_X10_load 51333 s1 s2 s3 s4 s5 s6) (fun a_ => ?_)
  refine At.enter rfl ?_
  refine r_aload_n rfl ?_
  refine r_sload_n rfl ?_
  refine r_iload_n rfl ?_
  refine r_iconst 1 rfl ?_
  refine r_iadd 1 rfl ?_
  refine r_scald (v := s1) (by decide) rfl ?_
  refine r_sload_n rfl ?_
  refine r_iload_n rfl ?_
  refine r_iconst 2 rfl ?_
  refine r_iadd 2 rfl ?_
  refine r_scald (v := s2) (by decide) rfl ?_
  refine r_sload_n rfl ?_
  refine r_iload_n rfl ?_
  refine r_iconst 3 rfl ?_
  refine r_iadd 3 rfl ?_
  refine r_scald (v := s3) (by decide) rfl ?_
  refine r_sload_n rfl ?_
  refine r_iload_n rfl ?_
  refine r_iconst 4 rfl ?_
  refine r_iadd 4 rfl ?_
  refine r_scald (v := s4) (by decide) rfl ?_
  refine r_sload_n rfl ?_
  refine r_iload_n rfl ?_
  refine r_iconst 5 rfl ?_
  refine r_iadd 5 rfl ?_
  refine r_scald (v := s5) (by decide) rfl ?_
  refine r_sload_n rfl ?_
  refine r_iload_n rfl ?_
  refine r_bipush 6 rfl ?_
  refine r_iadd 6 rfl ?_
  refine r_scald (v := s6) (by decide) rfl ?_
  refine r_lm 397 rfl [.ref 231, .int s1, .int s2, .int s3, .int s4, .int s5, .int s6] [.int (sp_load s1 s2 s3 s4 s5 s6)] (Nat.le_of_ble_eq_true rfl) rfl (zm_X11_load a_ 51333 s1 s2 s3 s4 s5 s6) (fun h_ q_ => ?_)
  refine At.enter rfl ?_
  refine r_ict (decide_eq_true rfl) ?_
  exact lw_tail q_
set_option maxRecDepth 100000 in
theorem lw_c4 (s0 s1 s2 s3 s4 s5 s6 : Int32) : At 14 (some [s0, s1, s2, s3, s4, s5, s6]) (some .boolean) bs_L_law (402, [(3, .int 0), (2, .ref 231), (1, .ref 0), (0, .float 0)], [], (hp_X ++ hp_M, 51333)) LwE := by
  refine At.enter rfl ?_
  refine r_aload_n rfl ?_
  refine r_sload_n rfl ?_
  refine r_iload_n rfl ?_
  refine r_iconst 1 rfl ?_
  refine r_iadd 1 rfl ?_
  refine r_scald (v := s1) (by decide) rfl ?_
  refine r_sload_n rfl ?_
  refine r_iload_n rfl ?_
  refine r_iconst 2 rfl ?_
  refine r_iadd 2 rfl ?_
  refine r_scald (v := s2) (by decide) rfl ?_
  refine r_lx 416 rfl [.ref 0, .int s1, .int s2] [] (Nat.le_of_ble_eq_true rfl) rfl (zx_X10_fact 51333 s1 s2) (fun a_ => ?_)
  refine At.enter rfl ?_
  refine r_aload_n rfl ?_
  refine r_sload_n rfl ?_
  refine r_iload_n rfl ?_
  refine r_iconst 1 rfl ?_
  refine r_iadd 1 rfl ?_
  refine r_scald (v := s1) (by decide) rfl ?_
  refine r_sload_n rfl ?_
  refine r_iload_n rfl ?_
  refine r_iconst 2 rfl ?_
  refine r_iadd 2 rfl ?_
  refine r_scald (v := s2) (by decide) rfl ?_
  refine r_lm 430 rfl [.ref 231, .int s1, .int s2] [.int (-1)] (Nat.le_of_ble_eq_true rfl) rfl (zm_X11_fact a_ 51333 s1 s2) (fun h_ q_ => ?_)
  refine At.enter rfl ?_
  refine r_ict (by decide) ?_
  exact lw_tail q_
set_option maxRecDepth 100000 in
theorem lw_c5 (s0 s1 s2 s3 s4 s5 s6 : Int32) : At 14 (some [s0, s1, s2, s3, s4, s5, s6]) (some .boolean) bs_L_law (435, [(3, .int 0), (2, .ref 231), (1, .ref 0), (0, .float 0)], [], (hp_X ++ hp_M, 51333)) LwE := by
  refine At.enter rfl ?_
  refine r_aload_n rfl ?_
  refine r_sload_n rfl ?_
  refine r_iload_n rfl ?_
  refine r_iconst 1 rfl ?_
  refine r_iadd 1 rfl ?_
  refine r_scald (v := s1) (by decide) rfl ?_
  refine r_lx 444 rfl [.ref 0, .int s1] [] (Nat.le_of_ble_eq_true rfl) rfl (zx_X10_drop 51333 s1) (fun a_ => ?_)
  refine At.enter rfl ?_
  refine r_aload_n rfl ?_
  refine r_sload_n rfl ?_
  refine r_iload_n rfl ?_
  refine r_iconst 1 rfl ?_
  refine r_iadd 1 rfl ?_
  refine r_scald (v := s1) (by decide) rfl ?_
  refine r_lm 453 rfl [.ref 231, .int s1] [.int (-2)] (Nat.le_of_ble_eq_true rfl) rfl (zm_X11_drop a_ 51333 s1) (fun h_ q_ => ?_)
  refine At.enter rfl ?_
  refine r_ict (by decide) ?_
  exact lw_tail q_
set_option maxRecDepth 100000 in
theorem lw_c6 (s0 s1 s2 s3 s4 s5 s6 : Int32) : At 14 (some [s0, s1, s2, s3, s4, s5, s6]) (some .boolean) bs_L_law (458, [(3, .int 0), (2, .ref 231), (1, .ref 0), (0, .float 0)], [], (hp_X ++ hp_M, 51333)) LwE := by
  refine At.enter rfl ?_
  refine r_aload_n rfl ?_
  refine r_sload_n rfl ?_
  refine r_iload_n rfl ?_
  refine r_iconst 1 rfl ?_
  refine r_iadd 1 rfl ?_
  refine r_scald (v := s1) (by decide) rfl ?_
  refine r_sload_n rfl ?_
  refine r_iload_n rfl ?_
  refine r_iconst 2 rfl ?_
  refine r_iadd 2 rfl ?_
  refine r_scald (v := s2) (by decide) rfl ?_
  refine r_lx 472 rfl [.ref 0, .int s1, .int s2] [] (Nat.le_of_ble_eq_true rfl) rfl (zx_X10_terms 51333 s1 s2) (fun a_ => ?_)
  refine At.enter rfl ?_
  refine r_aload_n rfl ?_
  refine r_sload_n rfl ?_
  refine r_iload_n rfl ?_
  refine r_iconst 1 rfl ?_
  refine r_iadd 1 rfl ?_
  refine r_scald (v := s1) (by decide) rfl ?_
  refine r_sload_n rfl ?_
  refine r_iload_n rfl ?_
  refine r_iconst 2 rfl ?_
  refine r_iadd 2 rfl ?_
  refine r_scald (v := s2) (by decide) rfl ?_
  refine r_lm 486 rfl [.ref 231, .int s1, .int s2] [.int (sp_terms s1 s2)] (Nat.le_of_ble_eq_true rfl) rfl (zm_X11_terms a_ 51333 s1 s2) (fun h_ q_ => ?_)
  refine At.enter rfl ?_
  refine r_ict (decide_eq_true rfl) ?_
  exact lw_tail q_
set_option maxRecDepth 100000 in
theorem lw_c7 (s0 s1 s2 s3 s4 s5 s6 : Int32) : At 14 (some [s0, s1, s2, s3, s4, s5, s6]) (some .boolean) bs_L_law (491, [(3, .int 0), (2, .ref 231), (1, .ref 0), (0, .float 0)], [], (hp_X ++ hp_M, 51333)) LwE := by
  refine At.enter rfl ?_
  refine r_aload_n rfl ?_
  refine r_sload_n rfl ?_
  refine r_iload_n rfl ?_
  refine r_iconst 1 rfl ?_
  refine r_iadd 1 rfl ?_
  refine r_scald (v := s1) (by decide) rfl ?_
  refine r_sload_n rfl ?_
  refine r_iload_n rfl ?_
  refine r_iconst 2 rfl ?_
  refine r_iadd 2 rfl ?_
  refine r_scald (v := s2) (by decide) rfl ?_
  refine r_sload_n rfl ?_
  refine r_iload_n rfl ?_
  refine r_iconst 3 rfl ?_
  refine r_iadd 3 rfl ?_
  refine r_scald (v := s3) (by decide) rfl ?_
  refine r_sload_n rfl ?_
  refine r_iload_n rfl ?_
  refine r_iconst 4 rfl ?_
  refine r_iadd 4 rfl ?_
  refine r_scald (v := s4) (by decide) rfl ?_
  refine r_sload_n rfl ?_
  refine r_iload_n rfl ?_
  refine r_iconst 5 rfl ?_
  refine r_iadd 5 rfl ?_
  refine r_scald (v := s5) (by decide) rfl ?_
  refine r_lx 520 rfl [.ref 0, .int s1, .int s2, .int s3, .int s4, .int s5] [] (Nat.le_of_ble_eq_true rfl) rfl (zx_X10_feed 51333 s1 s2 s3 s4 s5) (fun a_ => ?_)
  refine At.enter rfl ?_
  refine r_aload_n rfl ?_
  refine r_sload_n rfl ?_
  refine r_iload_n rfl ?_
  refine r_iconst 1 rfl ?_
  refine r_iadd 1 rfl ?_
  refine r_scald (v := s1) (by decide) rfl ?_
  refine r_sload_n rfl ?_
  refine r_iload_n rfl ?_
  refine r_iconst 2 rfl ?_
  refine r_iadd 2 rfl ?_
  refine r_scald (v := s2) (by decide) rfl ?_
  refine r_sload_n rfl ?_
  refine r_iload_n rfl ?_
  refine r_iconst 3 rfl ?_
  refine r_iadd 3 rfl ?_
  refine r_scald (v := s3) (by decide) rfl ?_
  refine r_sload_n rfl ?_
  refine r_iload_n rfl ?_
  refine r_iconst 4 rfl ?_
  refine r_iadd 4 rfl ?_
  refine r_scald (v := s4) (by decide) rfl ?_
  refine r_sload_n rfl ?_
  refine r_iload_n rfl ?_
  refine r_iconst 5 rfl ?_
  refine r_iadd 5 rfl ?_
  refine r_scald (v := s5) (by decide) rfl ?_
  refine r_lm 549 rfl [.ref 231, .int s1, .int s2, .int s3, .int s4, .int s5] [.int 20] (Nat.le_of_ble_eq_true rfl) rfl (zm_X11_feed a_ 51333 s1 s2 s3 s4 s5) (fun h_ q_ => ?_)
  refine At.enter rfl ?_
  refine r_ict (by decide) ?_
  exact lw_tail q_
set_option maxRecDepth 100000 in
theorem lw_c8 (s0 s1 s2 s3 s4 s5 s6 : Int32) : At 14 (some [s0, s1, s2, s3, s4, s5, s6]) (some .boolean) bs_L_law (554, [(3, .int 0), (2, .ref 231), (1, .ref 0), (0, .float 0)], [], (hp_X ++ hp_M, 51333)) LwE := by
  refine At.enter rfl ?_
  refine r_aload_n rfl ?_
  refine r_sload_n rfl ?_
  refine r_iload_n rfl ?_
  refine r_iconst 1 rfl ?_
  refine r_iadd 1 rfl ?_
  refine r_scald (v := s1) (by decide) rfl ?_
  refine r_lx 563 rfl [.ref 0, .int s1] [] (Nat.le_of_ble_eq_true rfl) rfl (zx_X10_end 51333 s1) (fun a_ => ?_)
  refine At.enter rfl ?_
  refine r_aload_n rfl ?_
  refine r_sload_n rfl ?_
  refine r_iload_n rfl ?_
  refine r_iconst 1 rfl ?_
  refine r_iadd 1 rfl ?_
  refine r_scald (v := s1) (by decide) rfl ?_
  refine r_lm 572 rfl [.ref 231, .int s1] [.int (sp_end s1)] (Nat.le_of_ble_eq_true rfl) rfl (zm_X11_end a_ 51333 s1) (fun h_ q_ => ?_)
  refine At.enter rfl ?_
  refine r_ict (decide_eq_true rfl) ?_
  exact lw_tail q_
set_option maxRecDepth 100000 in
theorem lw_c9 (s0 s1 s2 s3 s4 s5 s6 : Int32) : At 14 (some [s0, s1, s2, s3, s4, s5, s6]) (some .boolean) bs_L_law (577, [(3, .int 0), (2, .ref 231), (1, .ref 0), (0, .float 0)], [], (hp_X ++ hp_M, 51333)) LwE := by
  refine At.enter rfl ?_
  refine r_aload_n rfl ?_
  refine r_lx 581 rfl [.ref 0] [] (Nat.le_of_ble_eq_true rfl) rfl (zx_X10_row 51333 ) (fun a_ => ?_)
  refine At.enter rfl ?_
  refine r_aload_n rfl ?_
  refine r_lm 585 rfl [.ref 231] [.int (-6)] (Nat.le_of_ble_eq_true rfl) rfl (zm_X11_row a_ 51333 ) (fun h_ q_ => ?_)
  refine At.enter rfl ?_
  refine r_ict (by decide) ?_
  exact lw_tail q_
set_option maxRecDepth 100000 in
theorem lw_c10 (s0 s1 s2 s3 s4 s5 s6 : Int32) : At 14 (some [s0, s1, s2, s3, s4, s5, s6]) (some .boolean) bs_L_law (590, [(3, .int 0), (2, .ref 231), (1, .ref 0), (0, .float 0)], [], (hp_X ++ hp_M, 51333)) LwE := by
  refine At.enter rfl ?_
  refine r_aload_n rfl ?_
  refine r_lx 594 rfl [.ref 0] [] (Nat.le_of_ble_eq_true rfl) rfl (zx_X10_dropped 51333 ) (fun a_ => ?_)
  refine At.enter rfl ?_
  refine r_aload_n rfl ?_
  refine r_lm 598 rfl [.ref 231] [.int 0] (Nat.le_of_ble_eq_true rfl) rfl (zm_X11_dropped a_ 51333 ) (fun h_ q_ => ?_)
  refine At.enter rfl ?_
  refine r_ict (by decide) ?_
  exact lw_tail q_
set_option maxRecDepth 100000 in
theorem lw_c11 (s0 s1 s2 s3 s4 s5 s6 : Int32) : At 14 (some [s0, s1, s2, s3, s4, s5, s6]) (some .boolean) bs_L_law (603, [(3, .int 0), (2, .ref 231), (1, .ref 0), (0, .float 0)], [], (hp_X ++ hp_M, 51333)) LwE := by
  refine At.enter rfl ?_
  refine r_aload_n rfl ?_
  refine r_lx 607 rfl [.ref 0] [] (Nat.le_of_ble_eq_true rfl) rfl (zx_X10_law 51333 ) (fun a_ => ?_)
  refine At.enter rfl ?_
  refine r_aload_n rfl ?_
  refine r_lm 611 rfl [.ref 231] [.int (-6)] (Nat.le_of_ble_eq_true rfl) rfl (zm_X11_law a_ 51333 ) (fun h_ q_ => ?_)
  refine At.enter rfl ?_
  refine r_ict (by decide) ?_
  exact lw_tail q_
set_option maxRecDepth 100000 in
theorem lw_c12 (s0 s1 s2 s3 s4 s5 s6 : Int32) : At 14 (some [s0, s1, s2, s3, s4, s5, s6]) (some .boolean) bs_L_law (616, [(3, .int 0), (2, .ref 231), (1, .ref 0), (0, .float 0)], [], (hp_X ++ hp_M, 51333)) LwE := by
  refine At.enter rfl ?_
  refine r_aload_n rfl ?_
  refine r_lx 620 rfl [.ref 0] [] (Nat.le_of_ble_eq_true rfl) rfl (zx_X10_fault 51333 ) (fun a_ => ?_)
  refine At.enter rfl ?_
  refine r_aload_n rfl ?_
  refine r_lm 624 rfl [.ref 231] [.int (-1)] (Nat.le_of_ble_eq_true rfl) rfl (zm_X11_fault a_ 51333 ) (fun h_ q_ => ?_)
  refine At.enter rfl ?_
  refine r_ict (by decide) ?_
  exact lw_tail q_
set_option maxRecDepth 100000 in
theorem lw_c13 (s0 s1 s2 s3 s4 s5 s6 : Int32) : At 14 (some [s0, s1, s2, s3, s4, s5, s6]) (some .boolean) bs_L_law (629, [(3, .int 0), (2, .ref 231), (1, .ref 0), (0, .float 0)], [], (hp_X ++ hp_M, 51333)) LwE := by
  refine At.enter rfl ?_
  refine r_aload_n rfl ?_
  refine r_sload_n rfl ?_
  refine r_iload_n rfl ?_
  refine r_iconst 1 rfl ?_
  refine r_iadd 1 rfl ?_
  refine r_scald (v := s1) (by decide) rfl ?_
  refine r_lx 638 rfl [.ref 0, .int s1] [] (Nat.le_of_ble_eq_true rfl) rfl (zx_X10_force 51333 s1) (fun a_ => ?_)
  refine At.enter rfl ?_
  refine r_aload_n rfl ?_
  refine r_sload_n rfl ?_
  refine r_iload_n rfl ?_
  refine r_iconst 1 rfl ?_
  refine r_iadd 1 rfl ?_
  refine r_scald (v := s1) (by decide) rfl ?_
  refine r_lm 647 rfl [.ref 231, .int s1] [.int (sp_force s1)] (Nat.le_of_ble_eq_true rfl) rfl (zm_X11_force a_ 51333 s1) (fun h_ q_ => ?_)
  refine At.enter rfl ?_
  refine r_ict (decide_eq_true rfl) ?_
  exact lw_tail q_
set_option maxRecDepth 100000 in
theorem lw_c14 (s0 s1 s2 s3 s4 s5 s6 : Int32) : At 14 (some [s0, s1, s2, s3, s4, s5, s6]) (some .boolean) bs_L_law (652, [(3, .int 0), (2, .ref 231), (1, .ref 0), (0, .float 0)], [], (hp_X ++ hp_M, 51333)) LwE := by
  refine At.enter rfl ?_
  refine r_aload_n rfl ?_
  refine r_sload_n rfl ?_
  refine r_iload_n rfl ?_
  refine r_iconst 1 rfl ?_
  refine r_iadd 1 rfl ?_
  refine r_scald (v := s1) (by decide) rfl ?_
  refine r_sload_n rfl ?_
  refine r_iload_n rfl ?_
  refine r_iconst 2 rfl ?_
  refine r_iadd 2 rfl ?_
  refine r_scald (v := s2) (by decide) rfl ?_
  refine r_lx 666 rfl [.ref 0, .int s1, .int s2] [] (Nat.le_of_ble_eq_true rfl) rfl (zx_X10_way 51333 s1 s2) (fun a_ => ?_)
  refine At.enter rfl ?_
  refine r_aload_n rfl ?_
  refine r_sload_n rfl ?_
  refine r_iload_n rfl ?_
  refine r_iconst 1 rfl ?_
  refine r_iadd 1 rfl ?_
  refine r_scald (v := s1) (by decide) rfl ?_
  refine r_sload_n rfl ?_
  refine r_iload_n rfl ?_
  refine r_iconst 2 rfl ?_
  refine r_iadd 2 rfl ?_
  refine r_scald (v := s2) (by decide) rfl ?_
  refine r_lm 680 rfl [.ref 231, .int s1, .int s2] [.int (-1)] (Nat.le_of_ble_eq_true rfl) rfl (zm_X11_way a_ 51333 s1 s2) (fun h_ q_ => ?_)
  refine At.enter rfl ?_
  refine r_ict (by decide) ?_
  exact lw_tail q_
set_option maxRecDepth 100000 in
theorem lw_c15 (s0 s1 s2 s3 s4 s5 s6 : Int32) : At 14 (some [s0, s1, s2, s3, s4, s5, s6]) (some .boolean) bs_L_law (685, [(3, .int 0), (2, .ref 231), (1, .ref 0), (0, .float 0)], [], (hp_X ++ hp_M, 51333)) LwE := by
  refine At.enter rfl ?_
  refine r_aload_n rfl ?_
  refine r_sload_n rfl ?_
  refine r_iload_n rfl ?_
  refine r_iconst 1 rfl ?_
  refine r_iadd 1 rfl ?_
  refine r_scald (v := s1) (by decide) rfl ?_
  refine r_sload_n rfl ?_
  refine r_iload_n rfl ?_
  refine r_iconst 2 rfl ?_
  refine r_iadd 2 rfl ?_
  refine r_scald (v := s2) (by decide) rfl ?_
  refine r_lx 699 rfl [.ref 0, .int s1, .int s2] [] (Nat.le_of_ble_eq_true rfl) rfl (zx_X10_enter 51333 s1 s2) (fun a_ => ?_)
  refine At.enter rfl ?_
  refine r_aload_n rfl ?_
  refine r_sload_n rfl ?_
  refine r_iload_n rfl ?_
  refine r_iconst 1 rfl ?_
  refine r_iadd 1 rfl ?_
  refine r_scald (v := s1) (by decide) rfl ?_
  refine r_sload_n rfl ?_
  refine r_iload_n rfl ?_
  refine r_iconst 2 rfl ?_
  refine r_iadd 2 rfl ?_
  refine r_scald (v := s2) (by decide) rfl ?_
  refine r_lm 713 rfl [.ref 231, .int s1, .int s2] [.int (-1)] (Nat.le_of_ble_eq_true rfl) rfl (zm_X11_enter a_ 51333 s1 s2) (fun h_ q_ => ?_)
  refine At.enter rfl ?_
  refine r_ict (by decide) ?_
  exact lw_tail q_
set_option maxRecDepth 100000 in
theorem lw_c16 (s0 s1 s2 s3 s4 s5 s6 : Int32) : At 14 (some [s0, s1, s2, s3, s4, s5, s6]) (some .boolean) bs_L_law (718, [(3, .int 0), (2, .ref 231), (1, .ref 0), (0, .float 0)], [], (hp_X ++ hp_M, 51333)) LwE := by
  refine At.enter rfl ?_
  refine r_aload_n rfl ?_
  refine r_sload_n rfl ?_
  refine r_iload_n rfl ?_
  refine r_iconst 1 rfl ?_
  refine r_iadd 1 rfl ?_
  refine r_scald (v := s1) (by decide) rfl ?_
  refine r_sload_n rfl ?_
  refine r_iload_n rfl ?_
  refine r_iconst 2 rfl ?_
  refine r_iadd 2 rfl ?_
  refine r_scald (v := s2) (by decide) rfl ?_
  refine r_lx 732 rfl [.ref 0, .int s1, .int s2] [] (Nat.le_of_ble_eq_true rfl) rfl (zx_X10_day 51333 s1 s2) (fun a_ => ?_)
  refine At.enter rfl ?_
  refine r_aload_n rfl ?_
  refine r_sload_n rfl ?_
  refine r_iload_n rfl ?_
  refine r_iconst 1 rfl ?_
  refine r_iadd 1 rfl ?_
  refine r_scald (v := s1) (by decide) rfl ?_
  refine r_sload_n rfl ?_
  refine r_iload_n rfl ?_
  refine r_iconst 2 rfl ?_
  refine r_iadd 2 rfl ?_
  refine r_scald (v := s2) (by decide) rfl ?_
  refine r_lm 746 rfl [.ref 231, .int s1, .int s2] [.int (-1)] (Nat.le_of_ble_eq_true rfl) rfl (zm_X11_day a_ 51333 s1 s2) (fun h_ q_ => ?_)
  refine At.enter rfl ?_
  refine r_ict (by decide) ?_
  exact lw_tail q_
set_option maxRecDepth 100000 in
theorem lw_c17 (s0 s1 s2 s3 s4 s5 s6 : Int32) : At 14 (some [s0, s1, s2, s3, s4, s5, s6]) (some .boolean) bs_L_law (751, [(3, .int 0), (2, .ref 231), (1, .ref 0), (0, .float 0)], [], (hp_X ++ hp_M, 51333)) LwE := by
  refine At.enter rfl ?_
  refine r_aload_n rfl ?_
  refine r_sload_n rfl ?_
  refine r_iload_n rfl ?_
  refine r_iconst 1 rfl ?_
  refine r_iadd 1 rfl ?_
  refine r_scald (v := s1) (by decide) rfl ?_
  refine r_sload_n rfl ?_
  refine r_iload_n rfl ?_
  refine r_iconst 2 rfl ?_
  refine r_iadd 2 rfl ?_
  refine r_scald (v := s2) (by decide) rfl ?_
  refine r_lx 765 rfl [.ref 0, .int s1, .int s2] [] (Nat.le_of_ble_eq_true rfl) rfl (zx_X10_where 51333 s1 s2) (fun a_ => ?_)
  refine At.enter rfl ?_
  refine r_aload_n rfl ?_
  refine r_sload_n rfl ?_
  refine r_iload_n rfl ?_
  refine r_iconst 1 rfl ?_
  refine r_iadd 1 rfl ?_
  refine r_scald (v := s1) (by decide) rfl ?_
  refine r_sload_n rfl ?_
  refine r_iload_n rfl ?_
  refine r_iconst 2 rfl ?_
  refine r_iadd 2 rfl ?_
  refine r_scald (v := s2) (by decide) rfl ?_
  refine r_lm 779 rfl [.ref 231, .int s1, .int s2] [.int (-1)] (Nat.le_of_ble_eq_true rfl) rfl (zm_X11_where a_ 51333 s1 s2) (fun h_ q_ => ?_)
  refine At.enter rfl ?_
  refine r_ict (by decide) ?_
  exact lw_tail q_
set_option maxRecDepth 100000 in
theorem lw_c18 (s0 s1 s2 s3 s4 s5 s6 : Int32) : At 14 (some [s0, s1, s2, s3, s4, s5, s6]) (some .boolean) bs_L_law (784, [(3, .int 0), (2, .ref 231), (1, .ref 0), (0, .float 0)], [], (hp_X ++ hp_M, 51333)) LwE := by
  refine At.enter rfl ?_
  refine r_aload_n rfl ?_
  refine r_sload_n rfl ?_
  refine r_iload_n rfl ?_
  refine r_iconst 1 rfl ?_
  refine r_iadd 1 rfl ?_
  refine r_scald (v := s1) (by decide) rfl ?_
  refine r_sload_n rfl ?_
  refine r_iload_n rfl ?_
  refine r_iconst 2 rfl ?_
  refine r_iadd 2 rfl ?_
  refine r_scald (v := s2) (by decide) rfl ?_
  refine r_sload_n rfl ?_
  refine r_iload_n rfl ?_
  refine r_iconst 3 rfl ?_
  refine r_iadd 3 rfl ?_
  refine r_scald (v := s3) (by decide) rfl ?_
  refine r_lx 803 rfl [.ref 0, .int s1, .int s2, .int s3] [] (Nat.le_of_ble_eq_true rfl) rfl (zx_X10_held 51333 s1 s2 s3) (fun a_ => ?_)
  refine At.enter rfl ?_
  refine r_aload_n rfl ?_
  refine r_sload_n rfl ?_
  refine r_iload_n rfl ?_
  refine r_iconst 1 rfl ?_
  refine r_iadd 1 rfl ?_
  refine r_scald (v := s1) (by decide) rfl ?_
  refine r_sload_n rfl ?_
  refine r_iload_n rfl ?_
  refine r_iconst 2 rfl ?_
  refine r_iadd 2 rfl ?_
  refine r_scald (v := s2) (by decide) rfl ?_
  refine r_sload_n rfl ?_
  refine r_iload_n rfl ?_
  refine r_iconst 3 rfl ?_
  refine r_iadd 3 rfl ?_
  refine r_scald (v := s3) (by decide) rfl ?_
  refine r_lm 822 rfl [.ref 231, .int s1, .int s2, .int s3] [.int (-1)] (Nat.le_of_ble_eq_true rfl) rfl (zm_X11_held a_ 51333 s1 s2 s3) (fun h_ q_ => ?_)
  refine At.enter rfl ?_
  refine r_ict (by decide) ?_
  exact lw_tail q_
set_option maxRecDepth 100000 in
theorem lw_c19 (s0 s1 s2 s3 s4 s5 s6 : Int32) : At 14 (some [s0, s1, s2, s3, s4, s5, s6]) (some .boolean) bs_L_law (827, [(3, .int 0), (2, .ref 231), (1, .ref 0), (0, .float 0)], [], (hp_X ++ hp_M, 51333)) LwE := by
  refine At.enter rfl ?_
  refine r_aload_n rfl ?_
  refine r_lx 831 rfl [.ref 0] [] (Nat.le_of_ble_eq_true rfl) rfl (zx_X10_choke ) (fun a_ => ?_)
  refine At.enter rfl ?_
  refine r_aload_n rfl ?_
  refine r_lm 835 rfl [.ref 231] [.int 0] (Nat.le_of_ble_eq_true rfl) rfl (zm_X11_choke a_ 51333 ) (fun h_ q_ => ?_)
  refine At.enter rfl ?_
  refine r_ict (by decide) ?_
  exact lw_tail q_
set_option maxRecDepth 100000 in
theorem lw_c20 (s0 s1 s2 s3 s4 s5 s6 : Int32) : At 14 (some [s0, s1, s2, s3, s4, s5, s6]) (some .boolean) bs_L_law (840, [(3, .int 0), (2, .ref 231), (1, .ref 0), (0, .float 0)], [], (hp_X ++ hp_M, 51333)) LwE := by
  refine At.enter rfl ?_
  refine r_aload_n rfl ?_
  refine r_sload_n rfl ?_
  refine r_iload_n rfl ?_
  refine r_iconst 1 rfl ?_
  refine r_iadd 1 rfl ?_
  refine r_scald (v := s1) (by decide) rfl ?_
  refine r_sload_n rfl ?_
  refine r_iload_n rfl ?_
  refine r_iconst 2 rfl ?_
  refine r_iadd 2 rfl ?_
  refine r_scald (v := s2) (by decide) rfl ?_
  refine r_lx 854 rfl [.ref 0, .int s1, .int s2] [] (Nat.le_of_ble_eq_true rfl) rfl (zx_X10_swaps s1 s2) (fun a_ => ?_)
  refine At.enter rfl ?_
  refine r_aload_n rfl ?_
  refine r_sload_n rfl ?_
  refine r_iload_n rfl ?_
  refine r_iconst 1 rfl ?_
  refine r_iadd 1 rfl ?_
  refine r_scald (v := s1) (by decide) rfl ?_
  refine r_sload_n rfl ?_
  refine r_iload_n rfl ?_
  refine r_iconst 2 rfl ?_
  refine r_iadd 2 rfl ?_
  refine r_scald (v := s2) (by decide) rfl ?_
  refine r_lm 868 rfl [.ref 231, .int s1, .int s2] [.int (sp_swaps s1 s2)] (Nat.le_of_ble_eq_true rfl) rfl (zm_X11_swaps a_ 51333 s1 s2) (fun h_ q_ => ?_)
  refine At.enter rfl ?_
  refine r_ict (decide_eq_true rfl) ?_
  exact lw_tail q_
set_option maxRecDepth 100000 in
theorem lw_c21 (s0 s1 s2 s3 s4 s5 s6 : Int32) : At 14 (some [s0, s1, s2, s3, s4, s5, s6]) (some .boolean) bs_L_law (873, [(3, .int 0), (2, .ref 231), (1, .ref 0), (0, .float 0)], [], (hp_X ++ hp_M, 51333)) LwE := by
  refine At.enter rfl ?_
  refine r_aload_n rfl ?_
  refine r_sload_n rfl ?_
  refine r_iload_n rfl ?_
  refine r_iconst 1 rfl ?_
  refine r_iadd 1 rfl ?_
  refine r_scald (v := s1) (by decide) rfl ?_
  refine r_sload_n rfl ?_
  refine r_iload_n rfl ?_
  refine r_iconst 2 rfl ?_
  refine r_iadd 2 rfl ?_
  refine r_scald (v := s2) (by decide) rfl ?_
  refine r_lx 887 rfl [.ref 0, .int s1, .int s2] [] (Nat.le_of_ble_eq_true rfl) rfl (zx_X10_swap 51333 s1 s2) (fun a_ => ?_)
  refine At.enter rfl ?_
  refine r_aload_n rfl ?_
  refine r_sload_n rfl ?_
  refine r_iload_n rfl ?_
  refine r_iconst 1 rfl ?_
  refine r_iadd 1 rfl ?_
  refine r_scald (v := s1) (by decide) rfl ?_
  refine r_sload_n rfl ?_
  refine r_iload_n rfl ?_
  refine r_iconst 2 rfl ?_
  refine r_iadd 2 rfl ?_
  refine r_scald (v := s2) (by decide) rfl ?_
  refine r_lm 901 rfl [.ref 231, .int s1, .int s2] [.int (-2)] (Nat.le_of_ble_eq_true rfl) rfl (zm_X11_swap a_ 51333 s1 s2) (fun h_ q_ => ?_)
  refine At.enter rfl ?_
  refine r_ict (by decide) ?_
  exact lw_tail q_
set_option maxRecDepth 100000 in
theorem lw_c22 (s0 s1 s2 s3 s4 s5 s6 : Int32) : At 14 (some [s0, s1, s2, s3, s4, s5, s6]) (some .boolean) bs_L_law (906, [(3, .int 0), (2, .ref 231), (1, .ref 0), (0, .float 0)], [], (hp_X ++ hp_M, 51333)) LwE := by
  refine At.enter rfl ?_
  refine r_aload_n rfl ?_
  refine r_sload_n rfl ?_
  refine r_iload_n rfl ?_
  refine r_iconst 1 rfl ?_
  refine r_iadd 1 rfl ?_
  refine r_scald (v := s1) (by decide) rfl ?_
  refine r_lx 915 rfl [.ref 0, .int s1] [] (Nat.le_of_ble_eq_true rfl) rfl (zx_X10_home s1) (fun a_ => ?_)
  refine At.enter rfl ?_
  refine r_aload_n rfl ?_
  refine r_sload_n rfl ?_
  refine r_iload_n rfl ?_
  refine r_iconst 1 rfl ?_
  refine r_iadd 1 rfl ?_
  refine r_scald (v := s1) (by decide) rfl ?_
  refine r_lm 924 rfl [.ref 231, .int s1] [.int (sp_home s1)] (Nat.le_of_ble_eq_true rfl) rfl (zm_X11_home a_ 51333 s1) (fun h_ q_ => ?_)
  refine At.enter rfl ?_
  refine r_ict (decide_eq_true rfl) ?_
  exact lw_tail q_
set_option maxRecDepth 100000 in
theorem lw_c23 (s0 s1 s2 s3 s4 s5 s6 : Int32) : At 14 (some [s0, s1, s2, s3, s4, s5, s6]) (some .boolean) bs_L_law (929, [(3, .int 0), (2, .ref 231), (1, .ref 0), (0, .float 0)], [], (hp_X ++ hp_M, 51333)) LwE := by
  refine At.enter rfl ?_
  refine r_aload_n rfl ?_
  refine r_sload_n rfl ?_
  refine r_iload_n rfl ?_
  refine r_iconst 1 rfl ?_
  refine r_iadd 1 rfl ?_
  refine r_scald (v := s1) (by decide) rfl ?_
  refine r_lx 938 rfl [.ref 0, .int s1] [] (Nat.le_of_ble_eq_true rfl) rfl (zx_X10_cost 51333 s1) (fun a_ => ?_)
  refine At.enter rfl ?_
  refine r_aload_n rfl ?_
  refine r_sload_n rfl ?_
  refine r_iload_n rfl ?_
  refine r_iconst 1 rfl ?_
  refine r_iadd 1 rfl ?_
  refine r_scald (v := s1) (by decide) rfl ?_
  refine r_lm 947 rfl [.ref 231, .int s1] [.int (-1)] (Nat.le_of_ble_eq_true rfl) rfl (zm_X11_cost a_ 51333 s1) (fun h_ q_ => ?_)
  refine At.enter rfl ?_
  refine r_ict (by decide) ?_
  exact lw_tail q_
set_option maxRecDepth 100000 in
theorem lw_c24 (s0 s1 s2 s3 s4 s5 s6 : Int32) : At 14 (some [s0, s1, s2, s3, s4, s5, s6]) (some .boolean) bs_L_law (952, [(3, .int 0), (2, .ref 231), (1, .ref 0), (0, .float 0)], [], (hp_X ++ hp_M, 51333)) LwE := by
  refine At.enter rfl ?_
  refine r_aload_n rfl ?_
  refine r_sload_n rfl ?_
  refine r_iload_n rfl ?_
  refine r_iconst 1 rfl ?_
  refine r_iadd 1 rfl ?_
  refine r_scald (v := s1) (by decide) rfl ?_
  refine r_lx 961 rfl [.ref 0, .int s1] [] (Nat.le_of_ble_eq_true rfl) rfl (zx_X10_sent 51333 s1) (fun a_ => ?_)
  refine At.enter rfl ?_
  refine r_aload_n rfl ?_
  refine r_sload_n rfl ?_
  refine r_iload_n rfl ?_
  refine r_iconst 1 rfl ?_
  refine r_iadd 1 rfl ?_
  refine r_scald (v := s1) (by decide) rfl ?_
  refine r_lm 970 rfl [.ref 231, .int s1] [.int (-1)] (Nat.le_of_ble_eq_true rfl) rfl (zm_X11_sent a_ 51333 s1) (fun h_ q_ => ?_)
  refine At.enter rfl ?_
  refine r_ict (by decide) ?_
  exact lw_tail q_
set_option maxRecDepth 100000 in
theorem lw_c25 (s0 s1 s2 s3 s4 s5 s6 : Int32) : At 14 (some [s0, s1, s2, s3, s4, s5, s6]) (some .boolean) bs_L_law (975, [(3, .int 0), (2, .ref 231), (1, .ref 0), (0, .float 0)], [], (hp_X ++ hp_M, 51333)) LwE := by
  refine At.enter rfl ?_
  refine r_aload_n rfl ?_
  refine r_sload_n rfl ?_
  refine r_iload_n rfl ?_
  refine r_iconst 1 rfl ?_
  refine r_iadd 1 rfl ?_
  refine r_scald (v := s1) (by decide) rfl ?_
  refine r_lx 984 rfl [.ref 0, .int s1] [] (Nat.le_of_ble_eq_true rfl) rfl (zx_X10_income 51333 s1) (fun a_ => ?_)
  refine At.enter rfl ?_
  refine r_aload_n rfl ?_
  refine r_sload_n rfl ?_
  refine r_iload_n rfl ?_
  refine r_iconst 1 rfl ?_
  refine r_iadd 1 rfl ?_
  refine r_scald (v := s1) (by decide) rfl ?_
  refine r_lm 993 rfl [.ref 231, .int s1] [.int (-1)] (Nat.le_of_ble_eq_true rfl) rfl (zm_X11_income a_ 51333 s1) (fun h_ q_ => ?_)
  refine At.enter rfl ?_
  refine r_ict (by decide) ?_
  exact lw_tail q_
set_option maxRecDepth 100000 in
theorem lw_c26 (s0 s1 s2 s3 s4 s5 s6 : Int32) : At 14 (some [s0, s1, s2, s3, s4, s5, s6]) (some .boolean) bs_L_law (998, [(3, .int 0), (2, .ref 231), (1, .ref 0), (0, .float 0)], [], (hp_X ++ hp_M, 51333)) LwE := by
  refine At.enter rfl ?_
  refine r_aload_n rfl ?_
  refine r_sload_n rfl ?_
  refine r_iload_n rfl ?_
  refine r_iconst 1 rfl ?_
  refine r_iadd 1 rfl ?_
  refine r_scald (v := s1) (by decide) rfl ?_
  refine r_sload_n rfl ?_
  refine r_iload_n rfl ?_
  refine r_iconst 2 rfl ?_
  refine r_iadd 2 rfl ?_
  refine r_scald (v := s2) (by decide) rfl ?_
  refine r_lx 1012 rfl [.ref 0, .int s1, .int s2] [] (Nat.le_of_ble_eq_true rfl) rfl (zx_X10_answer 51333 s1 s2) (fun a_ => ?_)
  refine At.enter rfl ?_
  refine r_aload_n rfl ?_
  refine r_sload_n rfl ?_
  refine r_iload_n rfl ?_
  refine r_iconst 1 rfl ?_
  refine r_iadd 1 rfl ?_
  refine r_scald (v := s1) (by decide) rfl ?_
  refine r_sload_n rfl ?_
  refine r_iload_n rfl ?_
  refine r_iconst 2 rfl ?_
  refine r_iadd 2 rfl ?_
  refine r_scald (v := s2) (by decide) rfl ?_
  refine r_lm 1026 rfl [.ref 231, .int s1, .int s2] [.int (-1)] (Nat.le_of_ble_eq_true rfl) rfl (zm_X11_answer a_ 51333 s1 s2) (fun h_ q_ => ?_)
  refine At.enter rfl ?_
  refine r_ict (by decide) ?_
  exact lw_tail q_
set_option maxRecDepth 100000 in
theorem lw_c27 (s0 s1 s2 s3 s4 s5 s6 : Int32) : At 14 (some [s0, s1, s2, s3, s4, s5, s6]) (some .boolean) bs_L_law (1031, [(3, .int 0), (2, .ref 231), (1, .ref 0), (0, .float 0)], [], (hp_X ++ hp_M, 51333)) LwE := by
  refine At.enter rfl ?_
  refine r_aload_n rfl ?_
  refine r_lx 1035 rfl [.ref 0] [] (Nat.le_of_ble_eq_true rfl) rfl (zx_X10_restless ) (fun a_ => ?_)
  refine At.enter rfl ?_
  refine r_aload_n rfl ?_
  refine r_lm 1039 rfl [.ref 231] [.int (-1)] (Nat.le_of_ble_eq_true rfl) rfl (zm_X11_restless a_ 51333 ) (fun h_ q_ => ?_)
  refine At.enter rfl ?_
  refine r_ict (by decide) ?_
  exact lw_tail q_
set_option maxRecDepth 100000 in
theorem lw_c28 (s0 s1 s2 s3 s4 s5 s6 : Int32) : At 14 (some [s0, s1, s2, s3, s4, s5, s6]) (some .boolean) bs_L_law (1044, [(3, .int 0), (2, .ref 231), (1, .ref 0), (0, .float 0)], [], (hp_X ++ hp_M, 51333)) LwE := by
  refine At.enter rfl ?_
  refine r_aload_n rfl ?_
  refine r_sload_n rfl ?_
  refine r_iload_n rfl ?_
  refine r_iconst 1 rfl ?_
  refine r_iadd 1 rfl ?_
  refine r_scald (v := s1) (by decide) rfl ?_
  refine r_lx 1053 rfl [.ref 0, .int s1] [] (Nat.le_of_ble_eq_true rfl) rfl (zx_X10_rests s1) (fun a_ => ?_)
  refine At.enter rfl ?_
  refine r_aload_n rfl ?_
  refine r_sload_n rfl ?_
  refine r_iload_n rfl ?_
  refine r_iconst 1 rfl ?_
  refine r_iadd 1 rfl ?_
  refine r_scald (v := s1) (by decide) rfl ?_
  refine r_lm 1062 rfl [.ref 231, .int s1] [.int (sp_rests s1)] (Nat.le_of_ble_eq_true rfl) rfl (zm_X11_rests a_ 51333 s1) (fun h_ q_ => ?_)
  refine At.enter rfl ?_
  refine r_ict (decide_eq_true rfl) ?_
  exact lw_tail q_
set_option maxRecDepth 100000 in
theorem lw_c29 (s0 s1 s2 s3 s4 s5 s6 : Int32) : At 14 (some [s0, s1, s2, s3, s4, s5, s6]) (some .boolean) bs_L_law (1067, [(3, .int 0), (2, .ref 231), (1, .ref 0), (0, .float 0)], [], (hp_X ++ hp_M, 51333)) LwE := by
  refine At.enter rfl ?_
  refine r_aload_n rfl ?_
  refine r_sload_n rfl ?_
  refine r_iload_n rfl ?_
  refine r_iconst 1 rfl ?_
  refine r_iadd 1 rfl ?_
  refine r_scald (v := s1) (by decide) rfl ?_
  refine r_lx 1076 rfl [.ref 0, .int s1] [] (Nat.le_of_ble_eq_true rfl) rfl (zx_X10_pieces 51333 s1) (fun a_ => ?_)
  refine At.enter rfl ?_
  refine r_aload_n rfl ?_
  refine r_sload_n rfl ?_
  refine r_iload_n rfl ?_
  refine r_iconst 1 rfl ?_
  refine r_iadd 1 rfl ?_
  refine r_scald (v := s1) (by decide) rfl ?_
  refine r_lm 1085 rfl [.ref 231, .int s1] [.int (-1)] (Nat.le_of_ble_eq_true rfl) rfl (zm_X11_pieces a_ 51333 s1) (fun h_ q_ => ?_)
  refine At.enter rfl ?_
  refine r_ict (by decide) ?_
  exact lw_tail q_
set_option maxRecDepth 100000 in
theorem lw_c30 (s0 s1 s2 s3 s4 s5 s6 : Int32) : At 14 (some [s0, s1, s2, s3, s4, s5, s6]) (some .boolean) bs_L_law (1090, [(3, .int 0), (2, .ref 231), (1, .ref 0), (0, .float 0)], [], (hp_X ++ hp_M, 51333)) LwE := by
  refine At.enter rfl ?_
  refine r_aload_n rfl ?_
  refine r_sload_n rfl ?_
  refine r_iload_n rfl ?_
  refine r_iconst 1 rfl ?_
  refine r_iadd 1 rfl ?_
  refine r_scald (v := s1) (by decide) rfl ?_
  refine r_sload_n rfl ?_
  refine r_iload_n rfl ?_
  refine r_iconst 2 rfl ?_
  refine r_iadd 2 rfl ?_
  refine r_scald (v := s2) (by decide) rfl ?_
  refine r_lx 1104 rfl [.ref 0, .int s1, .int s2] [] (Nat.le_of_ble_eq_true rfl) rfl (zx_X10_sign 51333 s1 s2) (fun a_ => ?_)
  refine At.enter rfl ?_
  refine r_aload_n rfl ?_
  refine r_sload_n rfl ?_
  refine r_iload_n rfl ?_
  refine r_iconst 1 rfl ?_
  refine r_iadd 1 rfl ?_
  refine r_scald (v := s1) (by decide) rfl ?_
  refine r_sload_n rfl ?_
  refine r_iload_n rfl ?_
  refine r_iconst 2 rfl ?_
  refine r_iadd 2 rfl ?_
  refine r_scald (v := s2) (by decide) rfl ?_
  refine r_lm 1118 rfl [.ref 231, .int s1, .int s2] [.int (sp_sign s1 s2)] (Nat.le_of_ble_eq_true rfl) rfl (zm_X11_sign a_ 51333 s1 s2) (fun h_ q_ => ?_)
  refine At.enter rfl ?_
  refine r_ict (decide_eq_true rfl) ?_
  exact lw_tail q_
set_option maxRecDepth 100000 in
theorem lw_c31 (s0 s1 s2 s3 s4 s5 s6 : Int32) : At 14 (some [s0, s1, s2, s3, s4, s5, s6]) (some .boolean) bs_L_law (1123, [(3, .int 0), (2, .ref 231), (1, .ref 0), (0, .float 0)], [], (hp_X ++ hp_M, 51333)) LwE := by
  refine At.enter rfl ?_
  refine r_aload_n rfl ?_
  refine r_lx 1127 rfl [.ref 0] [] (Nat.le_of_ble_eq_true rfl) rfl (zx_X10_clear 51333 ) (fun a_ => ?_)
  refine At.enter rfl ?_
  refine r_aload_n rfl ?_
  refine r_lm 1131 rfl [.ref 231] [.int 0] (Nat.le_of_ble_eq_true rfl) rfl (zm_X11_clear a_ 51333 ) (fun h_ q_ => ?_)
  refine At.enter rfl ?_
  refine r_ict (by decide) ?_
  exact lw_tail q_
set_option maxRecDepth 100000 in
theorem lw_c32 (s0 s1 s2 s3 s4 s5 s6 : Int32) : At 14 (some [s0, s1, s2, s3, s4, s5, s6]) (some .boolean) bs_L_law (1136, [(3, .int 0), (2, .ref 231), (1, .ref 0), (0, .float 0)], [], (hp_X ++ hp_M, 51333)) LwE := by
  refine At.enter rfl ?_
  refine r_aload_n rfl ?_
  refine r_lx 1140 rfl [.ref 0] [] (Nat.le_of_ble_eq_true rfl) rfl (zx_X10_thieves 51333 ) (fun a_ => ?_)
  refine At.enter rfl ?_
  refine r_aload_n rfl ?_
  refine r_lm 1144 rfl [.ref 231] [.int 0] (Nat.le_of_ble_eq_true rfl) rfl (zm_X11_thieves a_ 51333 ) (fun h_ q_ => ?_)
  refine At.enter rfl ?_
  refine r_ict (by decide) ?_
  exact lw_tail q_
set_option maxRecDepth 100000 in
theorem lw_c33 (s0 s1 s2 s3 s4 s5 s6 : Int32) : At 14 (some [s0, s1, s2, s3, s4, s5, s6]) (some .boolean) bs_L_law (1149, [(3, .int 0), (2, .ref 231), (1, .ref 0), (0, .float 0)], [], (hp_X ++ hp_M, 51333)) LwE := by
  refine At.enter rfl ?_
  refine r_aload_n rfl ?_
  refine r_sload_n rfl ?_
  refine r_iload_n rfl ?_
  refine r_iconst 1 rfl ?_
  refine r_iadd 1 rfl ?_
  refine r_scald (v := s1) (by decide) rfl ?_
  refine r_sload_n rfl ?_
  refine r_iload_n rfl ?_
  refine r_iconst 2 rfl ?_
  refine r_iadd 2 rfl ?_
  refine r_scald (v := s2) (by decide) rfl ?_
  refine r_sload_n rfl ?_
  refine r_iload_n rfl ?_
  refine r_iconst 3 rfl ?_
  refine r_iadd 3 rfl ?_
  refine r_scald (v := s3) (by decide) rfl ?_
  refine r_lx 1168 rfl [.ref 0, .int s1, .int s2, .int s3] [] (Nat.le_of_ble_eq_true rfl) rfl (zx_X10_meet 51333 s1 s2 s3) (fun a_ => ?_)
  refine At.enter rfl ?_
  refine r_aload_n rfl ?_
  refine r_sload_n rfl ?_
  refine r_iload_n rfl ?_
  refine r_iconst 1 rfl ?_
  refine r_iadd 1 rfl ?_
  refine r_scald (v := s1) (by decide) rfl ?_
  refine r_sload_n rfl ?_
  refine r_iload_n rfl ?_
  refine r_iconst 2 rfl ?_
  refine r_iadd 2 rfl ?_
  refine r_scald (v := s2) (by decide) rfl ?_
  refine r_sload_n rfl ?_
  refine r_iload_n rfl ?_
  refine r_iconst 3 rfl ?_
  refine r_iadd 3 rfl ?_
  refine r_scald (v := s3) (by decide) rfl ?_
  refine r_lm 1187 rfl [.ref 231, .int s1, .int s2, .int s3] [.int (-1)] (Nat.le_of_ble_eq_true rfl) rfl (zm_X11_meet a_ 51333 s1 s2 s3) (fun h_ q_ => ?_)
  refine At.enter rfl ?_
  refine r_ict (by decide) ?_
  exact lw_tail q_
set_option maxRecDepth 100000 in
theorem lw_c34 (s0 s1 s2 s3 s4 s5 s6 : Int32) : At 14 (some [s0, s1, s2, s3, s4, s5, s6]) (some .boolean) bs_L_law (1192, [(3, .int 0), (2, .ref 231), (1, .ref 0), (0, .float 0)], [], (hp_X ++ hp_M, 51333)) LwE := by
  refine At.enter rfl ?_
  refine r_aload_n rfl ?_
  refine r_sload_n rfl ?_
  refine r_iload_n rfl ?_
  refine r_iconst 1 rfl ?_
  refine r_iadd 1 rfl ?_
  refine r_scald (v := s1) (by decide) rfl ?_
  refine r_lx 1201 rfl [.ref 0, .int s1] [] (Nat.le_of_ble_eq_true rfl) rfl (zx_X10_draw s1) (fun a_ => ?_)
  refine At.enter rfl ?_
  refine r_aload_n rfl ?_
  refine r_sload_n rfl ?_
  refine r_iload_n rfl ?_
  refine r_iconst 1 rfl ?_
  refine r_iadd 1 rfl ?_
  refine r_scald (v := s1) (by decide) rfl ?_
  refine r_lm 1210 rfl [.ref 231, .int s1] [.int (sp_draw s1)] (Nat.le_of_ble_eq_true rfl) rfl (zm_X11_draw a_ 51333 s1) (fun h_ q_ => ?_)
  refine At.enter rfl ?_
  refine r_ict (decide_eq_true rfl) ?_
  exact lw_tail q_
set_option maxRecDepth 100000 in
theorem lw_c35 (s0 s1 s2 s3 s4 s5 s6 : Int32) : At 14 (some [s0, s1, s2, s3, s4, s5, s6]) (some .boolean) bs_L_law (1215, [(3, .int 0), (2, .ref 231), (1, .ref 0), (0, .float 0)], [], (hp_X ++ hp_M, 51333)) LwE := by
  refine At.enter rfl ?_
  refine r_aload_n rfl ?_
  refine r_sload_n rfl ?_
  refine r_iload_n rfl ?_
  refine r_iconst 1 rfl ?_
  refine r_iadd 1 rfl ?_
  refine r_scald (v := s1) (by decide) rfl ?_
  refine r_sload_n rfl ?_
  refine r_iload_n rfl ?_
  refine r_iconst 2 rfl ?_
  refine r_iadd 2 rfl ?_
  refine r_scald (v := s2) (by decide) rfl ?_
  refine r_lx 1229 rfl [.ref 0, .int s1, .int s2] [] (Nat.le_of_ble_eq_true rfl) rfl (zx_X10_drawn 51333 s1 s2) (fun a_ => ?_)
  refine At.enter rfl ?_
  refine r_aload_n rfl ?_
  refine r_sload_n rfl ?_
  refine r_iload_n rfl ?_
  refine r_iconst 1 rfl ?_
  refine r_iadd 1 rfl ?_
  refine r_scald (v := s1) (by decide) rfl ?_
  refine r_sload_n rfl ?_
  refine r_iload_n rfl ?_
  refine r_iconst 2 rfl ?_
  refine r_iadd 2 rfl ?_
  refine r_scald (v := s2) (by decide) rfl ?_
  refine r_lm 1243 rfl [.ref 231, .int s1, .int s2] [.int (-1)] (Nat.le_of_ble_eq_true rfl) rfl (zm_X11_drawn a_ 51333 s1 s2) (fun h_ q_ => ?_)
  refine At.enter rfl ?_
  refine r_ict (by decide) ?_
  exact lw_tail q_
set_option maxRecDepth 100000 in
theorem lw_c36 (s0 s1 s2 s3 s4 s5 s6 : Int32) : At 14 (some [s0, s1, s2, s3, s4, s5, s6]) (some .boolean) bs_L_law (1248, [(3, .int 0), (2, .ref 231), (1, .ref 0), (0, .float 0)], [], (hp_X ++ hp_M, 51333)) LwE := by
  refine At.enter rfl ?_
  refine r_aload_n rfl ?_
  refine r_sload_n rfl ?_
  refine r_iload_n rfl ?_
  refine r_iconst 1 rfl ?_
  refine r_iadd 1 rfl ?_
  refine r_scald (v := s1) (by decide) rfl ?_
  refine r_lx 1257 rfl [.ref 0, .int s1] [] (Nat.le_of_ble_eq_true rfl) rfl (zx_X10_image s1) (fun a_ => ?_)
  refine At.enter rfl ?_
  refine r_aload_n rfl ?_
  refine r_sload_n rfl ?_
  refine r_iload_n rfl ?_
  refine r_iconst 1 rfl ?_
  refine r_iadd 1 rfl ?_
  refine r_scald (v := s1) (by decide) rfl ?_
  refine r_lm 1266 rfl [.ref 231, .int s1] [.int (sp_image s1)] (Nat.le_of_ble_eq_true rfl) rfl (zm_X11_image a_ 51333 s1) (fun h_ q_ => ?_)
  refine At.enter rfl ?_
  refine r_ict (decide_eq_true rfl) ?_
  exact lw_tail q_
set_option maxRecDepth 100000 in
theorem lw_c37 (s0 s1 s2 s3 s4 s5 s6 : Int32) : At 14 (some [s0, s1, s2, s3, s4, s5, s6]) (some .boolean) bs_L_law (1271, [(3, .int 0), (2, .ref 231), (1, .ref 0), (0, .float 0)], [], (hp_X ++ hp_M, 51333)) LwE := by
  refine At.enter rfl ?_
  refine r_aload_n rfl ?_
  refine r_sload_n rfl ?_
  refine r_iload_n rfl ?_
  refine r_iconst 1 rfl ?_
  refine r_iadd 1 rfl ?_
  refine r_scald (v := s1) (by decide) rfl ?_
  refine r_lx 1280 rfl [.ref 0, .int s1] [] (Nat.le_of_ble_eq_true rfl) rfl (zx_X10_back 51333 s1) (fun a_ => ?_)
  refine At.enter rfl ?_
  refine r_aload_n rfl ?_
  refine r_sload_n rfl ?_
  refine r_iload_n rfl ?_
  refine r_iconst 1 rfl ?_
  refine r_iadd 1 rfl ?_
  refine r_scald (v := s1) (by decide) rfl ?_
  refine r_lm 1289 rfl [.ref 231, .int s1] [.int (sp_back s1)] (Nat.le_of_ble_eq_true rfl) rfl (zm_X11_back a_ 51333 s1) (fun h_ q_ => ?_)
  refine At.enter rfl ?_
  refine r_ict (decide_eq_true rfl) ?_
  exact lw_tail q_
set_option maxRecDepth 100000 in
theorem lw_c38 (s0 s1 s2 s3 s4 s5 s6 : Int32) : At 14 (some [s0, s1, s2, s3, s4, s5, s6]) (some .boolean) bs_L_law (1294, [(3, .int 0), (2, .ref 231), (1, .ref 0), (0, .float 0)], [], (hp_X ++ hp_M, 51333)) LwE := by
  refine At.enter rfl ?_
  refine r_aload_n rfl ?_
  refine r_sload_n rfl ?_
  refine r_iload_n rfl ?_
  refine r_iconst 1 rfl ?_
  refine r_iadd 1 rfl ?_
  refine r_scald (v := s1) (by decide) rfl ?_
  refine r_lx 1303 rfl [.ref 0, .int s1] [] (Nat.le_of_ble_eq_true rfl) rfl (zx_X10_count s1) (fun a_ => ?_)
  refine At.enter rfl ?_
  refine r_aload_n rfl ?_
  refine r_sload_n rfl ?_
  refine r_iload_n rfl ?_
  refine r_iconst 1 rfl ?_
  refine r_iadd 1 rfl ?_
  refine r_scald (v := s1) (by decide) rfl ?_
  refine r_lm 1312 rfl [.ref 231, .int s1] [.int (sp_count s1)] (Nat.le_of_ble_eq_true rfl) rfl (zm_X11_count a_ 51333 s1) (fun h_ q_ => ?_)
  refine At.enter rfl ?_
  refine r_ict (decide_eq_true rfl) ?_
  exact lw_tail q_
set_option maxRecDepth 100000 in
theorem lw_c39 (s0 s1 s2 s3 s4 s5 s6 : Int32) : At 14 (some [s0, s1, s2, s3, s4, s5, s6]) (some .boolean) bs_L_law (1317, [(3, .int 0), (2, .ref 231), (1, .ref 0), (0, .float 0)], [], (hp_X ++ hp_M, 51333)) LwE := by
  refine At.enter rfl ?_
  refine r_aload_n rfl ?_
  refine r_lx 1321 rfl [.ref 0] [] (Nat.le_of_ble_eq_true rfl) rfl (zx_X10_status 51333 ) (fun a_ => ?_)
  refine At.enter rfl ?_
  refine r_aload_n rfl ?_
  refine r_lm 1325 rfl [.ref 231] [.int 0] (Nat.le_of_ble_eq_true rfl) rfl (zm_X11_status a_ 51333 ) (fun h_ q_ => ?_)
  refine At.enter rfl ?_
  refine r_ict (by decide) ?_
  exact lw_tail q_
