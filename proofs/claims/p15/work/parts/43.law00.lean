def F_law : List (Nat × Nat) := [(0, 14), (0, 15), (0, 16), (0, 17), (1, 0), (1, 4), (1, 6), (1, 9), (1, 10), (1, 11), (1, 12), (7, 0), (7, 3), (7, 4), (16, 0), (16, 3), (16, 4), (23, 0), (23, 3), (23, 4), (30, 0), (30, 3), (30, 4), (37, 0), (37, 3), (37, 4), (44, 0), (44, 3), (44, 4), (51, 0), (51, 3), (51, 4), (59, 0), (59, 4), (59, 6), (59, 9), (59, 10), (59, 11), (59, 12), (65, 0), (65, 3), (65, 4), (74, 0), (74, 3), (74, 4), (81, 0), (81, 3), (81, 4), (88, 0), (88, 3), (88, 4), (95, 0), (95, 3), (95, 4), (102, 0), (102, 3), (102, 4), (109, 0), (109, 3), (109, 4), (116, 0), (116, 4), (116, 6), (116, 9), (116, 10), (116, 11), (116, 12), (122, 0), (122, 3), (122, 4), (131, 0), (131, 3), (131, 4), (138, 0), (138, 3), (138, 4), (145, 0), (145, 3), (145, 4), (152, 0), (152, 3), (152, 4), (159, 0), (159, 3), (159, 4), (166, 0), (166, 3), (166, 4), (174, 1), (176, 2), (176, 3), (176, 4), (176, 5), (176, 6), (177, 0), (177, 3), (177, 4), (185, 3), (188, 16), (188, 18), (204, 16), (204, 18), (220, 2), (220, 3), (220, 4), (222, 2), (222, 3), (222, 4), (222, 5), (223, 5), (223, 6), (223, 7), (223, 8), (223, 9), (223, 10), (223, 11), (231, 0), (231, 1), (231, 6), (231, 8), (231, 9), (231, 10), (231, 11), (231, 12), (231, 13), (231, 14), (231, 15), (231, 17), (231, 20), (231, 23), (231, 24), (231, 27), (231, 30), (231, 31), (231, 32), (231, 36), (231, 45), (231, 46), (231, 47), (231, 48), (231, 51)]
def A_law : List Nat := [2, 3, 4, 5, 8, 9, 10, 11, 12, 13, 14, 15, 17, 18, 19, 20, 21, 22, 24, 25, 26, 27, 28, 29, 31, 32, 33, 34, 35, 36, 38, 39, 40, 41, 42, 43, 45, 46, 47, 48, 49, 50, 52, 53, 54, 55, 56, 57, 60, 61, 62, 63, 66, 67, 68, 69, 70, 71, 72, 73, 75, 76, 77, 78, 79, 80, 82, 83, 84, 85, 86, 87, 89, 90, 91, 92, 93, 94, 96, 97, 98, 99, 100, 101, 103, 104, 105, 106, 107, 108, 110, 111, 112, 113, 114, 115, 117, 118, 119, 120, 123, 124, 125, 126, 127, 128, 129, 130, 132, 133, 134, 135, 136, 137, 139, 140, 141, 142, 143, 144, 146, 147, 148, 149, 150, 151, 153, 154, 155, 156, 157, 158, 160, 161, 162, 163, 164, 165, 167, 168, 169, 170, 171, 172, 173, 175, 178, 179, 180, 181, 182, 183, 189, 190, 191, 192, 193, 194, 195, 196, 197, 198, 199, 200, 202, 203, 205, 206, 207, 208, 209, 210, 211, 212, 213, 214, 215, 216, 218, 219, 221, 224, 225, 226, 227, 228, 229, 230, 232, 233, 234, 235, 236, 237, 238, 239, 240, 241, 246, 247, 248, 249, 250, 251, 252, 253, 254, 255, 256, 257, 258]
def LwR (g : List en_E) : Prop := (gI g 1 0).toInt = (eA g 233 0).toInt ∧ (gI g 1 12).toInt = (eA g 233 4).toInt ∧ (gI g 1 10).toInt = (eA g 233 5).toInt ∧ (gI g 1 11).toInt = (eA g 233 6).toInt ∧ (gI g 1 6).toInt = (eA g 233 2).toInt ∧ (gI g 1 9).toInt = (eA g 233 3).toInt ∧ (eA g 173 0).toInt = (eA g 235 0).toInt ∧ (eA g 173 1).toInt = (eA g 235 1).toInt ∧ (gI g 174 1).toInt = (gI g 231 8).toInt ∧ (gI g 176 2).toInt = (gI g 231 13).toInt ∧ IM0 g ∧ IM1 g ∧ RT g ∧ BYX g

set_option maxRecDepth 100000 in
set_option maxHeartbeats 8000000 in
theorem lq_c0 (d : Nat) {N : Nat} {g0 : List en_E} (hI0 : HI g0) (hR0 : LwR g0) {ys : List Int32} {L : Nat} (hL : ys.length = L) (hL2 : L ≤ 3584) {l : en_L} {i : Int32} (e0 : en_get 0 l = some (.float 0)) (e1 : en_get 1 l = some (.ref 0)) (e2 : en_get 2 l = some (.ref 231)) (e3 : en_get 3 l = some (.int i)) (hi : 0 ≤ i.toInt ∧ i.toInt + 7 ≤ L) {Ph : Option Value → en_H → Prop} (K : ∀ g1 : List en_E, HI g1 → LwR g1 → At (d + 423) (some ys) (some .boolean) bs_L_law (1330, l, [], (g1, N)) Ph) : At (d + 423) (some ys) (some .boolean) bs_L_law (208, l, [], (g0, N)) Ph := by
  have hF0 : Fr F_law A_law g0 g0 := Fr.rf
  have hx_1 : -2147483648 ≤ i.toInt + 1 ∧ i.toInt + 1 ≤ 2147483647 := by omega
  have hx_2 : -2147483648 ≤ i.toInt + 2 ∧ i.toInt + 2 ≤ 2147483647 := by omega
  have hx_3 : -2147483648 ≤ i.toInt + 3 ∧ i.toInt + 3 ≤ 2147483647 := by omega
  have hx_4 : -2147483648 ≤ i.toInt + 4 ∧ i.toInt + 4 ≤ 2147483647 := by omega
  have hx_5 : -2147483648 ≤ i.toInt + 5 ∧ i.toInt + 5 ≤ 2147483647 := by omega
  have hx_6 : -2147483648 ≤ i.toInt + 6 ∧ i.toInt + 6 ≤ 2147483647 := by omega
  have hy_0 : 0 ≤ i.toInt ∧ i.toInt < (L : Int) := by omega
  have hy_1 : 0 ≤ i.toInt + 1 ∧ i.toInt + 1 < (L : Int) := by omega
  have hy_2 : 0 ≤ i.toInt + 2 ∧ i.toInt + 2 < (L : Int) := by omega
  have hy_3 : 0 ≤ i.toInt + 3 ∧ i.toInt + 3 < (L : Int) := by omega
  have hy_4 : 0 ≤ i.toInt + 4 ∧ i.toInt + 4 < (L : Int) := by omega
  have hy_5 : 0 ≤ i.toInt + 5 ∧ i.toInt + 5 < (L : Int) := by omega
  have hy_6 : 0 ≤ i.toInt + 6 ∧ i.toInt + 6 < (L : Int) := by omega
  unfold LwR at hR0
  obtain ⟨hR_0, hR_1, hR_2, hR_3, hR_4, hR_5, hR_6, hR_7, hR_8, hR_9, hR_10, hR_11, hR_12, hR_13⟩ := hR0
  refine At.enter rfl ?_
  refine r_aload_n e1 ?_
  refine r_sload_n e0 ?_
  refine r_iload_n e3 ?_
  refine r_iconst 1 rfl ?_
  refine q_iadd (i.toInt + 1) rfl hx_1 (fun v1 hv1 => ?_)
  refine q_scald (m := L) hL (i.toInt + 1) hv1 hy_1 (fun v2 hv2 => ?_)
  refine r_sload_n e0 ?_
  refine r_iload_n e3 ?_
  refine r_iconst 2 rfl ?_
  refine q_iadd (i.toInt + 2) rfl hx_2 (fun v3 hv3 => ?_)
  refine q_scald (m := L) hL (i.toInt + 2) hv3 hy_2 (fun v4 hv4 => ?_)
  refine r_sload_n e0 ?_
  refine r_iload_n e3 ?_
  refine r_iconst 3 rfl ?_
  refine q_iadd (i.toInt + 3) rfl hx_3 (fun v5 hv5 => ?_)
  refine q_scald (m := L) hL (i.toInt + 3) hv5 hy_3 (fun v6 hv6 => ?_)
  refine r_callV 227 rfl [.ref 0, .int v2, .int v4, .int v6] [] (Nat.le_of_ble_eq_true rfl) rfl (T_X10_stand_0 _ hI0 v2 v4 v6) ?_
  rintro _ _ ⟨g7, rfl, hI8, hF9, v10, rfl, hr11⟩
  refine At.sti ?_
  have hF12 := Fr.tr hF0 hF9 rfl rfl
  have f14 := congrArg Int32.toInt (hF9.1 1 12 rfl)
  have f15 := congrArg Int32.toInt (hF9.1 1 10 rfl)
  have f16 := congrArg Int32.toInt (hF9.1 1 11 rfl)
  have f17 := congrArg Int32.toInt (hF9.1 1 6 rfl)
  have f18 := congrArg Int32.toInt (hF9.1 1 9 rfl)
  have f19 := congrArg Int32.toInt (hF9.1 59 0 rfl)
  have f20 := congrArg Int32.toInt (hF9.1 59 12 rfl)
  have f21 := congrArg Int32.toInt (hF9.1 59 10 rfl)
  have f22 := congrArg Int32.toInt (hF9.1 59 11 rfl)
  have f23 := congrArg Int32.toInt (hF9.1 59 6 rfl)
  have f24 := congrArg Int32.toInt (hF9.1 59 9 rfl)
  have f25 := congrArg Int32.toInt (hF9.1 116 0 rfl)
  have f26 := congrArg Int32.toInt (hF9.1 116 12 rfl)
  have f27 := congrArg Int32.toInt (hF9.1 116 10 rfl)
  have f28 := congrArg Int32.toInt (hF9.1 116 11 rfl)
  have f29 := congrArg Int32.toInt (hF9.1 116 6 rfl)
  have f30 := congrArg Int32.toInt (hF9.1 116 9 rfl)
  have f31 := congrArg Int32.toInt (eA_c (j := 0) (hF9.2.1 173 rfl))
  have f32 := congrArg Int32.toInt (eA_c (j := 1) (hF9.2.1 173 rfl))
  have f33 := congrArg Int32.toInt (hF9.1 174 1 rfl)
  have f34 := congrArg Int32.toInt (hF9.1 176 2 rfl)
  have f35 := congrArg Int32.toInt (eA_c (j := 0) (hF9.2.1 233 rfl))
  have f36 := congrArg Int32.toInt (eA_c (j := 4) (hF9.2.1 233 rfl))
  have f37 := congrArg Int32.toInt (eA_c (j := 5) (hF9.2.1 233 rfl))
  have f38 := congrArg Int32.toInt (eA_c (j := 6) (hF9.2.1 233 rfl))
  have f39 := congrArg Int32.toInt (eA_c (j := 2) (hF9.2.1 233 rfl))
  have f40 := congrArg Int32.toInt (eA_c (j := 3) (hF9.2.1 233 rfl))
  have f41 := congrArg Int32.toInt (eA_c (j := 0) (hF9.2.1 234 rfl))
  have f42 := congrArg Int32.toInt (eA_c (j := 4) (hF9.2.1 234 rfl))
  have f43 := congrArg Int32.toInt (eA_c (j := 5) (hF9.2.1 234 rfl))
  have f44 := congrArg Int32.toInt (eA_c (j := 6) (hF9.2.1 234 rfl))
  have f45 := congrArg Int32.toInt (eA_c (j := 2) (hF9.2.1 234 rfl))
  have f46 := congrArg Int32.toInt (eA_c (j := 3) (hF9.2.1 234 rfl))
  have f47 := congrArg Int32.toInt (eA_c (j := 5510) (hF9.2.1 234 rfl))
  have f48 := congrArg Int32.toInt (eA_c (j := 5514) (hF9.2.1 234 rfl))
  have f49 := congrArg Int32.toInt (eA_c (j := 5515) (hF9.2.1 234 rfl))
  have f50 := congrArg Int32.toInt (eA_c (j := 5516) (hF9.2.1 234 rfl))
  have f51 := congrArg Int32.toInt (eA_c (j := 5512) (hF9.2.1 234 rfl))
  have f52 := congrArg Int32.toInt (eA_c (j := 5513) (hF9.2.1 234 rfl))
  have f53 := congrArg Int32.toInt (eA_c (j := 0) (hF9.2.1 235 rfl))
  have f54 := congrArg Int32.toInt (eA_c (j := 1) (hF9.2.1 235 rfl))
  have f55 := congrArg Int32.toInt (hF9.1 231 8 rfl)
  have f56 := congrArg Int32.toInt (hF9.1 231 13 rfl)
  refine At.enter rfl ?_
  refine r_pop rfl ?_
  refine r_aload_n e2 ?_
  refine r_sload_n e0 ?_
  refine r_iload_n e3 ?_
  refine r_iconst 1 rfl ?_
  refine q_iadd (i.toInt + 1) rfl hx_1 (fun v57 hv57 => ?_)
  refine q_scald (m := L) hL (i.toInt + 1) hv57 hy_1 (fun v58 hv58 => ?_)
  have sv58 := hv2.symm.trans hv58
  subst sv58
  refine r_sload_n e0 ?_
  refine r_iload_n e3 ?_
  refine r_iconst 2 rfl ?_
  refine q_iadd (i.toInt + 2) rfl hx_2 (fun v59 hv59 => ?_)
  refine q_scald (m := L) hL (i.toInt + 2) hv59 hy_2 (fun v60 hv60 => ?_)
  have sv60 := hv4.symm.trans hv60
  subst sv60
  refine r_sload_n e0 ?_
  refine r_iload_n e3 ?_
  refine r_iconst 3 rfl ?_
  refine q_iadd (i.toInt + 3) rfl hx_3 (fun v61 hv61 => ?_)
  refine q_scald (m := L) hL (i.toInt + 3) hv61 hy_3 (fun v62 hv62 => ?_)
  have sv62 := hv6.symm.trans hv62
  subst sv62
  refine r_callV 247 rfl [.ref 231, .int v2, .int v4, .int v6] [] (Nat.le_of_ble_eq_true rfl) rfl (T_X11_stand_231 _ hI8 v2 v4 v6) ?_
  rintro _ _ ⟨g63, rfl, hI64, hF65, v66, rfl, hr67⟩
  refine At.sti ?_
  have hF68 := Fr.tr hF12 hF65 rfl rfl
  have f69 := congrArg Int32.toInt (hF65.1 1 0 rfl)
  have f70 := congrArg Int32.toInt (hF65.1 1 12 rfl)
  have f71 := congrArg Int32.toInt (hF65.1 1 10 rfl)
  have f72 := congrArg Int32.toInt (hF65.1 1 11 rfl)
  have f73 := congrArg Int32.toInt (hF65.1 1 6 rfl)
  have f74 := congrArg Int32.toInt (hF65.1 1 9 rfl)
  have f75 := congrArg Int32.toInt (hF65.1 59 0 rfl)
  have f76 := congrArg Int32.toInt (hF65.1 59 12 rfl)
  have f77 := congrArg Int32.toInt (hF65.1 59 10 rfl)
  have f78 := congrArg Int32.toInt (hF65.1 59 11 rfl)
  have f79 := congrArg Int32.toInt (hF65.1 59 6 rfl)
  have f80 := congrArg Int32.toInt (hF65.1 59 9 rfl)
  have f81 := congrArg Int32.toInt (hF65.1 116 0 rfl)
  have f82 := congrArg Int32.toInt (hF65.1 116 12 rfl)
  have f83 := congrArg Int32.toInt (hF65.1 116 10 rfl)
  have f84 := congrArg Int32.toInt (hF65.1 116 11 rfl)
  have f85 := congrArg Int32.toInt (hF65.1 116 6 rfl)
  have f86 := congrArg Int32.toInt (hF65.1 116 9 rfl)
  have f87 := congrArg Int32.toInt (eA_c (j := 0) (hF65.2.1 173 rfl))
  have f88 := congrArg Int32.toInt (eA_c (j := 1) (hF65.2.1 173 rfl))
  have f89 := congrArg Int32.toInt (hF65.1 174 1 rfl)
  have f90 := congrArg Int32.toInt (hF65.1 176 2 rfl)
  have f97 := congrArg Int32.toInt (eA_c (j := 0) (hF65.2.1 234 rfl))
  have f98 := congrArg Int32.toInt (eA_c (j := 4) (hF65.2.1 234 rfl))
  have f99 := congrArg Int32.toInt (eA_c (j := 5) (hF65.2.1 234 rfl))
  have f100 := congrArg Int32.toInt (eA_c (j := 6) (hF65.2.1 234 rfl))
  have f101 := congrArg Int32.toInt (eA_c (j := 2) (hF65.2.1 234 rfl))
  have f102 := congrArg Int32.toInt (eA_c (j := 3) (hF65.2.1 234 rfl))
  have f103 := congrArg Int32.toInt (eA_c (j := 5510) (hF65.2.1 234 rfl))
  have f104 := congrArg Int32.toInt (eA_c (j := 5514) (hF65.2.1 234 rfl))
  have f105 := congrArg Int32.toInt (eA_c (j := 5515) (hF65.2.1 234 rfl))
  have f106 := congrArg Int32.toInt (eA_c (j := 5516) (hF65.2.1 234 rfl))
  have f107 := congrArg Int32.toInt (eA_c (j := 5512) (hF65.2.1 234 rfl))
  have f108 := congrArg Int32.toInt (eA_c (j := 5513) (hF65.2.1 234 rfl))
  have f109 := congrArg Int32.toInt (eA_c (j := 0) (hF65.2.1 235 rfl))
  have f110 := congrArg Int32.toInt (eA_c (j := 1) (hF65.2.1 235 rfl))
  have f111 := congrArg Int32.toInt (hF65.1 231 8 rfl)
  have f112 := congrArg Int32.toInt (hF65.1 231 13 rfl)
  refine At.enter rfl ?_
  refine r_pop rfl ?_
  refine r_goto ?_
  exact K _ hI64 (show LwR _ from ⟨by first | (clear f14 f15 f16 f17 f18 f19 f20 f21 f22 f23 f24 f25 f26 f27 f28 f29 f30 f31 f32 f33 f34 f36 f37 f38 f39 f40 f41 f42 f43 f44 f45 f46 f47 f48 f49 f50 f51 f52 f53 f54 f55 f56 f70 f71 f72 f73 f74 f75 f76 f77 f78 f79 f80 f81 f82 f83 f84 f85 f86 f87 f88 f89 f90 f97 f98 f99 f100 f101 f102 f103 f104 f105 f106 f107 f108 f109 f110 f111 f112; omega) | omega, by first | (clear f15 f16 f17 f18 f19 f20 f21 f22 f23 f24 f25 f26 f27 f28 f29 f30 f31 f32 f33 f34 f35 f37 f38 f39 f40 f41 f42 f43 f44 f45 f46 f47 f48 f49 f50 f51 f52 f53 f54 f55 f56 f69 f71 f72 f73 f74 f75 f76 f77 f78 f79 f80 f81 f82 f83 f84 f85 f86 f87 f88 f89 f90 f97 f98 f99 f100 f101 f102 f103 f104 f105 f106 f107 f108 f109 f110 f111 f112 hr11 hr67; omega) | omega, by first | (clear f14 f16 f17 f18 f19 f20 f21 f22 f23 f24 f25 f26 f27 f28 f29 f30 f31 f32 f33 f34 f35 f36 f38 f39 f40 f41 f42 f43 f44 f45 f46 f47 f48 f49 f50 f51 f52 f53 f54 f55 f56 f69 f70 f72 f73 f74 f75 f76 f77 f78 f79 f80 f81 f82 f83 f84 f85 f86 f87 f88 f89 f90 f97 f98 f99 f100 f101 f102 f103 f104 f105 f106 f107 f108 f109 f110 f111 f112 hr11 hr67; omega) | omega, by first | (clear f14 f15 f17 f18 f19 f20 f21 f22 f23 f24 f25 f26 f27 f28 f29 f30 f31 f32 f33 f34 f35 f36 f37 f39 f40 f41 f42 f43 f44 f45 f46 f47 f48 f49 f50 f51 f52 f53 f54 f55 f56 f69 f70 f71 f73 f74 f75 f76 f77 f78 f79 f80 f81 f82 f83 f84 f85 f86 f87 f88 f89 f90 f97 f98 f99 f100 f101 f102 f103 f104 f105 f106 f107 f108 f109 f110 f111 f112 hr11 hr67; omega) | omega, by first | (clear f14 f15 f16 f18 f19 f20 f21 f22 f23 f24 f25 f26 f27 f28 f29 f30 f31 f32 f33 f34 f35 f36 f37 f38 f40 f41 f42 f43 f44 f45 f46 f47 f48 f49 f50 f51 f52 f53 f54 f55 f56 f69 f70 f71 f72 f74 f75 f76 f77 f78 f79 f80 f81 f82 f83 f84 f85 f86 f87 f88 f89 f90 f97 f98 f99 f100 f101 f102 f103 f104 f105 f106 f107 f108 f109 f110 f111 f112 hr11 hr67; omega) | omega, by first | (clear f14 f15 f16 f17 f19 f20 f21 f22 f23 f24 f25 f26 f27 f28 f29 f30 f31 f32 f33 f34 f35 f36 f37 f38 f39 f41 f42 f43 f44 f45 f46 f47 f48 f49 f50 f51 f52 f53 f54 f55 f56 f69 f70 f71 f72 f73 f75 f76 f77 f78 f79 f80 f81 f82 f83 f84 f85 f86 f87 f88 f89 f90 f97 f98 f99 f100 f101 f102 f103 f104 f105 f106 f107 f108 f109 f110 f111 f112 hr11 hr67; omega) | omega, (eA_ti (j := 0) (((hF65.2.1 173 (by decide)).trans (hF9.2.1 173 (by decide))))).trans (hR_6.trans (eA_ti (j := 0) (((hF65.2.1 235 (by decide)).trans (hF9.2.1 235 (by decide))))).symm), (eA_ti (j := 1) (((hF65.2.1 173 (by decide)).trans (hF9.2.1 173 (by decide))))).trans (hR_7.trans (eA_ti (j := 1) (((hF65.2.1 235 (by decide)).trans (hF9.2.1 235 (by decide))))).symm), (congrArg Int32.toInt (((hF65.1 174 1 (by decide)).trans (hF9.1 174 1 (by decide))))).trans (hR_8.trans (congrArg Int32.toInt (((hF65.1 231 8 (by decide)).trans (hF9.1 231 8 (by decide))))).symm), (congrArg Int32.toInt (((hF65.1 176 2 (by decide)).trans (hF9.1 176 2 (by decide))))).trans (hR_9.trans (congrArg Int32.toInt (((hF65.1 231 13 (by decide)).trans (hF9.1 231 13 (by decide))))).symm), IM0.cong hR_10 (eA_ti (j := 0) (((hF65.2.1 173 (by decide)).trans (hF9.2.1 173 (by decide))))) (congrArg Int32.toInt (((hF65.1 59 0 (by decide)).trans (hF9.1 59 0 (by decide))))) (eA_ti (j := 0) (((hF65.2.1 234 (by decide)).trans (hF9.2.1 234 (by decide))))) (congrArg Int32.toInt (((hF65.1 59 12 (by decide)).trans (hF9.1 59 12 (by decide))))) (eA_ti (j := 4) (((hF65.2.1 234 (by decide)).trans (hF9.2.1 234 (by decide))))) (congrArg Int32.toInt (((hF65.1 59 10 (by decide)).trans (hF9.1 59 10 (by decide))))) (eA_ti (j := 5) (((hF65.2.1 234 (by decide)).trans (hF9.2.1 234 (by decide))))) (congrArg Int32.toInt (((hF65.1 59 11 (by decide)).trans (hF9.1 59 11 (by decide))))) (eA_ti (j := 6) (((hF65.2.1 234 (by decide)).trans (hF9.2.1 234 (by decide))))) (congrArg Int32.toInt (((hF65.1 59 6 (by decide)).trans (hF9.1 59 6 (by decide))))) (eA_ti (j := 2) (((hF65.2.1 234 (by decide)).trans (hF9.2.1 234 (by decide))))) (congrArg Int32.toInt (((hF65.1 59 9 (by decide)).trans (hF9.1 59 9 (by decide))))) (eA_ti (j := 3) (((hF65.2.1 234 (by decide)).trans (hF9.2.1 234 (by decide))))), IM1.cong hR_11 (eA_ti (j := 1) (((hF65.2.1 173 (by decide)).trans (hF9.2.1 173 (by decide))))) (congrArg Int32.toInt (((hF65.1 116 0 (by decide)).trans (hF9.1 116 0 (by decide))))) (eA_ti (j := 5510) (((hF65.2.1 234 (by decide)).trans (hF9.2.1 234 (by decide))))) (congrArg Int32.toInt (((hF65.1 116 12 (by decide)).trans (hF9.1 116 12 (by decide))))) (eA_ti (j := 5514) (((hF65.2.1 234 (by decide)).trans (hF9.2.1 234 (by decide))))) (congrArg Int32.toInt (((hF65.1 116 10 (by decide)).trans (hF9.1 116 10 (by decide))))) (eA_ti (j := 5515) (((hF65.2.1 234 (by decide)).trans (hF9.2.1 234 (by decide))))) (congrArg Int32.toInt (((hF65.1 116 11 (by decide)).trans (hF9.1 116 11 (by decide))))) (eA_ti (j := 5516) (((hF65.2.1 234 (by decide)).trans (hF9.2.1 234 (by decide))))) (congrArg Int32.toInt (((hF65.1 116 6 (by decide)).trans (hF9.1 116 6 (by decide))))) (eA_ti (j := 5512) (((hF65.2.1 234 (by decide)).trans (hF9.2.1 234 (by decide))))) (congrArg Int32.toInt (((hF65.1 116 9 (by decide)).trans (hF9.1 116 9 (by decide))))) (eA_ti (j := 5513) (((hF65.2.1 234 (by decide)).trans (hF9.2.1 234 (by decide))))), (show RT _ from fun i i0 i1 => (eA_ti (((hF65.2.1 175 (by decide)).trans (hF9.2.1 175 (by decide))))).trans ((hR_12 i i0 (by omega)).trans (eA_ti (((hF65.2.1 236 (by decide)).trans (hF9.2.1 236 (by decide))))).symm)), (show BYX _ from fun i i0 i1 => by rw [TX.c (((hF65.2.1 175 (by decide)).trans (hF9.2.1 175 (by decide))))]; exact hR_13 i i0 (by have i2 : i < (gI _ 174 1).toInt := i1; show i < (gI g0 174 1).toInt; omega))⟩)
