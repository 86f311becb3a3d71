def F_law : List (Nat × Nat) := [(0, 14), (0, 15), (0, 16), (0, 17), (1, 0), (1, 4), (1, 6), (1, 9), (1, 10), (1, 11), (1, 12), (7, 0), (7, 3), (7, 4), (16, 0), (16, 3), (16, 4), (23, 0), (23, 3), (23, 4), (30, 0), (30, 3), (30, 4), (37, 0), (37, 3), (37, 4), (44, 0), (44, 3), (44, 4), (51, 0), (51, 3), (51, 4), (59, 0), (59, 4), (59, 6), (59, 9), (59, 10), (59, 11), (59, 12), (65, 0), (65, 3), (65, 4), (74, 0), (74, 3), (74, 4), (81, 0), (81, 3), (81, 4), (88, 0), (88, 3), (88, 4), (95, 0), (95, 3), (95, 4), (102, 0), (102, 3), (102, 4), (109, 0), (109, 3), (109, 4), (116, 0), (116, 4), (116, 6), (116, 9), (116, 10), (116, 11), (116, 12), (122, 0), (122, 3), (122, 4), (131, 0), (131, 3), (131, 4), (138, 0), (138, 3), (138, 4), (145, 0), (145, 3), (145, 4), (152, 0), (152, 3), (152, 4), (159, 0), (159, 3), (159, 4), (166, 0), (166, 3), (166, 4), (174, 1), (176, 2), (176, 3), (176, 4), (176, 5), (176, 6), (177, 0), (177, 3), (177, 4), (185, 3), (188, 16), (188, 18), (204, 16), (204, 18), (220, 2), (220, 3), (220, 4), (222, 2), (222, 3), (222, 4), (222, 5), (223, 5), (223, 6), (223, 7), (223, 8), (223, 9), (223, 10), (223, 11), (231, 0), (231, 1), (231, 6), (231, 8), (231, 9), (231, 10), (231, 11), (231, 12), (231, 13), (231, 14), (231, 15), (231, 17), (231, 20), (231, 23), (231, 24), (231, 27), (231, 30), (231, 31), (231, 32), (231, 36), (231, 45), (231, 46), (231, 47), (231, 48), (231, 51)]
def A_law : List Nat := [2, 3, 4, 5, 8, 9, 10, 11, 12, 13, 14, 15, 17, 18, 19, 20, 21, 22, 24, 25, 26, 27, 28, 29, 31, 32, 33, 34, 35, 36, 38, 39, 40, 41, 42, 43, 45, 46, 47, 48, 49, 50, 52, 53, 54, 55, 56, 57, 60, 61, 62, 63, 66, 67, 68, 69, 70, 71, 72, 73, 75, 76, 77, 78, 79, 80, 82, 83, 84, 85, 86, 87, 89, 90, 91, 92, 93, 94, 96, 97, 98, 99, 100, 101, 103, 104, 105, 106, 107, 108, 110, 111, 112, 113, 114, 115, 117, 118, 119, 120, 123, 124, 125, 126, 127, 128, 129, 130, 132, 133, 134, 135, 136, 137, 139, 140, 141, 142, 143, 144, 146, 147, 148, 149, 150, 151, 153, 154, 155, 156, 157, 158, 160, 161, 162, 163, 164, 165, 167, 168, 169, 170, 171, 172, 173, 175, 178, 179, 180, 181, 182, 183, 189, 190, 191, 192, 193, 194, 195, 196, 197, 198, 199, 200, 202, 203, 205, 206, 207, 208, 209, 210, 211, 212, 213, 214, 215, 216, 218, 219, 221, 224, 225, 226, 227, 228, 229, 230, 232, 233, 234, 235, 236, 237, 238, 239, 240, 241, 246, 247, 248, 249, 250, 251, 252, 253, 254, 255, 256, 257, 258]
def LwR (g : List en_E) : Prop := (gI g 1 0).toInt = (eA g 233 0).toInt ∧ (gI g 1 12).toInt = (eA g 233 4).toInt ∧ (gI g 1 10).toInt = (eA g 233 5).toInt ∧ (gI g 1 11).toInt = (eA g 233 6).toInt ∧ (gI g 1 4).toInt = (eA g 233 1).toInt ∧ (gI g 1 6).toInt = (eA g 233 2).toInt ∧ (gI g 1 9).toInt = (eA g 233 3).toInt ∧ (eA g 173 0).toInt = (eA g 235 0).toInt ∧ (eA g 173 1).toInt = (eA g 235 1).toInt ∧ (gI g 174 1).toInt = (gI g 231 8).toInt ∧ (gI g 0 16).toInt = (gI g 231 6).toInt ∧ (gI g 176 2).toInt = (gI g 231 13).toInt ∧ IM0 g ∧ IM1 g ∧ CT g ∧ CI0 g ∧ CI1 g ∧ RT g ∧ BYX g ∧ LAWR g ∧ SETX g

set_option maxRecDepth 100000 in
set_option maxHeartbeats 8000000 in
theorem lq_c0 (d : Nat) {N : Nat} {g0 : List en_E} (hI0 : HI g0) (hR0 : LwR g0) {ys : List Int32} {L : Nat} (hL : ys.length = L) (hL2 : L ≤ 3584) {l : en_L} {i : Int32} (e0 : en_get 0 l = some (.float 0)) (e1 : en_get 1 l = some (.ref 0)) (e2 : en_get 2 l = some (.ref 231)) (e3 : en_get 3 l = some (.int i)) (hi : 0 ≤ i.toInt ∧ i.toInt + 7 ≤ L) {Ph : Option Value → en_H → Prop} (K : ∀ g1 : List en_E, HI g1 → LwR g1 → At (d + 423) (some ys) (some .boolean) bs_L_law (1330, l, [], (g1, N)) Ph) : At (d + 423) (some ys) (some .boolean) bs_L_law (208, l, [], (g0, N)) Ph := by
  have hF0 : Fr F_law A_law g0 g0 := Fr.rf
  have hx_1 : -2147483648 ≤ i.toInt + 1 ∧ i.toInt + 1 ≤ 2147483647 := by omega
  have hx_2 : -2147483648 ≤ i.toInt + 2 ∧ i.toInt + 2 ≤ 2147483647 := by omega
  have hx_3 : -2147483648 ≤ i.toInt + 3 ∧ i.toInt + 3 ≤ 2147483647 := by omega
  have hx_4 : -2147483648 ≤ i.toInt + 4 ∧ i.toInt + 4 ≤ 2147483647 := by omega
  have hx_5 : -2147483648 ≤ i.toInt + 5 ∧ i.toInt + 5 ≤ 2147483647 := by omega
  have hx_6 : -2147483648 ≤ i.toInt + 6 ∧ i.toInt + 6 ≤ 2147483647 := by omega
  have hy_0 : 0 ≤ i.toInt ∧ i.toInt < (L : Int) := by omega
  have hy_1 : 0 ≤ i.toInt + 1 ∧ i.toInt + 1 < (L : Int) := by omega
  have hy_2 : 0 ≤ i.toInt + 2 ∧ i.toInt + 2 < (L : Int) := by omega
  have hy_3 : 0 ≤ i.toInt + 3 ∧ i.toInt + 3 < (L : Int) := by omega
  have hy_4 : 0 ≤ i.toInt + 4 ∧ i.toInt + 4 < (L : Int) := by omega
  have hy_5 : 0 ≤ i.toInt + 5 ∧ i.toInt + 5 < (L : Int) := by omega
  have hy_6 : 0 ≤ i.toInt + 6 ∧ i.toInt + 6 < (L : Int) := by omega
  unfold LwR at hR0
  obtain ⟨hR_0, hR_1, hR_2, hR_3, hR_4, hR_5, hR_6, hR_7, hR_8, hR_9, hR_10, hR_11, hR_12, hR_13, hR_14, hR_15, hR_16, hR_17, hR_18, hR_19, hR_20⟩ := hR0
  refine At.enter rfl ?_
  refine r_aload_n e1 ?_
  refine r_sload_n e0 ?_
  refine r_iload_n e3 ?_
  refine r_iconst 1 rfl ?_
  refine q_iadd (i.toInt + 1) rfl hx_1 (fun v1 hv1 => ?_)
  refine q_scald (m := L) hL (i.toInt + 1) hv1 hy_1 (fun v2 hv2 => ?_)
  refine r_sload_n e0 ?_
  refine r_iload_n e3 ?_
  refine r_iconst 2 rfl ?_
  refine q_iadd (i.toInt + 2) rfl hx_2 (fun v3 hv3 => ?_)
  refine q_scald (m := L) hL (i.toInt + 2) hv3 hy_2 (fun v4 hv4 => ?_)
  refine r_sload_n e0 ?_
  refine r_iload_n e3 ?_
  refine r_iconst 3 rfl ?_
  refine q_iadd (i.toInt + 3) rfl hx_3 (fun v5 hv5 => ?_)
  refine q_scald (m := L) hL (i.toInt + 3) hv5 hy_3 (fun v6 hv6 => ?_)
  rcases cs3 ((-1 ≤ v2.toInt ∧ v2.toInt ≤ 11 ∧ 1 ≤ v4.toInt ∧ v4.toInt ≤ 9 ∧ 0 ≤ v6.toInt ∧ v6.toInt ≤ 99)) (12 ≤ (gI g0 1 0).toInt) with pk7 | pk7 | pk7
  · refine r_callV 227 rfl [.ref 0, .int v2, .int v4, .int v6] [] (Nat.le_of_ble_eq_true rfl) rfl (T_X10_stand_0 _ hI0 v2 v4 v6) ?_
    rintro _ _ ⟨g8, rfl, hI9, hF10, v11, rfl, hr12⟩
    refine At.sti ?_
    have hF13 := Fr.tr hF0 hF10 rfl rfl
    have fe14 : PH _ := hr12.2.2
    replace hr12 := And.intro hr12.1 hr12.2.1
    obtain ⟨q15, q16, q17, q18, q19⟩ := hr12
    obtain ⟨i21, i22, i23⟩ := q16
    have w20 := i21 pk7
    clear i21 i22 i23
    have f24 := congrArg Int32.toInt (hF10.1 1 12 rfl)
    have f25 := congrArg Int32.toInt (hF10.1 1 10 rfl)
    have f26 := congrArg Int32.toInt (hF10.1 1 11 rfl)
    have f27 := congrArg Int32.toInt (hF10.1 1 4 rfl)
    have f28 := congrArg Int32.toInt (hF10.1 1 6 rfl)
    have f29 := congrArg Int32.toInt (hF10.1 1 9 rfl)
    have f30 := congrArg Int32.toInt (hF10.1 59 0 rfl)
    have f31 := congrArg Int32.toInt (hF10.1 59 12 rfl)
    have f32 := congrArg Int32.toInt (hF10.1 59 10 rfl)
    have f33 := congrArg Int32.toInt (hF10.1 59 11 rfl)
    have f34 := congrArg Int32.toInt (hF10.1 59 4 rfl)
    have f35 := congrArg Int32.toInt (hF10.1 59 6 rfl)
    have f36 := congrArg Int32.toInt (hF10.1 59 9 rfl)
    have f37 := congrArg Int32.toInt (hF10.1 116 0 rfl)
    have f38 := congrArg Int32.toInt (hF10.1 116 12 rfl)
    have f39 := congrArg Int32.toInt (hF10.1 116 10 rfl)
    have f40 := congrArg Int32.toInt (hF10.1 116 11 rfl)
    have f41 := congrArg Int32.toInt (hF10.1 116 4 rfl)
    have f42 := congrArg Int32.toInt (hF10.1 116 6 rfl)
    have f43 := congrArg Int32.toInt (hF10.1 116 9 rfl)
    have f44 := congrArg Int32.toInt (eA_c (j := 0) (hF10.2.1 173 rfl))
    have f45 := congrArg Int32.toInt (eA_c (j := 1) (hF10.2.1 173 rfl))
    have f46 := congrArg Int32.toInt (hF10.1 174 1 rfl)
    have f47 := congrArg Int32.toInt (hF10.1 0 16 rfl)
    have f48 := congrArg Int32.toInt (hF10.1 176 2 rfl)
    have f49 := congrArg Int32.toInt (eA_c (j := 0) (hF10.2.1 233 rfl))
    have f50 := congrArg Int32.toInt (eA_c (j := 4) (hF10.2.1 233 rfl))
    have f51 := congrArg Int32.toInt (eA_c (j := 5) (hF10.2.1 233 rfl))
    have f52 := congrArg Int32.toInt (eA_c (j := 6) (hF10.2.1 233 rfl))
    have f53 := congrArg Int32.toInt (eA_c (j := 1) (hF10.2.1 233 rfl))
    have f54 := congrArg Int32.toInt (eA_c (j := 2) (hF10.2.1 233 rfl))
    have f55 := congrArg Int32.toInt (eA_c (j := 3) (hF10.2.1 233 rfl))
    have f56 := congrArg Int32.toInt (eA_c (j := 0) (hF10.2.1 234 rfl))
    have f57 := congrArg Int32.toInt (eA_c (j := 4) (hF10.2.1 234 rfl))
    have f58 := congrArg Int32.toInt (eA_c (j := 5) (hF10.2.1 234 rfl))
    have f59 := congrArg Int32.toInt (eA_c (j := 6) (hF10.2.1 234 rfl))
    have f60 := congrArg Int32.toInt (eA_c (j := 1) (hF10.2.1 234 rfl))
    have f61 := congrArg Int32.toInt (eA_c (j := 2) (hF10.2.1 234 rfl))
    have f62 := congrArg Int32.toInt (eA_c (j := 3) (hF10.2.1 234 rfl))
    have f63 := congrArg Int32.toInt (eA_c (j := 5510) (hF10.2.1 234 rfl))
    have f64 := congrArg Int32.toInt (eA_c (j := 5514) (hF10.2.1 234 rfl))
    have f65 := congrArg Int32.toInt (eA_c (j := 5515) (hF10.2.1 234 rfl))
    have f66 := congrArg Int32.toInt (eA_c (j := 5516) (hF10.2.1 234 rfl))
    have f67 := congrArg Int32.toInt (eA_c (j := 5511) (hF10.2.1 234 rfl))
    have f68 := congrArg Int32.toInt (eA_c (j := 5512) (hF10.2.1 234 rfl))
    have f69 := congrArg Int32.toInt (eA_c (j := 5513) (hF10.2.1 234 rfl))
    have f70 := congrArg Int32.toInt (eA_c (j := 0) (hF10.2.1 235 rfl))
    have f71 := congrArg Int32.toInt (eA_c (j := 1) (hF10.2.1 235 rfl))
    have f72 := congrArg Int32.toInt (hF10.1 231 8 rfl)
    have f73 := congrArg Int32.toInt (hF10.1 231 6 rfl)
    have f74 := congrArg Int32.toInt (hF10.1 231 13 rfl)
    refine At.enter rfl ?_
    refine r_pop rfl ?_
    refine r_aload_n e2 ?_
    refine r_sload_n e0 ?_
    refine r_iload_n e3 ?_
    refine r_iconst 1 rfl ?_
    refine q_iadd (i.toInt + 1) rfl hx_1 (fun v75 hv75 => ?_)
    refine q_scald (m := L) hL (i.toInt + 1) hv75 hy_1 (fun v76 hv76 => ?_)
    have sv76 := hv2.symm.trans hv76
    subst sv76
    refine r_sload_n e0 ?_
    refine r_iload_n e3 ?_
    refine r_iconst 2 rfl ?_
    refine q_iadd (i.toInt + 2) rfl hx_2 (fun v77 hv77 => ?_)
    refine q_scald (m := L) hL (i.toInt + 2) hv77 hy_2 (fun v78 hv78 => ?_)
    have sv78 := hv4.symm.trans hv78
    subst sv78
    refine r_sload_n e0 ?_
    refine r_iload_n e3 ?_
    refine r_iconst 3 rfl ?_
    refine q_iadd (i.toInt + 3) rfl hx_3 (fun v79 hv79 => ?_)
    refine q_scald (m := L) hL (i.toInt + 3) hv79 hy_3 (fun v80 hv80 => ?_)
    have sv80 := hv6.symm.trans hv80
    subst sv80
    refine r_callV 247 rfl [.ref 231, .int v2, .int v4, .int v6] [] (Nat.le_of_ble_eq_true rfl) rfl (T_X11_stand_231 _ hI9 v2 v4 v6) ?_
    rintro _ _ ⟨g81, rfl, hI82, hF83, v84, rfl, hr85⟩
    refine At.sti ?_
    have hF86 := Fr.tr hF13 hF83 rfl rfl
    obtain ⟨q88, q89, q90⟩ := hr85
    have ek101 : (eA g8 233 0).toInt = (gI g0 1 0).toInt := (eA_ti (j := 0) (hF10.2.1 233 (by decide))).trans hR_0.symm
    have ek102 : (eA g8 233 1).toInt = (gI g0 1 4).toInt := (eA_ti (j := 1) (hF10.2.1 233 (by decide))).trans hR_4.symm
    obtain ⟨⟨i92, i93, i94⟩, sm95, sm96, sm97, sm98, sm99, sm100⟩ := q89
    have w91 := i92 pk7
    clear i92 i93 i94
    have f103 := congrArg Int32.toInt (hF83.1 1 0 rfl)
    have f104 := congrArg Int32.toInt (hF83.1 1 12 rfl)
    have f105 := congrArg Int32.toInt (hF83.1 1 10 rfl)
    have f106 := congrArg Int32.toInt (hF83.1 1 11 rfl)
    have f107 := congrArg Int32.toInt (hF83.1 1 4 rfl)
    have f108 := congrArg Int32.toInt (hF83.1 1 6 rfl)
    have f109 := congrArg Int32.toInt (hF83.1 1 9 rfl)
    have f110 := congrArg Int32.toInt (hF83.1 59 0 rfl)
    have f111 := congrArg Int32.toInt (hF83.1 59 12 rfl)
    have f112 := congrArg Int32.toInt (hF83.1 59 10 rfl)
    have f113 := congrArg Int32.toInt (hF83.1 59 11 rfl)
    have f114 := congrArg Int32.toInt (hF83.1 59 4 rfl)
    have f115 := congrArg Int32.toInt (hF83.1 59 6 rfl)
    have f116 := congrArg Int32.toInt (hF83.1 59 9 rfl)
    have f117 := congrArg Int32.toInt (hF83.1 116 0 rfl)
    have f118 := congrArg Int32.toInt (hF83.1 116 12 rfl)
    have f119 := congrArg Int32.toInt (hF83.1 116 10 rfl)
    have f120 := congrArg Int32.toInt (hF83.1 116 11 rfl)
    have f121 := congrArg Int32.toInt (hF83.1 116 4 rfl)
    have f122 := congrArg Int32.toInt (hF83.1 116 6 rfl)
    have f123 := congrArg Int32.toInt (hF83.1 116 9 rfl)
    have f124 := congrArg Int32.toInt (eA_c (j := 0) (hF83.2.1 173 rfl))
    have f125 := congrArg Int32.toInt (eA_c (j := 1) (hF83.2.1 173 rfl))
    have f126 := congrArg Int32.toInt (hF83.1 174 1 rfl)
    have f127 := congrArg Int32.toInt (hF83.1 0 16 rfl)
    have f128 := congrArg Int32.toInt (hF83.1 176 2 rfl)
    have f129 := congrArg Int32.toInt (eA_c (j := 0) (hF83.2.1 234 rfl))
    have f130 := congrArg Int32.toInt (eA_c (j := 4) (hF83.2.1 234 rfl))
    have f131 := congrArg Int32.toInt (eA_c (j := 5) (hF83.2.1 234 rfl))
    have f132 := congrArg Int32.toInt (eA_c (j := 6) (hF83.2.1 234 rfl))
    have f133 := congrArg Int32.toInt (eA_c (j := 1) (hF83.2.1 234 rfl))
    have f134 := congrArg Int32.toInt (eA_c (j := 2) (hF83.2.1 234 rfl))
    have f135 := congrArg Int32.toInt (eA_c (j := 3) (hF83.2.1 234 rfl))
    have f136 := congrArg Int32.toInt (eA_c (j := 5510) (hF83.2.1 234 rfl))
    have f137 := congrArg Int32.toInt (eA_c (j := 5514) (hF83.2.1 234 rfl))
    have f138 := congrArg Int32.toInt (eA_c (j := 5515) (hF83.2.1 234 rfl))
    have f139 := congrArg Int32.toInt (eA_c (j := 5516) (hF83.2.1 234 rfl))
    have f140 := congrArg Int32.toInt (eA_c (j := 5511) (hF83.2.1 234 rfl))
    have f141 := congrArg Int32.toInt (eA_c (j := 5512) (hF83.2.1 234 rfl))
    have f142 := congrArg Int32.toInt (eA_c (j := 5513) (hF83.2.1 234 rfl))
    have f143 := congrArg Int32.toInt (eA_c (j := 0) (hF83.2.1 235 rfl))
    have f144 := congrArg Int32.toInt (eA_c (j := 1) (hF83.2.1 235 rfl))
    have f145 := congrArg Int32.toInt (hF83.1 231 8 rfl)
    have f146 := congrArg Int32.toInt (hF83.1 231 6 rfl)
    have f147 := congrArg Int32.toInt (hF83.1 231 13 rfl)
    refine At.enter rfl ?_
    refine r_pop rfl ?_
    refine r_goto ?_
    exact K _ hI82 (show LwR _ from ⟨by omega, by omega, by omega, by omega, by omega, by omega, by omega, (eA_ti (j := 0) (((hF83.2.1 173 (by decide)).trans (hF10.2.1 173 (by decide))))).trans (hR_7.trans (eA_ti (j := 0) (((hF83.2.1 235 (by decide)).trans (hF10.2.1 235 (by decide))))).symm), (eA_ti (j := 1) (((hF83.2.1 173 (by decide)).trans (hF10.2.1 173 (by decide))))).trans (hR_8.trans (eA_ti (j := 1) (((hF83.2.1 235 (by decide)).trans (hF10.2.1 235 (by decide))))).symm), (congrArg Int32.toInt (((hF83.1 174 1 (by decide)).trans (hF10.1 174 1 (by decide))))).trans (hR_9.trans (congrArg Int32.toInt (((hF83.1 231 8 (by decide)).trans (hF10.1 231 8 (by decide))))).symm), (congrArg Int32.toInt (((hF83.1 0 16 (by decide)).trans (hF10.1 0 16 (by decide))))).trans (hR_10.trans (congrArg Int32.toInt (((hF83.1 231 6 (by decide)).trans (hF10.1 231 6 (by decide))))).symm), (congrArg Int32.toInt (((hF83.1 176 2 (by decide)).trans (hF10.1 176 2 (by decide))))).trans (hR_11.trans (congrArg Int32.toInt (((hF83.1 231 13 (by decide)).trans (hF10.1 231 13 (by decide))))).symm), IM0.cong hR_12 (eA_ti (j := 0) (((hF83.2.1 173 (by decide)).trans (hF10.2.1 173 (by decide))))) (congrArg Int32.toInt (((hF83.1 59 0 (by decide)).trans (hF10.1 59 0 (by decide))))) (eA_ti (j := 0) (((hF83.2.1 234 (by decide)).trans (hF10.2.1 234 (by decide))))) (congrArg Int32.toInt (((hF83.1 59 12 (by decide)).trans (hF10.1 59 12 (by decide))))) (eA_ti (j := 4) (((hF83.2.1 234 (by decide)).trans (hF10.2.1 234 (by decide))))) (congrArg Int32.toInt (((hF83.1 59 10 (by decide)).trans (hF10.1 59 10 (by decide))))) (eA_ti (j := 5) (((hF83.2.1 234 (by decide)).trans (hF10.2.1 234 (by decide))))) (congrArg Int32.toInt (((hF83.1 59 11 (by decide)).trans (hF10.1 59 11 (by decide))))) (eA_ti (j := 6) (((hF83.2.1 234 (by decide)).trans (hF10.2.1 234 (by decide))))) (congrArg Int32.toInt (((hF83.1 59 4 (by decide)).trans (hF10.1 59 4 (by decide))))) (eA_ti (j := 1) (((hF83.2.1 234 (by decide)).trans (hF10.2.1 234 (by decide))))) (congrArg Int32.toInt (((hF83.1 59 6 (by decide)).trans (hF10.1 59 6 (by decide))))) (eA_ti (j := 2) (((hF83.2.1 234 (by decide)).trans (hF10.2.1 234 (by decide))))) (congrArg Int32.toInt (((hF83.1 59 9 (by decide)).trans (hF10.1 59 9 (by decide))))) (eA_ti (j := 3) (((hF83.2.1 234 (by decide)).trans (hF10.2.1 234 (by decide))))), IM1.cong hR_13 (eA_ti (j := 1) (((hF83.2.1 173 (by decide)).trans (hF10.2.1 173 (by decide))))) (congrArg Int32.toInt (((hF83.1 116 0 (by decide)).trans (hF10.1 116 0 (by decide))))) (eA_ti (j := 5510) (((hF83.2.1 234 (by decide)).trans (hF10.2.1 234 (by decide))))) (congrArg Int32.toInt (((hF83.1 116 12 (by decide)).trans (hF10.1 116 12 (by decide))))) (eA_ti (j := 5514) (((hF83.2.1 234 (by decide)).trans (hF10.2.1 234 (by decide))))) (congrArg Int32.toInt (((hF83.1 116 10 (by decide)).trans (hF10.1 116 10 (by decide))))) (eA_ti (j := 5515) (((hF83.2.1 234 (by decide)).trans (hF10.2.1 234 (by decide))))) (congrArg Int32.toInt (((hF83.1 116 11 (by decide)).trans (hF10.1 116 11 (by decide))))) (eA_ti (j := 5516) (((hF83.2.1 234 (by decide)).trans (hF10.2.1 234 (by decide))))) (congrArg Int32.toInt (((hF83.1 116 4 (by decide)).trans (hF10.1 116 4 (by decide))))) (eA_ti (j := 5511) (((hF83.2.1 234 (by decide)).trans (hF10.2.1 234 (by decide))))) (congrArg Int32.toInt (((hF83.1 116 6 (by decide)).trans (hF10.1 116 6 (by decide))))) (eA_ti (j := 5512) (((hF83.2.1 234 (by decide)).trans (hF10.2.1 234 (by decide))))) (congrArg Int32.toInt (((hF83.1 116 9 (by decide)).trans (hF10.1 116 9 (by decide))))) (eA_ti (j := 5513) (((hF83.2.1 234 (by decide)).trans (hF10.2.1 234 (by decide))))), (show CT _ from ⟨fun i i0 i1 => ⟨(by have t0_ := hI0.t0; have t1_ := hI0.t1; have o := (hR_14.1 i i0 i1).1; have x := (eA_ti (j := i) (hF83.2.1 2 (by decide))).trans (q17 i i0 i1); have m := q90 (10 + 3 * i) (by omega) (by omega); have y1 := eA_ti (j := ((10 + 3 * i))) (hF10.2.1 233 (by decide)); have ek0 : (eA g8 233 0).toInt = (gI g0 1 0).toInt := (eA_ti (j := 0) (hF10.2.1 233 (by decide))).trans hR_0.symm; have eC : ((-1 ≤ v2.toInt ∧ v2.toInt ≤ 11 ∧ 1 ≤ v4.toInt ∧ v4.toInt ≤ 9 ∧ 0 ≤ v6.toInt ∧ v6.toInt ≤ 99) ∧ (eA g8 233 0).toInt < 12) = ((-1 ≤ v2.toInt ∧ v2.toInt ≤ 11 ∧ 1 ≤ v4.toInt ∧ v4.toInt ≤ 9 ∧ 0 ≤ v6.toInt ∧ v6.toInt ≤ 99) ∧ (gI g0 1 0).toInt < 12) := (by rw [ek0]); have k : ¬ ((-1 ≤ v2.toInt ∧ v2.toInt ≤ 11 ∧ 1 ≤ v4.toInt ∧ v4.toInt ≤ 9 ∧ 0 ≤ v6.toInt ∧ v6.toInt ≤ 99) ∧ (gI g0 1 0).toInt < 12) := (fun z => (show ¬ _ from pk7) z.1); have k2 : ¬ ((-1 ≤ v2.toInt ∧ v2.toInt ≤ 11 ∧ 1 ≤ v4.toInt ∧ v4.toInt ≤ 9 ∧ 0 ≤ v6.toInt ∧ v6.toInt ≤ 99) ∧ (eA g8 233 0).toInt < 12) := fun z => k (eC.mp z); rw [ite_an k] at x; rw [ite_an k2, ite_an k2, ite_an k2] at m; clear eC k2 k; omega), (by have t0_ := hI0.t0; have t1_ := hI0.t1; have o := (hR_14.1 i i0 i1).2.1; have x := (eA_ti (j := i) (hF83.2.1 3 (by decide))).trans (q18 i i0 i1); have m := q90 (10 + 3 * i + 1) (by omega) (by omega); have y1 := eA_ti (j := ((10 + 3 * i + 1))) (hF10.2.1 233 (by decide)); have ek0 : (eA g8 233 0).toInt = (gI g0 1 0).toInt := (eA_ti (j := 0) (hF10.2.1 233 (by decide))).trans hR_0.symm; have eC : ((-1 ≤ v2.toInt ∧ v2.toInt ≤ 11 ∧ 1 ≤ v4.toInt ∧ v4.toInt ≤ 9 ∧ 0 ≤ v6.toInt ∧ v6.toInt ≤ 99) ∧ (eA g8 233 0).toInt < 12) = ((-1 ≤ v2.toInt ∧ v2.toInt ≤ 11 ∧ 1 ≤ v4.toInt ∧ v4.toInt ≤ 9 ∧ 0 ≤ v6.toInt ∧ v6.toInt ≤ 99) ∧ (gI g0 1 0).toInt < 12) := (by rw [ek0]); have k : ¬ ((-1 ≤ v2.toInt ∧ v2.toInt ≤ 11 ∧ 1 ≤ v4.toInt ∧ v4.toInt ≤ 9 ∧ 0 ≤ v6.toInt ∧ v6.toInt ≤ 99) ∧ (gI g0 1 0).toInt < 12) := (fun z => (show ¬ _ from pk7) z.1); have k2 : ¬ ((-1 ≤ v2.toInt ∧ v2.toInt ≤ 11 ∧ 1 ≤ v4.toInt ∧ v4.toInt ≤ 9 ∧ 0 ≤ v6.toInt ∧ v6.toInt ≤ 99) ∧ (eA g8 233 0).toInt < 12) := fun z => k (eC.mp z); rw [ite_an k] at x; rw [ite_an k2, ite_an k2, ite_an k2] at m; clear eC k2 k; omega), (by have t0_ := hI0.t0; have t1_ := hI0.t1; have o := (hR_14.1 i i0 i1).2.2; have x := (eA_ti (j := i) (hF83.2.1 4 (by decide))).trans (q19 i i0 i1); have m := q90 (10 + 3 * i + 2) (by omega) (by omega); have y1 := eA_ti (j := ((10 + 3 * i + 2))) (hF10.2.1 233 (by decide)); have ek0 : (eA g8 233 0).toInt = (gI g0 1 0).toInt := (eA_ti (j := 0) (hF10.2.1 233 (by decide))).trans hR_0.symm; have eC : ((-1 ≤ v2.toInt ∧ v2.toInt ≤ 11 ∧ 1 ≤ v4.toInt ∧ v4.toInt ≤ 9 ∧ 0 ≤ v6.toInt ∧ v6.toInt ≤ 99) ∧ (eA g8 233 0).toInt < 12) = ((-1 ≤ v2.toInt ∧ v2.toInt ≤ 11 ∧ 1 ≤ v4.toInt ∧ v4.toInt ≤ 9 ∧ 0 ≤ v6.toInt ∧ v6.toInt ≤ 99) ∧ (gI g0 1 0).toInt < 12) := (by rw [ek0]); have k : ¬ ((-1 ≤ v2.toInt ∧ v2.toInt ≤ 11 ∧ 1 ≤ v4.toInt ∧ v4.toInt ≤ 9 ∧ 0 ≤ v6.toInt ∧ v6.toInt ≤ 99) ∧ (gI g0 1 0).toInt < 12) := (fun z => (show ¬ _ from pk7) z.1); have k2 : ¬ ((-1 ≤ v2.toInt ∧ v2.toInt ≤ 11 ∧ 1 ≤ v4.toInt ∧ v4.toInt ≤ 9 ∧ 0 ≤ v6.toInt ∧ v6.toInt ≤ 99) ∧ (eA g8 233 0).toInt < 12) := fun z => k (eC.mp z); rw [ite_an k] at x; rw [ite_an k2, ite_an k2, ite_an k2] at m; clear eC k2 k; omega)⟩, fun i i0 i1 => ⟨(by have t0_ := hI0.t0; have t1_ := hI0.t1; have o := (hR_14.2.1 i i0 i1).1; have x := eA_ti (j := i) (((hF83.2.1 14 (by decide)).trans (hF10.2.1 14 (by decide)))); have m := q90 (94 + 2 * i) (by omega) (by omega); have y1 := eA_ti (j := ((94 + 2 * i))) (hF10.2.1 233 (by decide)); have ek0 : (eA g8 233 0).toInt = (gI g0 1 0).toInt := (eA_ti (j := 0) (hF10.2.1 233 (by decide))).trans hR_0.symm; have eC : ((-1 ≤ v2.toInt ∧ v2.toInt ≤ 11 ∧ 1 ≤ v4.toInt ∧ v4.toInt ≤ 9 ∧ 0 ≤ v6.toInt ∧ v6.toInt ≤ 99) ∧ (eA g8 233 0).toInt < 12) = ((-1 ≤ v2.toInt ∧ v2.toInt ≤ 11 ∧ 1 ≤ v4.toInt ∧ v4.toInt ≤ 9 ∧ 0 ≤ v6.toInt ∧ v6.toInt ≤ 99) ∧ (gI g0 1 0).toInt < 12) := (by rw [ek0]); have k : ¬ ((-1 ≤ v2.toInt ∧ v2.toInt ≤ 11 ∧ 1 ≤ v4.toInt ∧ v4.toInt ≤ 9 ∧ 0 ≤ v6.toInt ∧ v6.toInt ≤ 99) ∧ (gI g0 1 0).toInt < 12) := (fun z => (show ¬ _ from pk7) z.1); have k2 : ¬ ((-1 ≤ v2.toInt ∧ v2.toInt ≤ 11 ∧ 1 ≤ v4.toInt ∧ v4.toInt ≤ 9 ∧ 0 ≤ v6.toInt ∧ v6.toInt ≤ 99) ∧ (eA g8 233 0).toInt < 12) := fun z => k (eC.mp z); rw [ite_an k2, ite_an k2, ite_an k2] at m; clear eC k2 k; omega), (by have t0_ := hI0.t0; have t1_ := hI0.t1; have o := (hR_14.2.1 i i0 i1).2; have x := eA_ti (j := i) (((hF83.2.1 15 (by decide)).trans (hF10.2.1 15 (by decide)))); have m := q90 (94 + 2 * i + 1) (by omega) (by omega); have y1 := eA_ti (j := ((94 + 2 * i + 1))) (hF10.2.1 233 (by decide)); have ek0 : (eA g8 233 0).toInt = (gI g0 1 0).toInt := (eA_ti (j := 0) (hF10.2.1 233 (by decide))).trans hR_0.symm; have eC : ((-1 ≤ v2.toInt ∧ v2.toInt ≤ 11 ∧ 1 ≤ v4.toInt ∧ v4.toInt ≤ 9 ∧ 0 ≤ v6.toInt ∧ v6.toInt ≤ 99) ∧ (eA g8 233 0).toInt < 12) = ((-1 ≤ v2.toInt ∧ v2.toInt ≤ 11 ∧ 1 ≤ v4.toInt ∧ v4.toInt ≤ 9 ∧ 0 ≤ v6.toInt ∧ v6.toInt ≤ 99) ∧ (gI g0 1 0).toInt < 12) := (by rw [ek0]); have k : ¬ ((-1 ≤ v2.toInt ∧ v2.toInt ≤ 11 ∧ 1 ≤ v4.toInt ∧ v4.toInt ≤ 9 ∧ 0 ≤ v6.toInt ∧ v6.toInt ≤ 99) ∧ (gI g0 1 0).toInt < 12) := (fun z => (show ¬ _ from pk7) z.1); have k2 : ¬ ((-1 ≤ v2.toInt ∧ v2.toInt ≤ 11 ∧ 1 ≤ v4.toInt ∧ v4.toInt ≤ 9 ∧ 0 ≤ v6.toInt ∧ v6.toInt ≤ 99) ∧ (eA g8 233 0).toInt < 12) := fun z => k (eC.mp z); rw [ite_an k2, ite_an k2, ite_an k2] at m; clear eC k2 k; omega)⟩, fun i i0 i1 => (by have t0_ := hI0.t0; have t1_ := hI0.t1; have o : i < 6 * (gI g0 1 4).toInt → _ := fun hz => hR_14.2.2 i i0 hz; have x := eA_ti (j := i) (((hF83.2.1 5 (by decide)).trans (hF10.2.1 5 (by decide)))); have m := q90 (46 + i) (by omega) (by omega); have y1 := eA_ti (j := ((46 + i))) (hF10.2.1 233 (by decide)); have ek0 : (eA g8 233 0).toInt = (gI g0 1 0).toInt := (eA_ti (j := 0) (hF10.2.1 233 (by decide))).trans hR_0.symm; have eC : ((-1 ≤ v2.toInt ∧ v2.toInt ≤ 11 ∧ 1 ≤ v4.toInt ∧ v4.toInt ≤ 9 ∧ 0 ≤ v6.toInt ∧ v6.toInt ≤ 99) ∧ (eA g8 233 0).toInt < 12) = ((-1 ≤ v2.toInt ∧ v2.toInt ≤ 11 ∧ 1 ≤ v4.toInt ∧ v4.toInt ≤ 9 ∧ 0 ≤ v6.toInt ∧ v6.toInt ≤ 99) ∧ (gI g0 1 0).toInt < 12) := (by rw [ek0]); have k : ¬ ((-1 ≤ v2.toInt ∧ v2.toInt ≤ 11 ∧ 1 ≤ v4.toInt ∧ v4.toInt ≤ 9 ∧ 0 ≤ v6.toInt ∧ v6.toInt ≤ 99) ∧ (gI g0 1 0).toInt < 12) := (fun z => (show ¬ _ from pk7) z.1); have k2 : ¬ ((-1 ≤ v2.toInt ∧ v2.toInt ≤ 11 ∧ 1 ≤ v4.toInt ∧ v4.toInt ≤ 9 ∧ 0 ≤ v6.toInt ∧ v6.toInt ≤ 99) ∧ (eA g8 233 0).toInt < 12) := fun z => k (eC.mp z); rw [ite_an k2, ite_an k2, ite_an k2] at m; clear eC k2 k; omega)⟩), CI0.cong hR_15 (((hF83.2.1 60 (by decide)).trans (hF10.2.1 60 (by decide)))) (((hF83.2.1 61 (by decide)).trans (hF10.2.1 61 (by decide)))) (((hF83.2.1 62 (by decide)).trans (hF10.2.1 62 (by decide)))) (((hF83.2.1 72 (by decide)).trans (hF10.2.1 72 (by decide)))) (((hF83.2.1 73 (by decide)).trans (hF10.2.1 73 (by decide)))) (((hF83.2.1 63 (by decide)).trans (hF10.2.1 63 (by decide)))) (((hF83.2.1 234 (by decide)).trans (hF10.2.1 234 (by decide)))) (congrArg Int32.toInt (((hF83.1 59 4 (by decide)).trans (hF10.1 59 4 (by decide))))), CI1.cong hR_16 (((hF83.2.1 117 (by decide)).trans (hF10.2.1 117 (by decide)))) (((hF83.2.1 118 (by decide)).trans (hF10.2.1 118 (by decide)))) (((hF83.2.1 119 (by decide)).trans (hF10.2.1 119 (by decide)))) (((hF83.2.1 129 (by decide)).trans (hF10.2.1 129 (by decide)))) (((hF83.2.1 130 (by decide)).trans (hF10.2.1 130 (by decide)))) (((hF83.2.1 120 (by decide)).trans (hF10.2.1 120 (by decide)))) (((hF83.2.1 234 (by decide)).trans (hF10.2.1 234 (by decide)))) (congrArg Int32.toInt (((hF83.1 116 4 (by decide)).trans (hF10.1 116 4 (by decide))))), (show RT _ from fun i i0 i1 => (eA_ti (((hF83.2.1 175 (by decide)).trans (hF10.2.1 175 (by decide))))).trans ((hR_17 i i0 (by omega)).trans (eA_ti (((hF83.2.1 236 (by decide)).trans (hF10.2.1 236 (by decide))))).symm)), (show BYX _ from fun i i0 i1 => by rw [TX.c (((hF83.2.1 175 (by decide)).trans (hF10.2.1 175 (by decide))))]; exact hR_18 i i0 (by have i2 : i < (gI _ 174 1).toInt := i1; show i < (gI g0 174 1).toInt; omega)), (LAWR_c hR_19 (LSA_tr (LSA_tr LSA_rf (LSA_fr hF10 rfl)) (LSA_fr hF83 rfl)) (((hF83.1 1 6 (by decide)).trans (hF10.1 1 6 (by decide)))) (((hF83.1 59 6 (by decide)).trans (hF10.1 59 6 (by decide)))) (((hF83.1 116 6 (by decide)).trans (hF10.1 116 6 (by decide)))) (((hF83.2.1 173 (by decide)).trans (hF10.2.1 173 (by decide)))) (fun i i0 i1 => (R3_stand hI9 q90 i i0 i1).trans (eA_ti (hF10.2.1 233 (by decide)))) (((hF83.2.1 234 (by decide)).trans (hF10.2.1 234 (by decide)))) (TOLDX_fr hF83 rfl rfl rfl rfl (fe14.1 hR_19.2.2.2.2))), (SETX_fr hF83 rfl rfl rfl rfl rfl (fe14.2 hR_20))⟩)
  · refine r_callV 227 rfl [.ref 0, .int v2, .int v4, .int v6] [] (Nat.le_of_ble_eq_true rfl) rfl (T_X10_stand_0 _ hI0 v2 v4 v6) ?_
    rintro _ _ ⟨g148, rfl, hI149, hF150, v151, rfl, hr152⟩
    refine At.sti ?_
    have hF153 := Fr.tr hF0 hF150 rfl rfl
    have fe154 : PH _ := hr152.2.2
    replace hr152 := And.intro hr152.1 hr152.2.1
    obtain ⟨q155, q156, q157, q158, q159⟩ := hr152
    obtain ⟨i161, i162, i163⟩ := q156
    have w160 := i162 ⟨pk7.1, pk7.2⟩
    clear i161 i162 i163
    have f164 := congrArg Int32.toInt (hF150.1 1 12 rfl)
    have f165 := congrArg Int32.toInt (hF150.1 1 10 rfl)
    have f166 := congrArg Int32.toInt (hF150.1 1 11 rfl)
    have f167 := congrArg Int32.toInt (hF150.1 1 4 rfl)
    have f168 := congrArg Int32.toInt (hF150.1 1 6 rfl)
    have f169 := congrArg Int32.toInt (hF150.1 1 9 rfl)
    have f170 := congrArg Int32.toInt (hF150.1 59 0 rfl)
    have f171 := congrArg Int32.toInt (hF150.1 59 12 rfl)
    have f172 := congrArg Int32.toInt (hF150.1 59 10 rfl)
    have f173 := congrArg Int32.toInt (hF150.1 59 11 rfl)
    have f174 := congrArg Int32.toInt (hF150.1 59 4 rfl)
    have f175 := congrArg Int32.toInt (hF150.1 59 6 rfl)
    have f176 := congrArg Int32.toInt (hF150.1 59 9 rfl)
    have f177 := congrArg Int32.toInt (hF150.1 116 0 rfl)
    have f178 := congrArg Int32.toInt (hF150.1 116 12 rfl)
    have f179 := congrArg Int32.toInt (hF150.1 116 10 rfl)
    have f180 := congrArg Int32.toInt (hF150.1 116 11 rfl)
    have f181 := congrArg Int32.toInt (hF150.1 116 4 rfl)
    have f182 := congrArg Int32.toInt (hF150.1 116 6 rfl)
    have f183 := congrArg Int32.toInt (hF150.1 116 9 rfl)
    have f184 := congrArg Int32.toInt (eA_c (j := 0) (hF150.2.1 173 rfl))
    have f185 := congrArg Int32.toInt (eA_c (j := 1) (hF150.2.1 173 rfl))
    have f186 := congrArg Int32.toInt (hF150.1 174 1 rfl)
    have f187 := congrArg Int32.toInt (hF150.1 0 16 rfl)
    have f188 := congrArg Int32.toInt (hF150.1 176 2 rfl)
    have f189 := congrArg Int32.toInt (eA_c (j := 0) (hF150.2.1 233 rfl))
    have f190 := congrArg Int32.toInt (eA_c (j := 4) (hF150.2.1 233 rfl))
    have f191 := congrArg Int32.toInt (eA_c (j := 5) (hF150.2.1 233 rfl))
    have f192 := congrArg Int32.toInt (eA_c (j := 6) (hF150.2.1 233 rfl))
    have f193 := congrArg Int32.toInt (eA_c (j := 1) (hF150.2.1 233 rfl))
    have f194 := congrArg Int32.toInt (eA_c (j := 2) (hF150.2.1 233 rfl))
    have f195 := congrArg Int32.toInt (eA_c (j := 3) (hF150.2.1 233 rfl))
    have f196 := congrArg Int32.toInt (eA_c (j := 0) (hF150.2.1 234 rfl))
    have f197 := congrArg Int32.toInt (eA_c (j := 4) (hF150.2.1 234 rfl))
    have f198 := congrArg Int32.toInt (eA_c (j := 5) (hF150.2.1 234 rfl))
    have f199 := congrArg Int32.toInt (eA_c (j := 6) (hF150.2.1 234 rfl))
    have f200 := congrArg Int32.toInt (eA_c (j := 1) (hF150.2.1 234 rfl))
    have f201 := congrArg Int32.toInt (eA_c (j := 2) (hF150.2.1 234 rfl))
    have f202 := congrArg Int32.toInt (eA_c (j := 3) (hF150.2.1 234 rfl))
    have f203 := congrArg Int32.toInt (eA_c (j := 5510) (hF150.2.1 234 rfl))
    have f204 := congrArg Int32.toInt (eA_c (j := 5514) (hF150.2.1 234 rfl))
    have f205 := congrArg Int32.toInt (eA_c (j := 5515) (hF150.2.1 234 rfl))
    have f206 := congrArg Int32.toInt (eA_c (j := 5516) (hF150.2.1 234 rfl))
    have f207 := congrArg Int32.toInt (eA_c (j := 5511) (hF150.2.1 234 rfl))
    have f208 := congrArg Int32.toInt (eA_c (j := 5512) (hF150.2.1 234 rfl))
    have f209 := congrArg Int32.toInt (eA_c (j := 5513) (hF150.2.1 234 rfl))
    have f210 := congrArg Int32.toInt (eA_c (j := 0) (hF150.2.1 235 rfl))
    have f211 := congrArg Int32.toInt (eA_c (j := 1) (hF150.2.1 235 rfl))
    have f212 := congrArg Int32.toInt (hF150.1 231 8 rfl)
    have f213 := congrArg Int32.toInt (hF150.1 231 6 rfl)
    have f214 := congrArg Int32.toInt (hF150.1 231 13 rfl)
    refine At.enter rfl ?_
    refine r_pop rfl ?_
    refine r_aload_n e2 ?_
    refine r_sload_n e0 ?_
    refine r_iload_n e3 ?_
    refine r_iconst 1 rfl ?_
    refine q_iadd (i.toInt + 1) rfl hx_1 (fun v215 hv215 => ?_)
    refine q_scald (m := L) hL (i.toInt + 1) hv215 hy_1 (fun v216 hv216 => ?_)
    have sv216 := hv2.symm.trans hv216
    subst sv216
    refine r_sload_n e0 ?_
    refine r_iload_n e3 ?_
    refine r_iconst 2 rfl ?_
    refine q_iadd (i.toInt + 2) rfl hx_2 (fun v217 hv217 => ?_)
    refine q_scald (m := L) hL (i.toInt + 2) hv217 hy_2 (fun v218 hv218 => ?_)
    have sv218 := hv4.symm.trans hv218
    subst sv218
    refine r_sload_n e0 ?_
    refine r_iload_n e3 ?_
    refine r_iconst 3 rfl ?_
    refine q_iadd (i.toInt + 3) rfl hx_3 (fun v219 hv219 => ?_)
    refine q_scald (m := L) hL (i.toInt + 3) hv219 hy_3 (fun v220 hv220 => ?_)
    have sv220 := hv6.symm.trans hv220
    subst sv220
    refine r_callV 247 rfl [.ref 231, .int v2, .int v4, .int v6] [] (Nat.le_of_ble_eq_true rfl) rfl (T_X11_stand_231 _ hI149 v2 v4 v6) ?_
    rintro _ _ ⟨g221, rfl, hI222, hF223, v224, rfl, hr225⟩
    refine At.sti ?_
    have hF226 := Fr.tr hF153 hF223 rfl rfl
    obtain ⟨q228, q229, q230⟩ := hr225
    have ek241 : (eA g148 233 0).toInt = (gI g0 1 0).toInt := (eA_ti (j := 0) (hF150.2.1 233 (by decide))).trans hR_0.symm
    have ek242 : (eA g148 233 1).toInt = (gI g0 1 4).toInt := (eA_ti (j := 1) (hF150.2.1 233 (by decide))).trans hR_4.symm
    obtain ⟨⟨i232, i233, i234⟩, sm235, sm236, sm237, sm238, sm239, sm240⟩ := q229
    have w231 := i233 ⟨pk7.1, (by rw [ek241]; exact pk7.2)⟩
    clear i232 i233 i234
    have f243 := congrArg Int32.toInt (hF223.1 1 0 rfl)
    have f244 := congrArg Int32.toInt (hF223.1 1 12 rfl)
    have f245 := congrArg Int32.toInt (hF223.1 1 10 rfl)
    have f246 := congrArg Int32.toInt (hF223.1 1 11 rfl)
    have f247 := congrArg Int32.toInt (hF223.1 1 4 rfl)
    have f248 := congrArg Int32.toInt (hF223.1 1 6 rfl)
    have f249 := congrArg Int32.toInt (hF223.1 1 9 rfl)
    have f250 := congrArg Int32.toInt (hF223.1 59 0 rfl)
    have f251 := congrArg Int32.toInt (hF223.1 59 12 rfl)
    have f252 := congrArg Int32.toInt (hF223.1 59 10 rfl)
    have f253 := congrArg Int32.toInt (hF223.1 59 11 rfl)
    have f254 := congrArg Int32.toInt (hF223.1 59 4 rfl)
    have f255 := congrArg Int32.toInt (hF223.1 59 6 rfl)
    have f256 := congrArg Int32.toInt (hF223.1 59 9 rfl)
    have f257 := congrArg Int32.toInt (hF223.1 116 0 rfl)
    have f258 := congrArg Int32.toInt (hF223.1 116 12 rfl)
    have f259 := congrArg Int32.toInt (hF223.1 116 10 rfl)
    have f260 := congrArg Int32.toInt (hF223.1 116 11 rfl)
    have f261 := congrArg Int32.toInt (hF223.1 116 4 rfl)
    have f262 := congrArg Int32.toInt (hF223.1 116 6 rfl)
    have f263 := congrArg Int32.toInt (hF223.1 116 9 rfl)
    have f264 := congrArg Int32.toInt (eA_c (j := 0) (hF223.2.1 173 rfl))
    have f265 := congrArg Int32.toInt (eA_c (j := 1) (hF223.2.1 173 rfl))
    have f266 := congrArg Int32.toInt (hF223.1 174 1 rfl)
    have f267 := congrArg Int32.toInt (hF223.1 0 16 rfl)
    have f268 := congrArg Int32.toInt (hF223.1 176 2 rfl)
    have f269 := congrArg Int32.toInt (eA_c (j := 0) (hF223.2.1 234 rfl))
    have f270 := congrArg Int32.toInt (eA_c (j := 4) (hF223.2.1 234 rfl))
    have f271 := congrArg Int32.toInt (eA_c (j := 5) (hF223.2.1 234 rfl))
    have f272 := congrArg Int32.toInt (eA_c (j := 6) (hF223.2.1 234 rfl))
    have f273 := congrArg Int32.toInt (eA_c (j := 1) (hF223.2.1 234 rfl))
    have f274 := congrArg Int32.toInt (eA_c (j := 2) (hF223.2.1 234 rfl))
    have f275 := congrArg Int32.toInt (eA_c (j := 3) (hF223.2.1 234 rfl))
    have f276 := congrArg Int32.toInt (eA_c (j := 5510) (hF223.2.1 234 rfl))
    have f277 := congrArg Int32.toInt (eA_c (j := 5514) (hF223.2.1 234 rfl))
    have f278 := congrArg Int32.toInt (eA_c (j := 5515) (hF223.2.1 234 rfl))
    have f279 := congrArg Int32.toInt (eA_c (j := 5516) (hF223.2.1 234 rfl))
    have f280 := congrArg Int32.toInt (eA_c (j := 5511) (hF223.2.1 234 rfl))
    have f281 := congrArg Int32.toInt (eA_c (j := 5512) (hF223.2.1 234 rfl))
    have f282 := congrArg Int32.toInt (eA_c (j := 5513) (hF223.2.1 234 rfl))
    have f283 := congrArg Int32.toInt (eA_c (j := 0) (hF223.2.1 235 rfl))
    have f284 := congrArg Int32.toInt (eA_c (j := 1) (hF223.2.1 235 rfl))
    have f285 := congrArg Int32.toInt (hF223.1 231 8 rfl)
    have f286 := congrArg Int32.toInt (hF223.1 231 6 rfl)
    have f287 := congrArg Int32.toInt (hF223.1 231 13 rfl)
    refine At.enter rfl ?_
    refine r_pop rfl ?_
    refine r_goto ?_
    exact K _ hI222 (show LwR _ from ⟨by omega, by omega, by omega, by omega, by omega, by omega, by omega, (eA_ti (j := 0) (((hF223.2.1 173 (by decide)).trans (hF150.2.1 173 (by decide))))).trans (hR_7.trans (eA_ti (j := 0) (((hF223.2.1 235 (by decide)).trans (hF150.2.1 235 (by decide))))).symm), (eA_ti (j := 1) (((hF223.2.1 173 (by decide)).trans (hF150.2.1 173 (by decide))))).trans (hR_8.trans (eA_ti (j := 1) (((hF223.2.1 235 (by decide)).trans (hF150.2.1 235 (by decide))))).symm), (congrArg Int32.toInt (((hF223.1 174 1 (by decide)).trans (hF150.1 174 1 (by decide))))).trans (hR_9.trans (congrArg Int32.toInt (((hF223.1 231 8 (by decide)).trans (hF150.1 231 8 (by decide))))).symm), (congrArg Int32.toInt (((hF223.1 0 16 (by decide)).trans (hF150.1 0 16 (by decide))))).trans (hR_10.trans (congrArg Int32.toInt (((hF223.1 231 6 (by decide)).trans (hF150.1 231 6 (by decide))))).symm), (congrArg Int32.toInt (((hF223.1 176 2 (by decide)).trans (hF150.1 176 2 (by decide))))).trans (hR_11.trans (congrArg Int32.toInt (((hF223.1 231 13 (by decide)).trans (hF150.1 231 13 (by decide))))).symm), IM0.cong hR_12 (eA_ti (j := 0) (((hF223.2.1 173 (by decide)).trans (hF150.2.1 173 (by decide))))) (congrArg Int32.toInt (((hF223.1 59 0 (by decide)).trans (hF150.1 59 0 (by decide))))) (eA_ti (j := 0) (((hF223.2.1 234 (by decide)).trans (hF150.2.1 234 (by decide))))) (congrArg Int32.toInt (((hF223.1 59 12 (by decide)).trans (hF150.1 59 12 (by decide))))) (eA_ti (j := 4) (((hF223.2.1 234 (by decide)).trans (hF150.2.1 234 (by decide))))) (congrArg Int32.toInt (((hF223.1 59 10 (by decide)).trans (hF150.1 59 10 (by decide))))) (eA_ti (j := 5) (((hF223.2.1 234 (by decide)).trans (hF150.2.1 234 (by decide))))) (congrArg Int32.toInt (((hF223.1 59 11 (by decide)).trans (hF150.1 59 11 (by decide))))) (eA_ti (j := 6) (((hF223.2.1 234 (by decide)).trans (hF150.2.1 234 (by decide))))) (congrArg Int32.toInt (((hF223.1 59 4 (by decide)).trans (hF150.1 59 4 (by decide))))) (eA_ti (j := 1) (((hF223.2.1 234 (by decide)).trans (hF150.2.1 234 (by decide))))) (congrArg Int32.toInt (((hF223.1 59 6 (by decide)).trans (hF150.1 59 6 (by decide))))) (eA_ti (j := 2) (((hF223.2.1 234 (by decide)).trans (hF150.2.1 234 (by decide))))) (congrArg Int32.toInt (((hF223.1 59 9 (by decide)).trans (hF150.1 59 9 (by decide))))) (eA_ti (j := 3) (((hF223.2.1 234 (by decide)).trans (hF150.2.1 234 (by decide))))), IM1.cong hR_13 (eA_ti (j := 1) (((hF223.2.1 173 (by decide)).trans (hF150.2.1 173 (by decide))))) (congrArg Int32.toInt (((hF223.1 116 0 (by decide)).trans (hF150.1 116 0 (by decide))))) (eA_ti (j := 5510) (((hF223.2.1 234 (by decide)).trans (hF150.2.1 234 (by decide))))) (congrArg Int32.toInt (((hF223.1 116 12 (by decide)).trans (hF150.1 116 12 (by decide))))) (eA_ti (j := 5514) (((hF223.2.1 234 (by decide)).trans (hF150.2.1 234 (by decide))))) (congrArg Int32.toInt (((hF223.1 116 10 (by decide)).trans (hF150.1 116 10 (by decide))))) (eA_ti (j := 5515) (((hF223.2.1 234 (by decide)).trans (hF150.2.1 234 (by decide))))) (congrArg Int32.toInt (((hF223.1 116 11 (by decide)).trans (hF150.1 116 11 (by decide))))) (eA_ti (j := 5516) (((hF223.2.1 234 (by decide)).trans (hF150.2.1 234 (by decide))))) (congrArg Int32.toInt (((hF223.1 116 4 (by decide)).trans (hF150.1 116 4 (by decide))))) (eA_ti (j := 5511) (((hF223.2.1 234 (by decide)).trans (hF150.2.1 234 (by decide))))) (congrArg Int32.toInt (((hF223.1 116 6 (by decide)).trans (hF150.1 116 6 (by decide))))) (eA_ti (j := 5512) (((hF223.2.1 234 (by decide)).trans (hF150.2.1 234 (by decide))))) (congrArg Int32.toInt (((hF223.1 116 9 (by decide)).trans (hF150.1 116 9 (by decide))))) (eA_ti (j := 5513) (((hF223.2.1 234 (by decide)).trans (hF150.2.1 234 (by decide))))), (show CT _ from ⟨fun i i0 i1 => ⟨(by have t0_ := hI0.t0; have t1_ := hI0.t1; have o := (hR_14.1 i i0 i1).1; have x := (eA_ti (j := i) (hF223.2.1 2 (by decide))).trans (q157 i i0 i1); have m := q230 (10 + 3 * i) (by omega) (by omega); have y1 := eA_ti (j := ((10 + 3 * i))) (hF150.2.1 233 (by decide)); have ek0 : (eA g148 233 0).toInt = (gI g0 1 0).toInt := (eA_ti (j := 0) (hF150.2.1 233 (by decide))).trans hR_0.symm; have eC : ((-1 ≤ v2.toInt ∧ v2.toInt ≤ 11 ∧ 1 ≤ v4.toInt ∧ v4.toInt ≤ 9 ∧ 0 ≤ v6.toInt ∧ v6.toInt ≤ 99) ∧ (eA g148 233 0).toInt < 12) = ((-1 ≤ v2.toInt ∧ v2.toInt ≤ 11 ∧ 1 ≤ v4.toInt ∧ v4.toInt ≤ 9 ∧ 0 ≤ v6.toInt ∧ v6.toInt ≤ 99) ∧ (gI g0 1 0).toInt < 12) := (by rw [ek0]); have k : ¬ ((-1 ≤ v2.toInt ∧ v2.toInt ≤ 11 ∧ 1 ≤ v4.toInt ∧ v4.toInt ≤ 9 ∧ 0 ≤ v6.toInt ∧ v6.toInt ≤ 99) ∧ (gI g0 1 0).toInt < 12) := (fun z => absurd pk7.2 (Int.not_le.mpr z.2)); have k2 : ¬ ((-1 ≤ v2.toInt ∧ v2.toInt ≤ 11 ∧ 1 ≤ v4.toInt ∧ v4.toInt ≤ 9 ∧ 0 ≤ v6.toInt ∧ v6.toInt ≤ 99) ∧ (eA g148 233 0).toInt < 12) := fun z => k (eC.mp z); rw [ite_an k] at x; rw [ite_an k2, ite_an k2, ite_an k2] at m; clear eC k2 k; omega), (by have t0_ := hI0.t0; have t1_ := hI0.t1; have o := (hR_14.1 i i0 i1).2.1; have x := (eA_ti (j := i) (hF223.2.1 3 (by decide))).trans (q158 i i0 i1); have m := q230 (10 + 3 * i + 1) (by omega) (by omega); have y1 := eA_ti (j := ((10 + 3 * i + 1))) (hF150.2.1 233 (by decide)); have ek0 : (eA g148 233 0).toInt = (gI g0 1 0).toInt := (eA_ti (j := 0) (hF150.2.1 233 (by decide))).trans hR_0.symm; have eC : ((-1 ≤ v2.toInt ∧ v2.toInt ≤ 11 ∧ 1 ≤ v4.toInt ∧ v4.toInt ≤ 9 ∧ 0 ≤ v6.toInt ∧ v6.toInt ≤ 99) ∧ (eA g148 233 0).toInt < 12) = ((-1 ≤ v2.toInt ∧ v2.toInt ≤ 11 ∧ 1 ≤ v4.toInt ∧ v4.toInt ≤ 9 ∧ 0 ≤ v6.toInt ∧ v6.toInt ≤ 99) ∧ (gI g0 1 0).toInt < 12) := (by rw [ek0]); have k : ¬ ((-1 ≤ v2.toInt ∧ v2.toInt ≤ 11 ∧ 1 ≤ v4.toInt ∧ v4.toInt ≤ 9 ∧ 0 ≤ v6.toInt ∧ v6.toInt ≤ 99) ∧ (gI g0 1 0).toInt < 12) := (fun z => absurd pk7.2 (Int.not_le.mpr z.2)); have k2 : ¬ ((-1 ≤ v2.toInt ∧ v2.toInt ≤ 11 ∧ 1 ≤ v4.toInt ∧ v4.toInt ≤ 9 ∧ 0 ≤ v6.toInt ∧ v6.toInt ≤ 99) ∧ (eA g148 233 0).toInt < 12) := fun z => k (eC.mp z); rw [ite_an k] at x; rw [ite_an k2, ite_an k2, ite_an k2] at m; clear eC k2 k; omega), (by have t0_ := hI0.t0; have t1_ := hI0.t1; have o := (hR_14.1 i i0 i1).2.2; have x := (eA_ti (j := i) (hF223.2.1 4 (by decide))).trans (q159 i i0 i1); have m := q230 (10 + 3 * i + 2) (by omega) (by omega); have y1 := eA_ti (j := ((10 + 3 * i + 2))) (hF150.2.1 233 (by decide)); have ek0 : (eA g148 233 0).toInt = (gI g0 1 0).toInt := (eA_ti (j := 0) (hF150.2.1 233 (by decide))).trans hR_0.symm; have eC : ((-1 ≤ v2.toInt ∧ v2.toInt ≤ 11 ∧ 1 ≤ v4.toInt ∧ v4.toInt ≤ 9 ∧ 0 ≤ v6.toInt ∧ v6.toInt ≤ 99) ∧ (eA g148 233 0).toInt < 12) = ((-1 ≤ v2.toInt ∧ v2.toInt ≤ 11 ∧ 1 ≤ v4.toInt ∧ v4.toInt ≤ 9 ∧ 0 ≤ v6.toInt ∧ v6.toInt ≤ 99) ∧ (gI g0 1 0).toInt < 12) := (by rw [ek0]); have k : ¬ ((-1 ≤ v2.toInt ∧ v2.toInt ≤ 11 ∧ 1 ≤ v4.toInt ∧ v4.toInt ≤ 9 ∧ 0 ≤ v6.toInt ∧ v6.toInt ≤ 99) ∧ (gI g0 1 0).toInt < 12) := (fun z => absurd pk7.2 (Int.not_le.mpr z.2)); have k2 : ¬ ((-1 ≤ v2.toInt ∧ v2.toInt ≤ 11 ∧ 1 ≤ v4.toInt ∧ v4.toInt ≤ 9 ∧ 0 ≤ v6.toInt ∧ v6.toInt ≤ 99) ∧ (eA g148 233 0).toInt < 12) := fun z => k (eC.mp z); rw [ite_an k] at x; rw [ite_an k2, ite_an k2, ite_an k2] at m; clear eC k2 k; omega)⟩, fun i i0 i1 => ⟨(by have t0_ := hI0.t0; have t1_ := hI0.t1; have o := (hR_14.2.1 i i0 i1).1; have x := eA_ti (j := i) (((hF223.2.1 14 (by decide)).trans (hF150.2.1 14 (by decide)))); have m := q230 (94 + 2 * i) (by omega) (by omega); have y1 := eA_ti (j := ((94 + 2 * i))) (hF150.2.1 233 (by decide)); have ek0 : (eA g148 233 0).toInt = (gI g0 1 0).toInt := (eA_ti (j := 0) (hF150.2.1 233 (by decide))).trans hR_0.symm; have eC : ((-1 ≤ v2.toInt ∧ v2.toInt ≤ 11 ∧ 1 ≤ v4.toInt ∧ v4.toInt ≤ 9 ∧ 0 ≤ v6.toInt ∧ v6.toInt ≤ 99) ∧ (eA g148 233 0).toInt < 12) = ((-1 ≤ v2.toInt ∧ v2.toInt ≤ 11 ∧ 1 ≤ v4.toInt ∧ v4.toInt ≤ 9 ∧ 0 ≤ v6.toInt ∧ v6.toInt ≤ 99) ∧ (gI g0 1 0).toInt < 12) := (by rw [ek0]); have k : ¬ ((-1 ≤ v2.toInt ∧ v2.toInt ≤ 11 ∧ 1 ≤ v4.toInt ∧ v4.toInt ≤ 9 ∧ 0 ≤ v6.toInt ∧ v6.toInt ≤ 99) ∧ (gI g0 1 0).toInt < 12) := (fun z => absurd pk7.2 (Int.not_le.mpr z.2)); have k2 : ¬ ((-1 ≤ v2.toInt ∧ v2.toInt ≤ 11 ∧ 1 ≤ v4.toInt ∧ v4.toInt ≤ 9 ∧ 0 ≤ v6.toInt ∧ v6.toInt ≤ 99) ∧ (eA g148 233 0).toInt < 12) := fun z => k (eC.mp z); rw [ite_an k2, ite_an k2, ite_an k2] at m; clear eC k2 k; omega), (by have t0_ := hI0.t0; have t1_ := hI0.t1; have o := (hR_14.2.1 i i0 i1).2; have x := eA_ti (j := i) (((hF223.2.1 15 (by decide)).trans (hF150.2.1 15 (by decide)))); have m := q230 (94 + 2 * i + 1) (by omega) (by omega); have y1 := eA_ti (j := ((94 + 2 * i + 1))) (hF150.2.1 233 (by decide)); have ek0 : (eA g148 233 0).toInt = (gI g0 1 0).toInt := (eA_ti (j := 0) (hF150.2.1 233 (by decide))).trans hR_0.symm; have eC : ((-1 ≤ v2.toInt ∧ v2.toInt ≤ 11 ∧ 1 ≤ v4.toInt ∧ v4.toInt ≤ 9 ∧ 0 ≤ v6.toInt ∧ v6.toInt ≤ 99) ∧ (eA g148 233 0).toInt < 12) = ((-1 ≤ v2.toInt ∧ v2.toInt ≤ 11 ∧ 1 ≤ v4.toInt ∧ v4.toInt ≤ 9 ∧ 0 ≤ v6.toInt ∧ v6.toInt ≤ 99) ∧ (gI g0 1 0).toInt < 12) := (by rw [ek0]); have k : ¬ ((-1 ≤ v2.toInt ∧ v2.toInt ≤ 11 ∧ 1 ≤ v4.toInt ∧ v4.toInt ≤ 9 ∧ 0 ≤ v6.toInt ∧ v6.toInt ≤ 99) ∧ (gI g0 1 0).toInt < 12) := (fun z => absurd pk7.2 (Int.not_le.mpr z.2)); have k2 : ¬ ((-1 ≤ v2.toInt ∧ v2.toInt ≤ 11 ∧ 1 ≤ v4.toInt ∧ v4.toInt ≤ 9 ∧ 0 ≤ v6.toInt ∧ v6.toInt ≤ 99) ∧ (eA g148 233 0).toInt < 12) := fun z => k (eC.mp z); rw [ite_an k2, ite_an k2, ite_an k2] at m; clear eC k2 k; omega)⟩, fun i i0 i1 => (by have t0_ := hI0.t0; have t1_ := hI0.t1; have o : i < 6 * (gI g0 1 4).toInt → _ := fun hz => hR_14.2.2 i i0 hz; have x := eA_ti (j := i) (((hF223.2.1 5 (by decide)).trans (hF150.2.1 5 (by decide)))); have m := q230 (46 + i) (by omega) (by omega); have y1 := eA_ti (j := ((46 + i))) (hF150.2.1 233 (by decide)); have ek0 : (eA g148 233 0).toInt = (gI g0 1 0).toInt := (eA_ti (j := 0) (hF150.2.1 233 (by decide))).trans hR_0.symm; have eC : ((-1 ≤ v2.toInt ∧ v2.toInt ≤ 11 ∧ 1 ≤ v4.toInt ∧ v4.toInt ≤ 9 ∧ 0 ≤ v6.toInt ∧ v6.toInt ≤ 99) ∧ (eA g148 233 0).toInt < 12) = ((-1 ≤ v2.toInt ∧ v2.toInt ≤ 11 ∧ 1 ≤ v4.toInt ∧ v4.toInt ≤ 9 ∧ 0 ≤ v6.toInt ∧ v6.toInt ≤ 99) ∧ (gI g0 1 0).toInt < 12) := (by rw [ek0]); have k : ¬ ((-1 ≤ v2.toInt ∧ v2.toInt ≤ 11 ∧ 1 ≤ v4.toInt ∧ v4.toInt ≤ 9 ∧ 0 ≤ v6.toInt ∧ v6.toInt ≤ 99) ∧ (gI g0 1 0).toInt < 12) := (fun z => absurd pk7.2 (Int.not_le.mpr z.2)); have k2 : ¬ ((-1 ≤ v2.toInt ∧ v2.toInt ≤ 11 ∧ 1 ≤ v4.toInt ∧ v4.toInt ≤ 9 ∧ 0 ≤ v6.toInt ∧ v6.toInt ≤ 99) ∧ (eA g148 233 0).toInt < 12) := fun z => k (eC.mp z); rw [ite_an k2, ite_an k2, ite_an k2] at m; clear eC k2 k; omega)⟩), CI0.cong hR_15 (((hF223.2.1 60 (by decide)).trans (hF150.2.1 60 (by decide)))) (((hF223.2.1 61 (by decide)).trans (hF150.2.1 61 (by decide)))) (((hF223.2.1 62 (by decide)).trans (hF150.2.1 62 (by decide)))) (((hF223.2.1 72 (by decide)).trans (hF150.2.1 72 (by decide)))) (((hF223.2.1 73 (by decide)).trans (hF150.2.1 73 (by decide)))) (((hF223.2.1 63 (by decide)).trans (hF150.2.1 63 (by decide)))) (((hF223.2.1 234 (by decide)).trans (hF150.2.1 234 (by decide)))) (congrArg Int32.toInt (((hF223.1 59 4 (by decide)).trans (hF150.1 59 4 (by decide))))), CI1.cong hR_16 (((hF223.2.1 117 (by decide)).trans (hF150.2.1 117 (by decide)))) (((hF223.2.1 118 (by decide)).trans (hF150.2.1 118 (by decide)))) (((hF223.2.1 119 (by decide)).trans (hF150.2.1 119 (by decide)))) (((hF223.2.1 129 (by decide)).trans (hF150.2.1 129 (by decide)))) (((hF223.2.1 130 (by decide)).trans (hF150.2.1 130 (by decide)))) (((hF223.2.1 120 (by decide)).trans (hF150.2.1 120 (by decide)))) (((hF223.2.1 234 (by decide)).trans (hF150.2.1 234 (by decide)))) (congrArg Int32.toInt (((hF223.1 116 4 (by decide)).trans (hF150.1 116 4 (by decide))))), (show RT _ from fun i i0 i1 => (eA_ti (((hF223.2.1 175 (by decide)).trans (hF150.2.1 175 (by decide))))).trans ((hR_17 i i0 (by omega)).trans (eA_ti (((hF223.2.1 236 (by decide)).trans (hF150.2.1 236 (by decide))))).symm)), (show BYX _ from fun i i0 i1 => by rw [TX.c (((hF223.2.1 175 (by decide)).trans (hF150.2.1 175 (by decide))))]; exact hR_18 i i0 (by have i2 : i < (gI _ 174 1).toInt := i1; show i < (gI g0 174 1).toInt; omega)), (LAWR_c hR_19 (LSA_tr (LSA_tr LSA_rf (LSA_fr hF150 rfl)) (LSA_fr hF223 rfl)) (((hF223.1 1 6 (by decide)).trans (hF150.1 1 6 (by decide)))) (((hF223.1 59 6 (by decide)).trans (hF150.1 59 6 (by decide)))) (((hF223.1 116 6 (by decide)).trans (hF150.1 116 6 (by decide)))) (((hF223.2.1 173 (by decide)).trans (hF150.2.1 173 (by decide)))) (fun i i0 i1 => (R3_stand hI149 q230 i i0 i1).trans (eA_ti (hF150.2.1 233 (by decide)))) (((hF223.2.1 234 (by decide)).trans (hF150.2.1 234 (by decide)))) (TOLDX_fr hF223 rfl rfl rfl rfl (fe154.1 hR_19.2.2.2.2))), (SETX_fr hF223 rfl rfl rfl rfl rfl (fe154.2 hR_20))⟩)
  · refine r_callV 227 rfl [.ref 0, .int v2, .int v4, .int v6] [] (Nat.le_of_ble_eq_true rfl) rfl (T_X10_stand_0 _ hI0 v2 v4 v6) ?_
    rintro _ _ ⟨g288, rfl, hI289, hF290, v291, rfl, hr292⟩
    refine At.sti ?_
    have hF293 := Fr.tr hF0 hF290 rfl rfl
    have fe294 : PH _ := hr292.2.2
    replace hr292 := And.intro hr292.1 hr292.2.1
    obtain ⟨q295, q296, q297, q298, q299⟩ := hr292
    obtain ⟨i301, i302, i303⟩ := q296
    have w300 := i303 ⟨pk7.1, Int.not_le.mp pk7.2⟩
    clear i301 i302 i303
    have f304 := congrArg Int32.toInt (hF290.1 1 12 rfl)
    have f305 := congrArg Int32.toInt (hF290.1 1 10 rfl)
    have f306 := congrArg Int32.toInt (hF290.1 1 11 rfl)
    have f307 := congrArg Int32.toInt (hF290.1 1 4 rfl)
    have f308 := congrArg Int32.toInt (hF290.1 1 6 rfl)
    have f309 := congrArg Int32.toInt (hF290.1 1 9 rfl)
    have f310 := congrArg Int32.toInt (hF290.1 59 0 rfl)
    have f311 := congrArg Int32.toInt (hF290.1 59 12 rfl)
    have f312 := congrArg Int32.toInt (hF290.1 59 10 rfl)
    have f313 := congrArg Int32.toInt (hF290.1 59 11 rfl)
    have f314 := congrArg Int32.toInt (hF290.1 59 4 rfl)
    have f315 := congrArg Int32.toInt (hF290.1 59 6 rfl)
    have f316 := congrArg Int32.toInt (hF290.1 59 9 rfl)
    have f317 := congrArg Int32.toInt (hF290.1 116 0 rfl)
    have f318 := congrArg Int32.toInt (hF290.1 116 12 rfl)
    have f319 := congrArg Int32.toInt (hF290.1 116 10 rfl)
    have f320 := congrArg Int32.toInt (hF290.1 116 11 rfl)
    have f321 := congrArg Int32.toInt (hF290.1 116 4 rfl)
    have f322 := congrArg Int32.toInt (hF290.1 116 6 rfl)
    have f323 := congrArg Int32.toInt (hF290.1 116 9 rfl)
    have f324 := congrArg Int32.toInt (eA_c (j := 0) (hF290.2.1 173 rfl))
    have f325 := congrArg Int32.toInt (eA_c (j := 1) (hF290.2.1 173 rfl))
    have f326 := congrArg Int32.toInt (hF290.1 174 1 rfl)
    have f327 := congrArg Int32.toInt (hF290.1 0 16 rfl)
    have f328 := congrArg Int32.toInt (hF290.1 176 2 rfl)
    have f329 := congrArg Int32.toInt (eA_c (j := 0) (hF290.2.1 233 rfl))
    have f330 := congrArg Int32.toInt (eA_c (j := 4) (hF290.2.1 233 rfl))
    have f331 := congrArg Int32.toInt (eA_c (j := 5) (hF290.2.1 233 rfl))
    have f332 := congrArg Int32.toInt (eA_c (j := 6) (hF290.2.1 233 rfl))
    have f333 := congrArg Int32.toInt (eA_c (j := 1) (hF290.2.1 233 rfl))
    have f334 := congrArg Int32.toInt (eA_c (j := 2) (hF290.2.1 233 rfl))
    have f335 := congrArg Int32.toInt (eA_c (j := 3) (hF290.2.1 233 rfl))
    have f336 := congrArg Int32.toInt (eA_c (j := 0) (hF290.2.1 234 rfl))
    have f337 := congrArg Int32.toInt (eA_c (j := 4) (hF290.2.1 234 rfl))
    have f338 := congrArg Int32.toInt (eA_c (j := 5) (hF290.2.1 234 rfl))
    have f339 := congrArg Int32.toInt (eA_c (j := 6) (hF290.2.1 234 rfl))
    have f340 := congrArg Int32.toInt (eA_c (j := 1) (hF290.2.1 234 rfl))
    have f341 := congrArg Int32.toInt (eA_c (j := 2) (hF290.2.1 234 rfl))
    have f342 := congrArg Int32.toInt (eA_c (j := 3) (hF290.2.1 234 rfl))
    have f343 := congrArg Int32.toInt (eA_c (j := 5510) (hF290.2.1 234 rfl))
    have f344 := congrArg Int32.toInt (eA_c (j := 5514) (hF290.2.1 234 rfl))
    have f345 := congrArg Int32.toInt (eA_c (j := 5515) (hF290.2.1 234 rfl))
    have f346 := congrArg Int32.toInt (eA_c (j := 5516) (hF290.2.1 234 rfl))
    have f347 := congrArg Int32.toInt (eA_c (j := 5511) (hF290.2.1 234 rfl))
    have f348 := congrArg Int32.toInt (eA_c (j := 5512) (hF290.2.1 234 rfl))
    have f349 := congrArg Int32.toInt (eA_c (j := 5513) (hF290.2.1 234 rfl))
    have f350 := congrArg Int32.toInt (eA_c (j := 0) (hF290.2.1 235 rfl))
    have f351 := congrArg Int32.toInt (eA_c (j := 1) (hF290.2.1 235 rfl))
    have f352 := congrArg Int32.toInt (hF290.1 231 8 rfl)
    have f353 := congrArg Int32.toInt (hF290.1 231 6 rfl)
    have f354 := congrArg Int32.toInt (hF290.1 231 13 rfl)
    refine At.enter rfl ?_
    refine r_pop rfl ?_
    refine r_aload_n e2 ?_
    refine r_sload_n e0 ?_
    refine r_iload_n e3 ?_
    refine r_iconst 1 rfl ?_
    refine q_iadd (i.toInt + 1) rfl hx_1 (fun v355 hv355 => ?_)
    refine q_scald (m := L) hL (i.toInt + 1) hv355 hy_1 (fun v356 hv356 => ?_)
    have sv356 := hv2.symm.trans hv356
    subst sv356
    refine r_sload_n e0 ?_
    refine r_iload_n e3 ?_
    refine r_iconst 2 rfl ?_
    refine q_iadd (i.toInt + 2) rfl hx_2 (fun v357 hv357 => ?_)
    refine q_scald (m := L) hL (i.toInt + 2) hv357 hy_2 (fun v358 hv358 => ?_)
    have sv358 := hv4.symm.trans hv358
    subst sv358
    refine r_sload_n e0 ?_
    refine r_iload_n e3 ?_
    refine r_iconst 3 rfl ?_
    refine q_iadd (i.toInt + 3) rfl hx_3 (fun v359 hv359 => ?_)
    refine q_scald (m := L) hL (i.toInt + 3) hv359 hy_3 (fun v360 hv360 => ?_)
    have sv360 := hv6.symm.trans hv360
    subst sv360
    refine r_callV 247 rfl [.ref 231, .int v2, .int v4, .int v6] [] (Nat.le_of_ble_eq_true rfl) rfl (T_X11_stand_231 _ hI289 v2 v4 v6) ?_
    rintro _ _ ⟨g361, rfl, hI362, hF363, v364, rfl, hr365⟩
    refine At.sti ?_
    have hF366 := Fr.tr hF293 hF363 rfl rfl
    obtain ⟨q368, q369, q370⟩ := hr365
    have ek381 : (eA g288 233 0).toInt = (gI g0 1 0).toInt := (eA_ti (j := 0) (hF290.2.1 233 (by decide))).trans hR_0.symm
    have ek382 : (eA g288 233 1).toInt = (gI g0 1 4).toInt := (eA_ti (j := 1) (hF290.2.1 233 (by decide))).trans hR_4.symm
    obtain ⟨⟨i372, i373, i374⟩, sm375, sm376, sm377, sm378, sm379, sm380⟩ := q369
    have w371 := i374 ⟨pk7.1, Int.not_le.mp (by rw [ek381]; exact pk7.2)⟩
    clear i372 i373 i374
    have f383 := congrArg Int32.toInt (hF363.1 1 0 rfl)
    have f384 := congrArg Int32.toInt (hF363.1 1 12 rfl)
    have f385 := congrArg Int32.toInt (hF363.1 1 10 rfl)
    have f386 := congrArg Int32.toInt (hF363.1 1 11 rfl)
    have f387 := congrArg Int32.toInt (hF363.1 1 4 rfl)
    have f388 := congrArg Int32.toInt (hF363.1 1 6 rfl)
    have f389 := congrArg Int32.toInt (hF363.1 1 9 rfl)
    have f390 := congrArg Int32.toInt (hF363.1 59 0 rfl)
    have f391 := congrArg Int32.toInt (hF363.1 59 12 rfl)
    have f392 := congrArg Int32.toInt (hF363.1 59 10 rfl)
    have f393 := congrArg Int32.toInt (hF363.1 59 11 rfl)
    have f394 := congrArg Int32.toInt (hF363.1 59 4 rfl)
    have f395 := congrArg Int32.toInt (hF363.1 59 6 rfl)
    have f396 := congrArg Int32.toInt (hF363.1 59 9 rfl)
    have f397 := congrArg Int32.toInt (hF363.1 116 0 rfl)
    have f398 := congrArg Int32.toInt (hF363.1 116 12 rfl)
    have f399 := congrArg Int32.toInt (hF363.1 116 10 rfl)
    have f400 := congrArg Int32.toInt (hF363.1 116 11 rfl)
    have f401 := congrArg Int32.toInt (hF363.1 116 4 rfl)
    have f402 := congrArg Int32.toInt (hF363.1 116 6 rfl)
    have f403 := congrArg Int32.toInt (hF363.1 116 9 rfl)
    have f404 := congrArg Int32.toInt (eA_c (j := 0) (hF363.2.1 173 rfl))
    have f405 := congrArg Int32.toInt (eA_c (j := 1) (hF363.2.1 173 rfl))
    have f406 := congrArg Int32.toInt (hF363.1 174 1 rfl)
    have f407 := congrArg Int32.toInt (hF363.1 0 16 rfl)
    have f408 := congrArg Int32.toInt (hF363.1 176 2 rfl)
    have f409 := congrArg Int32.toInt (eA_c (j := 0) (hF363.2.1 234 rfl))
    have f410 := congrArg Int32.toInt (eA_c (j := 4) (hF363.2.1 234 rfl))
    have f411 := congrArg Int32.toInt (eA_c (j := 5) (hF363.2.1 234 rfl))
    have f412 := congrArg Int32.toInt (eA_c (j := 6) (hF363.2.1 234 rfl))
    have f413 := congrArg Int32.toInt (eA_c (j := 1) (hF363.2.1 234 rfl))
    have f414 := congrArg Int32.toInt (eA_c (j := 2) (hF363.2.1 234 rfl))
    have f415 := congrArg Int32.toInt (eA_c (j := 3) (hF363.2.1 234 rfl))
    have f416 := congrArg Int32.toInt (eA_c (j := 5510) (hF363.2.1 234 rfl))
    have f417 := congrArg Int32.toInt (eA_c (j := 5514) (hF363.2.1 234 rfl))
    have f418 := congrArg Int32.toInt (eA_c (j := 5515) (hF363.2.1 234 rfl))
    have f419 := congrArg Int32.toInt (eA_c (j := 5516) (hF363.2.1 234 rfl))
    have f420 := congrArg Int32.toInt (eA_c (j := 5511) (hF363.2.1 234 rfl))
    have f421 := congrArg Int32.toInt (eA_c (j := 5512) (hF363.2.1 234 rfl))
    have f422 := congrArg Int32.toInt (eA_c (j := 5513) (hF363.2.1 234 rfl))
    have f423 := congrArg Int32.toInt (eA_c (j := 0) (hF363.2.1 235 rfl))
    have f424 := congrArg Int32.toInt (eA_c (j := 1) (hF363.2.1 235 rfl))
    have f425 := congrArg Int32.toInt (hF363.1 231 8 rfl)
    have f426 := congrArg Int32.toInt (hF363.1 231 6 rfl)
    have f427 := congrArg Int32.toInt (hF363.1 231 13 rfl)
    refine At.enter rfl ?_
    refine r_pop rfl ?_
    refine r_goto ?_
    exact K _ hI362 (show LwR _ from ⟨by omega, by omega, by omega, by omega, by omega, by omega, by omega, (eA_ti (j := 0) (((hF363.2.1 173 (by decide)).trans (hF290.2.1 173 (by decide))))).trans (hR_7.trans (eA_ti (j := 0) (((hF363.2.1 235 (by decide)).trans (hF290.2.1 235 (by decide))))).symm), (eA_ti (j := 1) (((hF363.2.1 173 (by decide)).trans (hF290.2.1 173 (by decide))))).trans (hR_8.trans (eA_ti (j := 1) (((hF363.2.1 235 (by decide)).trans (hF290.2.1 235 (by decide))))).symm), (congrArg Int32.toInt (((hF363.1 174 1 (by decide)).trans (hF290.1 174 1 (by decide))))).trans (hR_9.trans (congrArg Int32.toInt (((hF363.1 231 8 (by decide)).trans (hF290.1 231 8 (by decide))))).symm), (congrArg Int32.toInt (((hF363.1 0 16 (by decide)).trans (hF290.1 0 16 (by decide))))).trans (hR_10.trans (congrArg Int32.toInt (((hF363.1 231 6 (by decide)).trans (hF290.1 231 6 (by decide))))).symm), (congrArg Int32.toInt (((hF363.1 176 2 (by decide)).trans (hF290.1 176 2 (by decide))))).trans (hR_11.trans (congrArg Int32.toInt (((hF363.1 231 13 (by decide)).trans (hF290.1 231 13 (by decide))))).symm), IM0.cong hR_12 (eA_ti (j := 0) (((hF363.2.1 173 (by decide)).trans (hF290.2.1 173 (by decide))))) (congrArg Int32.toInt (((hF363.1 59 0 (by decide)).trans (hF290.1 59 0 (by decide))))) (eA_ti (j := 0) (((hF363.2.1 234 (by decide)).trans (hF290.2.1 234 (by decide))))) (congrArg Int32.toInt (((hF363.1 59 12 (by decide)).trans (hF290.1 59 12 (by decide))))) (eA_ti (j := 4) (((hF363.2.1 234 (by decide)).trans (hF290.2.1 234 (by decide))))) (congrArg Int32.toInt (((hF363.1 59 10 (by decide)).trans (hF290.1 59 10 (by decide))))) (eA_ti (j := 5) (((hF363.2.1 234 (by decide)).trans (hF290.2.1 234 (by decide))))) (congrArg Int32.toInt (((hF363.1 59 11 (by decide)).trans (hF290.1 59 11 (by decide))))) (eA_ti (j := 6) (((hF363.2.1 234 (by decide)).trans (hF290.2.1 234 (by decide))))) (congrArg Int32.toInt (((hF363.1 59 4 (by decide)).trans (hF290.1 59 4 (by decide))))) (eA_ti (j := 1) (((hF363.2.1 234 (by decide)).trans (hF290.2.1 234 (by decide))))) (congrArg Int32.toInt (((hF363.1 59 6 (by decide)).trans (hF290.1 59 6 (by decide))))) (eA_ti (j := 2) (((hF363.2.1 234 (by decide)).trans (hF290.2.1 234 (by decide))))) (congrArg Int32.toInt (((hF363.1 59 9 (by decide)).trans (hF290.1 59 9 (by decide))))) (eA_ti (j := 3) (((hF363.2.1 234 (by decide)).trans (hF290.2.1 234 (by decide))))), IM1.cong hR_13 (eA_ti (j := 1) (((hF363.2.1 173 (by decide)).trans (hF290.2.1 173 (by decide))))) (congrArg Int32.toInt (((hF363.1 116 0 (by decide)).trans (hF290.1 116 0 (by decide))))) (eA_ti (j := 5510) (((hF363.2.1 234 (by decide)).trans (hF290.2.1 234 (by decide))))) (congrArg Int32.toInt (((hF363.1 116 12 (by decide)).trans (hF290.1 116 12 (by decide))))) (eA_ti (j := 5514) (((hF363.2.1 234 (by decide)).trans (hF290.2.1 234 (by decide))))) (congrArg Int32.toInt (((hF363.1 116 10 (by decide)).trans (hF290.1 116 10 (by decide))))) (eA_ti (j := 5515) (((hF363.2.1 234 (by decide)).trans (hF290.2.1 234 (by decide))))) (congrArg Int32.toInt (((hF363.1 116 11 (by decide)).trans (hF290.1 116 11 (by decide))))) (eA_ti (j := 5516) (((hF363.2.1 234 (by decide)).trans (hF290.2.1 234 (by decide))))) (congrArg Int32.toInt (((hF363.1 116 4 (by decide)).trans (hF290.1 116 4 (by decide))))) (eA_ti (j := 5511) (((hF363.2.1 234 (by decide)).trans (hF290.2.1 234 (by decide))))) (congrArg Int32.toInt (((hF363.1 116 6 (by decide)).trans (hF290.1 116 6 (by decide))))) (eA_ti (j := 5512) (((hF363.2.1 234 (by decide)).trans (hF290.2.1 234 (by decide))))) (congrArg Int32.toInt (((hF363.1 116 9 (by decide)).trans (hF290.1 116 9 (by decide))))) (eA_ti (j := 5513) (((hF363.2.1 234 (by decide)).trans (hF290.2.1 234 (by decide))))), (show CT _ from ⟨fun i i0 i1 => ⟨(by have t0_ := hI0.t0; have t1_ := hI0.t1; have o := (hR_14.1 i i0 i1).1; have x := (eA_ti (j := i) (hF363.2.1 2 (by decide))).trans (q297 i i0 i1); have m := q370 (10 + 3 * i) (by omega) (by omega); have y1 := eA_ti (j := ((10 + 3 * i))) (hF290.2.1 233 (by decide)); have ek0 : (eA g288 233 0).toInt = (gI g0 1 0).toInt := (eA_ti (j := 0) (hF290.2.1 233 (by decide))).trans hR_0.symm; have eC : ((-1 ≤ v2.toInt ∧ v2.toInt ≤ 11 ∧ 1 ≤ v4.toInt ∧ v4.toInt ≤ 9 ∧ 0 ≤ v6.toInt ∧ v6.toInt ≤ 99) ∧ (eA g288 233 0).toInt < 12) = ((-1 ≤ v2.toInt ∧ v2.toInt ≤ 11 ∧ 1 ≤ v4.toInt ∧ v4.toInt ≤ 9 ∧ 0 ≤ v6.toInt ∧ v6.toInt ≤ 99) ∧ (gI g0 1 0).toInt < 12) := (by rw [ek0]); have k : (-1 ≤ v2.toInt ∧ v2.toInt ≤ 11 ∧ 1 ≤ v4.toInt ∧ v4.toInt ≤ 9 ∧ 0 ≤ v6.toInt ∧ v6.toInt ≤ 99) ∧ (gI g0 1 0).toInt < 12 := ⟨pk7.1, Int.not_le.mp pk7.2⟩; have k2 := eC.mpr k; rw [ite_ap k] at x; rw [ite_ap k2, ite_ap k2, ite_ap k2] at m; clear eC k2; (try split at x) <;> (try split at m) <;> (try split at m) <;> (try split at m) <;> omega), (by have t0_ := hI0.t0; have t1_ := hI0.t1; have o := (hR_14.1 i i0 i1).2.1; have x := (eA_ti (j := i) (hF363.2.1 3 (by decide))).trans (q298 i i0 i1); have m := q370 (10 + 3 * i + 1) (by omega) (by omega); have y1 := eA_ti (j := ((10 + 3 * i + 1))) (hF290.2.1 233 (by decide)); have ek0 : (eA g288 233 0).toInt = (gI g0 1 0).toInt := (eA_ti (j := 0) (hF290.2.1 233 (by decide))).trans hR_0.symm; have eC : ((-1 ≤ v2.toInt ∧ v2.toInt ≤ 11 ∧ 1 ≤ v4.toInt ∧ v4.toInt ≤ 9 ∧ 0 ≤ v6.toInt ∧ v6.toInt ≤ 99) ∧ (eA g288 233 0).toInt < 12) = ((-1 ≤ v2.toInt ∧ v2.toInt ≤ 11 ∧ 1 ≤ v4.toInt ∧ v4.toInt ≤ 9 ∧ 0 ≤ v6.toInt ∧ v6.toInt ≤ 99) ∧ (gI g0 1 0).toInt < 12) := (by rw [ek0]); have k : (-1 ≤ v2.toInt ∧ v2.toInt ≤ 11 ∧ 1 ≤ v4.toInt ∧ v4.toInt ≤ 9 ∧ 0 ≤ v6.toInt ∧ v6.toInt ≤ 99) ∧ (gI g0 1 0).toInt < 12 := ⟨pk7.1, Int.not_le.mp pk7.2⟩; have k2 := eC.mpr k; rw [ite_ap k] at x; rw [ite_ap k2, ite_ap k2, ite_ap k2] at m; clear eC k2; (try split at x) <;> (try split at m) <;> (try split at m) <;> (try split at m) <;> omega), (by have t0_ := hI0.t0; have t1_ := hI0.t1; have o := (hR_14.1 i i0 i1).2.2; have x := (eA_ti (j := i) (hF363.2.1 4 (by decide))).trans (q299 i i0 i1); have m := q370 (10 + 3 * i + 2) (by omega) (by omega); have y1 := eA_ti (j := ((10 + 3 * i + 2))) (hF290.2.1 233 (by decide)); have ek0 : (eA g288 233 0).toInt = (gI g0 1 0).toInt := (eA_ti (j := 0) (hF290.2.1 233 (by decide))).trans hR_0.symm; have eC : ((-1 ≤ v2.toInt ∧ v2.toInt ≤ 11 ∧ 1 ≤ v4.toInt ∧ v4.toInt ≤ 9 ∧ 0 ≤ v6.toInt ∧ v6.toInt ≤ 99) ∧ (eA g288 233 0).toInt < 12) = ((-1 ≤ v2.toInt ∧ v2.toInt ≤ 11 ∧ 1 ≤ v4.toInt ∧ v4.toInt ≤ 9 ∧ 0 ≤ v6.toInt ∧ v6.toInt ≤ 99) ∧ (gI g0 1 0).toInt < 12) := (by rw [ek0]); have k : (-1 ≤ v2.toInt ∧ v2.toInt ≤ 11 ∧ 1 ≤ v4.toInt ∧ v4.toInt ≤ 9 ∧ 0 ≤ v6.toInt ∧ v6.toInt ≤ 99) ∧ (gI g0 1 0).toInt < 12 := ⟨pk7.1, Int.not_le.mp pk7.2⟩; have k2 := eC.mpr k; rw [ite_ap k] at x; rw [ite_ap k2, ite_ap k2, ite_ap k2] at m; clear eC k2; (try split at x) <;> (try split at m) <;> (try split at m) <;> (try split at m) <;> omega)⟩, fun i i0 i1 => ⟨(by have t0_ := hI0.t0; have t1_ := hI0.t1; have o := (hR_14.2.1 i i0 i1).1; have x := eA_ti (j := i) (((hF363.2.1 14 (by decide)).trans (hF290.2.1 14 (by decide)))); have m := q370 (94 + 2 * i) (by omega) (by omega); have y1 := eA_ti (j := ((94 + 2 * i))) (hF290.2.1 233 (by decide)); have ek0 : (eA g288 233 0).toInt = (gI g0 1 0).toInt := (eA_ti (j := 0) (hF290.2.1 233 (by decide))).trans hR_0.symm; have eC : ((-1 ≤ v2.toInt ∧ v2.toInt ≤ 11 ∧ 1 ≤ v4.toInt ∧ v4.toInt ≤ 9 ∧ 0 ≤ v6.toInt ∧ v6.toInt ≤ 99) ∧ (eA g288 233 0).toInt < 12) = ((-1 ≤ v2.toInt ∧ v2.toInt ≤ 11 ∧ 1 ≤ v4.toInt ∧ v4.toInt ≤ 9 ∧ 0 ≤ v6.toInt ∧ v6.toInt ≤ 99) ∧ (gI g0 1 0).toInt < 12) := (by rw [ek0]); have k : (-1 ≤ v2.toInt ∧ v2.toInt ≤ 11 ∧ 1 ≤ v4.toInt ∧ v4.toInt ≤ 9 ∧ 0 ≤ v6.toInt ∧ v6.toInt ≤ 99) ∧ (gI g0 1 0).toInt < 12 := ⟨pk7.1, Int.not_le.mp pk7.2⟩; have k2 := eC.mpr k; rw [ite_ap k2, ite_ap k2, ite_ap k2] at m; clear eC k2; (try split at m) <;> (try split at m) <;> (try split at m) <;> omega), (by have t0_ := hI0.t0; have t1_ := hI0.t1; have o := (hR_14.2.1 i i0 i1).2; have x := eA_ti (j := i) (((hF363.2.1 15 (by decide)).trans (hF290.2.1 15 (by decide)))); have m := q370 (94 + 2 * i + 1) (by omega) (by omega); have y1 := eA_ti (j := ((94 + 2 * i + 1))) (hF290.2.1 233 (by decide)); have ek0 : (eA g288 233 0).toInt = (gI g0 1 0).toInt := (eA_ti (j := 0) (hF290.2.1 233 (by decide))).trans hR_0.symm; have eC : ((-1 ≤ v2.toInt ∧ v2.toInt ≤ 11 ∧ 1 ≤ v4.toInt ∧ v4.toInt ≤ 9 ∧ 0 ≤ v6.toInt ∧ v6.toInt ≤ 99) ∧ (eA g288 233 0).toInt < 12) = ((-1 ≤ v2.toInt ∧ v2.toInt ≤ 11 ∧ 1 ≤ v4.toInt ∧ v4.toInt ≤ 9 ∧ 0 ≤ v6.toInt ∧ v6.toInt ≤ 99) ∧ (gI g0 1 0).toInt < 12) := (by rw [ek0]); have k : (-1 ≤ v2.toInt ∧ v2.toInt ≤ 11 ∧ 1 ≤ v4.toInt ∧ v4.toInt ≤ 9 ∧ 0 ≤ v6.toInt ∧ v6.toInt ≤ 99) ∧ (gI g0 1 0).toInt < 12 := ⟨pk7.1, Int.not_le.mp pk7.2⟩; have k2 := eC.mpr k; rw [ite_ap k2, ite_ap k2, ite_ap k2] at m; clear eC k2; (try split at m) <;> (try split at m) <;> (try split at m) <;> omega)⟩, fun i i0 i1 => (by have t0_ := hI0.t0; have t1_ := hI0.t1; have o : i < 6 * (gI g0 1 4).toInt → _ := fun hz => hR_14.2.2 i i0 hz; have x := eA_ti (j := i) (((hF363.2.1 5 (by decide)).trans (hF290.2.1 5 (by decide)))); have m := q370 (46 + i) (by omega) (by omega); have y1 := eA_ti (j := ((46 + i))) (hF290.2.1 233 (by decide)); have ek0 : (eA g288 233 0).toInt = (gI g0 1 0).toInt := (eA_ti (j := 0) (hF290.2.1 233 (by decide))).trans hR_0.symm; have eC : ((-1 ≤ v2.toInt ∧ v2.toInt ≤ 11 ∧ 1 ≤ v4.toInt ∧ v4.toInt ≤ 9 ∧ 0 ≤ v6.toInt ∧ v6.toInt ≤ 99) ∧ (eA g288 233 0).toInt < 12) = ((-1 ≤ v2.toInt ∧ v2.toInt ≤ 11 ∧ 1 ≤ v4.toInt ∧ v4.toInt ≤ 9 ∧ 0 ≤ v6.toInt ∧ v6.toInt ≤ 99) ∧ (gI g0 1 0).toInt < 12) := (by rw [ek0]); have k : (-1 ≤ v2.toInt ∧ v2.toInt ≤ 11 ∧ 1 ≤ v4.toInt ∧ v4.toInt ≤ 9 ∧ 0 ≤ v6.toInt ∧ v6.toInt ≤ 99) ∧ (gI g0 1 0).toInt < 12 := ⟨pk7.1, Int.not_le.mp pk7.2⟩; have k2 := eC.mpr k; rw [ite_ap k2, ite_ap k2, ite_ap k2] at m; clear eC k2; (try split at m) <;> (try split at m) <;> (try split at m) <;> omega)⟩), CI0.cong hR_15 (((hF363.2.1 60 (by decide)).trans (hF290.2.1 60 (by decide)))) (((hF363.2.1 61 (by decide)).trans (hF290.2.1 61 (by decide)))) (((hF363.2.1 62 (by decide)).trans (hF290.2.1 62 (by decide)))) (((hF363.2.1 72 (by decide)).trans (hF290.2.1 72 (by decide)))) (((hF363.2.1 73 (by decide)).trans (hF290.2.1 73 (by decide)))) (((hF363.2.1 63 (by decide)).trans (hF290.2.1 63 (by decide)))) (((hF363.2.1 234 (by decide)).trans (hF290.2.1 234 (by decide)))) (congrArg Int32.toInt (((hF363.1 59 4 (by decide)).trans (hF290.1 59 4 (by decide))))), CI1.cong hR_16 (((hF363.2.1 117 (by decide)).trans (hF290.2.1 117 (by decide)))) (((hF363.2.1 118 (by decide)).trans (hF290.2.1 118 (by decide)))) (((hF363.2.1 119 (by decide)).trans (hF290.2.1 119 (by decide)))) (((hF363.2.1 129 (by decide)).trans (hF290.2.1 129 (by decide)))) (((hF363.2.1 130 (by decide)).trans (hF290.2.1 130 (by decide)))) (((hF363.2.1 120 (by decide)).trans (hF290.2.1 120 (by decide)))) (((hF363.2.1 234 (by decide)).trans (hF290.2.1 234 (by decide)))) (congrArg Int32.toInt (((hF363.1 116 4 (by decide)).trans (hF290.1 116 4 (by decide))))), (show RT _ from fun i i0 i1 => (eA_ti (((hF363.2.1 175 (by decide)).trans (hF290.2.1 175 (by decide))))).trans ((hR_17 i i0 (by omega)).trans (eA_ti (((hF363.2.1 236 (by decide)).trans (hF290.2.1 236 (by decide))))).symm)), (show BYX _ from fun i i0 i1 => by rw [TX.c (((hF363.2.1 175 (by decide)).trans (hF290.2.1 175 (by decide))))]; exact hR_18 i i0 (by have i2 : i < (gI _ 174 1).toInt := i1; show i < (gI g0 174 1).toInt; omega)), (LAWR_c hR_19 (LSA_tr (LSA_tr LSA_rf (LSA_fr hF290 rfl)) (LSA_fr hF363 rfl)) (((hF363.1 1 6 (by decide)).trans (hF290.1 1 6 (by decide)))) (((hF363.1 59 6 (by decide)).trans (hF290.1 59 6 (by decide)))) (((hF363.1 116 6 (by decide)).trans (hF290.1 116 6 (by decide)))) (((hF363.2.1 173 (by decide)).trans (hF290.2.1 173 (by decide)))) (fun i i0 i1 => (R3_stand hI289 q370 i i0 i1).trans (eA_ti (hF290.2.1 233 (by decide)))) (((hF363.2.1 234 (by decide)).trans (hF290.2.1 234 (by decide)))) (TOLDX_fr hF363 rfl rfl rfl rfl (fe294.1 hR_19.2.2.2.2))), (SETX_fr hF363 rfl rfl rfl rfl rfl (fe294.2 hR_20))⟩)
