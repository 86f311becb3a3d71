def F_law : List (Nat × Nat) := [(0, 14), (0, 15), (0, 16), (0, 17), (1, 0), (1, 4), (1, 6), (1, 9), (1, 10), (1, 11), (1, 12), (7, 0), (7, 3), (7, 4), (16, 0), (16, 3), (16, 4), (23, 0), (23, 3), (23, 4), (30, 0), (30, 3), (30, 4), (37, 0), (37, 3), (37, 4), (44, 0), (44, 3), (44, 4), (51, 0), (51, 3), (51, 4), (59, 0), (59, 4), (59, 6), (59, 9), (59, 10), (59, 11), (59, 12), (65, 0), (65, 3), (65, 4), (74, 0), (74, 3), (74, 4), (81, 0), (81, 3), (81, 4), (88, 0), (88, 3), (88, 4), (95, 0), (95, 3), (95, 4), (102, 0), (102, 3), (102, 4), (109, 0), (109, 3), (109, 4), (116, 0), (116, 4), (116, 6), (116, 9), (116, 10), (116, 11), (116, 12), (122, 0), (122, 3), (122, 4), (131, 0), (131, 3), (131, 4), (138, 0), (138, 3), (138, 4), (145, 0), (145, 3), (145, 4), (152, 0), (152, 3), (152, 4), (159, 0), (159, 3), (159, 4), (166, 0), (166, 3), (166, 4), (174, 1), (176, 2), (176, 3), (176, 4), (176, 5), (176, 6), (177, 0), (177, 3), (177, 4), (185, 3), (188, 16), (188, 18), (204, 16), (204, 18), (220, 2), (220, 3), (220, 4), (222, 2), (222, 3), (222, 4), (222, 5), (223, 5), (223, 6), (223, 7), (223, 8), (223, 9), (223, 10), (223, 11), (231, 0), (231, 1), (231, 6), (231, 8), (231, 9), (231, 10), (231, 11), (231, 12), (231, 13), (231, 14), (231, 15), (231, 17), (231, 20), (231, 23), (231, 24), (231, 27), (231, 30), (231, 31), (231, 32), (231, 36), (231, 45), (231, 46), (231, 47), (231, 48), (231, 51)]
def A_law : List Nat := [2, 3, 4, 5, 8, 9, 10, 11, 12, 13, 14, 15, 17, 18, 19, 20, 21, 22, 24, 25, 26, 27, 28, 29, 31, 32, 33, 34, 35, 36, 38, 39, 40, 41, 42, 43, 45, 46, 47, 48, 49, 50, 52, 53, 54, 55, 56, 57, 60, 61, 62, 63, 66, 67, 68, 69, 70, 71, 72, 73, 75, 76, 77, 78, 79, 80, 82, 83, 84, 85, 86, 87, 89, 90, 91, 92, 93, 94, 96, 97, 98, 99, 100, 101, 103, 104, 105, 106, 107, 108, 110, 111, 112, 113, 114, 115, 117, 118, 119, 120, 123, 124, 125, 126, 127, 128, 129, 130, 132, 133, 134, 135, 136, 137, 139, 140, 141, 142, 143, 144, 146, 147, 148, 149, 150, 151, 153, 154, 155, 156, 157, 158, 160, 161, 162, 163, 164, 165, 167, 168, 169, 170, 171, 172, 173, 175, 178, 179, 180, 181, 182, 183, 189, 190, 191, 192, 193, 194, 195, 196, 197, 198, 199, 200, 202, 203, 205, 206, 207, 208, 209, 210, 211, 212, 213, 214, 215, 216, 218, 219, 221, 224, 225, 226, 227, 228, 229, 230, 232, 233, 234, 235, 236, 237, 238, 239, 240, 241, 246, 247, 248, 249, 250, 251, 252, 253, 254, 255, 256, 257, 258]
def LwR (g : List en_E) : Prop := (gI g 1 0).toInt = (eA g 233 0).toInt ∧ (gI g 1 12).toInt = (eA g 233 4).toInt ∧ (gI g 1 10).toInt = (eA g 233 5).toInt ∧ (gI g 1 11).toInt = (eA g 233 6).toInt ∧ (gI g 1 4).toInt = (eA g 233 1).toInt ∧ (eA g 173 0).toInt = (eA g 235 0).toInt ∧ (eA g 173 1).toInt = (eA g 235 1).toInt ∧ (gI g 174 1).toInt = (gI g 231 8).toInt ∧ (gI g 0 16).toInt = (gI g 231 6).toInt ∧ IM0 g ∧ IM1 g ∧ CT g ∧ CI0 g ∧ CI1 g ∧ RT g

set_option maxRecDepth 100000 in
set_option maxHeartbeats 8000000 in
theorem lq_c0 (d : Nat) {N : Nat} {g0 : List en_E} (hI0 : HI g0) (hR0 : LwR g0) {ys : List Int32} {L : Nat} (hL : ys.length = L) (hL2 : L ≤ 3584) {l : en_L} {i : Int32} (e0 : en_get 0 l = some (.float 0)) (e1 : en_get 1 l = some (.ref 0)) (e2 : en_get 2 l = some (.ref 231)) (e3 : en_get 3 l = some (.int i)) (hi : 0 ≤ i.toInt ∧ i.toInt + 7 ≤ L) {Ph : Option Value → en_H → Prop} (K : ∀ g1 : List en_E, HI g1 → LwR g1 → At (d + 423) (some ys) (some .boolean) bs_L_law (1330, l, [], (g1, N)) Ph) : At (d + 423) (some ys) (some .boolean) bs_L_law (208, l, [], (g0, N)) Ph := by
  have hF0 : Fr F_law A_law g0 g0 := Fr.rf
  have hx_1 : -2147483648 ≤ i.toInt + 1 ∧ i.toInt + 1 ≤ 2147483647 := by omega
  have hx_2 : -2147483648 ≤ i.toInt + 2 ∧ i.toInt + 2 ≤ 2147483647 := by omega
  have hx_3 : -2147483648 ≤ i.toInt + 3 ∧ i.toInt + 3 ≤ 2147483647 := by omega
  have hx_4 : -2147483648 ≤ i.toInt + 4 ∧ i.toInt + 4 ≤ 2147483647 := by omega
  have hx_5 : -2147483648 ≤ i.toInt + 5 ∧ i.toInt + 5 ≤ 2147483647 := by omega
  have hx_6 : -2147483648 ≤ i.toInt + 6 ∧ i.toInt + 6 ≤ 2147483647 := by omega
  have hy_0 : 0 ≤ i.toInt ∧ i.toInt < (L : Int) := by omega
  have hy_1 : 0 ≤ i.toInt + 1 ∧ i.toInt + 1 < (L : Int) := by omega
  have hy_2 : 0 ≤ i.toInt + 2 ∧ i.toInt + 2 < (L : Int) := by omega
  have hy_3 : 0 ≤ i.toInt + 3 ∧ i.toInt + 3 < (L : Int) := by omega
  have hy_4 : 0 ≤ i.toInt + 4 ∧ i.toInt + 4 < (L : Int) := by omega
  have hy_5 : 0 ≤ i.toInt + 5 ∧ i.toInt + 5 < (L : Int) := by omega
  have hy_6 : 0 ≤ i.toInt + 6 ∧ i.toInt + 6 < (L : Int) := by omega
  unfold LwR at hR0
  obtain ⟨hR_0, hR_1, hR_2, hR_3, hR_4, hR_5, hR_6, hR_7, hR_8, hR_9, hR_10, hR_11, hR_12, hR_13, hR_14⟩ := hR0
  refine At.enter rfl ?_
  refine r_aload_n e1 ?_
  refine r_sload_n e0 ?_
  refine r_iload_n e3 ?_
  refine r_iconst 1 rfl ?_
  refine q_iadd (i.toInt + 1) rfl hx_1 (fun v1 hv1 => ?_)
  refine q_scald (m := L) hL (i.toInt + 1) hv1 hy_1 (fun v2 hv2 => ?_)
  refine r_sload_n e0 ?_
  refine r_iload_n e3 ?_
  refine r_iconst 2 rfl ?_
  refine q_iadd (i.toInt + 2) rfl hx_2 (fun v3 hv3 => ?_)
  refine q_scald (m := L) hL (i.toInt + 2) hv3 hy_2 (fun v4 hv4 => ?_)
  refine r_sload_n e0 ?_
  refine r_iload_n e3 ?_
  refine r_iconst 3 rfl ?_
  refine q_iadd (i.toInt + 3) rfl hx_3 (fun v5 hv5 => ?_)
  refine q_scald (m := L) hL (i.toInt + 3) hv5 hy_3 (fun v6 hv6 => ?_)
  rcases cs3 ((-1 ≤ v2.toInt ∧ v2.toInt ≤ 11 ∧ 1 ≤ v4.toInt ∧ v4.toInt ≤ 9 ∧ 0 ≤ v6.toInt ∧ v6.toInt ≤ 99)) (12 ≤ (gI g0 1 0).toInt) with pk7 | pk7 | pk7
  · refine r_callV 227 rfl [.ref 0, .int v2, .int v4, .int v6] [] (Nat.le_of_ble_eq_true rfl) rfl (T_X10_stand_0 _ hI0 v2 v4 v6) ?_
    rintro _ _ ⟨g8, rfl, hI9, hF10, v11, rfl, hr12⟩
    refine At.sti ?_
    have hF13 := Fr.tr hF0 hF10 rfl rfl
    obtain ⟨q14, q15, q16, q17, q18⟩ := hr12
    obtain ⟨i20, i21, i22⟩ := q15
    have w19 := i20 pk7
    clear i20 i21 i22
    have f23 := congrArg Int32.toInt (hF10.1 1 12 rfl)
    have f24 := congrArg Int32.toInt (hF10.1 1 10 rfl)
    have f25 := congrArg Int32.toInt (hF10.1 1 11 rfl)
    have f26 := congrArg Int32.toInt (hF10.1 1 4 rfl)
    have f27 := congrArg Int32.toInt (hF10.1 59 0 rfl)
    have f28 := congrArg Int32.toInt (hF10.1 59 12 rfl)
    have f29 := congrArg Int32.toInt (hF10.1 59 10 rfl)
    have f30 := congrArg Int32.toInt (hF10.1 59 11 rfl)
    have f31 := congrArg Int32.toInt (hF10.1 59 4 rfl)
    have f32 := congrArg Int32.toInt (hF10.1 116 0 rfl)
    have f33 := congrArg Int32.toInt (hF10.1 116 12 rfl)
    have f34 := congrArg Int32.toInt (hF10.1 116 10 rfl)
    have f35 := congrArg Int32.toInt (hF10.1 116 11 rfl)
    have f36 := congrArg Int32.toInt (hF10.1 116 4 rfl)
    have f37 := congrArg Int32.toInt (eA_c (j := 0) (hF10.2.1 173 rfl))
    have f38 := congrArg Int32.toInt (eA_c (j := 1) (hF10.2.1 173 rfl))
    have f39 := congrArg Int32.toInt (hF10.1 174 1 rfl)
    have f40 := congrArg Int32.toInt (hF10.1 0 16 rfl)
    have f41 := congrArg Int32.toInt (eA_c (j := 0) (hF10.2.1 233 rfl))
    have f42 := congrArg Int32.toInt (eA_c (j := 4) (hF10.2.1 233 rfl))
    have f43 := congrArg Int32.toInt (eA_c (j := 5) (hF10.2.1 233 rfl))
    have f44 := congrArg Int32.toInt (eA_c (j := 6) (hF10.2.1 233 rfl))
    have f45 := congrArg Int32.toInt (eA_c (j := 1) (hF10.2.1 233 rfl))
    have f46 := congrArg Int32.toInt (eA_c (j := 0) (hF10.2.1 234 rfl))
    have f47 := congrArg Int32.toInt (eA_c (j := 4) (hF10.2.1 234 rfl))
    have f48 := congrArg Int32.toInt (eA_c (j := 5) (hF10.2.1 234 rfl))
    have f49 := congrArg Int32.toInt (eA_c (j := 6) (hF10.2.1 234 rfl))
    have f50 := congrArg Int32.toInt (eA_c (j := 1) (hF10.2.1 234 rfl))
    have f51 := congrArg Int32.toInt (eA_c (j := 5510) (hF10.2.1 234 rfl))
    have f52 := congrArg Int32.toInt (eA_c (j := 5514) (hF10.2.1 234 rfl))
    have f53 := congrArg Int32.toInt (eA_c (j := 5515) (hF10.2.1 234 rfl))
    have f54 := congrArg Int32.toInt (eA_c (j := 5516) (hF10.2.1 234 rfl))
    have f55 := congrArg Int32.toInt (eA_c (j := 5511) (hF10.2.1 234 rfl))
    have f56 := congrArg Int32.toInt (eA_c (j := 0) (hF10.2.1 235 rfl))
    have f57 := congrArg Int32.toInt (eA_c (j := 1) (hF10.2.1 235 rfl))
    have f58 := congrArg Int32.toInt (hF10.1 231 8 rfl)
    have f59 := congrArg Int32.toInt (hF10.1 231 6 rfl)
    refine At.enter rfl ?_
    refine r_pop rfl ?_
    refine r_aload_n e2 ?_
    refine r_sload_n e0 ?_
    refine r_iload_n e3 ?_
    refine r_iconst 1 rfl ?_
    refine q_iadd (i.toInt + 1) rfl hx_1 (fun v60 hv60 => ?_)
    refine q_scald (m := L) hL (i.toInt + 1) hv60 hy_1 (fun v61 hv61 => ?_)
    have sv61 := hv2.symm.trans hv61
    subst sv61
    refine r_sload_n e0 ?_
    refine r_iload_n e3 ?_
    refine r_iconst 2 rfl ?_
    refine q_iadd (i.toInt + 2) rfl hx_2 (fun v62 hv62 => ?_)
    refine q_scald (m := L) hL (i.toInt + 2) hv62 hy_2 (fun v63 hv63 => ?_)
    have sv63 := hv4.symm.trans hv63
    subst sv63
    refine r_sload_n e0 ?_
    refine r_iload_n e3 ?_
    refine r_iconst 3 rfl ?_
    refine q_iadd (i.toInt + 3) rfl hx_3 (fun v64 hv64 => ?_)
    refine q_scald (m := L) hL (i.toInt + 3) hv64 hy_3 (fun v65 hv65 => ?_)
    have sv65 := hv6.symm.trans hv65
    subst sv65
    refine r_callV 247 rfl [.ref 231, .int v2, .int v4, .int v6] [] (Nat.le_of_ble_eq_true rfl) rfl (T_X11_stand_231 _ hI9 v2 v4 v6) ?_
    rintro _ _ ⟨g66, rfl, hI67, hF68, v69, rfl, hr70⟩
    refine At.sti ?_
    have hF71 := Fr.tr hF13 hF68 rfl rfl
    obtain ⟨q72, q73, q74⟩ := hr70
    have ek83 : (eA g8 233 0).toInt = (gI g0 1 0).toInt := (eA_ti (j := 0) (hF10.2.1 233 (by decide))).trans hR_0.symm
    have ek84 : (eA g8 233 1).toInt = (gI g0 1 4).toInt := (eA_ti (j := 1) (hF10.2.1 233 (by decide))).trans hR_4.symm
    obtain ⟨⟨i76, i77, i78⟩, sm79, sm80, sm81, sm82⟩ := q73
    have w75 := i76 pk7
    clear i76 i77 i78
    have f85 := congrArg Int32.toInt (hF68.1 1 0 rfl)
    have f86 := congrArg Int32.toInt (hF68.1 1 12 rfl)
    have f87 := congrArg Int32.toInt (hF68.1 1 10 rfl)
    have f88 := congrArg Int32.toInt (hF68.1 1 11 rfl)
    have f89 := congrArg Int32.toInt (hF68.1 1 4 rfl)
    have f90 := congrArg Int32.toInt (hF68.1 59 0 rfl)
    have f91 := congrArg Int32.toInt (hF68.1 59 12 rfl)
    have f92 := congrArg Int32.toInt (hF68.1 59 10 rfl)
    have f93 := congrArg Int32.toInt (hF68.1 59 11 rfl)
    have f94 := congrArg Int32.toInt (hF68.1 59 4 rfl)
    have f95 := congrArg Int32.toInt (hF68.1 116 0 rfl)
    have f96 := congrArg Int32.toInt (hF68.1 116 12 rfl)
    have f97 := congrArg Int32.toInt (hF68.1 116 10 rfl)
    have f98 := congrArg Int32.toInt (hF68.1 116 11 rfl)
    have f99 := congrArg Int32.toInt (hF68.1 116 4 rfl)
    have f100 := congrArg Int32.toInt (eA_c (j := 0) (hF68.2.1 173 rfl))
    have f101 := congrArg Int32.toInt (eA_c (j := 1) (hF68.2.1 173 rfl))
    have f102 := congrArg Int32.toInt (hF68.1 174 1 rfl)
    have f103 := congrArg Int32.toInt (hF68.1 0 16 rfl)
    have f104 := congrArg Int32.toInt (eA_c (j := 0) (hF68.2.1 234 rfl))
    have f105 := congrArg Int32.toInt (eA_c (j := 4) (hF68.2.1 234 rfl))
    have f106 := congrArg Int32.toInt (eA_c (j := 5) (hF68.2.1 234 rfl))
    have f107 := congrArg Int32.toInt (eA_c (j := 6) (hF68.2.1 234 rfl))
    have f108 := congrArg Int32.toInt (eA_c (j := 1) (hF68.2.1 234 rfl))
    have f109 := congrArg Int32.toInt (eA_c (j := 5510) (hF68.2.1 234 rfl))
    have f110 := congrArg Int32.toInt (eA_c (j := 5514) (hF68.2.1 234 rfl))
    have f111 := congrArg Int32.toInt (eA_c (j := 5515) (hF68.2.1 234 rfl))
    have f112 := congrArg Int32.toInt (eA_c (j := 5516) (hF68.2.1 234 rfl))
    have f113 := congrArg Int32.toInt (eA_c (j := 5511) (hF68.2.1 234 rfl))
    have f114 := congrArg Int32.toInt (eA_c (j := 0) (hF68.2.1 235 rfl))
    have f115 := congrArg Int32.toInt (eA_c (j := 1) (hF68.2.1 235 rfl))
    have f116 := congrArg Int32.toInt (hF68.1 231 8 rfl)
    have f117 := congrArg Int32.toInt (hF68.1 231 6 rfl)
    refine At.enter rfl ?_
    refine r_pop rfl ?_
    refine r_goto ?_
    exact K _ hI67 (show LwR _ from ⟨by omega, by omega, by omega, by omega, by omega, (eA_ti (j := 0) (((hF68.2.1 173 (by decide)).trans (hF10.2.1 173 (by decide))))).trans (hR_5.trans (eA_ti (j := 0) (((hF68.2.1 235 (by decide)).trans (hF10.2.1 235 (by decide))))).symm), (eA_ti (j := 1) (((hF68.2.1 173 (by decide)).trans (hF10.2.1 173 (by decide))))).trans (hR_6.trans (eA_ti (j := 1) (((hF68.2.1 235 (by decide)).trans (hF10.2.1 235 (by decide))))).symm), (congrArg Int32.toInt (((hF68.1 174 1 (by decide)).trans (hF10.1 174 1 (by decide))))).trans (hR_7.trans (congrArg Int32.toInt (((hF68.1 231 8 (by decide)).trans (hF10.1 231 8 (by decide))))).symm), (congrArg Int32.toInt (((hF68.1 0 16 (by decide)).trans (hF10.1 0 16 (by decide))))).trans (hR_8.trans (congrArg Int32.toInt (((hF68.1 231 6 (by decide)).trans (hF10.1 231 6 (by decide))))).symm), IM0.cong hR_9 (eA_ti (j := 0) (((hF68.2.1 173 (by decide)).trans (hF10.2.1 173 (by decide))))) (congrArg Int32.toInt (((hF68.1 59 0 (by decide)).trans (hF10.1 59 0 (by decide))))) (eA_ti (j := 0) (((hF68.2.1 234 (by decide)).trans (hF10.2.1 234 (by decide))))) (congrArg Int32.toInt (((hF68.1 59 12 (by decide)).trans (hF10.1 59 12 (by decide))))) (eA_ti (j := 4) (((hF68.2.1 234 (by decide)).trans (hF10.2.1 234 (by decide))))) (congrArg Int32.toInt (((hF68.1 59 10 (by decide)).trans (hF10.1 59 10 (by decide))))) (eA_ti (j := 5) (((hF68.2.1 234 (by decide)).trans (hF10.2.1 234 (by decide))))) (congrArg Int32.toInt (((hF68.1 59 11 (by decide)).trans (hF10.1 59 11 (by decide))))) (eA_ti (j := 6) (((hF68.2.1 234 (by decide)).trans (hF10.2.1 234 (by decide))))) (congrArg Int32.toInt (((hF68.1 59 4 (by decide)).trans (hF10.1 59 4 (by decide))))) (eA_ti (j := 1) (((hF68.2.1 234 (by decide)).trans (hF10.2.1 234 (by decide))))), IM1.cong hR_10 (eA_ti (j := 1) (((hF68.2.1 173 (by decide)).trans (hF10.2.1 173 (by decide))))) (congrArg Int32.toInt (((hF68.1 116 0 (by decide)).trans (hF10.1 116 0 (by decide))))) (eA_ti (j := 5510) (((hF68.2.1 234 (by decide)).trans (hF10.2.1 234 (by decide))))) (congrArg Int32.toInt (((hF68.1 116 12 (by decide)).trans (hF10.1 116 12 (by decide))))) (eA_ti (j := 5514) (((hF68.2.1 234 (by decide)).trans (hF10.2.1 234 (by decide))))) (congrArg Int32.toInt (((hF68.1 116 10 (by decide)).trans (hF10.1 116 10 (by decide))))) (eA_ti (j := 5515) (((hF68.2.1 234 (by decide)).trans (hF10.2.1 234 (by decide))))) (congrArg Int32.toInt (((hF68.1 116 11 (by decide)).trans (hF10.1 116 11 (by decide))))) (eA_ti (j := 5516) (((hF68.2.1 234 (by decide)).trans (hF10.2.1 234 (by decide))))) (congrArg Int32.toInt (((hF68.1 116 4 (by decide)).trans (hF10.1 116 4 (by decide))))) (eA_ti (j := 5511) (((hF68.2.1 234 (by decide)).trans (hF10.2.1 234 (by decide))))), (show CT _ from ⟨fun i i0 i1 => ⟨(by have t0_ := hI0.t0; have t1_ := hI0.t1; have o := (hR_11.1 i i0 i1).1; have x := (eA_ti (j := i) (hF68.2.1 2 (by decide))).trans (q16 i i0 i1); have m := q74 (10 + 3 * i) (by omega) (by omega); have y1 := eA_ti (j := ((10 + 3 * i))) (hF10.2.1 233 (by decide)); have ek0 : (eA g8 233 0).toInt = (gI g0 1 0).toInt := (eA_ti (j := 0) (hF10.2.1 233 (by decide))).trans hR_0.symm; have eC : ((-1 ≤ v2.toInt ∧ v2.toInt ≤ 11 ∧ 1 ≤ v4.toInt ∧ v4.toInt ≤ 9 ∧ 0 ≤ v6.toInt ∧ v6.toInt ≤ 99) ∧ (eA g8 233 0).toInt < 12) = ((-1 ≤ v2.toInt ∧ v2.toInt ≤ 11 ∧ 1 ≤ v4.toInt ∧ v4.toInt ≤ 9 ∧ 0 ≤ v6.toInt ∧ v6.toInt ≤ 99) ∧ (gI g0 1 0).toInt < 12) := (by rw [ek0]); have k : ¬ ((-1 ≤ v2.toInt ∧ v2.toInt ≤ 11 ∧ 1 ≤ v4.toInt ∧ v4.toInt ≤ 9 ∧ 0 ≤ v6.toInt ∧ v6.toInt ≤ 99) ∧ (gI g0 1 0).toInt < 12) := (fun z => (show ¬ _ from pk7) z.1); have k2 : ¬ ((-1 ≤ v2.toInt ∧ v2.toInt ≤ 11 ∧ 1 ≤ v4.toInt ∧ v4.toInt ≤ 9 ∧ 0 ≤ v6.toInt ∧ v6.toInt ≤ 99) ∧ (eA g8 233 0).toInt < 12) := fun z => k (eC.mp z); rw [ite_an k] at x; rw [ite_an k2, ite_an k2, ite_an k2] at m; clear eC k2 k; omega), (by have t0_ := hI0.t0; have t1_ := hI0.t1; have o := (hR_11.1 i i0 i1).2.1; have x := (eA_ti (j := i) (hF68.2.1 3 (by decide))).trans (q17 i i0 i1); have m := q74 (10 + 3 * i + 1) (by omega) (by omega); have y1 := eA_ti (j := ((10 + 3 * i + 1))) (hF10.2.1 233 (by decide)); have ek0 : (eA g8 233 0).toInt = (gI g0 1 0).toInt := (eA_ti (j := 0) (hF10.2.1 233 (by decide))).trans hR_0.symm; have eC : ((-1 ≤ v2.toInt ∧ v2.toInt ≤ 11 ∧ 1 ≤ v4.toInt ∧ v4.toInt ≤ 9 ∧ 0 ≤ v6.toInt ∧ v6.toInt ≤ 99) ∧ (eA g8 233 0).toInt < 12) = ((-1 ≤ v2.toInt ∧ v2.toInt ≤ 11 ∧ 1 ≤ v4.toInt ∧ v4.toInt ≤ 9 ∧ 0 ≤ v6.toInt ∧ v6.toInt ≤ 99) ∧ (gI g0 1 0).toInt < 12) := (by rw [ek0]); have k : ¬ ((-1 ≤ v2.toInt ∧ v2.toInt ≤ 11 ∧ 1 ≤ v4.toInt ∧ v4.toInt ≤ 9 ∧ 0 ≤ v6.toInt ∧ v6.toInt ≤ 99) ∧ (gI g0 1 0).toInt < 12) := (fun z => (show ¬ _ from pk7) z.1); have k2 : ¬ ((-1 ≤ v2.toInt ∧ v2.toInt ≤ 11 ∧ 1 ≤ v4.toInt ∧ v4.toInt ≤ 9 ∧ 0 ≤ v6.toInt ∧ v6.toInt ≤ 99) ∧ (eA g8 233 0).toInt < 12) := fun z => k (eC.mp z); rw [ite_an k] at x; rw [ite_an k2, ite_an k2, ite_an k2] at m; clear eC k2 k; omega), (by have t0_ := hI0.t0; have t1_ := hI0.t1; have o := (hR_11.1 i i0 i1).2.2; have x := (eA_ti (j := i) (hF68.2.1 4 (by decide))).trans (q18 i i0 i1); have m := q74 (10 + 3 * i + 2) (by omega) (by omega); have y1 := eA_ti (j := ((10 + 3 * i + 2))) (hF10.2.1 233 (by decide)); have ek0 : (eA g8 233 0).toInt = (gI g0 1 0).toInt := (eA_ti (j := 0) (hF10.2.1 233 (by decide))).trans hR_0.symm; have eC : ((-1 ≤ v2.toInt ∧ v2.toInt ≤ 11 ∧ 1 ≤ v4.toInt ∧ v4.toInt ≤ 9 ∧ 0 ≤ v6.toInt ∧ v6.toInt ≤ 99) ∧ (eA g8 233 0).toInt < 12) = ((-1 ≤ v2.toInt ∧ v2.toInt ≤ 11 ∧ 1 ≤ v4.toInt ∧ v4.toInt ≤ 9 ∧ 0 ≤ v6.toInt ∧ v6.toInt ≤ 99) ∧ (gI g0 1 0).toInt < 12) := (by rw [ek0]); have k : ¬ ((-1 ≤ v2.toInt ∧ v2.toInt ≤ 11 ∧ 1 ≤ v4.toInt ∧ v4.toInt ≤ 9 ∧ 0 ≤ v6.toInt ∧ v6.toInt ≤ 99) ∧ (gI g0 1 0).toInt < 12) := (fun z => (show ¬ _ from pk7) z.1); have k2 : ¬ ((-1 ≤ v2.toInt ∧ v2.toInt ≤ 11 ∧ 1 ≤ v4.toInt ∧ v4.toInt ≤ 9 ∧ 0 ≤ v6.toInt ∧ v6.toInt ≤ 99) ∧ (eA g8 233 0).toInt < 12) := fun z => k (eC.mp z); rw [ite_an k] at x; rw [ite_an k2, ite_an k2, ite_an k2] at m; clear eC k2 k; omega)⟩, fun i i0 i1 => ⟨(by have t0_ := hI0.t0; have t1_ := hI0.t1; have o := (hR_11.2.1 i i0 i1).1; have x := eA_ti (j := i) (((hF68.2.1 14 (by decide)).trans (hF10.2.1 14 (by decide)))); have m := q74 (94 + 2 * i) (by omega) (by omega); have y1 := eA_ti (j := ((94 + 2 * i))) (hF10.2.1 233 (by decide)); have ek0 : (eA g8 233 0).toInt = (gI g0 1 0).toInt := (eA_ti (j := 0) (hF10.2.1 233 (by decide))).trans hR_0.symm; have eC : ((-1 ≤ v2.toInt ∧ v2.toInt ≤ 11 ∧ 1 ≤ v4.toInt ∧ v4.toInt ≤ 9 ∧ 0 ≤ v6.toInt ∧ v6.toInt ≤ 99) ∧ (eA g8 233 0).toInt < 12) = ((-1 ≤ v2.toInt ∧ v2.toInt ≤ 11 ∧ 1 ≤ v4.toInt ∧ v4.toInt ≤ 9 ∧ 0 ≤ v6.toInt ∧ v6.toInt ≤ 99) ∧ (gI g0 1 0).toInt < 12) := (by rw [ek0]); have k : ¬ ((-1 ≤ v2.toInt ∧ v2.toInt ≤ 11 ∧ 1 ≤ v4.toInt ∧ v4.toInt ≤ 9 ∧ 0 ≤ v6.toInt ∧ v6.toInt ≤ 99) ∧ (gI g0 1 0).toInt < 12) := (fun z => (show ¬ _ from pk7) z.1); have k2 : ¬ ((-1 ≤ v2.toInt ∧ v2.toInt ≤ 11 ∧ 1 ≤ v4.toInt ∧ v4.toInt ≤ 9 ∧ 0 ≤ v6.toInt ∧ v6.toInt ≤ 99) ∧ (eA g8 233 0).toInt < 12) := fun z => k (eC.mp z); rw [ite_an k2, ite_an k2, ite_an k2] at m; clear eC k2 k; omega), (by have t0_ := hI0.t0; have t1_ := hI0.t1; have o := (hR_11.2.1 i i0 i1).2; have x := eA_ti (j := i) (((hF68.2.1 15 (by decide)).trans (hF10.2.1 15 (by decide)))); have m := q74 (94 + 2 * i + 1) (by omega) (by omega); have y1 := eA_ti (j := ((94 + 2 * i + 1))) (hF10.2.1 233 (by decide)); have ek0 : (eA g8 233 0).toInt = (gI g0 1 0).toInt := (eA_ti (j := 0) (hF10.2.1 233 (by decide))).trans hR_0.symm; have eC : ((-1 ≤ v2.toInt ∧ v2.toInt ≤ 11 ∧ 1 ≤ v4.toInt ∧ v4.toInt ≤ 9 ∧ 0 ≤ v6.toInt ∧ v6.toInt ≤ 99) ∧ (eA g8 233 0).toInt < 12) = ((-1 ≤ v2.toInt ∧ v2.toInt ≤ 11 ∧ 1 ≤ v4.toInt ∧ v4.toInt ≤ 9 ∧ 0 ≤ v6.toInt ∧ v6.toInt ≤ 99) ∧ (gI g0 1 0).toInt < 12) := (by rw [ek0]); have k : ¬ ((-1 ≤ v2.toInt ∧ v2.toInt ≤ 11 ∧ 1 ≤ v4.toInt ∧ v4.toInt ≤ 9 ∧ 0 ≤ v6.toInt ∧ v6.toInt ≤ 99) ∧ (gI g0 1 0).toInt < 12) := (fun z => (show ¬ _ from pk7) z.1); have k2 : ¬ ((-1 ≤ v2.toInt ∧ v2.toInt ≤ 11 ∧ 1 ≤ v4.toInt ∧ v4.toInt ≤ 9 ∧ 0 ≤ v6.toInt ∧ v6.toInt ≤ 99) ∧ (eA g8 233 0).toInt < 12) := fun z => k (eC.mp z); rw [ite_an k2, ite_an k2, ite_an k2] at m; clear eC k2 k; omega)⟩, fun i i0 i1 => (by have t0_ := hI0.t0; have t1_ := hI0.t1; have o : i < 6 * (gI g0 1 4).toInt → _ := fun hz => hR_11.2.2 i i0 hz; have x := eA_ti (j := i) (((hF68.2.1 5 (by decide)).trans (hF10.2.1 5 (by decide)))); have m := q74 (46 + i) (by omega) (by omega); have y1 := eA_ti (j := ((46 + i))) (hF10.2.1 233 (by decide)); have ek0 : (eA g8 233 0).toInt = (gI g0 1 0).toInt := (eA_ti (j := 0) (hF10.2.1 233 (by decide))).trans hR_0.symm; have eC : ((-1 ≤ v2.toInt ∧ v2.toInt ≤ 11 ∧ 1 ≤ v4.toInt ∧ v4.toInt ≤ 9 ∧ 0 ≤ v6.toInt ∧ v6.toInt ≤ 99) ∧ (eA g8 233 0).toInt < 12) = ((-1 ≤ v2.toInt ∧ v2.toInt ≤ 11 ∧ 1 ≤ v4.toInt ∧ v4.toInt ≤ 9 ∧ 0 ≤ v6.toInt ∧ v6.toInt ≤ 99) ∧ (gI g0 1 0).toInt < 12) := (by rw [ek0]); have k : ¬ ((-1 ≤ v2.toInt ∧ v2.toInt ≤ 11 ∧ 1 ≤ v4.toInt ∧ v4.toInt ≤ 9 ∧ 0 ≤ v6.toInt ∧ v6.toInt ≤ 99) ∧ (gI g0 1 0).toInt < 12) := (fun z => (show ¬ _ from pk7) z.1); have k2 : ¬ ((-1 ≤ v2.toInt ∧ v2.toInt ≤ 11 ∧ 1 ≤ v4.toInt ∧ v4.toInt ≤ 9 ∧ 0 ≤ v6.toInt ∧ v6.toInt ≤ 99) ∧ (eA g8 233 0).toInt < 12) := fun z => k (eC.mp z); rw [ite_an k2, ite_an k2, ite_an k2] at m; clear eC k2 k; omega)⟩), CI0.cong hR_12 (((hF68.2.1 60 (by decide)).trans (hF10.2.1 60 (by decide)))) (((hF68.2.1 61 (by decide)).trans (hF10.2.1 61 (by decide)))) (((hF68.2.1 62 (by decide)).trans (hF10.2.1 62 (by decide)))) (((hF68.2.1 72 (by decide)).trans (hF10.2.1 72 (by decide)))) (((hF68.2.1 73 (by decide)).trans (hF10.2.1 73 (by decide)))) (((hF68.2.1 63 (by decide)).trans (hF10.2.1 63 (by decide)))) (((hF68.2.1 234 (by decide)).trans (hF10.2.1 234 (by decide)))) (congrArg Int32.toInt (((hF68.1 59 4 (by decide)).trans (hF10.1 59 4 (by decide))))), CI1.cong hR_13 (((hF68.2.1 117 (by decide)).trans (hF10.2.1 117 (by decide)))) (((hF68.2.1 118 (by decide)).trans (hF10.2.1 118 (by decide)))) (((hF68.2.1 119 (by decide)).trans (hF10.2.1 119 (by decide)))) (((hF68.2.1 129 (by decide)).trans (hF10.2.1 129 (by decide)))) (((hF68.2.1 130 (by decide)).trans (hF10.2.1 130 (by decide)))) (((hF68.2.1 120 (by decide)).trans (hF10.2.1 120 (by decide)))) (((hF68.2.1 234 (by decide)).trans (hF10.2.1 234 (by decide)))) (congrArg Int32.toInt (((hF68.1 116 4 (by decide)).trans (hF10.1 116 4 (by decide))))), (show RT _ from fun i i0 i1 => (eA_ti (((hF68.2.1 175 (by decide)).trans (hF10.2.1 175 (by decide))))).trans ((hR_14 i i0 (by omega)).trans (eA_ti (((hF68.2.1 236 (by decide)).trans (hF10.2.1 236 (by decide))))).symm))⟩)
  · refine r_callV 227 rfl [.ref 0, .int v2, .int v4, .int v6] [] (Nat.le_of_ble_eq_true rfl) rfl (T_X10_stand_0 _ hI0 v2 v4 v6) ?_
    rintro _ _ ⟨g118, rfl, hI119, hF120, v121, rfl, hr122⟩
    refine At.sti ?_
    have hF123 := Fr.tr hF0 hF120 rfl rfl
    obtain ⟨q124, q125, q126, q127, q128⟩ := hr122
    obtain ⟨i130, i131, i132⟩ := q125
    have w129 := i131 ⟨pk7.1, pk7.2⟩
    clear i130 i131 i132
    have f133 := congrArg Int32.toInt (hF120.1 1 12 rfl)
    have f134 := congrArg Int32.toInt (hF120.1 1 10 rfl)
    have f135 := congrArg Int32.toInt (hF120.1 1 11 rfl)
    have f136 := congrArg Int32.toInt (hF120.1 1 4 rfl)
    have f137 := congrArg Int32.toInt (hF120.1 59 0 rfl)
    have f138 := congrArg Int32.toInt (hF120.1 59 12 rfl)
    have f139 := congrArg Int32.toInt (hF120.1 59 10 rfl)
    have f140 := congrArg Int32.toInt (hF120.1 59 11 rfl)
    have f141 := congrArg Int32.toInt (hF120.1 59 4 rfl)
    have f142 := congrArg Int32.toInt (hF120.1 116 0 rfl)
    have f143 := congrArg Int32.toInt (hF120.1 116 12 rfl)
    have f144 := congrArg Int32.toInt (hF120.1 116 10 rfl)
    have f145 := congrArg Int32.toInt (hF120.1 116 11 rfl)
    have f146 := congrArg Int32.toInt (hF120.1 116 4 rfl)
    have f147 := congrArg Int32.toInt (eA_c (j := 0) (hF120.2.1 173 rfl))
    have f148 := congrArg Int32.toInt (eA_c (j := 1) (hF120.2.1 173 rfl))
    have f149 := congrArg Int32.toInt (hF120.1 174 1 rfl)
    have f150 := congrArg Int32.toInt (hF120.1 0 16 rfl)
    have f151 := congrArg Int32.toInt (eA_c (j := 0) (hF120.2.1 233 rfl))
    have f152 := congrArg Int32.toInt (eA_c (j := 4) (hF120.2.1 233 rfl))
    have f153 := congrArg Int32.toInt (eA_c (j := 5) (hF120.2.1 233 rfl))
    have f154 := congrArg Int32.toInt (eA_c (j := 6) (hF120.2.1 233 rfl))
    have f155 := congrArg Int32.toInt (eA_c (j := 1) (hF120.2.1 233 rfl))
    have f156 := congrArg Int32.toInt (eA_c (j := 0) (hF120.2.1 234 rfl))
    have f157 := congrArg Int32.toInt (eA_c (j := 4) (hF120.2.1 234 rfl))
    have f158 := congrArg Int32.toInt (eA_c (j := 5) (hF120.2.1 234 rfl))
    have f159 := congrArg Int32.toInt (eA_c (j := 6) (hF120.2.1 234 rfl))
    have f160 := congrArg Int32.toInt (eA_c (j := 1) (hF120.2.1 234 rfl))
    have f161 := congrArg Int32.toInt (eA_c (j := 5510) (hF120.2.1 234 rfl))
    have f162 := congrArg Int32.toInt (eA_c (j := 5514) (hF120.2.1 234 rfl))
    have f163 := congrArg Int32.toInt (eA_c (j := 5515) (hF120.2.1 234 rfl))
    have f164 := congrArg Int32.toInt (eA_c (j := 5516) (hF120.2.1 234 rfl))
    have f165 := congrArg Int32.toInt (eA_c (j := 5511) (hF120.2.1 234 rfl))
    have f166 := congrArg Int32.toInt (eA_c (j := 0) (hF120.2.1 235 rfl))
    have f167 := congrArg Int32.toInt (eA_c (j := 1) (hF120.2.1 235 rfl))
    have f168 := congrArg Int32.toInt (hF120.1 231 8 rfl)
    have f169 := congrArg Int32.toInt (hF120.1 231 6 rfl)
    refine At.enter rfl ?_
    refine r_pop rfl ?_
    refine r_aload_n e2 ?_
    refine r_sload_n e0 ?_
    refine r_iload_n e3 ?_
    refine r_iconst 1 rfl ?_
    refine q_iadd (i.toInt + 1) rfl hx_1 (fun v170 hv170 => ?_)
    refine q_scald (m := L) hL (i.toInt + 1) hv170 hy_1 (fun v171 hv171 => ?_)
    have sv171 := hv2.symm.trans hv171
    subst sv171
    refine r_sload_n e0 ?_
    refine r_iload_n e3 ?_
    refine r_iconst 2 rfl ?_
    refine q_iadd (i.toInt + 2) rfl hx_2 (fun v172 hv172 => ?_)
    refine q_scald (m := L) hL (i.toInt + 2) hv172 hy_2 (fun v173 hv173 => ?_)
    have sv173 := hv4.symm.trans hv173
    subst sv173
    refine r_sload_n e0 ?_
    refine r_iload_n e3 ?_
    refine r_iconst 3 rfl ?_
    refine q_iadd (i.toInt + 3) rfl hx_3 (fun v174 hv174 => ?_)
    refine q_scald (m := L) hL (i.toInt + 3) hv174 hy_3 (fun v175 hv175 => ?_)
    have sv175 := hv6.symm.trans hv175
    subst sv175
    refine r_callV 247 rfl [.ref 231, .int v2, .int v4, .int v6] [] (Nat.le_of_ble_eq_true rfl) rfl (T_X11_stand_231 _ hI119 v2 v4 v6) ?_
    rintro _ _ ⟨g176, rfl, hI177, hF178, v179, rfl, hr180⟩
    refine At.sti ?_
    have hF181 := Fr.tr hF123 hF178 rfl rfl
    obtain ⟨q182, q183, q184⟩ := hr180
    have ek193 : (eA g118 233 0).toInt = (gI g0 1 0).toInt := (eA_ti (j := 0) (hF120.2.1 233 (by decide))).trans hR_0.symm
    have ek194 : (eA g118 233 1).toInt = (gI g0 1 4).toInt := (eA_ti (j := 1) (hF120.2.1 233 (by decide))).trans hR_4.symm
    obtain ⟨⟨i186, i187, i188⟩, sm189, sm190, sm191, sm192⟩ := q183
    have w185 := i187 ⟨pk7.1, (by rw [ek193]; exact pk7.2)⟩
    clear i186 i187 i188
    have f195 := congrArg Int32.toInt (hF178.1 1 0 rfl)
    have f196 := congrArg Int32.toInt (hF178.1 1 12 rfl)
    have f197 := congrArg Int32.toInt (hF178.1 1 10 rfl)
    have f198 := congrArg Int32.toInt (hF178.1 1 11 rfl)
    have f199 := congrArg Int32.toInt (hF178.1 1 4 rfl)
    have f200 := congrArg Int32.toInt (hF178.1 59 0 rfl)
    have f201 := congrArg Int32.toInt (hF178.1 59 12 rfl)
    have f202 := congrArg Int32.toInt (hF178.1 59 10 rfl)
    have f203 := congrArg Int32.toInt (hF178.1 59 11 rfl)
    have f204 := congrArg Int32.toInt (hF178.1 59 4 rfl)
    have f205 := congrArg Int32.toInt (hF178.1 116 0 rfl)
    have f206 := congrArg Int32.toInt (hF178.1 116 12 rfl)
    have f207 := congrArg Int32.toInt (hF178.1 116 10 rfl)
    have f208 := congrArg Int32.toInt (hF178.1 116 11 rfl)
    have f209 := congrArg Int32.toInt (hF178.1 116 4 rfl)
    have f210 := congrArg Int32.toInt (eA_c (j := 0) (hF178.2.1 173 rfl))
    have f211 := congrArg Int32.toInt (eA_c (j := 1) (hF178.2.1 173 rfl))
    have f212 := congrArg Int32.toInt (hF178.1 174 1 rfl)
    have f213 := congrArg Int32.toInt (hF178.1 0 16 rfl)
    have f214 := congrArg Int32.toInt (eA_c (j := 0) (hF178.2.1 234 rfl))
    have f215 := congrArg Int32.toInt (eA_c (j := 4) (hF178.2.1 234 rfl))
    have f216 := congrArg Int32.toInt (eA_c (j := 5) (hF178.2.1 234 rfl))
    have f217 := congrArg Int32.toInt (eA_c (j := 6) (hF178.2.1 234 rfl))
    have f218 := congrArg Int32.toInt (eA_c (j := 1) (hF178.2.1 234 rfl))
    have f219 := congrArg Int32.toInt (eA_c (j := 5510) (hF178.2.1 234 rfl))
    have f220 := congrArg Int32.toInt (eA_c (j := 5514) (hF178.2.1 234 rfl))
    have f221 := congrArg Int32.toInt (eA_c (j := 5515) (hF178.2.1 234 rfl))
    have f222 := congrArg Int32.toInt (eA_c (j := 5516) (hF178.2.1 234 rfl))
    have f223 := congrArg Int32.toInt (eA_c (j := 5511) (hF178.2.1 234 rfl))
    have f224 := congrArg Int32.toInt (eA_c (j := 0) (hF178.2.1 235 rfl))
    have f225 := congrArg Int32.toInt (eA_c (j := 1) (hF178.2.1 235 rfl))
    have f226 := congrArg Int32.toInt (hF178.1 231 8 rfl)
    have f227 := congrArg Int32.toInt (hF178.1 231 6 rfl)
    refine At.enter rfl ?_
    refine r_pop rfl ?_
    refine r_goto ?_
    exact K _ hI177 (show LwR _ from ⟨by omega, by omega, by omega, by omega, by omega, (eA_ti (j := 0) (((hF178.2.1 173 (by decide)).trans (hF120.2.1 173 (by decide))))).trans (hR_5.trans (eA_ti (j := 0) (((hF178.2.1 235 (by decide)).trans (hF120.2.1 235 (by decide))))).symm), (eA_ti (j := 1) (((hF178.2.1 173 (by decide)).trans (hF120.2.1 173 (by decide))))).trans (hR_6.trans (eA_ti (j := 1) (((hF178.2.1 235 (by decide)).trans (hF120.2.1 235 (by decide))))).symm), (congrArg Int32.toInt (((hF178.1 174 1 (by decide)).trans (hF120.1 174 1 (by decide))))).trans (hR_7.trans (congrArg Int32.toInt (((hF178.1 231 8 (by decide)).trans (hF120.1 231 8 (by decide))))).symm), (congrArg Int32.toInt (((hF178.1 0 16 (by decide)).trans (hF120.1 0 16 (by decide))))).trans (hR_8.trans (congrArg Int32.toInt (((hF178.1 231 6 (by decide)).trans (hF120.1 231 6 (by decide))))).symm), IM0.cong hR_9 (eA_ti (j := 0) (((hF178.2.1 173 (by decide)).trans (hF120.2.1 173 (by decide))))) (congrArg Int32.toInt (((hF178.1 59 0 (by decide)).trans (hF120.1 59 0 (by decide))))) (eA_ti (j := 0) (((hF178.2.1 234 (by decide)).trans (hF120.2.1 234 (by decide))))) (congrArg Int32.toInt (((hF178.1 59 12 (by decide)).trans (hF120.1 59 12 (by decide))))) (eA_ti (j := 4) (((hF178.2.1 234 (by decide)).trans (hF120.2.1 234 (by decide))))) (congrArg Int32.toInt (((hF178.1 59 10 (by decide)).trans (hF120.1 59 10 (by decide))))) (eA_ti (j := 5) (((hF178.2.1 234 (by decide)).trans (hF120.2.1 234 (by decide))))) (congrArg Int32.toInt (((hF178.1 59 11 (by decide)).trans (hF120.1 59 11 (by decide))))) (eA_ti (j := 6) (((hF178.2.1 234 (by decide)).trans (hF120.2.1 234 (by decide))))) (congrArg Int32.toInt (((hF178.1 59 4 (by decide)).trans (hF120.1 59 4 (by decide))))) (eA_ti (j := 1) (((hF178.2.1 234 (by decide)).trans (hF120.2.1 234 (by decide))))), IM1.cong hR_10 (eA_ti (j := 1) (((hF178.2.1 173 (by decide)).trans (hF120.2.1 173 (by decide))))) (congrArg Int32.toInt (((hF178.1 116 0 (by decide)).trans (hF120.1 116 0 (by decide))))) (eA_ti (j := 5510) (((hF178.2.1 234 (by decide)).trans (hF120.2.1 234 (by decide))))) (congrArg Int32.toInt (((hF178.1 116 12 (by decide)).trans (hF120.1 116 12 (by decide))))) (eA_ti (j := 5514) (((hF178.2.1 234 (by decide)).trans (hF120.2.1 234 (by decide))))) (congrArg Int32.toInt (((hF178.1 116 10 (by decide)).trans (hF120.1 116 10 (by decide))))) (eA_ti (j := 5515) (((hF178.2.1 234 (by decide)).trans (hF120.2.1 234 (by decide))))) (congrArg Int32.toInt (((hF178.1 116 11 (by decide)).trans (hF120.1 116 11 (by decide))))) (eA_ti (j := 5516) (((hF178.2.1 234 (by decide)).trans (hF120.2.1 234 (by decide))))) (congrArg Int32.toInt (((hF178.1 116 4 (by decide)).trans (hF120.1 116 4 (by decide))))) (eA_ti (j := 5511) (((hF178.2.1 234 (by decide)).trans (hF120.2.1 234 (by decide))))), (show CT _ from ⟨fun i i0 i1 => ⟨(by have t0_ := hI0.t0; have t1_ := hI0.t1; have o := (hR_11.1 i i0 i1).1; have x := (eA_ti (j := i) (hF178.2.1 2 (by decide))).trans (q126 i i0 i1); have m := q184 (10 + 3 * i) (by omega) (by omega); have y1 := eA_ti (j := ((10 + 3 * i))) (hF120.2.1 233 (by decide)); have ek0 : (eA g118 233 0).toInt = (gI g0 1 0).toInt := (eA_ti (j := 0) (hF120.2.1 233 (by decide))).trans hR_0.symm; have eC : ((-1 ≤ v2.toInt ∧ v2.toInt ≤ 11 ∧ 1 ≤ v4.toInt ∧ v4.toInt ≤ 9 ∧ 0 ≤ v6.toInt ∧ v6.toInt ≤ 99) ∧ (eA g118 233 0).toInt < 12) = ((-1 ≤ v2.toInt ∧ v2.toInt ≤ 11 ∧ 1 ≤ v4.toInt ∧ v4.toInt ≤ 9 ∧ 0 ≤ v6.toInt ∧ v6.toInt ≤ 99) ∧ (gI g0 1 0).toInt < 12) := (by rw [ek0]); have k : ¬ ((-1 ≤ v2.toInt ∧ v2.toInt ≤ 11 ∧ 1 ≤ v4.toInt ∧ v4.toInt ≤ 9 ∧ 0 ≤ v6.toInt ∧ v6.toInt ≤ 99) ∧ (gI g0 1 0).toInt < 12) := (fun z => absurd pk7.2 (Int.not_le.mpr z.2)); have k2 : ¬ ((-1 ≤ v2.toInt ∧ v2.toInt ≤ 11 ∧ 1 ≤ v4.toInt ∧ v4.toInt ≤ 9 ∧ 0 ≤ v6.toInt ∧ v6.toInt ≤ 99) ∧ (eA g118 233 0).toInt < 12) := fun z => k (eC.mp z); rw [ite_an k] at x; rw [ite_an k2, ite_an k2, ite_an k2] at m; clear eC k2 k; omega), (by have t0_ := hI0.t0; have t1_ := hI0.t1; have o := (hR_11.1 i i0 i1).2.1; have x := (eA_ti (j := i) (hF178.2.1 3 (by decide))).trans (q127 i i0 i1); have m := q184 (10 + 3 * i + 1) (by omega) (by omega); have y1 := eA_ti (j := ((10 + 3 * i + 1))) (hF120.2.1 233 (by decide)); have ek0 : (eA g118 233 0).toInt = (gI g0 1 0).toInt := (eA_ti (j := 0) (hF120.2.1 233 (by decide))).trans hR_0.symm; have eC : ((-1 ≤ v2.toInt ∧ v2.toInt ≤ 11 ∧ 1 ≤ v4.toInt ∧ v4.toInt ≤ 9 ∧ 0 ≤ v6.toInt ∧ v6.toInt ≤ 99) ∧ (eA g118 233 0).toInt < 12) = ((-1 ≤ v2.toInt ∧ v2.toInt ≤ 11 ∧ 1 ≤ v4.toInt ∧ v4.toInt ≤ 9 ∧ 0 ≤ v6.toInt ∧ v6.toInt ≤ 99) ∧ (gI g0 1 0).toInt < 12) := (by rw [ek0]); have k : ¬ ((-1 ≤ v2.toInt ∧ v2.toInt ≤ 11 ∧ 1 ≤ v4.toInt ∧ v4.toInt ≤ 9 ∧ 0 ≤ v6.toInt ∧ v6.toInt ≤ 99) ∧ (gI g0 1 0).toInt < 12) := (fun z => absurd pk7.2 (Int.not_le.mpr z.2)); have k2 : ¬ ((-1 ≤ v2.toInt ∧ v2.toInt ≤ 11 ∧ 1 ≤ v4.toInt ∧ v4.toInt ≤ 9 ∧ 0 ≤ v6.toInt ∧ v6.toInt ≤ 99) ∧ (eA g118 233 0).toInt < 12) := fun z => k (eC.mp z); rw [ite_an k] at x; rw [ite_an k2, ite_an k2, ite_an k2] at m; clear eC k2 k; omega), (by have t0_ := hI0.t0; have t1_ := hI0.t1; have o := (hR_11.1 i i0 i1).2.2; have x := (eA_ti (j := i) (hF178.2.1 4 (by decide))).trans (q128 i i0 i1); have m := q184 (10 + 3 * i + 2) (by omega) (by omega); have y1 := eA_ti (j := ((10 + 3 * i + 2))) (hF120.2.1 233 (by decide)); have ek0 : (eA g118 233 0).toInt = (gI g0 1 0).toInt := (eA_ti (j := 0) (hF120.2.1 233 (by decide))).trans hR_0.symm; have eC : ((-1 ≤ v2.toInt ∧ v2.toInt ≤ 11 ∧ 1 ≤ v4.toInt ∧ v4.toInt ≤ 9 ∧ 0 ≤ v6.toInt ∧ v6.toInt ≤ 99) ∧ (eA g118 233 0).toInt < 12) = ((-1 ≤ v2.toInt ∧ v2.toInt ≤ 11 ∧ 1 ≤ v4.toInt ∧ v4.toInt ≤ 9 ∧ 0 ≤ v6.toInt ∧ v6.toInt ≤ 99) ∧ (gI g0 1 0).toInt < 12) := (by rw [ek0]); have k : ¬ ((-1 ≤ v2.toInt ∧ v2.toInt ≤ 11 ∧ 1 ≤ v4.toInt ∧ v4.toInt ≤ 9 ∧ 0 ≤ v6.toInt ∧ v6.toInt ≤ 99) ∧ (gI g0 1 0).toInt < 12) := (fun z => absurd pk7.2 (Int.not_le.mpr z.2)); have k2 : ¬ ((-1 ≤ v2.toInt ∧ v2.toInt ≤ 11 ∧ 1 ≤ v4.toInt ∧ v4.toInt ≤ 9 ∧ 0 ≤ v6.toInt ∧ v6.toInt ≤ 99) ∧ (eA g118 233 0).toInt < 12) := fun z => k (eC.mp z); rw [ite_an k] at x; rw [ite_an k2, ite_an k2, ite_an k2] at m; clear eC k2 k; omega)⟩, fun i i0 i1 => ⟨(by have t0_ := hI0.t0; have t1_ := hI0.t1; have o := (hR_11.2.1 i i0 i1).1; have x := eA_ti (j := i) (((hF178.2.1 14 (by decide)).trans (hF120.2.1 14 (by decide)))); have m := q184 (94 + 2 * i) (by omega) (by omega); have y1 := eA_ti (j := ((94 + 2 * i))) (hF120.2.1 233 (by decide)); have ek0 : (eA g118 233 0).toInt = (gI g0 1 0).toInt := (eA_ti (j := 0) (hF120.2.1 233 (by decide))).trans hR_0.symm; have eC : ((-1 ≤ v2.toInt ∧ v2.toInt ≤ 11 ∧ 1 ≤ v4.toInt ∧ v4.toInt ≤ 9 ∧ 0 ≤ v6.toInt ∧ v6.toInt ≤ 99) ∧ (eA g118 233 0).toInt < 12) = ((-1 ≤ v2.toInt ∧ v2.toInt ≤ 11 ∧ 1 ≤ v4.toInt ∧ v4.toInt ≤ 9 ∧ 0 ≤ v6.toInt ∧ v6.toInt ≤ 99) ∧ (gI g0 1 0).toInt < 12) := (by rw [ek0]); have k : ¬ ((-1 ≤ v2.toInt ∧ v2.toInt ≤ 11 ∧ 1 ≤ v4.toInt ∧ v4.toInt ≤ 9 ∧ 0 ≤ v6.toInt ∧ v6.toInt ≤ 99) ∧ (gI g0 1 0).toInt < 12) := (fun z => absurd pk7.2 (Int.not_le.mpr z.2)); have k2 : ¬ ((-1 ≤ v2.toInt ∧ v2.toInt ≤ 11 ∧ 1 ≤ v4.toInt ∧ v4.toInt ≤ 9 ∧ 0 ≤ v6.toInt ∧ v6.toInt ≤ 99) ∧ (eA g118 233 0).toInt < 12) := fun z => k (eC.mp z); rw [ite_an k2, ite_an k2, ite_an k2] at m; clear eC k2 k; omega), (by have t0_ := hI0.t0; have t1_ := hI0.t1; have o := (hR_11.2.1 i i0 i1).2; have x := eA_ti (j := i) (((hF178.2.1 15 (by decide)).trans (hF120.2.1 15 (by decide)))); have m := q184 (94 + 2 * i + 1) (by omega) (by omega); have y1 := eA_ti (j := ((94 + 2 * i + 1))) (hF120.2.1 233 (by decide)); have ek0 : (eA g118 233 0).toInt = (gI g0 1 0).toInt := (eA_ti (j := 0) (hF120.2.1 233 (by decide))).trans hR_0.symm; have eC : ((-1 ≤ v2.toInt ∧ v2.toInt ≤ 11 ∧ 1 ≤ v4.toInt ∧ v4.toInt ≤ 9 ∧ 0 ≤ v6.toInt ∧ v6.toInt ≤ 99) ∧ (eA g118 233 0).toInt < 12) = ((-1 ≤ v2.toInt ∧ v2.toInt ≤ 11 ∧ 1 ≤ v4.toInt ∧ v4.toInt ≤ 9 ∧ 0 ≤ v6.toInt ∧ v6.toInt ≤ 99) ∧ (gI g0 1 0).toInt < 12) := (by rw [ek0]); have k : ¬ ((-1 ≤ v2.toInt ∧ v2.toInt ≤ 11 ∧ 1 ≤ v4.toInt ∧ v4.toInt ≤ 9 ∧ 0 ≤ v6.toInt ∧ v6.toInt ≤ 99) ∧ (gI g0 1 0).toInt < 12) := (fun z => absurd pk7.2 (Int.not_le.mpr z.2)); have k2 : ¬ ((-1 ≤ v2.toInt ∧ v2.toInt ≤ 11 ∧ 1 ≤ v4.toInt ∧ v4.toInt ≤ 9 ∧ 0 ≤ v6.toInt ∧ v6.toInt ≤ 99) ∧ (eA g118 233 0).toInt < 12) := fun z => k (eC.mp z); rw [ite_an k2, ite_an k2, ite_an k2] at m; clear eC k2 k; omega)⟩, fun i i0 i1 => (by have t0_ := hI0.t0; have t1_ := hI0.t1; have o : i < 6 * (gI g0 1 4).toInt → _ := fun hz => hR_11.2.2 i i0 hz; have x := eA_ti (j := i) (((hF178.2.1 5 (by decide)).trans (hF120.2.1 5 (by decide)))); have m := q184 (46 + i) (by omega) (by omega); have y1 := eA_ti (j := ((46 + i))) (hF120.2.1 233 (by decide)); have ek0 : (eA g118 233 0).toInt = (gI g0 1 0).toInt := (eA_ti (j := 0) (hF120.2.1 233 (by decide))).trans hR_0.symm; have eC : ((-1 ≤ v2.toInt ∧ v2.toInt ≤ 11 ∧ 1 ≤ v4.toInt ∧ v4.toInt ≤ 9 ∧ 0 ≤ v6.toInt ∧ v6.toInt ≤ 99) ∧ (eA g118 233 0).toInt < 12) = ((-1 ≤ v2.toInt ∧ v2.toInt ≤ 11 ∧ 1 ≤ v4.toInt ∧ v4.toInt ≤ 9 ∧ 0 ≤ v6.toInt ∧ v6.toInt ≤ 99) ∧ (gI g0 1 0).toInt < 12) := (by rw [ek0]); have k : ¬ ((-1 ≤ v2.toInt ∧ v2.toInt ≤ 11 ∧ 1 ≤ v4.toInt ∧ v4.toInt ≤ 9 ∧ 0 ≤ v6.toInt ∧ v6.toInt ≤ 99) ∧ (gI g0 1 0).toInt < 12) := (fun z => absurd pk7.2 (Int.not_le.mpr z.2)); have k2 : ¬ ((-1 ≤ v2.toInt ∧ v2.toInt ≤ 11 ∧ 1 ≤ v4.toInt ∧ v4.toInt ≤ 9 ∧ 0 ≤ v6.toInt ∧ v6.toInt ≤ 99) ∧ (eA g118 233 0).toInt < 12) := fun z => k (eC.mp z); rw [ite_an k2, ite_an k2, ite_an k2] at m; clear eC k2 k; omega)⟩), CI0.cong hR_12 (((hF178.2.1 60 (by decide)).trans (hF120.2.1 60 (by decide)))) (((hF178.2.1 61 (by decide)).trans (hF120.2.1 61 (by decide)))) (((hF178.2.1 62 (by decide)).trans (hF120.2.1 62 (by decide)))) (((hF178.2.1 72 (by decide)).trans (hF120.2.1 72 (by decide)))) (((hF178.2.1 73 (by decide)).trans (hF120.2.1 73 (by decide)))) (((hF178.2.1 63 (by decide)).trans (hF120.2.1 63 (by decide)))) (((hF178.2.1 234 (by decide)).trans (hF120.2.1 234 (by decide)))) (congrArg Int32.toInt (((hF178.1 59 4 (by decide)).trans (hF120.1 59 4 (by decide))))), CI1.cong hR_13 (((hF178.2.1 117 (by decide)).trans (hF120.2.1 117 (by decide)))) (((hF178.2.1 118 (by decide)).trans (hF120.2.1 118 (by decide)))) (((hF178.2.1 119 (by decide)).trans (hF120.2.1 119 (by decide)))) (((hF178.2.1 129 (by decide)).trans (hF120.2.1 129 (by decide)))) (((hF178.2.1 130 (by decide)).trans (hF120.2.1 130 (by decide)))) (((hF178.2.1 120 (by decide)).trans (hF120.2.1 120 (by decide)))) (((hF178.2.1 234 (by decide)).trans (hF120.2.1 234 (by decide)))) (congrArg Int32.toInt (((hF178.1 116 4 (by decide)).trans (hF120.1 116 4 (by decide))))), (show RT _ from fun i i0 i1 => (eA_ti (((hF178.2.1 175 (by decide)).trans (hF120.2.1 175 (by decide))))).trans ((hR_14 i i0 (by omega)).trans (eA_ti (((hF178.2.1 236 (by decide)).trans (hF120.2.1 236 (by decide))))).symm))⟩)
  · refine r_callV 227 rfl [.ref 0, .int v2, .int v4, .int v6] [] (Nat.le_of_ble_eq_true rfl) rfl (T_X10_stand_0 _ hI0 v2 v4 v6) ?_
    rintro _ _ ⟨g228, rfl, hI229, hF230, v231, rfl, hr232⟩
    refine At.sti ?_
    have hF233 := Fr.tr hF0 hF230 rfl rfl
    obtain ⟨q234, q235, q236, q237, q238⟩ := hr232
    obtain ⟨i240, i241, i242⟩ := q235
    have w239 := i242 ⟨pk7.1, Int.not_le.mp pk7.2⟩
    clear i240 i241 i242
    have f243 := congrArg Int32.toInt (hF230.1 1 12 rfl)
    have f244 := congrArg Int32.toInt (hF230.1 1 10 rfl)
    have f245 := congrArg Int32.toInt (hF230.1 1 11 rfl)
    have f246 := congrArg Int32.toInt (hF230.1 1 4 rfl)
    have f247 := congrArg Int32.toInt (hF230.1 59 0 rfl)
    have f248 := congrArg Int32.toInt (hF230.1 59 12 rfl)
    have f249 := congrArg Int32.toInt (hF230.1 59 10 rfl)
    have f250 := congrArg Int32.toInt (hF230.1 59 11 rfl)
    have f251 := congrArg Int32.toInt (hF230.1 59 4 rfl)
    have f252 := congrArg Int32.toInt (hF230.1 116 0 rfl)
    have f253 := congrArg Int32.toInt (hF230.1 116 12 rfl)
    have f254 := congrArg Int32.toInt (hF230.1 116 10 rfl)
    have f255 := congrArg Int32.toInt (hF230.1 116 11 rfl)
    have f256 := congrArg Int32.toInt (hF230.1 116 4 rfl)
    have f257 := congrArg Int32.toInt (eA_c (j := 0) (hF230.2.1 173 rfl))
    have f258 := congrArg Int32.toInt (eA_c (j := 1) (hF230.2.1 173 rfl))
    have f259 := congrArg Int32.toInt (hF230.1 174 1 rfl)
    have f260 := congrArg Int32.toInt (hF230.1 0 16 rfl)
    have f261 := congrArg Int32.toInt (eA_c (j := 0) (hF230.2.1 233 rfl))
    have f262 := congrArg Int32.toInt (eA_c (j := 4) (hF230.2.1 233 rfl))
    have f263 := congrArg Int32.toInt (eA_c (j := 5) (hF230.2.1 233 rfl))
    have f264 := congrArg Int32.toInt (eA_c (j := 6) (hF230.2.1 233 rfl))
    have f265 := congrArg Int32.toInt (eA_c (j := 1) (hF230.2.1 233 rfl))
    have f266 := congrArg Int32.toInt (eA_c (j := 0) (hF230.2.1 234 rfl))
    have f267 := congrArg Int32.toInt (eA_c (j := 4) (hF230.2.1 234 rfl))
    have f268 := congrArg Int32.toInt (eA_c (j := 5) (hF230.2.1 234 rfl))
    have f269 := congrArg Int32.toInt (eA_c (j := 6) (hF230.2.1 234 rfl))
    have f270 := congrArg Int32.toInt (eA_c (j := 1) (hF230.2.1 234 rfl))
    have f271 := congrArg Int32.toInt (eA_c (j := 5510) (hF230.2.1 234 rfl))
    have f272 := congrArg Int32.toInt (eA_c (j := 5514) (hF230.2.1 234 rfl))
    have f273 := congrArg Int32.toInt (eA_c (j := 5515) (hF230.2.1 234 rfl))
    have f274 := congrArg Int32.toInt (eA_c (j := 5516) (hF230.2.1 234 rfl))
    have f275 := congrArg Int32.toInt (eA_c (j := 5511) (hF230.2.1 234 rfl))
    have f276 := congrArg Int32.toInt (eA_c (j := 0) (hF230.2.1 235 rfl))
    have f277 := congrArg Int32.toInt (eA_c (j := 1) (hF230.2.1 235 rfl))
    have f278 := congrArg Int32.toInt (hF230.1 231 8 rfl)
    have f279 := congrArg Int32.toInt (hF230.1 231 6 rfl)
    refine At.enter rfl ?_
    refine r_pop rfl ?_
    refine r_aload_n e2 ?_
    refine r_sload_n e0 ?_
    refine r_iload_n e3 ?_
    refine r_iconst 1 rfl ?_
    refine q_iadd (i.toInt + 1) rfl hx_1 (fun v280 hv280 => ?_)
    refine q_scald (m := L) hL (i.toInt + 1) hv280 hy_1 (fun v281 hv281 => ?_)
    have sv281 := hv2.symm.trans hv281
    subst sv281
    refine r_sload_n e0 ?_
    refine r_iload_n e3 ?_
    refine r_iconst 2 rfl ?_
    refine q_iadd (i.toInt + 2) rfl hx_2 (fun v282 hv282 => ?_)
    refine q_scald (m := L) hL (i.toInt + 2) hv282 hy_2 (fun v283 hv283 => ?_)
    have sv283 := hv4.symm.trans hv283
    subst sv283
    refine r_sload_n e0 ?_
    refine r_iload_n e3 ?_
    refine r_iconst 3 rfl ?_
    refine q_iadd (i.toInt + 3) rfl hx_3 (fun v284 hv284 => ?_)
    refine q_scald (m := L) hL (i.toInt + 3) hv284 hy_3 (fun v285 hv285 => ?_)
    have sv285 := hv6.symm.trans hv285
    subst sv285
    refine r_callV 247 rfl [.ref 231, .int v2, .int v4, .int v6] [] (Nat.le_of_ble_eq_true rfl) rfl (T_X11_stand_231 _ hI229 v2 v4 v6) ?_
    rintro _ _ ⟨g286, rfl, hI287, hF288, v289, rfl, hr290⟩
    refine At.sti ?_
    have hF291 := Fr.tr hF233 hF288 rfl rfl
    obtain ⟨q292, q293, q294⟩ := hr290
    have ek303 : (eA g228 233 0).toInt = (gI g0 1 0).toInt := (eA_ti (j := 0) (hF230.2.1 233 (by decide))).trans hR_0.symm
    have ek304 : (eA g228 233 1).toInt = (gI g0 1 4).toInt := (eA_ti (j := 1) (hF230.2.1 233 (by decide))).trans hR_4.symm
    obtain ⟨⟨i296, i297, i298⟩, sm299, sm300, sm301, sm302⟩ := q293
    have w295 := i298 ⟨pk7.1, Int.not_le.mp (by rw [ek303]; exact pk7.2)⟩
    clear i296 i297 i298
    have f305 := congrArg Int32.toInt (hF288.1 1 0 rfl)
    have f306 := congrArg Int32.toInt (hF288.1 1 12 rfl)
    have f307 := congrArg Int32.toInt (hF288.1 1 10 rfl)
    have f308 := congrArg Int32.toInt (hF288.1 1 11 rfl)
    have f309 := congrArg Int32.toInt (hF288.1 1 4 rfl)
    have f310 := congrArg Int32.toInt (hF288.1 59 0 rfl)
    have f311 := congrArg Int32.toInt (hF288.1 59 12 rfl)
    have f312 := congrArg Int32.toInt (hF288.1 59 10 rfl)
    have f313 := congrArg Int32.toInt (hF288.1 59 11 rfl)
    have f314 := congrArg Int32.toInt (hF288.1 59 4 rfl)
    have f315 := congrArg Int32.toInt (hF288.1 116 0 rfl)
    have f316 := congrArg Int32.toInt (hF288.1 116 12 rfl)
    have f317 := congrArg Int32.toInt (hF288.1 116 10 rfl)
    have f318 := congrArg Int32.toInt (hF288.1 116 11 rfl)
    have f319 := congrArg Int32.toInt (hF288.1 116 4 rfl)
    have f320 := congrArg Int32.toInt (eA_c (j := 0) (hF288.2.1 173 rfl))
    have f321 := congrArg Int32.toInt (eA_c (j := 1) (hF288.2.1 173 rfl))
    have f322 := congrArg Int32.toInt (hF288.1 174 1 rfl)
    have f323 := congrArg Int32.toInt (hF288.1 0 16 rfl)
    have f324 := congrArg Int32.toInt (eA_c (j := 0) (hF288.2.1 234 rfl))
    have f325 := congrArg Int32.toInt (eA_c (j := 4) (hF288.2.1 234 rfl))
    have f326 := congrArg Int32.toInt (eA_c (j := 5) (hF288.2.1 234 rfl))
    have f327 := congrArg Int32.toInt (eA_c (j := 6) (hF288.2.1 234 rfl))
    have f328 := congrArg Int32.toInt (eA_c (j := 1) (hF288.2.1 234 rfl))
    have f329 := congrArg Int32.toInt (eA_c (j := 5510) (hF288.2.1 234 rfl))
    have f330 := congrArg Int32.toInt (eA_c (j := 5514) (hF288.2.1 234 rfl))
    have f331 := congrArg Int32.toInt (eA_c (j := 5515) (hF288.2.1 234 rfl))
    have f332 := congrArg Int32.toInt (eA_c (j := 5516) (hF288.2.1 234 rfl))
    have f333 := congrArg Int32.toInt (eA_c (j := 5511) (hF288.2.1 234 rfl))
    have f334 := congrArg Int32.toInt (eA_c (j := 0) (hF288.2.1 235 rfl))
    have f335 := congrArg Int32.toInt (eA_c (j := 1) (hF288.2.1 235 rfl))
    have f336 := congrArg Int32.toInt (hF288.1 231 8 rfl)
    have f337 := congrArg Int32.toInt (hF288.1 231 6 rfl)
    refine At.enter rfl ?_
    refine r_pop rfl ?_
    refine r_goto ?_
    exact K _ hI287 (show LwR _ from ⟨by omega, by omega, by omega, by omega, by omega, (eA_ti (j := 0) (((hF288.2.1 173 (by decide)).trans (hF230.2.1 173 (by decide))))).trans (hR_5.trans (eA_ti (j := 0) (((hF288.2.1 235 (by decide)).trans (hF230.2.1 235 (by decide))))).symm), (eA_ti (j := 1) (((hF288.2.1 173 (by decide)).trans (hF230.2.1 173 (by decide))))).trans (hR_6.trans (eA_ti (j := 1) (((hF288.2.1 235 (by decide)).trans (hF230.2.1 235 (by decide))))).symm), (congrArg Int32.toInt (((hF288.1 174 1 (by decide)).trans (hF230.1 174 1 (by decide))))).trans (hR_7.trans (congrArg Int32.toInt (((hF288.1 231 8 (by decide)).trans (hF230.1 231 8 (by decide))))).symm), (congrArg Int32.toInt (((hF288.1 0 16 (by decide)).trans (hF230.1 0 16 (by decide))))).trans (hR_8.trans (congrArg Int32.toInt (((hF288.1 231 6 (by decide)).trans (hF230.1 231 6 (by decide))))).symm), IM0.cong hR_9 (eA_ti (j := 0) (((hF288.2.1 173 (by decide)).trans (hF230.2.1 173 (by decide))))) (congrArg Int32.toInt (((hF288.1 59 0 (by decide)).trans (hF230.1 59 0 (by decide))))) (eA_ti (j := 0) (((hF288.2.1 234 (by decide)).trans (hF230.2.1 234 (by decide))))) (congrArg Int32.toInt (((hF288.1 59 12 (by decide)).trans (hF230.1 59 12 (by decide))))) (eA_ti (j := 4) (((hF288.2.1 234 (by decide)).trans (hF230.2.1 234 (by decide))))) (congrArg Int32.toInt (((hF288.1 59 10 (by decide)).trans (hF230.1 59 10 (by decide))))) (eA_ti (j := 5) (((hF288.2.1 234 (by decide)).trans (hF230.2.1 234 (by decide))))) (congrArg Int32.toInt (((hF288.1 59 11 (by decide)).trans (hF230.1 59 11 (by decide))))) (eA_ti (j := 6) (((hF288.2.1 234 (by decide)).trans (hF230.2.1 234 (by decide))))) (congrArg Int32.toInt (((hF288.1 59 4 (by decide)).trans (hF230.1 59 4 (by decide))))) (eA_ti (j := 1) (((hF288.2.1 234 (by decide)).trans (hF230.2.1 234 (by decide))))), IM1.cong hR_10 (eA_ti (j := 1) (((hF288.2.1 173 (by decide)).trans (hF230.2.1 173 (by decide))))) (congrArg Int32.toInt (((hF288.1 116 0 (by decide)).trans (hF230.1 116 0 (by decide))))) (eA_ti (j := 5510) (((hF288.2.1 234 (by decide)).trans (hF230.2.1 234 (by decide))))) (congrArg Int32.toInt (((hF288.1 116 12 (by decide)).trans (hF230.1 116 12 (by decide))))) (eA_ti (j := 5514) (((hF288.2.1 234 (by decide)).trans (hF230.2.1 234 (by decide))))) (congrArg Int32.toInt (((hF288.1 116 10 (by decide)).trans (hF230.1 116 10 (by decide))))) (eA_ti (j := 5515) (((hF288.2.1 234 (by decide)).trans (hF230.2.1 234 (by decide))))) (congrArg Int32.toInt (((hF288.1 116 11 (by decide)).trans (hF230.1 116 11 (by decide))))) (eA_ti (j := 5516) (((hF288.2.1 234 (by decide)).trans (hF230.2.1 234 (by decide))))) (congrArg Int32.toInt (((hF288.1 116 4 (by decide)).trans (hF230.1 116 4 (by decide))))) (eA_ti (j := 5511) (((hF288.2.1 234 (by decide)).trans (hF230.2.1 234 (by decide))))), (show CT _ from ⟨fun i i0 i1 => ⟨(by have t0_ := hI0.t0; have t1_ := hI0.t1; have o := (hR_11.1 i i0 i1).1; have x := (eA_ti (j := i) (hF288.2.1 2 (by decide))).trans (q236 i i0 i1); have m := q294 (10 + 3 * i) (by omega) (by omega); have y1 := eA_ti (j := ((10 + 3 * i))) (hF230.2.1 233 (by decide)); have ek0 : (eA g228 233 0).toInt = (gI g0 1 0).toInt := (eA_ti (j := 0) (hF230.2.1 233 (by decide))).trans hR_0.symm; have eC : ((-1 ≤ v2.toInt ∧ v2.toInt ≤ 11 ∧ 1 ≤ v4.toInt ∧ v4.toInt ≤ 9 ∧ 0 ≤ v6.toInt ∧ v6.toInt ≤ 99) ∧ (eA g228 233 0).toInt < 12) = ((-1 ≤ v2.toInt ∧ v2.toInt ≤ 11 ∧ 1 ≤ v4.toInt ∧ v4.toInt ≤ 9 ∧ 0 ≤ v6.toInt ∧ v6.toInt ≤ 99) ∧ (gI g0 1 0).toInt < 12) := (by rw [ek0]); have k : (-1 ≤ v2.toInt ∧ v2.toInt ≤ 11 ∧ 1 ≤ v4.toInt ∧ v4.toInt ≤ 9 ∧ 0 ≤ v6.toInt ∧ v6.toInt ≤ 99) ∧ (gI g0 1 0).toInt < 12 := ⟨pk7.1, Int.not_le.mp pk7.2⟩; have k2 := eC.mpr k; rw [ite_ap k] at x; rw [ite_ap k2, ite_ap k2, ite_ap k2] at m; clear eC k2; (try split at x) <;> (try split at m) <;> (try split at m) <;> (try split at m) <;> omega), (by have t0_ := hI0.t0; have t1_ := hI0.t1; have o := (hR_11.1 i i0 i1).2.1; have x := (eA_ti (j := i) (hF288.2.1 3 (by decide))).trans (q237 i i0 i1); have m := q294 (10 + 3 * i + 1) (by omega) (by omega); have y1 := eA_ti (j := ((10 + 3 * i + 1))) (hF230.2.1 233 (by decide)); have ek0 : (eA g228 233 0).toInt = (gI g0 1 0).toInt := (eA_ti (j := 0) (hF230.2.1 233 (by decide))).trans hR_0.symm; have eC : ((-1 ≤ v2.toInt ∧ v2.toInt ≤ 11 ∧ 1 ≤ v4.toInt ∧ v4.toInt ≤ 9 ∧ 0 ≤ v6.toInt ∧ v6.toInt ≤ 99) ∧ (eA g228 233 0).toInt < 12) = ((-1 ≤ v2.toInt ∧ v2.toInt ≤ 11 ∧ 1 ≤ v4.toInt ∧ v4.toInt ≤ 9 ∧ 0 ≤ v6.toInt ∧ v6.toInt ≤ 99) ∧ (gI g0 1 0).toInt < 12) := (by rw [ek0]); have k : (-1 ≤ v2.toInt ∧ v2.toInt ≤ 11 ∧ 1 ≤ v4.toInt ∧ v4.toInt ≤ 9 ∧ 0 ≤ v6.toInt ∧ v6.toInt ≤ 99) ∧ (gI g0 1 0).toInt < 12 := ⟨pk7.1, Int.not_le.mp pk7.2⟩; have k2 := eC.mpr k; rw [ite_ap k] at x; rw [ite_ap k2, ite_ap k2, ite_ap k2] at m; clear eC k2; (try split at x) <;> (try split at m) <;> (try split at m) <;> (try split at m) <;> omega), (by have t0_ := hI0.t0; have t1_ := hI0.t1; have o := (hR_11.1 i i0 i1).2.2; have x := (eA_ti (j := i) (hF288.2.1 4 (by decide))).trans (q238 i i0 i1); have m := q294 (10 + 3 * i + 2) (by omega) (by omega); have y1 := eA_ti (j := ((10 + 3 * i + 2))) (hF230.2.1 233 (by decide)); have ek0 : (eA g228 233 0).toInt = (gI g0 1 0).toInt := (eA_ti (j := 0) (hF230.2.1 233 (by decide))).trans hR_0.symm; have eC : ((-1 ≤ v2.toInt ∧ v2.toInt ≤ 11 ∧ 1 ≤ v4.toInt ∧ v4.toInt ≤ 9 ∧ 0 ≤ v6.toInt ∧ v6.toInt ≤ 99) ∧ (eA g228 233 0).toInt < 12) = ((-1 ≤ v2.toInt ∧ v2.toInt ≤ 11 ∧ 1 ≤ v4.toInt ∧ v4.toInt ≤ 9 ∧ 0 ≤ v6.toInt ∧ v6.toInt ≤ 99) ∧ (gI g0 1 0).toInt < 12) := (by rw [ek0]); have k : (-1 ≤ v2.toInt ∧ v2.toInt ≤ 11 ∧ 1 ≤ v4.toInt ∧ v4.toInt ≤ 9 ∧ 0 ≤ v6.toInt ∧ v6.toInt ≤ 99) ∧ (gI g0 1 0).toInt < 12 := ⟨pk7.1, Int.not_le.mp pk7.2⟩; have k2 := eC.mpr k; rw [ite_ap k] at x; rw [ite_ap k2, ite_ap k2, ite_ap k2] at m; clear eC k2; (try split at x) <;> (try split at m) <;> (try split at m) <;> (try split at m) <;> omega)⟩, fun i i0 i1 => ⟨(by have t0_ := hI0.t0; have t1_ := hI0.t1; have o := (hR_11.2.1 i i0 i1).1; have x := eA_ti (j := i) (((hF288.2.1 14 (by decide)).trans (hF230.2.1 14 (by decide)))); have m := q294 (94 + 2 * i) (by omega) (by omega); have y1 := eA_ti (j := ((94 + 2 * i))) (hF230.2.1 233 (by decide)); have ek0 : (eA g228 233 0).toInt = (gI g0 1 0).toInt := (eA_ti (j := 0) (hF230.2.1 233 (by decide))).trans hR_0.symm; have eC : ((-1 ≤ v2.toInt ∧ v2.toInt ≤ 11 ∧ 1 ≤ v4.toInt ∧ v4.toInt ≤ 9 ∧ 0 ≤ v6.toInt ∧ v6.toInt ≤ 99) ∧ (eA g228 233 0).toInt < 12) = ((-1 ≤ v2.toInt ∧ v2.toInt ≤ 11 ∧ 1 ≤ v4.toInt ∧ v4.toInt ≤ 9 ∧ 0 ≤ v6.toInt ∧ v6.toInt ≤ 99) ∧ (gI g0 1 0).toInt < 12) := (by rw [ek0]); have k : (-1 ≤ v2.toInt ∧ v2.toInt ≤ 11 ∧ 1 ≤ v4.toInt ∧ v4.toInt ≤ 9 ∧ 0 ≤ v6.toInt ∧ v6.toInt ≤ 99) ∧ (gI g0 1 0).toInt < 12 := ⟨pk7.1, Int.not_le.mp pk7.2⟩; have k2 := eC.mpr k; rw [ite_ap k2, ite_ap k2, ite_ap k2] at m; clear eC k2; (try split at m) <;> (try split at m) <;> (try split at m) <;> omega), (by have t0_ := hI0.t0; have t1_ := hI0.t1; have o := (hR_11.2.1 i i0 i1).2; have x := eA_ti (j := i) (((hF288.2.1 15 (by decide)).trans (hF230.2.1 15 (by decide)))); have m := q294 (94 + 2 * i + 1) (by omega) (by omega); have y1 := eA_ti (j := ((94 + 2 * i + 1))) (hF230.2.1 233 (by decide)); have ek0 : (eA g228 233 0).toInt = (gI g0 1 0).toInt := (eA_ti (j := 0) (hF230.2.1 233 (by decide))).trans hR_0.symm; have eC : ((-1 ≤ v2.toInt ∧ v2.toInt ≤ 11 ∧ 1 ≤ v4.toInt ∧ v4.toInt ≤ 9 ∧ 0 ≤ v6.toInt ∧ v6.toInt ≤ 99) ∧ (eA g228 233 0).toInt < 12) = ((-1 ≤ v2.toInt ∧ v2.toInt ≤ 11 ∧ 1 ≤ v4.toInt ∧ v4.toInt ≤ 9 ∧ 0 ≤ v6.toInt ∧ v6.toInt ≤ 99) ∧ (gI g0 1 0).toInt < 12) := (by rw [ek0]); have k : (-1 ≤ v2.toInt ∧ v2.toInt ≤ 11 ∧ 1 ≤ v4.toInt ∧ v4.toInt ≤ 9 ∧ 0 ≤ v6.toInt ∧ v6.toInt ≤ 99) ∧ (gI g0 1 0).toInt < 12 := ⟨pk7.1, Int.not_le.mp pk7.2⟩; have k2 := eC.mpr k; rw [ite_ap k2, ite_ap k2, ite_ap k2] at m; clear eC k2; (try split at m) <;> (try split at m) <;> (try split at m) <;> omega)⟩, fun i i0 i1 => (by have t0_ := hI0.t0; have t1_ := hI0.t1; have o : i < 6 * (gI g0 1 4).toInt → _ := fun hz => hR_11.2.2 i i0 hz; have x := eA_ti (j := i) (((hF288.2.1 5 (by decide)).trans (hF230.2.1 5 (by decide)))); have m := q294 (46 + i) (by omega) (by omega); have y1 := eA_ti (j := ((46 + i))) (hF230.2.1 233 (by decide)); have ek0 : (eA g228 233 0).toInt = (gI g0 1 0).toInt := (eA_ti (j := 0) (hF230.2.1 233 (by decide))).trans hR_0.symm; have eC : ((-1 ≤ v2.toInt ∧ v2.toInt ≤ 11 ∧ 1 ≤ v4.toInt ∧ v4.toInt ≤ 9 ∧ 0 ≤ v6.toInt ∧ v6.toInt ≤ 99) ∧ (eA g228 233 0).toInt < 12) = ((-1 ≤ v2.toInt ∧ v2.toInt ≤ 11 ∧ 1 ≤ v4.toInt ∧ v4.toInt ≤ 9 ∧ 0 ≤ v6.toInt ∧ v6.toInt ≤ 99) ∧ (gI g0 1 0).toInt < 12) := (by rw [ek0]); have k : (-1 ≤ v2.toInt ∧ v2.toInt ≤ 11 ∧ 1 ≤ v4.toInt ∧ v4.toInt ≤ 9 ∧ 0 ≤ v6.toInt ∧ v6.toInt ≤ 99) ∧ (gI g0 1 0).toInt < 12 := ⟨pk7.1, Int.not_le.mp pk7.2⟩; have k2 := eC.mpr k; rw [ite_ap k2, ite_ap k2, ite_ap k2] at m; clear eC k2; (try split at m) <;> (try split at m) <;> (try split at m) <;> omega)⟩), CI0.cong hR_12 (((hF288.2.1 60 (by decide)).trans (hF230.2.1 60 (by decide)))) (((hF288.2.1 61 (by decide)).trans (hF230.2.1 61 (by decide)))) (((hF288.2.1 62 (by decide)).trans (hF230.2.1 62 (by decide)))) (((hF288.2.1 72 (by decide)).trans (hF230.2.1 72 (by decide)))) (((hF288.2.1 73 (by decide)).trans (hF230.2.1 73 (by decide)))) (((hF288.2.1 63 (by decide)).trans (hF230.2.1 63 (by decide)))) (((hF288.2.1 234 (by decide)).trans (hF230.2.1 234 (by decide)))) (congrArg Int32.toInt (((hF288.1 59 4 (by decide)).trans (hF230.1 59 4 (by decide))))), CI1.cong hR_13 (((hF288.2.1 117 (by decide)).trans (hF230.2.1 117 (by decide)))) (((hF288.2.1 118 (by decide)).trans (hF230.2.1 118 (by decide)))) (((hF288.2.1 119 (by decide)).trans (hF230.2.1 119 (by decide)))) (((hF288.2.1 129 (by decide)).trans (hF230.2.1 129 (by decide)))) (((hF288.2.1 130 (by decide)).trans (hF230.2.1 130 (by decide)))) (((hF288.2.1 120 (by decide)).trans (hF230.2.1 120 (by decide)))) (((hF288.2.1 234 (by decide)).trans (hF230.2.1 234 (by decide)))) (congrArg Int32.toInt (((hF288.1 116 4 (by decide)).trans (hF230.1 116 4 (by decide))))), (show RT _ from fun i i0 i1 => (eA_ti (((hF288.2.1 175 (by decide)).trans (hF230.2.1 175 (by decide))))).trans ((hR_14 i i0 (by omega)).trans (eA_ti (((hF288.2.1 236 (by decide)).trans (hF230.2.1 236 (by decide))))).symm))⟩)
