set_option maxRecDepth 100000 in
set_option maxHeartbeats 8000000 in
theorem lq_c36 (d : Nat) {N : Nat} {g0 : List en_E} (hI0 : HI g0) (hR0 : LwR g0) {ys : List Int32} {L : Nat} (hL : ys.length = L) (hL2 : L ≤ 3584) {l : en_L} {i : Int32} (e0 : en_get 0 l = some (.float 0)) (e1 : en_get 1 l = some (.ref 0)) (e2 : en_get 2 l = some (.ref 231)) (e3 : en_get 3 l = some (.int i)) (hi : 0 ≤ i.toInt ∧ i.toInt + 7 ≤ L) {Ph : Option Value → en_H → Prop} (K : ∀ g1 : List en_E, HI g1 → LwR g1 → At (d + 423) (some ys) (some .boolean) bs_L_law (1330, l, [], (g1, N)) Ph) : At (d + 423) (some ys) (some .boolean) bs_L_law (1248, l, [], (g0, N)) Ph := by
  have hF0 : Fr F_law A_law g0 g0 := Fr.rf
  have hx_1 : -2147483648 ≤ i.toInt + 1 ∧ i.toInt + 1 ≤ 2147483647 := by omega
  have hx_2 : -2147483648 ≤ i.toInt + 2 ∧ i.toInt + 2 ≤ 2147483647 := by omega
  have hx_3 : -2147483648 ≤ i.toInt + 3 ∧ i.toInt + 3 ≤ 2147483647 := by omega
  have hx_4 : -2147483648 ≤ i.toInt + 4 ∧ i.toInt + 4 ≤ 2147483647 := by omega
  have hx_5 : -2147483648 ≤ i.toInt + 5 ∧ i.toInt + 5 ≤ 2147483647 := by omega
  have hx_6 : -2147483648 ≤ i.toInt + 6 ∧ i.toInt + 6 ≤ 2147483647 := by omega
  have hy_0 : 0 ≤ i.toInt ∧ i.toInt < (L : Int) := by omega
  have hy_1 : 0 ≤ i.toInt + 1 ∧ i.toInt + 1 < (L : Int) := by omega
  have hy_2 : 0 ≤ i.toInt + 2 ∧ i.toInt + 2 < (L : Int) := by omega
  have hy_3 : 0 ≤ i.toInt + 3 ∧ i.toInt + 3 < (L : Int) := by omega
  have hy_4 : 0 ≤ i.toInt + 4 ∧ i.toInt + 4 < (L : Int) := by omega
  have hy_5 : 0 ≤ i.toInt + 5 ∧ i.toInt + 5 < (L : Int) := by omega
  have hy_6 : 0 ≤ i.toInt + 6 ∧ i.toInt + 6 < (L : Int) := by omega
  unfold LwR at hR0
  obtain ⟨hR_0, hR_1, hR_2, hR_3, hR_4, hR_5, hR_6, hR_7, hR_8, hR_9, hR_10, hR_11, hR_12, hR_13⟩ := hR0
  refine At.enter rfl ?_
  refine r_aload_n e1 ?_
  refine r_sload_n e0 ?_
  refine r_iload_n e3 ?_
  refine r_iconst 1 rfl ?_
  refine q_iadd (i.toInt + 1) rfl hx_1 (fun v1 hv1 => ?_)
  refine q_scald (m := L) hL (i.toInt + 1) hv1 hy_1 (fun v2 hv2 => ?_)
  rcases (show v2.toInt = 0 ∨ v2.toInt = 1 ∨ (v2.toInt < 0 ∨ 1 < v2.toInt) by omega) with u3 | u3 | u3
  · have n4_e : v2.toInt = 0 := by omega
    have n4_1 : v2.toInt ≠ 1 := by omega
    refine r_callV 1257 rfl [.ref 0, .int v2] [] (Nat.le_of_ble_eq_true rfl) rfl (T_X10_image_0 _ hI0 v2) ?_
    rintro _ _ ⟨g5, rfl, hI6, hF7, v8, rfl, hr9⟩
    refine At.sti ?_
    have hF10 := Fr.tr hF0 hF7 rfl rfl
    obtain ⟨p11, p12, p13, p14, p15, p16⟩ := hr9
    have w17 := p12 n4_e
    have w18 := p15 n4_1
    clear p12 p13 p14 p15 p16
    have f20 := congrArg Int32.toInt (hF7.1 1 0 rfl)
    have f21 := congrArg Int32.toInt (hF7.1 1 12 rfl)
    have f22 := congrArg Int32.toInt (hF7.1 1 10 rfl)
    have f23 := congrArg Int32.toInt (hF7.1 1 11 rfl)
    have f24 := congrArg Int32.toInt (hF7.1 1 6 rfl)
    have f25 := congrArg Int32.toInt (hF7.1 1 9 rfl)
    have f40 := congrArg Int32.toInt (hF7.1 174 1 rfl)
    have f41 := congrArg Int32.toInt (hF7.1 176 2 rfl)
    have f42 := congrArg Int32.toInt (eA_c (j := 0) (hF7.2.1 233 rfl))
    have f43 := congrArg Int32.toInt (eA_c (j := 4) (hF7.2.1 233 rfl))
    have f44 := congrArg Int32.toInt (eA_c (j := 5) (hF7.2.1 233 rfl))
    have f45 := congrArg Int32.toInt (eA_c (j := 6) (hF7.2.1 233 rfl))
    have f46 := congrArg Int32.toInt (eA_c (j := 2) (hF7.2.1 233 rfl))
    have f47 := congrArg Int32.toInt (eA_c (j := 3) (hF7.2.1 233 rfl))
    have f48 := congrArg Int32.toInt (eA_c (j := 0) (hF7.2.1 234 rfl))
    have f49 := congrArg Int32.toInt (eA_c (j := 4) (hF7.2.1 234 rfl))
    have f50 := congrArg Int32.toInt (eA_c (j := 5) (hF7.2.1 234 rfl))
    have f51 := congrArg Int32.toInt (eA_c (j := 6) (hF7.2.1 234 rfl))
    have f52 := congrArg Int32.toInt (eA_c (j := 2) (hF7.2.1 234 rfl))
    have f53 := congrArg Int32.toInt (eA_c (j := 3) (hF7.2.1 234 rfl))
    have f54 := congrArg Int32.toInt (eA_c (j := 5510) (hF7.2.1 234 rfl))
    have f55 := congrArg Int32.toInt (eA_c (j := 5514) (hF7.2.1 234 rfl))
    have f56 := congrArg Int32.toInt (eA_c (j := 5515) (hF7.2.1 234 rfl))
    have f57 := congrArg Int32.toInt (eA_c (j := 5516) (hF7.2.1 234 rfl))
    have f58 := congrArg Int32.toInt (eA_c (j := 5512) (hF7.2.1 234 rfl))
    have f59 := congrArg Int32.toInt (eA_c (j := 5513) (hF7.2.1 234 rfl))
    have f60 := congrArg Int32.toInt (eA_c (j := 0) (hF7.2.1 235 rfl))
    have f61 := congrArg Int32.toInt (eA_c (j := 1) (hF7.2.1 235 rfl))
    have f62 := congrArg Int32.toInt (hF7.1 231 8 rfl)
    have f63 := congrArg Int32.toInt (hF7.1 231 13 rfl)
    refine At.enter rfl ?_
    refine r_pop rfl ?_
    refine r_aload_n e2 ?_
    refine r_sload_n e0 ?_
    refine r_iload_n e3 ?_
    refine r_iconst 1 rfl ?_
    refine q_iadd (i.toInt + 1) rfl hx_1 (fun v64 hv64 => ?_)
    refine q_scald (m := L) hL (i.toInt + 1) hv64 hy_1 (fun v65 hv65 => ?_)
    have sv65 := hv2.symm.trans hv65
    subst sv65
    have n66_e : v2.toInt = 0 := by omega
    have n66_1 : v2.toInt ≠ 1 := by omega
    refine r_callV 1267 rfl [.ref 231, .int v2] [] (Nat.le_of_ble_eq_true rfl) rfl (T_X11_image_231 _ hI6 v2) ?_
    rintro _ _ ⟨g67, rfl, hI68, hF69, v70, rfl, hr71⟩
    refine At.sti ?_
    have hF72 := Fr.tr hF10 hF69 rfl rfl
    obtain ⟨p73, p74, p75, p76, p77, p78⟩ := hr71
    have w79 := p74 n66_e
    have w80 := p77 n66_1
    clear p74 p75 p76 p77 p78
    have f82 := congrArg Int32.toInt (hF69.1 1 0 rfl)
    have f83 := congrArg Int32.toInt (hF69.1 1 12 rfl)
    have f84 := congrArg Int32.toInt (hF69.1 1 10 rfl)
    have f85 := congrArg Int32.toInt (hF69.1 1 11 rfl)
    have f86 := congrArg Int32.toInt (hF69.1 1 6 rfl)
    have f87 := congrArg Int32.toInt (hF69.1 1 9 rfl)
    have f88 := congrArg Int32.toInt (hF69.1 59 0 rfl)
    have f89 := congrArg Int32.toInt (hF69.1 59 12 rfl)
    have f90 := congrArg Int32.toInt (hF69.1 59 10 rfl)
    have f91 := congrArg Int32.toInt (hF69.1 59 11 rfl)
    have f92 := congrArg Int32.toInt (hF69.1 59 6 rfl)
    have f93 := congrArg Int32.toInt (hF69.1 59 9 rfl)
    have f94 := congrArg Int32.toInt (hF69.1 116 0 rfl)
    have f95 := congrArg Int32.toInt (hF69.1 116 12 rfl)
    have f96 := congrArg Int32.toInt (hF69.1 116 10 rfl)
    have f97 := congrArg Int32.toInt (hF69.1 116 11 rfl)
    have f98 := congrArg Int32.toInt (hF69.1 116 6 rfl)
    have f99 := congrArg Int32.toInt (hF69.1 116 9 rfl)
    have f100 := congrArg Int32.toInt (eA_c (j := 0) (hF69.2.1 173 rfl))
    have f101 := congrArg Int32.toInt (eA_c (j := 1) (hF69.2.1 173 rfl))
    have f102 := congrArg Int32.toInt (hF69.1 174 1 rfl)
    have f103 := congrArg Int32.toInt (hF69.1 176 2 rfl)
    have f104 := congrArg Int32.toInt (eA_c (j := 0) (hF69.2.1 233 rfl))
    have f105 := congrArg Int32.toInt (eA_c (j := 4) (hF69.2.1 233 rfl))
    have f106 := congrArg Int32.toInt (eA_c (j := 5) (hF69.2.1 233 rfl))
    have f107 := congrArg Int32.toInt (eA_c (j := 6) (hF69.2.1 233 rfl))
    have f108 := congrArg Int32.toInt (eA_c (j := 2) (hF69.2.1 233 rfl))
    have f109 := congrArg Int32.toInt (eA_c (j := 3) (hF69.2.1 233 rfl))
    have f124 := congrArg Int32.toInt (hF69.1 231 8 rfl)
    have f125 := congrArg Int32.toInt (hF69.1 231 13 rfl)
    refine At.enter rfl ?_
    refine r_pop rfl ?_
    refine r_goto ?_
    exact K _ hI68 (show LwR _ from ⟨(congrArg Int32.toInt (((hF69.1 1 0 (by decide)).trans (hF7.1 1 0 (by decide))))).trans (hR_0.trans (eA_ti (j := 0) (((hF69.2.1 233 (by decide)).trans (hF7.2.1 233 (by decide))))).symm), (congrArg Int32.toInt (((hF69.1 1 12 (by decide)).trans (hF7.1 1 12 (by decide))))).trans (hR_1.trans (eA_ti (j := 4) (((hF69.2.1 233 (by decide)).trans (hF7.2.1 233 (by decide))))).symm), (congrArg Int32.toInt (((hF69.1 1 10 (by decide)).trans (hF7.1 1 10 (by decide))))).trans (hR_2.trans (eA_ti (j := 5) (((hF69.2.1 233 (by decide)).trans (hF7.2.1 233 (by decide))))).symm), (congrArg Int32.toInt (((hF69.1 1 11 (by decide)).trans (hF7.1 1 11 (by decide))))).trans (hR_3.trans (eA_ti (j := 6) (((hF69.2.1 233 (by decide)).trans (hF7.2.1 233 (by decide))))).symm), (congrArg Int32.toInt (((hF69.1 1 6 (by decide)).trans (hF7.1 1 6 (by decide))))).trans (hR_4.trans (eA_ti (j := 2) (((hF69.2.1 233 (by decide)).trans (hF7.2.1 233 (by decide))))).symm), (congrArg Int32.toInt (((hF69.1 1 9 (by decide)).trans (hF7.1 1 9 (by decide))))).trans (hR_5.trans (eA_ti (j := 3) (((hF69.2.1 233 (by decide)).trans (hF7.2.1 233 (by decide))))).symm), by first | (clear f20 f21 f22 f23 f24 f25 f40 f41 f42 f43 f44 f45 f46 f47 f48 f49 f50 f51 f52 f53 f54 f55 f56 f57 f58 f59 f61 f62 f63 f82 f83 f84 f85 f86 f87 f88 f89 f90 f91 f92 f93 f94 f95 f96 f97 f98 f99 f101 f102 f103 f104 f105 f106 f107 f108 f109 f124 f125; omega) | omega, by first | (clear f20 f21 f22 f23 f24 f25 f40 f41 f42 f43 f44 f45 f46 f47 f48 f49 f50 f51 f52 f53 f54 f55 f56 f57 f58 f59 f60 f62 f63 f82 f83 f84 f85 f86 f87 f88 f89 f90 f91 f92 f93 f94 f95 f96 f97 f98 f99 f100 f102 f103 f104 f105 f106 f107 f108 f109 f124 f125; omega) | omega, (congrArg Int32.toInt (((hF69.1 174 1 (by decide)).trans (hF7.1 174 1 (by decide))))).trans (hR_8.trans (congrArg Int32.toInt (((hF69.1 231 8 (by decide)).trans (hF7.1 231 8 (by decide))))).symm), (congrArg Int32.toInt (((hF69.1 176 2 (by decide)).trans (hF7.1 176 2 (by decide))))).trans (hR_9.trans (congrArg Int32.toInt (((hF69.1 231 13 (by decide)).trans (hF7.1 231 13 (by decide))))).symm), (fun _ => ⟨by first | (clear f21 f22 f23 f24 f25 f40 f41 f43 f44 f45 f46 f47 f49 f50 f51 f52 f53 f54 f55 f56 f57 f58 f59 f60 f61 f62 f63 f83 f84 f85 f86 f87 f89 f90 f91 f92 f93 f94 f95 f96 f97 f98 f99 f100 f101 f102 f103 f105 f106 f107 f108 f109 f124 f125; omega) | omega, by first | (clear f20 f22 f23 f24 f25 f40 f41 f42 f44 f45 f46 f47 f48 f50 f51 f52 f53 f54 f55 f56 f57 f58 f59 f60 f61 f62 f63 f82 f84 f85 f86 f87 f88 f90 f91 f92 f93 f94 f95 f96 f97 f98 f99 f100 f101 f102 f103 f104 f106 f107 f108 f109 f124 f125; omega) | omega, by first | (clear f20 f21 f23 f24 f25 f40 f41 f42 f43 f45 f46 f47 f48 f49 f51 f52 f53 f54 f55 f56 f57 f58 f59 f60 f61 f62 f63 f82 f83 f85 f86 f87 f88 f89 f91 f92 f93 f94 f95 f96 f97 f98 f99 f100 f101 f102 f103 f104 f105 f107 f108 f109 f124 f125; omega) | omega, by first | (clear f20 f21 f22 f24 f25 f40 f41 f42 f43 f44 f46 f47 f48 f49 f50 f52 f53 f54 f55 f56 f57 f58 f59 f60 f61 f62 f63 f82 f83 f84 f86 f87 f88 f89 f90 f92 f93 f94 f95 f96 f97 f98 f99 f100 f101 f102 f103 f104 f105 f106 f108 f109 f124 f125; omega) | omega, by first | (clear f20 f21 f22 f23 f25 f40 f41 f42 f43 f44 f45 f47 f48 f49 f50 f51 f53 f54 f55 f56 f57 f58 f59 f60 f61 f62 f63 f82 f83 f84 f85 f87 f88 f89 f90 f91 f93 f94 f95 f96 f97 f98 f99 f100 f101 f102 f103 f104 f105 f106 f107 f109 f124 f125; omega) | omega, by first | (clear f20 f21 f22 f23 f24 f40 f41 f42 f43 f44 f45 f46 f48 f49 f50 f51 f52 f54 f55 f56 f57 f58 f59 f60 f61 f62 f63 f82 f83 f84 f85 f86 f88 f89 f90 f91 f92 f94 f95 f96 f97 f98 f99 f100 f101 f102 f103 f104 f105 f106 f107 f108 f124 f125; omega) | omega⟩), IM1.cong hR_11 (by first | (clear f20 f21 f22 f23 f24 f25 f40 f41 f42 f43 f44 f45 f46 f47 f48 f49 f50 f51 f52 f53 f54 f55 f56 f57 f58 f59 f60 f61 f62 f63 f82 f83 f84 f85 f86 f87 f88 f89 f90 f91 f92 f93 f94 f95 f96 f97 f98 f99 f100 f102 f103 f104 f105 f106 f107 f108 f109 f124 f125; omega) | omega) (by first | (clear f20 f21 f22 f23 f24 f25 f40 f41 f42 f43 f44 f45 f46 f47 f48 f49 f50 f51 f52 f53 f54 f55 f56 f57 f58 f59 f60 f61 f62 f63 f82 f83 f84 f85 f86 f87 f88 f89 f90 f91 f92 f93 f95 f96 f97 f98 f99 f100 f101 f102 f103 f104 f105 f106 f107 f108 f109 f124 f125; omega) | omega) (by first | (clear f20 f21 f22 f23 f24 f25 f40 f41 f42 f43 f44 f45 f46 f47 f48 f49 f50 f51 f52 f53 f55 f56 f57 f58 f59 f60 f61 f62 f63 f82 f83 f84 f85 f86 f87 f88 f89 f90 f91 f92 f93 f94 f95 f96 f97 f98 f99 f100 f101 f102 f103 f104 f105 f106 f107 f108 f109 f124 f125; omega) | omega) (by first | (clear f20 f21 f22 f23 f24 f25 f40 f41 f42 f43 f44 f45 f46 f47 f48 f49 f50 f51 f52 f53 f54 f55 f56 f57 f58 f59 f60 f61 f62 f63 f82 f83 f84 f85 f86 f87 f88 f89 f90 f91 f92 f93 f94 f96 f97 f98 f99 f100 f101 f102 f103 f104 f105 f106 f107 f108 f109 f124 f125; omega) | omega) (by first | (clear f20 f21 f22 f23 f24 f25 f40 f41 f42 f43 f44 f45 f46 f47 f48 f49 f50 f51 f52 f53 f54 f56 f57 f58 f59 f60 f61 f62 f63 f82 f83 f84 f85 f86 f87 f88 f89 f90 f91 f92 f93 f94 f95 f96 f97 f98 f99 f100 f101 f102 f103 f104 f105 f106 f107 f108 f109 f124 f125; omega) | omega) (by first | (clear f20 f21 f22 f23 f24 f25 f40 f41 f42 f43 f44 f45 f46 f47 f48 f49 f50 f51 f52 f53 f54 f55 f56 f57 f58 f59 f60 f61 f62 f63 f82 f83 f84 f85 f86 f87 f88 f89 f90 f91 f92 f93 f94 f95 f97 f98 f99 f100 f101 f102 f103 f104 f105 f106 f107 f108 f109 f124 f125; omega) | omega) (by first | (clear f20 f21 f22 f23 f24 f25 f40 f41 f42 f43 f44 f45 f46 f47 f48 f49 f50 f51 f52 f53 f54 f55 f57 f58 f59 f60 f61 f62 f63 f82 f83 f84 f85 f86 f87 f88 f89 f90 f91 f92 f93 f94 f95 f96 f97 f98 f99 f100 f101 f102 f103 f104 f105 f106 f107 f108 f109 f124 f125; omega) | omega) (by first | (clear f20 f21 f22 f23 f24 f25 f40 f41 f42 f43 f44 f45 f46 f47 f48 f49 f50 f51 f52 f53 f54 f55 f56 f57 f58 f59 f60 f61 f62 f63 f82 f83 f84 f85 f86 f87 f88 f89 f90 f91 f92 f93 f94 f95 f96 f98 f99 f100 f101 f102 f103 f104 f105 f106 f107 f108 f109 f124 f125; omega) | omega) (by first | (clear f20 f21 f22 f23 f24 f25 f40 f41 f42 f43 f44 f45 f46 f47 f48 f49 f50 f51 f52 f53 f54 f55 f56 f58 f59 f60 f61 f62 f63 f82 f83 f84 f85 f86 f87 f88 f89 f90 f91 f92 f93 f94 f95 f96 f97 f98 f99 f100 f101 f102 f103 f104 f105 f106 f107 f108 f109 f124 f125; omega) | omega) (by first | (clear f20 f21 f22 f23 f24 f25 f40 f41 f42 f43 f44 f45 f46 f47 f48 f49 f50 f51 f52 f53 f54 f55 f56 f57 f58 f59 f60 f61 f62 f63 f82 f83 f84 f85 f86 f87 f88 f89 f90 f91 f92 f93 f94 f95 f96 f97 f99 f100 f101 f102 f103 f104 f105 f106 f107 f108 f109 f124 f125; omega) | omega) (by first | (clear f20 f21 f22 f23 f24 f25 f40 f41 f42 f43 f44 f45 f46 f47 f48 f49 f50 f51 f52 f53 f54 f55 f56 f57 f59 f60 f61 f62 f63 f82 f83 f84 f85 f86 f87 f88 f89 f90 f91 f92 f93 f94 f95 f96 f97 f98 f99 f100 f101 f102 f103 f104 f105 f106 f107 f108 f109 f124 f125; omega) | omega) (by first | (clear f20 f21 f22 f23 f24 f25 f40 f41 f42 f43 f44 f45 f46 f47 f48 f49 f50 f51 f52 f53 f54 f55 f56 f57 f58 f59 f60 f61 f62 f63 f82 f83 f84 f85 f86 f87 f88 f89 f90 f91 f92 f93 f94 f95 f96 f97 f98 f100 f101 f102 f103 f104 f105 f106 f107 f108 f109 f124 f125; omega) | omega) (by first | (clear f20 f21 f22 f23 f24 f25 f40 f41 f42 f43 f44 f45 f46 f47 f48 f49 f50 f51 f52 f53 f54 f55 f56 f57 f58 f60 f61 f62 f63 f82 f83 f84 f85 f86 f87 f88 f89 f90 f91 f92 f93 f94 f95 f96 f97 f98 f99 f100 f101 f102 f103 f104 f105 f106 f107 f108 f109 f124 f125; omega) | omega), (show RT _ from fun i i0 i1 => (eA_ti (((hF69.2.1 175 (by decide)).trans (hF7.2.1 175 (by decide))))).trans ((hR_12 i i0 (by omega)).trans (eA_ti (((hF69.2.1 236 (by decide)).trans (hF7.2.1 236 (by decide))))).symm)), (show BYX _ from fun i i0 i1 => by rw [TX.c (((hF69.2.1 175 (by decide)).trans (hF7.2.1 175 (by decide))))]; exact hR_13 i i0 (by have i2 : i < (gI _ 174 1).toInt := i1; show i < (gI g0 174 1).toInt; omega))⟩)
  · have n126_e : v2.toInt = 1 := by omega
    have n126_0 : v2.toInt ≠ 0 := by omega
    refine r_callV 1257 rfl [.ref 0, .int v2] [] (Nat.le_of_ble_eq_true rfl) rfl (T_X10_image_0 _ hI0 v2) ?_
    rintro _ _ ⟨g127, rfl, hI128, hF129, v130, rfl, hr131⟩
    refine At.sti ?_
    have hF132 := Fr.tr hF0 hF129 rfl rfl
    obtain ⟨p133, p134, p135, p136, p137, p138⟩ := hr131
    have w139 := p135 n126_0
    have w140 := p136 n126_e
    clear p134 p135 p136 p137 p138
    have f142 := congrArg Int32.toInt (hF129.1 1 0 rfl)
    have f143 := congrArg Int32.toInt (hF129.1 1 12 rfl)
    have f144 := congrArg Int32.toInt (hF129.1 1 10 rfl)
    have f145 := congrArg Int32.toInt (hF129.1 1 11 rfl)
    have f146 := congrArg Int32.toInt (hF129.1 1 6 rfl)
    have f147 := congrArg Int32.toInt (hF129.1 1 9 rfl)
    have f162 := congrArg Int32.toInt (hF129.1 174 1 rfl)
    have f163 := congrArg Int32.toInt (hF129.1 176 2 rfl)
    have f164 := congrArg Int32.toInt (eA_c (j := 0) (hF129.2.1 233 rfl))
    have f165 := congrArg Int32.toInt (eA_c (j := 4) (hF129.2.1 233 rfl))
    have f166 := congrArg Int32.toInt (eA_c (j := 5) (hF129.2.1 233 rfl))
    have f167 := congrArg Int32.toInt (eA_c (j := 6) (hF129.2.1 233 rfl))
    have f168 := congrArg Int32.toInt (eA_c (j := 2) (hF129.2.1 233 rfl))
    have f169 := congrArg Int32.toInt (eA_c (j := 3) (hF129.2.1 233 rfl))
    have f170 := congrArg Int32.toInt (eA_c (j := 0) (hF129.2.1 234 rfl))
    have f171 := congrArg Int32.toInt (eA_c (j := 4) (hF129.2.1 234 rfl))
    have f172 := congrArg Int32.toInt (eA_c (j := 5) (hF129.2.1 234 rfl))
    have f173 := congrArg Int32.toInt (eA_c (j := 6) (hF129.2.1 234 rfl))
    have f174 := congrArg Int32.toInt (eA_c (j := 2) (hF129.2.1 234 rfl))
    have f175 := congrArg Int32.toInt (eA_c (j := 3) (hF129.2.1 234 rfl))
    have f176 := congrArg Int32.toInt (eA_c (j := 5510) (hF129.2.1 234 rfl))
    have f177 := congrArg Int32.toInt (eA_c (j := 5514) (hF129.2.1 234 rfl))
    have f178 := congrArg Int32.toInt (eA_c (j := 5515) (hF129.2.1 234 rfl))
    have f179 := congrArg Int32.toInt (eA_c (j := 5516) (hF129.2.1 234 rfl))
    have f180 := congrArg Int32.toInt (eA_c (j := 5512) (hF129.2.1 234 rfl))
    have f181 := congrArg Int32.toInt (eA_c (j := 5513) (hF129.2.1 234 rfl))
    have f182 := congrArg Int32.toInt (eA_c (j := 0) (hF129.2.1 235 rfl))
    have f183 := congrArg Int32.toInt (eA_c (j := 1) (hF129.2.1 235 rfl))
    have f184 := congrArg Int32.toInt (hF129.1 231 8 rfl)
    have f185 := congrArg Int32.toInt (hF129.1 231 13 rfl)
    refine At.enter rfl ?_
    refine r_pop rfl ?_
    refine r_aload_n e2 ?_
    refine r_sload_n e0 ?_
    refine r_iload_n e3 ?_
    refine r_iconst 1 rfl ?_
    refine q_iadd (i.toInt + 1) rfl hx_1 (fun v186 hv186 => ?_)
    refine q_scald (m := L) hL (i.toInt + 1) hv186 hy_1 (fun v187 hv187 => ?_)
    have sv187 := hv2.symm.trans hv187
    subst sv187
    have n188_e : v2.toInt = 1 := by omega
    have n188_0 : v2.toInt ≠ 0 := by omega
    refine r_callV 1267 rfl [.ref 231, .int v2] [] (Nat.le_of_ble_eq_true rfl) rfl (T_X11_image_231 _ hI128 v2) ?_
    rintro _ _ ⟨g189, rfl, hI190, hF191, v192, rfl, hr193⟩
    refine At.sti ?_
    have hF194 := Fr.tr hF132 hF191 rfl rfl
    obtain ⟨p195, p196, p197, p198, p199, p200⟩ := hr193
    have w201 := p197 n188_0
    have w202 := p198 n188_e
    clear p196 p197 p198 p199 p200
    have f204 := congrArg Int32.toInt (hF191.1 1 0 rfl)
    have f205 := congrArg Int32.toInt (hF191.1 1 12 rfl)
    have f206 := congrArg Int32.toInt (hF191.1 1 10 rfl)
    have f207 := congrArg Int32.toInt (hF191.1 1 11 rfl)
    have f208 := congrArg Int32.toInt (hF191.1 1 6 rfl)
    have f209 := congrArg Int32.toInt (hF191.1 1 9 rfl)
    have f210 := congrArg Int32.toInt (hF191.1 59 0 rfl)
    have f211 := congrArg Int32.toInt (hF191.1 59 12 rfl)
    have f212 := congrArg Int32.toInt (hF191.1 59 10 rfl)
    have f213 := congrArg Int32.toInt (hF191.1 59 11 rfl)
    have f214 := congrArg Int32.toInt (hF191.1 59 6 rfl)
    have f215 := congrArg Int32.toInt (hF191.1 59 9 rfl)
    have f216 := congrArg Int32.toInt (hF191.1 116 0 rfl)
    have f217 := congrArg Int32.toInt (hF191.1 116 12 rfl)
    have f218 := congrArg Int32.toInt (hF191.1 116 10 rfl)
    have f219 := congrArg Int32.toInt (hF191.1 116 11 rfl)
    have f220 := congrArg Int32.toInt (hF191.1 116 6 rfl)
    have f221 := congrArg Int32.toInt (hF191.1 116 9 rfl)
    have f222 := congrArg Int32.toInt (eA_c (j := 0) (hF191.2.1 173 rfl))
    have f223 := congrArg Int32.toInt (eA_c (j := 1) (hF191.2.1 173 rfl))
    have f224 := congrArg Int32.toInt (hF191.1 174 1 rfl)
    have f225 := congrArg Int32.toInt (hF191.1 176 2 rfl)
    have f226 := congrArg Int32.toInt (eA_c (j := 0) (hF191.2.1 233 rfl))
    have f227 := congrArg Int32.toInt (eA_c (j := 4) (hF191.2.1 233 rfl))
    have f228 := congrArg Int32.toInt (eA_c (j := 5) (hF191.2.1 233 rfl))
    have f229 := congrArg Int32.toInt (eA_c (j := 6) (hF191.2.1 233 rfl))
    have f230 := congrArg Int32.toInt (eA_c (j := 2) (hF191.2.1 233 rfl))
    have f231 := congrArg Int32.toInt (eA_c (j := 3) (hF191.2.1 233 rfl))
    have f246 := congrArg Int32.toInt (hF191.1 231 8 rfl)
    have f247 := congrArg Int32.toInt (hF191.1 231 13 rfl)
    refine At.enter rfl ?_
    refine r_pop rfl ?_
    refine r_goto ?_
    exact K _ hI190 (show LwR _ from ⟨(congrArg Int32.toInt (((hF191.1 1 0 (by decide)).trans (hF129.1 1 0 (by decide))))).trans (hR_0.trans (eA_ti (j := 0) (((hF191.2.1 233 (by decide)).trans (hF129.2.1 233 (by decide))))).symm), (congrArg Int32.toInt (((hF191.1 1 12 (by decide)).trans (hF129.1 1 12 (by decide))))).trans (hR_1.trans (eA_ti (j := 4) (((hF191.2.1 233 (by decide)).trans (hF129.2.1 233 (by decide))))).symm), (congrArg Int32.toInt (((hF191.1 1 10 (by decide)).trans (hF129.1 1 10 (by decide))))).trans (hR_2.trans (eA_ti (j := 5) (((hF191.2.1 233 (by decide)).trans (hF129.2.1 233 (by decide))))).symm), (congrArg Int32.toInt (((hF191.1 1 11 (by decide)).trans (hF129.1 1 11 (by decide))))).trans (hR_3.trans (eA_ti (j := 6) (((hF191.2.1 233 (by decide)).trans (hF129.2.1 233 (by decide))))).symm), (congrArg Int32.toInt (((hF191.1 1 6 (by decide)).trans (hF129.1 1 6 (by decide))))).trans (hR_4.trans (eA_ti (j := 2) (((hF191.2.1 233 (by decide)).trans (hF129.2.1 233 (by decide))))).symm), (congrArg Int32.toInt (((hF191.1 1 9 (by decide)).trans (hF129.1 1 9 (by decide))))).trans (hR_5.trans (eA_ti (j := 3) (((hF191.2.1 233 (by decide)).trans (hF129.2.1 233 (by decide))))).symm), by first | (clear f142 f143 f144 f145 f146 f147 f162 f163 f164 f165 f166 f167 f168 f169 f170 f171 f172 f173 f174 f175 f176 f177 f178 f179 f180 f181 f183 f184 f185 f204 f205 f206 f207 f208 f209 f210 f211 f212 f213 f214 f215 f216 f217 f218 f219 f220 f221 f223 f224 f225 f226 f227 f228 f229 f230 f231 f246 f247; omega) | omega, by first | (clear f142 f143 f144 f145 f146 f147 f162 f163 f164 f165 f166 f167 f168 f169 f170 f171 f172 f173 f174 f175 f176 f177 f178 f179 f180 f181 f182 f184 f185 f204 f205 f206 f207 f208 f209 f210 f211 f212 f213 f214 f215 f216 f217 f218 f219 f220 f221 f222 f224 f225 f226 f227 f228 f229 f230 f231 f246 f247; omega) | omega, (congrArg Int32.toInt (((hF191.1 174 1 (by decide)).trans (hF129.1 174 1 (by decide))))).trans (hR_8.trans (congrArg Int32.toInt (((hF191.1 231 8 (by decide)).trans (hF129.1 231 8 (by decide))))).symm), (congrArg Int32.toInt (((hF191.1 176 2 (by decide)).trans (hF129.1 176 2 (by decide))))).trans (hR_9.trans (congrArg Int32.toInt (((hF191.1 231 13 (by decide)).trans (hF129.1 231 13 (by decide))))).symm), IM0.cong hR_10 (by first | (clear f142 f143 f144 f145 f146 f147 f162 f163 f164 f165 f166 f167 f168 f169 f170 f171 f172 f173 f174 f175 f176 f177 f178 f179 f180 f181 f182 f183 f184 f185 f204 f205 f206 f207 f208 f209 f210 f211 f212 f213 f214 f215 f216 f217 f218 f219 f220 f221 f223 f224 f225 f226 f227 f228 f229 f230 f231 f246 f247; omega) | omega) (by first | (clear f142 f143 f144 f145 f146 f147 f162 f163 f164 f165 f166 f167 f168 f169 f170 f171 f172 f173 f174 f175 f176 f177 f178 f179 f180 f181 f182 f183 f184 f185 f204 f205 f206 f207 f208 f209 f211 f212 f213 f214 f215 f216 f217 f218 f219 f220 f221 f222 f223 f224 f225 f226 f227 f228 f229 f230 f231 f246 f247; omega) | omega) (by first | (clear f142 f143 f144 f145 f146 f147 f162 f163 f164 f165 f166 f167 f168 f169 f171 f172 f173 f174 f175 f176 f177 f178 f179 f180 f181 f182 f183 f184 f185 f204 f205 f206 f207 f208 f209 f210 f211 f212 f213 f214 f215 f216 f217 f218 f219 f220 f221 f222 f223 f224 f225 f226 f227 f228 f229 f230 f231 f246 f247; omega) | omega) (by first | (clear f142 f143 f144 f145 f146 f147 f162 f163 f164 f165 f166 f167 f168 f169 f170 f171 f172 f173 f174 f175 f176 f177 f178 f179 f180 f181 f182 f183 f184 f185 f204 f205 f206 f207 f208 f209 f210 f212 f213 f214 f215 f216 f217 f218 f219 f220 f221 f222 f223 f224 f225 f226 f227 f228 f229 f230 f231 f246 f247; omega) | omega) (by first | (clear f142 f143 f144 f145 f146 f147 f162 f163 f164 f165 f166 f167 f168 f169 f170 f172 f173 f174 f175 f176 f177 f178 f179 f180 f181 f182 f183 f184 f185 f204 f205 f206 f207 f208 f209 f210 f211 f212 f213 f214 f215 f216 f217 f218 f219 f220 f221 f222 f223 f224 f225 f226 f227 f228 f229 f230 f231 f246 f247; omega) | omega) (by first | (clear f142 f143 f144 f145 f146 f147 f162 f163 f164 f165 f166 f167 f168 f169 f170 f171 f172 f173 f174 f175 f176 f177 f178 f179 f180 f181 f182 f183 f184 f185 f204 f205 f206 f207 f208 f209 f210 f211 f213 f214 f215 f216 f217 f218 f219 f220 f221 f222 f223 f224 f225 f226 f227 f228 f229 f230 f231 f246 f247; omega) | omega) (by first | (clear f142 f143 f144 f145 f146 f147 f162 f163 f164 f165 f166 f167 f168 f169 f170 f171 f173 f174 f175 f176 f177 f178 f179 f180 f181 f182 f183 f184 f185 f204 f205 f206 f207 f208 f209 f210 f211 f212 f213 f214 f215 f216 f217 f218 f219 f220 f221 f222 f223 f224 f225 f226 f227 f228 f229 f230 f231 f246 f247; omega) | omega) (by first | (clear f142 f143 f144 f145 f146 f147 f162 f163 f164 f165 f166 f167 f168 f169 f170 f171 f172 f173 f174 f175 f176 f177 f178 f179 f180 f181 f182 f183 f184 f185 f204 f205 f206 f207 f208 f209 f210 f211 f212 f214 f215 f216 f217 f218 f219 f220 f221 f222 f223 f224 f225 f226 f227 f228 f229 f230 f231 f246 f247; omega) | omega) (by first | (clear f142 f143 f144 f145 f146 f147 f162 f163 f164 f165 f166 f167 f168 f169 f170 f171 f172 f174 f175 f176 f177 f178 f179 f180 f181 f182 f183 f184 f185 f204 f205 f206 f207 f208 f209 f210 f211 f212 f213 f214 f215 f216 f217 f218 f219 f220 f221 f222 f223 f224 f225 f226 f227 f228 f229 f230 f231 f246 f247; omega) | omega) (by first | (clear f142 f143 f144 f145 f146 f147 f162 f163 f164 f165 f166 f167 f168 f169 f170 f171 f172 f173 f174 f175 f176 f177 f178 f179 f180 f181 f182 f183 f184 f185 f204 f205 f206 f207 f208 f209 f210 f211 f212 f213 f215 f216 f217 f218 f219 f220 f221 f222 f223 f224 f225 f226 f227 f228 f229 f230 f231 f246 f247; omega) | omega) (by first | (clear f142 f143 f144 f145 f146 f147 f162 f163 f164 f165 f166 f167 f168 f169 f170 f171 f172 f173 f175 f176 f177 f178 f179 f180 f181 f182 f183 f184 f185 f204 f205 f206 f207 f208 f209 f210 f211 f212 f213 f214 f215 f216 f217 f218 f219 f220 f221 f222 f223 f224 f225 f226 f227 f228 f229 f230 f231 f246 f247; omega) | omega) (by first | (clear f142 f143 f144 f145 f146 f147 f162 f163 f164 f165 f166 f167 f168 f169 f170 f171 f172 f173 f174 f175 f176 f177 f178 f179 f180 f181 f182 f183 f184 f185 f204 f205 f206 f207 f208 f209 f210 f211 f212 f213 f214 f216 f217 f218 f219 f220 f221 f222 f223 f224 f225 f226 f227 f228 f229 f230 f231 f246 f247; omega) | omega) (by first | (clear f142 f143 f144 f145 f146 f147 f162 f163 f164 f165 f166 f167 f168 f169 f170 f171 f172 f173 f174 f176 f177 f178 f179 f180 f181 f182 f183 f184 f185 f204 f205 f206 f207 f208 f209 f210 f211 f212 f213 f214 f215 f216 f217 f218 f219 f220 f221 f222 f223 f224 f225 f226 f227 f228 f229 f230 f231 f246 f247; omega) | omega), (fun _ => ⟨by first | (clear f143 f144 f145 f146 f147 f162 f163 f165 f166 f167 f168 f169 f170 f171 f172 f173 f174 f175 f177 f178 f179 f180 f181 f182 f183 f184 f185 f205 f206 f207 f208 f209 f210 f211 f212 f213 f214 f215 f217 f218 f219 f220 f221 f222 f223 f224 f225 f227 f228 f229 f230 f231 f246 f247; omega) | omega, by first | (clear f142 f144 f145 f146 f147 f162 f163 f164 f166 f167 f168 f169 f170 f171 f172 f173 f174 f175 f176 f178 f179 f180 f181 f182 f183 f184 f185 f204 f206 f207 f208 f209 f210 f211 f212 f213 f214 f215 f216 f218 f219 f220 f221 f222 f223 f224 f225 f226 f228 f229 f230 f231 f246 f247; omega) | omega, by first | (clear f142 f143 f145 f146 f147 f162 f163 f164 f165 f167 f168 f169 f170 f171 f172 f173 f174 f175 f176 f177 f179 f180 f181 f182 f183 f184 f185 f204 f205 f207 f208 f209 f210 f211 f212 f213 f214 f215 f216 f217 f219 f220 f221 f222 f223 f224 f225 f226 f227 f229 f230 f231 f246 f247; omega) | omega, by first | (clear f142 f143 f144 f146 f147 f162 f163 f164 f165 f166 f168 f169 f170 f171 f172 f173 f174 f175 f176 f177 f178 f180 f181 f182 f183 f184 f185 f204 f205 f206 f208 f209 f210 f211 f212 f213 f214 f215 f216 f217 f218 f220 f221 f222 f223 f224 f225 f226 f227 f228 f230 f231 f246 f247; omega) | omega, by first | (clear f142 f143 f144 f145 f147 f162 f163 f164 f165 f166 f167 f169 f170 f171 f172 f173 f174 f175 f176 f177 f178 f179 f181 f182 f183 f184 f185 f204 f205 f206 f207 f209 f210 f211 f212 f213 f214 f215 f216 f217 f218 f219 f221 f222 f223 f224 f225 f226 f227 f228 f229 f231 f246 f247; omega) | omega, by first | (clear f142 f143 f144 f145 f146 f162 f163 f164 f165 f166 f167 f168 f170 f171 f172 f173 f174 f175 f176 f177 f178 f179 f180 f182 f183 f184 f185 f204 f205 f206 f207 f208 f210 f211 f212 f213 f214 f215 f216 f217 f218 f219 f220 f222 f223 f224 f225 f226 f227 f228 f229 f230 f246 f247; omega) | omega⟩), (show RT _ from fun i i0 i1 => (eA_ti (((hF191.2.1 175 (by decide)).trans (hF129.2.1 175 (by decide))))).trans ((hR_12 i i0 (by omega)).trans (eA_ti (((hF191.2.1 236 (by decide)).trans (hF129.2.1 236 (by decide))))).symm)), (show BYX _ from fun i i0 i1 => by rw [TX.c (((hF191.2.1 175 (by decide)).trans (hF129.2.1 175 (by decide))))]; exact hR_13 i i0 (by have i2 : i < (gI _ 174 1).toInt := i1; show i < (gI g0 174 1).toInt; omega))⟩)
  · have n248_e : (v2.toInt < 0 ∨ 1 < v2.toInt) := by omega
    have n248_0 : v2.toInt ≠ 0 := by omega
    have n248_1 : v2.toInt ≠ 1 := by omega
    refine r_callV 1257 rfl [.ref 0, .int v2] [] (Nat.le_of_ble_eq_true rfl) rfl (T_X10_image_0 _ hI0 v2) ?_
    rintro _ _ ⟨g249, rfl, hI250, hF251, v252, rfl, hr253⟩
    refine At.sti ?_
    have hF254 := Fr.tr hF0 hF251 rfl rfl
    obtain ⟨p255, p256, p257, p258, p259, p260⟩ := hr253
    have w261 := p260 n248_e
    have w262 := p257 n248_0
    have w263 := p259 n248_1
    clear p256 p257 p258 p259 p260
    have f264 := congrArg Int32.toInt (hF251.1 1 0 rfl)
    have f265 := congrArg Int32.toInt (hF251.1 1 12 rfl)
    have f266 := congrArg Int32.toInt (hF251.1 1 10 rfl)
    have f267 := congrArg Int32.toInt (hF251.1 1 11 rfl)
    have f268 := congrArg Int32.toInt (hF251.1 1 6 rfl)
    have f269 := congrArg Int32.toInt (hF251.1 1 9 rfl)
    have f284 := congrArg Int32.toInt (hF251.1 174 1 rfl)
    have f285 := congrArg Int32.toInt (hF251.1 176 2 rfl)
    have f286 := congrArg Int32.toInt (eA_c (j := 0) (hF251.2.1 233 rfl))
    have f287 := congrArg Int32.toInt (eA_c (j := 4) (hF251.2.1 233 rfl))
    have f288 := congrArg Int32.toInt (eA_c (j := 5) (hF251.2.1 233 rfl))
    have f289 := congrArg Int32.toInt (eA_c (j := 6) (hF251.2.1 233 rfl))
    have f290 := congrArg Int32.toInt (eA_c (j := 2) (hF251.2.1 233 rfl))
    have f291 := congrArg Int32.toInt (eA_c (j := 3) (hF251.2.1 233 rfl))
    have f292 := congrArg Int32.toInt (eA_c (j := 0) (hF251.2.1 234 rfl))
    have f293 := congrArg Int32.toInt (eA_c (j := 4) (hF251.2.1 234 rfl))
    have f294 := congrArg Int32.toInt (eA_c (j := 5) (hF251.2.1 234 rfl))
    have f295 := congrArg Int32.toInt (eA_c (j := 6) (hF251.2.1 234 rfl))
    have f296 := congrArg Int32.toInt (eA_c (j := 2) (hF251.2.1 234 rfl))
    have f297 := congrArg Int32.toInt (eA_c (j := 3) (hF251.2.1 234 rfl))
    have f298 := congrArg Int32.toInt (eA_c (j := 5510) (hF251.2.1 234 rfl))
    have f299 := congrArg Int32.toInt (eA_c (j := 5514) (hF251.2.1 234 rfl))
    have f300 := congrArg Int32.toInt (eA_c (j := 5515) (hF251.2.1 234 rfl))
    have f301 := congrArg Int32.toInt (eA_c (j := 5516) (hF251.2.1 234 rfl))
    have f302 := congrArg Int32.toInt (eA_c (j := 5512) (hF251.2.1 234 rfl))
    have f303 := congrArg Int32.toInt (eA_c (j := 5513) (hF251.2.1 234 rfl))
    have f304 := congrArg Int32.toInt (eA_c (j := 0) (hF251.2.1 235 rfl))
    have f305 := congrArg Int32.toInt (eA_c (j := 1) (hF251.2.1 235 rfl))
    have f306 := congrArg Int32.toInt (hF251.1 231 8 rfl)
    have f307 := congrArg Int32.toInt (hF251.1 231 13 rfl)
    refine At.enter rfl ?_
    refine r_pop rfl ?_
    refine r_aload_n e2 ?_
    refine r_sload_n e0 ?_
    refine r_iload_n e3 ?_
    refine r_iconst 1 rfl ?_
    refine q_iadd (i.toInt + 1) rfl hx_1 (fun v308 hv308 => ?_)
    refine q_scald (m := L) hL (i.toInt + 1) hv308 hy_1 (fun v309 hv309 => ?_)
    have sv309 := hv2.symm.trans hv309
    subst sv309
    have n310_e : (v2.toInt < 0 ∨ 1 < v2.toInt) := by omega
    have n310_0 : v2.toInt ≠ 0 := by omega
    have n310_1 : v2.toInt ≠ 1 := by omega
    refine r_callV 1267 rfl [.ref 231, .int v2] [] (Nat.le_of_ble_eq_true rfl) rfl (T_X11_image_231 _ hI250 v2) ?_
    rintro _ _ ⟨g311, rfl, hI312, hF313, v314, rfl, hr315⟩
    refine At.sti ?_
    have hF316 := Fr.tr hF254 hF313 rfl rfl
    obtain ⟨p317, p318, p319, p320, p321, p322⟩ := hr315
    have w323 := p322 n310_e
    have w324 := p319 n310_0
    have w325 := p321 n310_1
    clear p318 p319 p320 p321 p322
    have f326 := congrArg Int32.toInt (hF313.1 1 0 rfl)
    have f327 := congrArg Int32.toInt (hF313.1 1 12 rfl)
    have f328 := congrArg Int32.toInt (hF313.1 1 10 rfl)
    have f329 := congrArg Int32.toInt (hF313.1 1 11 rfl)
    have f330 := congrArg Int32.toInt (hF313.1 1 6 rfl)
    have f331 := congrArg Int32.toInt (hF313.1 1 9 rfl)
    have f332 := congrArg Int32.toInt (hF313.1 59 0 rfl)
    have f333 := congrArg Int32.toInt (hF313.1 59 12 rfl)
    have f334 := congrArg Int32.toInt (hF313.1 59 10 rfl)
    have f335 := congrArg Int32.toInt (hF313.1 59 11 rfl)
    have f336 := congrArg Int32.toInt (hF313.1 59 6 rfl)
    have f337 := congrArg Int32.toInt (hF313.1 59 9 rfl)
    have f338 := congrArg Int32.toInt (hF313.1 116 0 rfl)
    have f339 := congrArg Int32.toInt (hF313.1 116 12 rfl)
    have f340 := congrArg Int32.toInt (hF313.1 116 10 rfl)
    have f341 := congrArg Int32.toInt (hF313.1 116 11 rfl)
    have f342 := congrArg Int32.toInt (hF313.1 116 6 rfl)
    have f343 := congrArg Int32.toInt (hF313.1 116 9 rfl)
    have f344 := congrArg Int32.toInt (eA_c (j := 0) (hF313.2.1 173 rfl))
    have f345 := congrArg Int32.toInt (eA_c (j := 1) (hF313.2.1 173 rfl))
    have f346 := congrArg Int32.toInt (hF313.1 174 1 rfl)
    have f347 := congrArg Int32.toInt (hF313.1 176 2 rfl)
    have f348 := congrArg Int32.toInt (eA_c (j := 0) (hF313.2.1 233 rfl))
    have f349 := congrArg Int32.toInt (eA_c (j := 4) (hF313.2.1 233 rfl))
    have f350 := congrArg Int32.toInt (eA_c (j := 5) (hF313.2.1 233 rfl))
    have f351 := congrArg Int32.toInt (eA_c (j := 6) (hF313.2.1 233 rfl))
    have f352 := congrArg Int32.toInt (eA_c (j := 2) (hF313.2.1 233 rfl))
    have f353 := congrArg Int32.toInt (eA_c (j := 3) (hF313.2.1 233 rfl))
    have f368 := congrArg Int32.toInt (hF313.1 231 8 rfl)
    have f369 := congrArg Int32.toInt (hF313.1 231 13 rfl)
    refine At.enter rfl ?_
    refine r_pop rfl ?_
    refine r_goto ?_
    exact K _ hI312 (show LwR _ from ⟨(congrArg Int32.toInt (((hF313.1 1 0 (by decide)).trans (hF251.1 1 0 (by decide))))).trans (hR_0.trans (eA_ti (j := 0) (((hF313.2.1 233 (by decide)).trans (hF251.2.1 233 (by decide))))).symm), (congrArg Int32.toInt (((hF313.1 1 12 (by decide)).trans (hF251.1 1 12 (by decide))))).trans (hR_1.trans (eA_ti (j := 4) (((hF313.2.1 233 (by decide)).trans (hF251.2.1 233 (by decide))))).symm), (congrArg Int32.toInt (((hF313.1 1 10 (by decide)).trans (hF251.1 1 10 (by decide))))).trans (hR_2.trans (eA_ti (j := 5) (((hF313.2.1 233 (by decide)).trans (hF251.2.1 233 (by decide))))).symm), (congrArg Int32.toInt (((hF313.1 1 11 (by decide)).trans (hF251.1 1 11 (by decide))))).trans (hR_3.trans (eA_ti (j := 6) (((hF313.2.1 233 (by decide)).trans (hF251.2.1 233 (by decide))))).symm), (congrArg Int32.toInt (((hF313.1 1 6 (by decide)).trans (hF251.1 1 6 (by decide))))).trans (hR_4.trans (eA_ti (j := 2) (((hF313.2.1 233 (by decide)).trans (hF251.2.1 233 (by decide))))).symm), (congrArg Int32.toInt (((hF313.1 1 9 (by decide)).trans (hF251.1 1 9 (by decide))))).trans (hR_5.trans (eA_ti (j := 3) (((hF313.2.1 233 (by decide)).trans (hF251.2.1 233 (by decide))))).symm), by first | (clear f264 f265 f266 f267 f268 f269 f284 f285 f286 f287 f288 f289 f290 f291 f292 f293 f294 f295 f296 f297 f298 f299 f300 f301 f302 f303 f305 f306 f307 f326 f327 f328 f329 f330 f331 f332 f333 f334 f335 f336 f337 f338 f339 f340 f341 f342 f343 f345 f346 f347 f348 f349 f350 f351 f352 f353 f368 f369; omega) | omega, by first | (clear f264 f265 f266 f267 f268 f269 f284 f285 f286 f287 f288 f289 f290 f291 f292 f293 f294 f295 f296 f297 f298 f299 f300 f301 f302 f303 f304 f306 f307 f326 f327 f328 f329 f330 f331 f332 f333 f334 f335 f336 f337 f338 f339 f340 f341 f342 f343 f344 f346 f347 f348 f349 f350 f351 f352 f353 f368 f369; omega) | omega, (congrArg Int32.toInt (((hF313.1 174 1 (by decide)).trans (hF251.1 174 1 (by decide))))).trans (hR_8.trans (congrArg Int32.toInt (((hF313.1 231 8 (by decide)).trans (hF251.1 231 8 (by decide))))).symm), (congrArg Int32.toInt (((hF313.1 176 2 (by decide)).trans (hF251.1 176 2 (by decide))))).trans (hR_9.trans (congrArg Int32.toInt (((hF313.1 231 13 (by decide)).trans (hF251.1 231 13 (by decide))))).symm), IM0.cong hR_10 (by first | (clear f264 f265 f266 f267 f268 f269 f284 f285 f286 f287 f288 f289 f290 f291 f292 f293 f294 f295 f296 f297 f298 f299 f300 f301 f302 f303 f304 f305 f306 f307 f326 f327 f328 f329 f330 f331 f332 f333 f334 f335 f336 f337 f338 f339 f340 f341 f342 f343 f345 f346 f347 f348 f349 f350 f351 f352 f353 f368 f369; omega) | omega) (by first | (clear f264 f265 f266 f267 f268 f269 f284 f285 f286 f287 f288 f289 f290 f291 f292 f293 f294 f295 f296 f297 f298 f299 f300 f301 f302 f303 f304 f305 f306 f307 f326 f327 f328 f329 f330 f331 f333 f334 f335 f336 f337 f338 f339 f340 f341 f342 f343 f344 f345 f346 f347 f348 f349 f350 f351 f352 f353 f368 f369; omega) | omega) (by first | (clear f264 f265 f266 f267 f268 f269 f284 f285 f286 f287 f288 f289 f290 f291 f293 f294 f295 f296 f297 f298 f299 f300 f301 f302 f303 f304 f305 f306 f307 f326 f327 f328 f329 f330 f331 f332 f333 f334 f335 f336 f337 f338 f339 f340 f341 f342 f343 f344 f345 f346 f347 f348 f349 f350 f351 f352 f353 f368 f369; omega) | omega) (by first | (clear f264 f265 f266 f267 f268 f269 f284 f285 f286 f287 f288 f289 f290 f291 f292 f293 f294 f295 f296 f297 f298 f299 f300 f301 f302 f303 f304 f305 f306 f307 f326 f327 f328 f329 f330 f331 f332 f334 f335 f336 f337 f338 f339 f340 f341 f342 f343 f344 f345 f346 f347 f348 f349 f350 f351 f352 f353 f368 f369; omega) | omega) (by first | (clear f264 f265 f266 f267 f268 f269 f284 f285 f286 f287 f288 f289 f290 f291 f292 f294 f295 f296 f297 f298 f299 f300 f301 f302 f303 f304 f305 f306 f307 f326 f327 f328 f329 f330 f331 f332 f333 f334 f335 f336 f337 f338 f339 f340 f341 f342 f343 f344 f345 f346 f347 f348 f349 f350 f351 f352 f353 f368 f369; omega) | omega) (by first | (clear f264 f265 f266 f267 f268 f269 f284 f285 f286 f287 f288 f289 f290 f291 f292 f293 f294 f295 f296 f297 f298 f299 f300 f301 f302 f303 f304 f305 f306 f307 f326 f327 f328 f329 f330 f331 f332 f333 f335 f336 f337 f338 f339 f340 f341 f342 f343 f344 f345 f346 f347 f348 f349 f350 f351 f352 f353 f368 f369; omega) | omega) (by first | (clear f264 f265 f266 f267 f268 f269 f284 f285 f286 f287 f288 f289 f290 f291 f292 f293 f295 f296 f297 f298 f299 f300 f301 f302 f303 f304 f305 f306 f307 f326 f327 f328 f329 f330 f331 f332 f333 f334 f335 f336 f337 f338 f339 f340 f341 f342 f343 f344 f345 f346 f347 f348 f349 f350 f351 f352 f353 f368 f369; omega) | omega) (by first | (clear f264 f265 f266 f267 f268 f269 f284 f285 f286 f287 f288 f289 f290 f291 f292 f293 f294 f295 f296 f297 f298 f299 f300 f301 f302 f303 f304 f305 f306 f307 f326 f327 f328 f329 f330 f331 f332 f333 f334 f336 f337 f338 f339 f340 f341 f342 f343 f344 f345 f346 f347 f348 f349 f350 f351 f352 f353 f368 f369; omega) | omega) (by first | (clear f264 f265 f266 f267 f268 f269 f284 f285 f286 f287 f288 f289 f290 f291 f292 f293 f294 f296 f297 f298 f299 f300 f301 f302 f303 f304 f305 f306 f307 f326 f327 f328 f329 f330 f331 f332 f333 f334 f335 f336 f337 f338 f339 f340 f341 f342 f343 f344 f345 f346 f347 f348 f349 f350 f351 f352 f353 f368 f369; omega) | omega) (by first | (clear f264 f265 f266 f267 f268 f269 f284 f285 f286 f287 f288 f289 f290 f291 f292 f293 f294 f295 f296 f297 f298 f299 f300 f301 f302 f303 f304 f305 f306 f307 f326 f327 f328 f329 f330 f331 f332 f333 f334 f335 f337 f338 f339 f340 f341 f342 f343 f344 f345 f346 f347 f348 f349 f350 f351 f352 f353 f368 f369; omega) | omega) (by first | (clear f264 f265 f266 f267 f268 f269 f284 f285 f286 f287 f288 f289 f290 f291 f292 f293 f294 f295 f297 f298 f299 f300 f301 f302 f303 f304 f305 f306 f307 f326 f327 f328 f329 f330 f331 f332 f333 f334 f335 f336 f337 f338 f339 f340 f341 f342 f343 f344 f345 f346 f347 f348 f349 f350 f351 f352 f353 f368 f369; omega) | omega) (by first | (clear f264 f265 f266 f267 f268 f269 f284 f285 f286 f287 f288 f289 f290 f291 f292 f293 f294 f295 f296 f297 f298 f299 f300 f301 f302 f303 f304 f305 f306 f307 f326 f327 f328 f329 f330 f331 f332 f333 f334 f335 f336 f338 f339 f340 f341 f342 f343 f344 f345 f346 f347 f348 f349 f350 f351 f352 f353 f368 f369; omega) | omega) (by first | (clear f264 f265 f266 f267 f268 f269 f284 f285 f286 f287 f288 f289 f290 f291 f292 f293 f294 f295 f296 f298 f299 f300 f301 f302 f303 f304 f305 f306 f307 f326 f327 f328 f329 f330 f331 f332 f333 f334 f335 f336 f337 f338 f339 f340 f341 f342 f343 f344 f345 f346 f347 f348 f349 f350 f351 f352 f353 f368 f369; omega) | omega), IM1.cong hR_11 (by first | (clear f264 f265 f266 f267 f268 f269 f284 f285 f286 f287 f288 f289 f290 f291 f292 f293 f294 f295 f296 f297 f298 f299 f300 f301 f302 f303 f304 f305 f306 f307 f326 f327 f328 f329 f330 f331 f332 f333 f334 f335 f336 f337 f338 f339 f340 f341 f342 f343 f344 f346 f347 f348 f349 f350 f351 f352 f353 f368 f369; omega) | omega) (by first | (clear f264 f265 f266 f267 f268 f269 f284 f285 f286 f287 f288 f289 f290 f291 f292 f293 f294 f295 f296 f297 f298 f299 f300 f301 f302 f303 f304 f305 f306 f307 f326 f327 f328 f329 f330 f331 f332 f333 f334 f335 f336 f337 f339 f340 f341 f342 f343 f344 f345 f346 f347 f348 f349 f350 f351 f352 f353 f368 f369; omega) | omega) (by first | (clear f264 f265 f266 f267 f268 f269 f284 f285 f286 f287 f288 f289 f290 f291 f292 f293 f294 f295 f296 f297 f299 f300 f301 f302 f303 f304 f305 f306 f307 f326 f327 f328 f329 f330 f331 f332 f333 f334 f335 f336 f337 f338 f339 f340 f341 f342 f343 f344 f345 f346 f347 f348 f349 f350 f351 f352 f353 f368 f369; omega) | omega) (by first | (clear f264 f265 f266 f267 f268 f269 f284 f285 f286 f287 f288 f289 f290 f291 f292 f293 f294 f295 f296 f297 f298 f299 f300 f301 f302 f303 f304 f305 f306 f307 f326 f327 f328 f329 f330 f331 f332 f333 f334 f335 f336 f337 f338 f340 f341 f342 f343 f344 f345 f346 f347 f348 f349 f350 f351 f352 f353 f368 f369; omega) | omega) (by first | (clear f264 f265 f266 f267 f268 f269 f284 f285 f286 f287 f288 f289 f290 f291 f292 f293 f294 f295 f296 f297 f298 f300 f301 f302 f303 f304 f305 f306 f307 f326 f327 f328 f329 f330 f331 f332 f333 f334 f335 f336 f337 f338 f339 f340 f341 f342 f343 f344 f345 f346 f347 f348 f349 f350 f351 f352 f353 f368 f369; omega) | omega) (by first | (clear f264 f265 f266 f267 f268 f269 f284 f285 f286 f287 f288 f289 f290 f291 f292 f293 f294 f295 f296 f297 f298 f299 f300 f301 f302 f303 f304 f305 f306 f307 f326 f327 f328 f329 f330 f331 f332 f333 f334 f335 f336 f337 f338 f339 f341 f342 f343 f344 f345 f346 f347 f348 f349 f350 f351 f352 f353 f368 f369; omega) | omega) (by first | (clear f264 f265 f266 f267 f268 f269 f284 f285 f286 f287 f288 f289 f290 f291 f292 f293 f294 f295 f296 f297 f298 f299 f301 f302 f303 f304 f305 f306 f307 f326 f327 f328 f329 f330 f331 f332 f333 f334 f335 f336 f337 f338 f339 f340 f341 f342 f343 f344 f345 f346 f347 f348 f349 f350 f351 f352 f353 f368 f369; omega) | omega) (by first | (clear f264 f265 f266 f267 f268 f269 f284 f285 f286 f287 f288 f289 f290 f291 f292 f293 f294 f295 f296 f297 f298 f299 f300 f301 f302 f303 f304 f305 f306 f307 f326 f327 f328 f329 f330 f331 f332 f333 f334 f335 f336 f337 f338 f339 f340 f342 f343 f344 f345 f346 f347 f348 f349 f350 f351 f352 f353 f368 f369; omega) | omega) (by first | (clear f264 f265 f266 f267 f268 f269 f284 f285 f286 f287 f288 f289 f290 f291 f292 f293 f294 f295 f296 f297 f298 f299 f300 f302 f303 f304 f305 f306 f307 f326 f327 f328 f329 f330 f331 f332 f333 f334 f335 f336 f337 f338 f339 f340 f341 f342 f343 f344 f345 f346 f347 f348 f349 f350 f351 f352 f353 f368 f369; omega) | omega) (by first | (clear f264 f265 f266 f267 f268 f269 f284 f285 f286 f287 f288 f289 f290 f291 f292 f293 f294 f295 f296 f297 f298 f299 f300 f301 f302 f303 f304 f305 f306 f307 f326 f327 f328 f329 f330 f331 f332 f333 f334 f335 f336 f337 f338 f339 f340 f341 f343 f344 f345 f346 f347 f348 f349 f350 f351 f352 f353 f368 f369; omega) | omega) (by first | (clear f264 f265 f266 f267 f268 f269 f284 f285 f286 f287 f288 f289 f290 f291 f292 f293 f294 f295 f296 f297 f298 f299 f300 f301 f303 f304 f305 f306 f307 f326 f327 f328 f329 f330 f331 f332 f333 f334 f335 f336 f337 f338 f339 f340 f341 f342 f343 f344 f345 f346 f347 f348 f349 f350 f351 f352 f353 f368 f369; omega) | omega) (by first | (clear f264 f265 f266 f267 f268 f269 f284 f285 f286 f287 f288 f289 f290 f291 f292 f293 f294 f295 f296 f297 f298 f299 f300 f301 f302 f303 f304 f305 f306 f307 f326 f327 f328 f329 f330 f331 f332 f333 f334 f335 f336 f337 f338 f339 f340 f341 f342 f344 f345 f346 f347 f348 f349 f350 f351 f352 f353 f368 f369; omega) | omega) (by first | (clear f264 f265 f266 f267 f268 f269 f284 f285 f286 f287 f288 f289 f290 f291 f292 f293 f294 f295 f296 f297 f298 f299 f300 f301 f302 f304 f305 f306 f307 f326 f327 f328 f329 f330 f331 f332 f333 f334 f335 f336 f337 f338 f339 f340 f341 f342 f343 f344 f345 f346 f347 f348 f349 f350 f351 f352 f353 f368 f369; omega) | omega), (show RT _ from fun i i0 i1 => (eA_ti (((hF313.2.1 175 (by decide)).trans (hF251.2.1 175 (by decide))))).trans ((hR_12 i i0 (by omega)).trans (eA_ti (((hF313.2.1 236 (by decide)).trans (hF251.2.1 236 (by decide))))).symm)), (show BYX _ from fun i i0 i1 => by rw [TX.c (((hF313.2.1 175 (by decide)).trans (hF251.2.1 175 (by decide))))]; exact hR_13 i i0 (by have i2 : i < (gI _ 174 1).toInt := i1; show i < (gI g0 174 1).toInt; omega))⟩)
