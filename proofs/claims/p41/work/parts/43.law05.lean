set_option maxRecDepth 100000 in
set_option maxHeartbeats 8000000 in
theorem lq_c5 (d : Nat) {N : Nat} {g0 : List en_E} (hI0 : HI g0) (hR0 : LwR g0) {ys : List Int32} {L : Nat} (hL : ys.length = L) (hL2 : L ≤ 3584) {l : en_L} {i : Int32} (e0 : en_get 0 l = some (.float 0)) (e1 : en_get 1 l = some (.ref 0)) (e2 : en_get 2 l = some (.ref 231)) (e3 : en_get 3 l = some (.int i)) (hi : 0 ≤ i.toInt ∧ i.toInt + 7 ≤ L) {Ph : Option Value → en_H → Prop} (K : ∀ g1 : List en_E, HI g1 → LwR g1 → At (d + 423) (some ys) (some .boolean) bs_L_law (1330, l, [], (g1, N)) Ph) : At (d + 423) (some ys) (some .boolean) bs_L_law (435, l, [], (g0, N)) Ph := by
  have hF0 : Fr F_law A_law g0 g0 := Fr.rf
  have hx_1 : -2147483648 ≤ i.toInt + 1 ∧ i.toInt + 1 ≤ 2147483647 := by omega
  have hx_2 : -2147483648 ≤ i.toInt + 2 ∧ i.toInt + 2 ≤ 2147483647 := by omega
  have hx_3 : -2147483648 ≤ i.toInt + 3 ∧ i.toInt + 3 ≤ 2147483647 := by omega
  have hx_4 : -2147483648 ≤ i.toInt + 4 ∧ i.toInt + 4 ≤ 2147483647 := by omega
  have hx_5 : -2147483648 ≤ i.toInt + 5 ∧ i.toInt + 5 ≤ 2147483647 := by omega
  have hx_6 : -2147483648 ≤ i.toInt + 6 ∧ i.toInt + 6 ≤ 2147483647 := by omega
  have hy_0 : 0 ≤ i.toInt ∧ i.toInt < (L : Int) := by omega
  have hy_1 : 0 ≤ i.toInt + 1 ∧ i.toInt + 1 < (L : Int) := by omega
  have hy_2 : 0 ≤ i.toInt + 2 ∧ i.toInt + 2 < (L : Int) := by omega
  have hy_3 : 0 ≤ i.toInt + 3 ∧ i.toInt + 3 < (L : Int) := by omega
  have hy_4 : 0 ≤ i.toInt + 4 ∧ i.toInt + 4 < (L : Int) := by omega
  have hy_5 : 0 ≤ i.toInt + 5 ∧ i.toInt + 5 < (L : Int) := by omega
  have hy_6 : 0 ≤ i.toInt + 6 ∧ i.toInt + 6 < (L : Int) := by omega
  unfold LwR at hR0
  obtain ⟨hR_0, hR_1, hR_2, hR_3, hR_4, hR_5, hR_6, hR_7, hR_8, hR_9, hR_10, hR_11, hR_12, hR_13, hR_14, hR_15, hR_16, hR_17, hR_18, hR_19⟩ := hR0
  refine At.enter rfl ?_
  refine r_aload_n e1 ?_
  refine r_sload_n e0 ?_
  refine r_iload_n e3 ?_
  refine r_iconst 1 rfl ?_
  refine q_iadd (i.toInt + 1) rfl hx_1 (fun v1 hv1 => ?_)
  refine q_scald (m := L) hL (i.toInt + 1) hv1 hy_1 (fun v2 hv2 => ?_)
  rcases cs2 (0 ≤ v2.toInt ∧ v2.toInt < (gI g0 1 4).toInt) with pk3 | pk3
  · refine r_callV 444 rfl [.ref 0, .int v2] [] (Nat.le_of_ble_eq_true rfl) rfl (T_X10_drop_0 _ hI0 v2) ?_
    rintro _ _ ⟨g4, rfl, hI5, hF6, v7, rfl, hr8⟩
    refine At.sti ?_
    have hF9 := Fr.tr hF0 hF6 rfl rfl
    have su10 := hr8.2.2
    obtain ⟨q11, q12, q13⟩ := (And.intro hr8.1 hr8.2.1)
    obtain ⟨i15, i16⟩ := q12
    have w14 := i16 pk3
    clear i15 i16
    have f17 := congrArg Int32.toInt (hF6.1 1 0 rfl)
    have f18 := congrArg Int32.toInt (hF6.1 1 12 rfl)
    have f19 := congrArg Int32.toInt (hF6.1 1 10 rfl)
    have f20 := congrArg Int32.toInt (hF6.1 1 11 rfl)
    have f22 := congrArg Int32.toInt (hF6.1 1 6 rfl)
    have f23 := congrArg Int32.toInt (hF6.1 1 9 rfl)
    have f24 := congrArg Int32.toInt (hF6.1 59 0 rfl)
    have f25 := congrArg Int32.toInt (hF6.1 59 12 rfl)
    have f26 := congrArg Int32.toInt (hF6.1 59 10 rfl)
    have f27 := congrArg Int32.toInt (hF6.1 59 11 rfl)
    have f28 := congrArg Int32.toInt (hF6.1 59 4 rfl)
    have f29 := congrArg Int32.toInt (hF6.1 59 6 rfl)
    have f30 := congrArg Int32.toInt (hF6.1 59 9 rfl)
    have f31 := congrArg Int32.toInt (hF6.1 116 0 rfl)
    have f32 := congrArg Int32.toInt (hF6.1 116 12 rfl)
    have f33 := congrArg Int32.toInt (hF6.1 116 10 rfl)
    have f34 := congrArg Int32.toInt (hF6.1 116 11 rfl)
    have f35 := congrArg Int32.toInt (hF6.1 116 4 rfl)
    have f36 := congrArg Int32.toInt (hF6.1 116 6 rfl)
    have f37 := congrArg Int32.toInt (hF6.1 116 9 rfl)
    have f38 := congrArg Int32.toInt (eA_c (j := 0) (hF6.2.1 173 rfl))
    have f39 := congrArg Int32.toInt (eA_c (j := 1) (hF6.2.1 173 rfl))
    have f40 := congrArg Int32.toInt (hF6.1 174 1 rfl)
    have f41 := congrArg Int32.toInt (hF6.1 0 16 rfl)
    have f42 := congrArg Int32.toInt (hF6.1 176 2 rfl)
    have f44 := congrArg Int32.toInt (eA_c (j := 0) (hF6.2.1 233 rfl))
    have f45 := congrArg Int32.toInt (eA_c (j := 4) (hF6.2.1 233 rfl))
    have f46 := congrArg Int32.toInt (eA_c (j := 5) (hF6.2.1 233 rfl))
    have f47 := congrArg Int32.toInt (eA_c (j := 6) (hF6.2.1 233 rfl))
    have f48 := congrArg Int32.toInt (eA_c (j := 1) (hF6.2.1 233 rfl))
    have f49 := congrArg Int32.toInt (eA_c (j := 2) (hF6.2.1 233 rfl))
    have f50 := congrArg Int32.toInt (eA_c (j := 3) (hF6.2.1 233 rfl))
    have f51 := congrArg Int32.toInt (eA_c (j := 0) (hF6.2.1 234 rfl))
    have f52 := congrArg Int32.toInt (eA_c (j := 4) (hF6.2.1 234 rfl))
    have f53 := congrArg Int32.toInt (eA_c (j := 5) (hF6.2.1 234 rfl))
    have f54 := congrArg Int32.toInt (eA_c (j := 6) (hF6.2.1 234 rfl))
    have f55 := congrArg Int32.toInt (eA_c (j := 1) (hF6.2.1 234 rfl))
    have f56 := congrArg Int32.toInt (eA_c (j := 2) (hF6.2.1 234 rfl))
    have f57 := congrArg Int32.toInt (eA_c (j := 3) (hF6.2.1 234 rfl))
    have f58 := congrArg Int32.toInt (eA_c (j := 5510) (hF6.2.1 234 rfl))
    have f59 := congrArg Int32.toInt (eA_c (j := 5514) (hF6.2.1 234 rfl))
    have f60 := congrArg Int32.toInt (eA_c (j := 5515) (hF6.2.1 234 rfl))
    have f61 := congrArg Int32.toInt (eA_c (j := 5516) (hF6.2.1 234 rfl))
    have f62 := congrArg Int32.toInt (eA_c (j := 5511) (hF6.2.1 234 rfl))
    have f63 := congrArg Int32.toInt (eA_c (j := 5512) (hF6.2.1 234 rfl))
    have f64 := congrArg Int32.toInt (eA_c (j := 5513) (hF6.2.1 234 rfl))
    have f65 := congrArg Int32.toInt (eA_c (j := 0) (hF6.2.1 235 rfl))
    have f66 := congrArg Int32.toInt (eA_c (j := 1) (hF6.2.1 235 rfl))
    have f67 := congrArg Int32.toInt (hF6.1 231 8 rfl)
    have f68 := congrArg Int32.toInt (hF6.1 231 6 rfl)
    have f69 := congrArg Int32.toInt (hF6.1 231 13 rfl)
    have f70 := congrArg Int32.toInt (hF6.1 231 1 rfl)
    refine At.enter rfl ?_
    refine r_pop rfl ?_
    refine r_aload_n e2 ?_
    refine r_sload_n e0 ?_
    refine r_iload_n e3 ?_
    refine r_iconst 1 rfl ?_
    refine q_iadd (i.toInt + 1) rfl hx_1 (fun v71 hv71 => ?_)
    refine q_scald (m := L) hL (i.toInt + 1) hv71 hy_1 (fun v72 hv72 => ?_)
    have sv72 := hv2.symm.trans hv72
    subst sv72
    refine r_callV 454 rfl [.ref 231, .int v2] [] (Nat.le_of_ble_eq_true rfl) rfl (T_X11_drop_231 _ hI5 v2) ?_
    rintro _ _ ⟨g73, rfl, hI74, hF75, v76, rfl, hr77⟩
    refine At.sti ?_
    have hF78 := Fr.tr hF9 hF75 rfl rfl
    have su79 := hr77.2.2
    obtain ⟨q80, q81, q82, q83, q84⟩ := (And.intro hr77.1 hr77.2.1)
    have ek94 : (eA g4 233 0).toInt = (gI g0 1 0).toInt := (eA_ti (j := 0) (hF6.2.1 233 (by decide))).trans hR_0.symm
    have ek95 : (eA g4 233 1).toInt = (gI g0 1 4).toInt := (eA_ti (j := 1) (hF6.2.1 233 (by decide))).trans hR_4.symm
    obtain ⟨i86, i87, sm88, sm89, sm90, sm91, sm92, sm93⟩ := q81
    have w85 := i87 (by rw [ek95]; exact pk3)
    clear i86 i87
    have f96 := congrArg Int32.toInt (hF75.1 1 0 rfl)
    have f97 := congrArg Int32.toInt (hF75.1 1 12 rfl)
    have f98 := congrArg Int32.toInt (hF75.1 1 10 rfl)
    have f99 := congrArg Int32.toInt (hF75.1 1 11 rfl)
    have f100 := congrArg Int32.toInt (hF75.1 1 4 rfl)
    have f101 := congrArg Int32.toInt (hF75.1 1 6 rfl)
    have f102 := congrArg Int32.toInt (hF75.1 1 9 rfl)
    have f103 := congrArg Int32.toInt (hF75.1 59 0 rfl)
    have f104 := congrArg Int32.toInt (hF75.1 59 12 rfl)
    have f105 := congrArg Int32.toInt (hF75.1 59 10 rfl)
    have f106 := congrArg Int32.toInt (hF75.1 59 11 rfl)
    have f107 := congrArg Int32.toInt (hF75.1 59 4 rfl)
    have f108 := congrArg Int32.toInt (hF75.1 59 6 rfl)
    have f109 := congrArg Int32.toInt (hF75.1 59 9 rfl)
    have f110 := congrArg Int32.toInt (hF75.1 116 0 rfl)
    have f111 := congrArg Int32.toInt (hF75.1 116 12 rfl)
    have f112 := congrArg Int32.toInt (hF75.1 116 10 rfl)
    have f113 := congrArg Int32.toInt (hF75.1 116 11 rfl)
    have f114 := congrArg Int32.toInt (hF75.1 116 4 rfl)
    have f115 := congrArg Int32.toInt (hF75.1 116 6 rfl)
    have f116 := congrArg Int32.toInt (hF75.1 116 9 rfl)
    have f117 := congrArg Int32.toInt (eA_c (j := 0) (hF75.2.1 173 rfl))
    have f118 := congrArg Int32.toInt (eA_c (j := 1) (hF75.2.1 173 rfl))
    have f119 := congrArg Int32.toInt (hF75.1 174 1 rfl)
    have f120 := congrArg Int32.toInt (hF75.1 0 16 rfl)
    have f121 := congrArg Int32.toInt (hF75.1 176 2 rfl)
    have f122 := congrArg Int32.toInt (hF75.1 0 17 rfl)
    have f130 := congrArg Int32.toInt (eA_c (j := 0) (hF75.2.1 234 rfl))
    have f131 := congrArg Int32.toInt (eA_c (j := 4) (hF75.2.1 234 rfl))
    have f132 := congrArg Int32.toInt (eA_c (j := 5) (hF75.2.1 234 rfl))
    have f133 := congrArg Int32.toInt (eA_c (j := 6) (hF75.2.1 234 rfl))
    have f134 := congrArg Int32.toInt (eA_c (j := 1) (hF75.2.1 234 rfl))
    have f135 := congrArg Int32.toInt (eA_c (j := 2) (hF75.2.1 234 rfl))
    have f136 := congrArg Int32.toInt (eA_c (j := 3) (hF75.2.1 234 rfl))
    have f137 := congrArg Int32.toInt (eA_c (j := 5510) (hF75.2.1 234 rfl))
    have f138 := congrArg Int32.toInt (eA_c (j := 5514) (hF75.2.1 234 rfl))
    have f139 := congrArg Int32.toInt (eA_c (j := 5515) (hF75.2.1 234 rfl))
    have f140 := congrArg Int32.toInt (eA_c (j := 5516) (hF75.2.1 234 rfl))
    have f141 := congrArg Int32.toInt (eA_c (j := 5511) (hF75.2.1 234 rfl))
    have f142 := congrArg Int32.toInt (eA_c (j := 5512) (hF75.2.1 234 rfl))
    have f143 := congrArg Int32.toInt (eA_c (j := 5513) (hF75.2.1 234 rfl))
    have f144 := congrArg Int32.toInt (eA_c (j := 0) (hF75.2.1 235 rfl))
    have f145 := congrArg Int32.toInt (eA_c (j := 1) (hF75.2.1 235 rfl))
    have f146 := congrArg Int32.toInt (hF75.1 231 8 rfl)
    have f147 := congrArg Int32.toInt (hF75.1 231 6 rfl)
    have f148 := congrArg Int32.toInt (hF75.1 231 13 rfl)
    refine At.enter rfl ?_
    refine r_pop rfl ?_
    refine r_goto ?_
    have zr : v7.toInt = v76.toInt := by
      apply Decidable.byContradiction
      intro hne
      exfalso
      omega
    have zsu := SU.eq su10 su79 zr
    exact K _ hI74 (show LwR _ from ⟨by first | (clear f18 f19 f20 f22 f23 f24 f25 f26 f27 f28 f29 f30 f31 f32 f33 f34 f35 f36 f37 f38 f39 f40 f41 f42 f45 f46 f47 f48 f49 f50 f51 f52 f53 f54 f55 f56 f57 f58 f59 f60 f61 f62 f63 f64 f65 f66 f67 f68 f69 f70 f97 f98 f99 f100 f101 f102 f103 f104 f105 f106 f107 f108 f109 f110 f111 f112 f113 f114 f115 f116 f117 f118 f119 f120 f121 f122 f130 f131 f132 f133 f134 f135 f136 f137 f138 f139 f140 f141 f142 f143 f144 f145 f146 f147 f148; omega) | omega, by first | (clear f17 f19 f20 f22 f23 f24 f25 f26 f27 f28 f29 f30 f31 f32 f33 f34 f35 f36 f37 f38 f39 f40 f41 f42 f44 f46 f47 f48 f49 f50 f51 f52 f53 f54 f55 f56 f57 f58 f59 f60 f61 f62 f63 f64 f65 f66 f67 f68 f69 f70 f96 f98 f99 f100 f101 f102 f103 f104 f105 f106 f107 f108 f109 f110 f111 f112 f113 f114 f115 f116 f117 f118 f119 f120 f121 f122 f130 f131 f132 f133 f134 f135 f136 f137 f138 f139 f140 f141 f142 f143 f144 f145 f146 f147 f148; omega) | omega, by first | (clear f17 f18 f20 f22 f23 f24 f25 f26 f27 f28 f29 f30 f31 f32 f33 f34 f35 f36 f37 f38 f39 f40 f41 f42 f44 f45 f47 f48 f49 f50 f51 f52 f53 f54 f55 f56 f57 f58 f59 f60 f61 f62 f63 f64 f65 f66 f67 f68 f69 f70 f96 f97 f99 f100 f101 f102 f103 f104 f105 f106 f107 f108 f109 f110 f111 f112 f113 f114 f115 f116 f117 f118 f119 f120 f121 f122 f130 f131 f132 f133 f134 f135 f136 f137 f138 f139 f140 f141 f142 f143 f144 f145 f146 f147 f148; omega) | omega, by first | (clear f17 f18 f19 f22 f23 f24 f25 f26 f27 f28 f29 f30 f31 f32 f33 f34 f35 f36 f37 f38 f39 f40 f41 f42 f44 f45 f46 f48 f49 f50 f51 f52 f53 f54 f55 f56 f57 f58 f59 f60 f61 f62 f63 f64 f65 f66 f67 f68 f69 f70 f96 f97 f98 f100 f101 f102 f103 f104 f105 f106 f107 f108 f109 f110 f111 f112 f113 f114 f115 f116 f117 f118 f119 f120 f121 f122 f130 f131 f132 f133 f134 f135 f136 f137 f138 f139 f140 f141 f142 f143 f144 f145 f146 f147 f148; omega) | omega, by first | (clear f17 f18 f19 f20 f22 f23 f24 f25 f26 f27 f28 f29 f30 f31 f32 f33 f34 f35 f36 f37 f38 f39 f40 f41 f42 f44 f45 f46 f47 f49 f50 f51 f52 f53 f54 f55 f56 f57 f58 f59 f60 f61 f62 f63 f64 f65 f66 f67 f68 f69 f70 f96 f97 f98 f99 f101 f102 f103 f104 f105 f106 f107 f108 f109 f110 f111 f112 f113 f114 f115 f116 f117 f118 f119 f120 f121 f122 f130 f131 f132 f133 f134 f135 f136 f137 f138 f139 f140 f141 f142 f143 f144 f145 f146 f147 f148; omega) | omega, by first | (clear f17 f18 f19 f20 f23 f24 f25 f26 f27 f28 f29 f30 f31 f32 f33 f34 f35 f36 f37 f38 f39 f40 f41 f42 f44 f45 f46 f47 f48 f50 f51 f52 f53 f54 f55 f56 f57 f58 f59 f60 f61 f62 f63 f64 f65 f66 f67 f68 f69 f70 f96 f97 f98 f99 f100 f102 f103 f104 f105 f106 f107 f108 f109 f110 f111 f112 f113 f114 f115 f116 f117 f118 f119 f120 f121 f122 f130 f131 f132 f133 f134 f135 f136 f137 f138 f139 f140 f141 f142 f143 f144 f145 f146 f147 f148; omega) | omega, by first | (clear f17 f18 f19 f20 f22 f24 f25 f26 f27 f28 f29 f30 f31 f32 f33 f34 f35 f36 f37 f38 f39 f40 f41 f42 f44 f45 f46 f47 f48 f49 f51 f52 f53 f54 f55 f56 f57 f58 f59 f60 f61 f62 f63 f64 f65 f66 f67 f68 f69 f70 f96 f97 f98 f99 f100 f101 f103 f104 f105 f106 f107 f108 f109 f110 f111 f112 f113 f114 f115 f116 f117 f118 f119 f120 f121 f122 f130 f131 f132 f133 f134 f135 f136 f137 f138 f139 f140 f141 f142 f143 f144 f145 f146 f147 f148; omega) | omega, (eA_ti (j := 0) (((hF75.2.1 173 (by decide)).trans (hF6.2.1 173 (by decide))))).trans (hR_7.trans (eA_ti (j := 0) (((hF75.2.1 235 (by decide)).trans (hF6.2.1 235 (by decide))))).symm), (eA_ti (j := 1) (((hF75.2.1 173 (by decide)).trans (hF6.2.1 173 (by decide))))).trans (hR_8.trans (eA_ti (j := 1) (((hF75.2.1 235 (by decide)).trans (hF6.2.1 235 (by decide))))).symm), (congrArg Int32.toInt (((hF75.1 174 1 (by decide)).trans (hF6.1 174 1 (by decide))))).trans (hR_9.trans (congrArg Int32.toInt (((hF75.1 231 8 (by decide)).trans (hF6.1 231 8 (by decide))))).symm), (congrArg Int32.toInt (((hF75.1 0 16 (by decide)).trans (hF6.1 0 16 (by decide))))).trans (hR_10.trans (congrArg Int32.toInt (((hF75.1 231 6 (by decide)).trans (hF6.1 231 6 (by decide))))).symm), (congrArg Int32.toInt (((hF75.1 176 2 (by decide)).trans (hF6.1 176 2 (by decide))))).trans (hR_11.trans (congrArg Int32.toInt (((hF75.1 231 13 (by decide)).trans (hF6.1 231 13 (by decide))))).symm), by first | (clear f17 f18 f19 f20 f22 f23 f24 f25 f26 f27 f28 f29 f30 f31 f32 f33 f34 f35 f36 f37 f38 f39 f40 f41 f42 f44 f45 f46 f47 f48 f49 f50 f51 f52 f53 f54 f55 f56 f57 f58 f59 f60 f61 f62 f63 f64 f65 f66 f67 f68 f69 f96 f97 f98 f99 f100 f101 f102 f103 f104 f105 f106 f107 f108 f109 f110 f111 f112 f113 f114 f115 f116 f117 f118 f119 f120 f121 f130 f131 f132 f133 f134 f135 f136 f137 f138 f139 f140 f141 f142 f143 f144 f145 f146 f147 f148; omega) | omega, IM0.cong hR_13 (eA_ti (j := 0) (((hF75.2.1 173 (by decide)).trans (hF6.2.1 173 (by decide))))) (congrArg Int32.toInt (((hF75.1 59 0 (by decide)).trans (hF6.1 59 0 (by decide))))) (eA_ti (j := 0) (((hF75.2.1 234 (by decide)).trans (hF6.2.1 234 (by decide))))) (congrArg Int32.toInt (((hF75.1 59 12 (by decide)).trans (hF6.1 59 12 (by decide))))) (eA_ti (j := 4) (((hF75.2.1 234 (by decide)).trans (hF6.2.1 234 (by decide))))) (congrArg Int32.toInt (((hF75.1 59 10 (by decide)).trans (hF6.1 59 10 (by decide))))) (eA_ti (j := 5) (((hF75.2.1 234 (by decide)).trans (hF6.2.1 234 (by decide))))) (congrArg Int32.toInt (((hF75.1 59 11 (by decide)).trans (hF6.1 59 11 (by decide))))) (eA_ti (j := 6) (((hF75.2.1 234 (by decide)).trans (hF6.2.1 234 (by decide))))) (congrArg Int32.toInt (((hF75.1 59 4 (by decide)).trans (hF6.1 59 4 (by decide))))) (eA_ti (j := 1) (((hF75.2.1 234 (by decide)).trans (hF6.2.1 234 (by decide))))) (congrArg Int32.toInt (((hF75.1 59 6 (by decide)).trans (hF6.1 59 6 (by decide))))) (eA_ti (j := 2) (((hF75.2.1 234 (by decide)).trans (hF6.2.1 234 (by decide))))) (congrArg Int32.toInt (((hF75.1 59 9 (by decide)).trans (hF6.1 59 9 (by decide))))) (eA_ti (j := 3) (((hF75.2.1 234 (by decide)).trans (hF6.2.1 234 (by decide))))), IM1.cong hR_14 (eA_ti (j := 1) (((hF75.2.1 173 (by decide)).trans (hF6.2.1 173 (by decide))))) (congrArg Int32.toInt (((hF75.1 116 0 (by decide)).trans (hF6.1 116 0 (by decide))))) (eA_ti (j := 5510) (((hF75.2.1 234 (by decide)).trans (hF6.2.1 234 (by decide))))) (congrArg Int32.toInt (((hF75.1 116 12 (by decide)).trans (hF6.1 116 12 (by decide))))) (eA_ti (j := 5514) (((hF75.2.1 234 (by decide)).trans (hF6.2.1 234 (by decide))))) (congrArg Int32.toInt (((hF75.1 116 10 (by decide)).trans (hF6.1 116 10 (by decide))))) (eA_ti (j := 5515) (((hF75.2.1 234 (by decide)).trans (hF6.2.1 234 (by decide))))) (congrArg Int32.toInt (((hF75.1 116 11 (by decide)).trans (hF6.1 116 11 (by decide))))) (eA_ti (j := 5516) (((hF75.2.1 234 (by decide)).trans (hF6.2.1 234 (by decide))))) (congrArg Int32.toInt (((hF75.1 116 4 (by decide)).trans (hF6.1 116 4 (by decide))))) (eA_ti (j := 5511) (((hF75.2.1 234 (by decide)).trans (hF6.2.1 234 (by decide))))) (congrArg Int32.toInt (((hF75.1 116 6 (by decide)).trans (hF6.1 116 6 (by decide))))) (eA_ti (j := 5512) (((hF75.2.1 234 (by decide)).trans (hF6.2.1 234 (by decide))))) (congrArg Int32.toInt (((hF75.1 116 9 (by decide)).trans (hF6.1 116 9 (by decide))))) (eA_ti (j := 5513) (((hF75.2.1 234 (by decide)).trans (hF6.2.1 234 (by decide))))), (show CT _ from ⟨fun i i0 i1 => ⟨(by first | (clear f24 f25 f26 f27 f28 f29 f30 f31 f32 f33 f34 f35 f36 f37 f40 f41 f42 f51 f52 f53 f54 f55 f56 f57 f58 f59 f60 f61 f62 f63 f64 f67 f68 f69 f70 f103 f104 f105 f106 f107 f108 f109 f110 f111 f112 f113 f114 f115 f116 f119 f120 f121 f122 f130 f131 f132 f133 f134 f135 f136 f137 f138 f139 f140 f141 f142 f143 f146 f147 f148; have t0_ := hI0.t0; have t1_ := hI0.t1; have o := (hR_15.1 i i0 i1).1; have x := eA_ti (j := i) (((hF75.2.1 2 (by decide)).trans (hF6.2.1 2 (by decide)))); have m := q82 (10 + 3 * i) (by omega) (by omega); have y1 := eA_ti (j := ((10 + 3 * i))) (hF6.2.1 233 (by decide)); first | exact x.trans (o.trans (m.trans y1).symm) | omega) | (have t0_ := hI0.t0; have t1_ := hI0.t1; have o := (hR_15.1 i i0 i1).1; have x := eA_ti (j := i) (((hF75.2.1 2 (by decide)).trans (hF6.2.1 2 (by decide)))); have m := q82 (10 + 3 * i) (by omega) (by omega); have y1 := eA_ti (j := ((10 + 3 * i))) (hF6.2.1 233 (by decide)); first | exact x.trans (o.trans (m.trans y1).symm) | omega)), (by first | (clear f24 f25 f26 f27 f28 f29 f30 f31 f32 f33 f34 f35 f36 f37 f40 f41 f42 f51 f52 f53 f54 f55 f56 f57 f58 f59 f60 f61 f62 f63 f64 f67 f68 f69 f70 f103 f104 f105 f106 f107 f108 f109 f110 f111 f112 f113 f114 f115 f116 f119 f120 f121 f122 f130 f131 f132 f133 f134 f135 f136 f137 f138 f139 f140 f141 f142 f143 f146 f147 f148; have t0_ := hI0.t0; have t1_ := hI0.t1; have o := (hR_15.1 i i0 i1).2.1; have x := eA_ti (j := i) (((hF75.2.1 3 (by decide)).trans (hF6.2.1 3 (by decide)))); have m := q82 (10 + 3 * i + 1) (by omega) (by omega); have y1 := eA_ti (j := ((10 + 3 * i + 1))) (hF6.2.1 233 (by decide)); first | exact x.trans (o.trans (m.trans y1).symm) | omega) | (have t0_ := hI0.t0; have t1_ := hI0.t1; have o := (hR_15.1 i i0 i1).2.1; have x := eA_ti (j := i) (((hF75.2.1 3 (by decide)).trans (hF6.2.1 3 (by decide)))); have m := q82 (10 + 3 * i + 1) (by omega) (by omega); have y1 := eA_ti (j := ((10 + 3 * i + 1))) (hF6.2.1 233 (by decide)); first | exact x.trans (o.trans (m.trans y1).symm) | omega)), (by first | (clear f24 f25 f26 f27 f28 f29 f30 f31 f32 f33 f34 f35 f36 f37 f40 f41 f42 f51 f52 f53 f54 f55 f56 f57 f58 f59 f60 f61 f62 f63 f64 f67 f68 f69 f70 f103 f104 f105 f106 f107 f108 f109 f110 f111 f112 f113 f114 f115 f116 f119 f120 f121 f122 f130 f131 f132 f133 f134 f135 f136 f137 f138 f139 f140 f141 f142 f143 f146 f147 f148; have t0_ := hI0.t0; have t1_ := hI0.t1; have o := (hR_15.1 i i0 i1).2.2; have x := eA_ti (j := i) (((hF75.2.1 4 (by decide)).trans (hF6.2.1 4 (by decide)))); have m := q82 (10 + 3 * i + 2) (by omega) (by omega); have y1 := eA_ti (j := ((10 + 3 * i + 2))) (hF6.2.1 233 (by decide)); first | exact x.trans (o.trans (m.trans y1).symm) | omega) | (have t0_ := hI0.t0; have t1_ := hI0.t1; have o := (hR_15.1 i i0 i1).2.2; have x := eA_ti (j := i) (((hF75.2.1 4 (by decide)).trans (hF6.2.1 4 (by decide)))); have m := q82 (10 + 3 * i + 2) (by omega) (by omega); have y1 := eA_ti (j := ((10 + 3 * i + 2))) (hF6.2.1 233 (by decide)); first | exact x.trans (o.trans (m.trans y1).symm) | omega))⟩, fun i i0 i1 => ⟨(by first | (clear f24 f25 f26 f27 f28 f29 f30 f31 f32 f33 f34 f35 f36 f37 f40 f41 f42 f51 f52 f53 f54 f55 f56 f57 f58 f59 f60 f61 f62 f63 f64 f67 f68 f69 f70 f103 f104 f105 f106 f107 f108 f109 f110 f111 f112 f113 f114 f115 f116 f119 f120 f121 f122 f130 f131 f132 f133 f134 f135 f136 f137 f138 f139 f140 f141 f142 f143 f146 f147 f148; have t0_ := hI0.t0; have t1_ := hI0.t1; have o := (hR_15.2.1 i i0 i1).1; have x := eA_ti (j := i) (((hF75.2.1 14 (by decide)).trans (hF6.2.1 14 (by decide)))); have m := q83 (94 + 2 * i) (by omega) (by omega); have y1 := eA_ti (j := ((94 + 2 * i))) (hF6.2.1 233 (by decide)); first | exact x.trans (o.trans (m.trans y1).symm) | omega) | (have t0_ := hI0.t0; have t1_ := hI0.t1; have o := (hR_15.2.1 i i0 i1).1; have x := eA_ti (j := i) (((hF75.2.1 14 (by decide)).trans (hF6.2.1 14 (by decide)))); have m := q83 (94 + 2 * i) (by omega) (by omega); have y1 := eA_ti (j := ((94 + 2 * i))) (hF6.2.1 233 (by decide)); first | exact x.trans (o.trans (m.trans y1).symm) | omega)), (by first | (clear f24 f25 f26 f27 f28 f29 f30 f31 f32 f33 f34 f35 f36 f37 f40 f41 f42 f51 f52 f53 f54 f55 f56 f57 f58 f59 f60 f61 f62 f63 f64 f67 f68 f69 f70 f103 f104 f105 f106 f107 f108 f109 f110 f111 f112 f113 f114 f115 f116 f119 f120 f121 f122 f130 f131 f132 f133 f134 f135 f136 f137 f138 f139 f140 f141 f142 f143 f146 f147 f148; have t0_ := hI0.t0; have t1_ := hI0.t1; have o := (hR_15.2.1 i i0 i1).2; have x := eA_ti (j := i) (((hF75.2.1 15 (by decide)).trans (hF6.2.1 15 (by decide)))); have m := q83 (94 + 2 * i + 1) (by omega) (by omega); have y1 := eA_ti (j := ((94 + 2 * i + 1))) (hF6.2.1 233 (by decide)); first | exact x.trans (o.trans (m.trans y1).symm) | omega) | (have t0_ := hI0.t0; have t1_ := hI0.t1; have o := (hR_15.2.1 i i0 i1).2; have x := eA_ti (j := i) (((hF75.2.1 15 (by decide)).trans (hF6.2.1 15 (by decide)))); have m := q83 (94 + 2 * i + 1) (by omega) (by omega); have y1 := eA_ti (j := ((94 + 2 * i + 1))) (hF6.2.1 233 (by decide)); first | exact x.trans (o.trans (m.trans y1).symm) | omega))⟩, fun i i0 i1 => (by first | (clear f24 f25 f26 f27 f28 f29 f30 f31 f32 f33 f34 f35 f36 f37 f40 f41 f42 f51 f52 f53 f54 f55 f56 f57 f58 f59 f60 f61 f62 f63 f64 f67 f68 f69 f70 f103 f104 f105 f106 f107 f108 f109 f110 f111 f112 f113 f114 f115 f116 f119 f120 f121 f122 f130 f131 f132 f133 f134 f135 f136 f137 f138 f139 f140 f141 f142 f143 f146 f147 f148; have t0_ := hI0.t0; have t1_ := hI0.t1; have o : i < 6 * (gI g0 1 4).toInt → _ := fun hz => hR_15.2.2 i i0 hz; have o6 : i + 6 < 6 * (gI g0 1 4).toInt → _ := fun hz => hR_15.2.2 (i + 6) (by omega) hz; have x6 := eA_ix (g := g0) (p := 233) (show 46 + i + 6 = 46 + (i + 6) from by omega); have kd : ¬ (0 ≤ v2.toInt ∧ v2.toInt < (gI g0 1 4).toInt) := pk3; have t9_ := RgF.at hI74.2.1 (p := 1) (b := 4) rfl; dsimp only at t9_; have i9_ : i < 48 := (by omega); have x := (eA_ti (j := i) (hF75.2.1 5 (by decide))).trans (q13 i i0 i9_); have m := q84 (46 + i) (by omega) (by omega); have y1 := eA_ti (j := ((46 + i) + 6)) (hF6.2.1 233 (by decide)); have y2 := eA_ti (j := ((46 + i))) (hF6.2.1 233 (by decide)); (try split at x) <;> (try split at m) <;> omega) | (have t0_ := hI0.t0; have t1_ := hI0.t1; have o : i < 6 * (gI g0 1 4).toInt → _ := fun hz => hR_15.2.2 i i0 hz; have o6 : i + 6 < 6 * (gI g0 1 4).toInt → _ := fun hz => hR_15.2.2 (i + 6) (by omega) hz; have x6 := eA_ix (g := g0) (p := 233) (show 46 + i + 6 = 46 + (i + 6) from by omega); have kd : ¬ (0 ≤ v2.toInt ∧ v2.toInt < (gI g0 1 4).toInt) := pk3; have t9_ := RgF.at hI74.2.1 (p := 1) (b := 4) rfl; dsimp only at t9_; have i9_ : i < 48 := (by omega); have x := (eA_ti (j := i) (hF75.2.1 5 (by decide))).trans (q13 i i0 i9_); have m := q84 (46 + i) (by omega) (by omega); have y1 := eA_ti (j := ((46 + i) + 6)) (hF6.2.1 233 (by decide)); have y2 := eA_ti (j := ((46 + i))) (hF6.2.1 233 (by decide)); (try split at x) <;> (try split at m) <;> omega))⟩), CI0.cong hR_16 (((hF75.2.1 60 (by decide)).trans (hF6.2.1 60 (by decide)))) (((hF75.2.1 61 (by decide)).trans (hF6.2.1 61 (by decide)))) (((hF75.2.1 62 (by decide)).trans (hF6.2.1 62 (by decide)))) (((hF75.2.1 72 (by decide)).trans (hF6.2.1 72 (by decide)))) (((hF75.2.1 73 (by decide)).trans (hF6.2.1 73 (by decide)))) (((hF75.2.1 63 (by decide)).trans (hF6.2.1 63 (by decide)))) (((hF75.2.1 234 (by decide)).trans (hF6.2.1 234 (by decide)))) (congrArg Int32.toInt (((hF75.1 59 4 (by decide)).trans (hF6.1 59 4 (by decide))))), CI1.cong hR_17 (((hF75.2.1 117 (by decide)).trans (hF6.2.1 117 (by decide)))) (((hF75.2.1 118 (by decide)).trans (hF6.2.1 118 (by decide)))) (((hF75.2.1 119 (by decide)).trans (hF6.2.1 119 (by decide)))) (((hF75.2.1 129 (by decide)).trans (hF6.2.1 129 (by decide)))) (((hF75.2.1 130 (by decide)).trans (hF6.2.1 130 (by decide)))) (((hF75.2.1 120 (by decide)).trans (hF6.2.1 120 (by decide)))) (((hF75.2.1 234 (by decide)).trans (hF6.2.1 234 (by decide)))) (congrArg Int32.toInt (((hF75.1 116 4 (by decide)).trans (hF6.1 116 4 (by decide))))), (show RT _ from fun i i0 i1 => (eA_ti (((hF75.2.1 175 (by decide)).trans (hF6.2.1 175 (by decide))))).trans ((hR_18 i i0 (by omega)).trans (eA_ti (((hF75.2.1 236 (by decide)).trans (hF6.2.1 236 (by decide))))).symm)), (show BYX _ from fun i i0 i1 => by rw [TX.c (((hF75.2.1 175 (by decide)).trans (hF6.2.1 175 (by decide))))]; exact hR_19 i i0 (by have i2 : i < (gI _ 174 1).toInt := i1; show i < (gI g0 174 1).toInt; omega))⟩)
  · refine r_callV 444 rfl [.ref 0, .int v2] [] (Nat.le_of_ble_eq_true rfl) rfl (T_X10_drop_0 _ hI0 v2) ?_
    rintro _ _ ⟨g150, rfl, hI151, hF152, v153, rfl, hr154⟩
    refine At.sti ?_
    have hF155 := Fr.tr hF0 hF152 rfl rfl
    have su156 := hr154.2.2
    obtain ⟨q157, q158, q159⟩ := (And.intro hr154.1 hr154.2.1)
    obtain ⟨i161, i162⟩ := q158
    have w160 := i161 pk3
    clear i161 i162
    have f163 := congrArg Int32.toInt (hF152.1 1 0 rfl)
    have f164 := congrArg Int32.toInt (hF152.1 1 12 rfl)
    have f165 := congrArg Int32.toInt (hF152.1 1 10 rfl)
    have f166 := congrArg Int32.toInt (hF152.1 1 11 rfl)
    have f168 := congrArg Int32.toInt (hF152.1 1 6 rfl)
    have f169 := congrArg Int32.toInt (hF152.1 1 9 rfl)
    have f170 := congrArg Int32.toInt (hF152.1 59 0 rfl)
    have f171 := congrArg Int32.toInt (hF152.1 59 12 rfl)
    have f172 := congrArg Int32.toInt (hF152.1 59 10 rfl)
    have f173 := congrArg Int32.toInt (hF152.1 59 11 rfl)
    have f174 := congrArg Int32.toInt (hF152.1 59 4 rfl)
    have f175 := congrArg Int32.toInt (hF152.1 59 6 rfl)
    have f176 := congrArg Int32.toInt (hF152.1 59 9 rfl)
    have f177 := congrArg Int32.toInt (hF152.1 116 0 rfl)
    have f178 := congrArg Int32.toInt (hF152.1 116 12 rfl)
    have f179 := congrArg Int32.toInt (hF152.1 116 10 rfl)
    have f180 := congrArg Int32.toInt (hF152.1 116 11 rfl)
    have f181 := congrArg Int32.toInt (hF152.1 116 4 rfl)
    have f182 := congrArg Int32.toInt (hF152.1 116 6 rfl)
    have f183 := congrArg Int32.toInt (hF152.1 116 9 rfl)
    have f184 := congrArg Int32.toInt (eA_c (j := 0) (hF152.2.1 173 rfl))
    have f185 := congrArg Int32.toInt (eA_c (j := 1) (hF152.2.1 173 rfl))
    have f186 := congrArg Int32.toInt (hF152.1 174 1 rfl)
    have f187 := congrArg Int32.toInt (hF152.1 0 16 rfl)
    have f188 := congrArg Int32.toInt (hF152.1 176 2 rfl)
    have f190 := congrArg Int32.toInt (eA_c (j := 0) (hF152.2.1 233 rfl))
    have f191 := congrArg Int32.toInt (eA_c (j := 4) (hF152.2.1 233 rfl))
    have f192 := congrArg Int32.toInt (eA_c (j := 5) (hF152.2.1 233 rfl))
    have f193 := congrArg Int32.toInt (eA_c (j := 6) (hF152.2.1 233 rfl))
    have f194 := congrArg Int32.toInt (eA_c (j := 1) (hF152.2.1 233 rfl))
    have f195 := congrArg Int32.toInt (eA_c (j := 2) (hF152.2.1 233 rfl))
    have f196 := congrArg Int32.toInt (eA_c (j := 3) (hF152.2.1 233 rfl))
    have f197 := congrArg Int32.toInt (eA_c (j := 0) (hF152.2.1 234 rfl))
    have f198 := congrArg Int32.toInt (eA_c (j := 4) (hF152.2.1 234 rfl))
    have f199 := congrArg Int32.toInt (eA_c (j := 5) (hF152.2.1 234 rfl))
    have f200 := congrArg Int32.toInt (eA_c (j := 6) (hF152.2.1 234 rfl))
    have f201 := congrArg Int32.toInt (eA_c (j := 1) (hF152.2.1 234 rfl))
    have f202 := congrArg Int32.toInt (eA_c (j := 2) (hF152.2.1 234 rfl))
    have f203 := congrArg Int32.toInt (eA_c (j := 3) (hF152.2.1 234 rfl))
    have f204 := congrArg Int32.toInt (eA_c (j := 5510) (hF152.2.1 234 rfl))
    have f205 := congrArg Int32.toInt (eA_c (j := 5514) (hF152.2.1 234 rfl))
    have f206 := congrArg Int32.toInt (eA_c (j := 5515) (hF152.2.1 234 rfl))
    have f207 := congrArg Int32.toInt (eA_c (j := 5516) (hF152.2.1 234 rfl))
    have f208 := congrArg Int32.toInt (eA_c (j := 5511) (hF152.2.1 234 rfl))
    have f209 := congrArg Int32.toInt (eA_c (j := 5512) (hF152.2.1 234 rfl))
    have f210 := congrArg Int32.toInt (eA_c (j := 5513) (hF152.2.1 234 rfl))
    have f211 := congrArg Int32.toInt (eA_c (j := 0) (hF152.2.1 235 rfl))
    have f212 := congrArg Int32.toInt (eA_c (j := 1) (hF152.2.1 235 rfl))
    have f213 := congrArg Int32.toInt (hF152.1 231 8 rfl)
    have f214 := congrArg Int32.toInt (hF152.1 231 6 rfl)
    have f215 := congrArg Int32.toInt (hF152.1 231 13 rfl)
    have f216 := congrArg Int32.toInt (hF152.1 231 1 rfl)
    refine At.enter rfl ?_
    refine r_pop rfl ?_
    refine r_aload_n e2 ?_
    refine r_sload_n e0 ?_
    refine r_iload_n e3 ?_
    refine r_iconst 1 rfl ?_
    refine q_iadd (i.toInt + 1) rfl hx_1 (fun v217 hv217 => ?_)
    refine q_scald (m := L) hL (i.toInt + 1) hv217 hy_1 (fun v218 hv218 => ?_)
    have sv218 := hv2.symm.trans hv218
    subst sv218
    refine r_callV 454 rfl [.ref 231, .int v2] [] (Nat.le_of_ble_eq_true rfl) rfl (T_X11_drop_231 _ hI151 v2) ?_
    rintro _ _ ⟨g219, rfl, hI220, hF221, v222, rfl, hr223⟩
    refine At.sti ?_
    have hF224 := Fr.tr hF155 hF221 rfl rfl
    have su225 := hr223.2.2
    obtain ⟨q226, q227, q228, q229, q230⟩ := (And.intro hr223.1 hr223.2.1)
    have ek240 : (eA g150 233 0).toInt = (gI g0 1 0).toInt := (eA_ti (j := 0) (hF152.2.1 233 (by decide))).trans hR_0.symm
    have ek241 : (eA g150 233 1).toInt = (gI g0 1 4).toInt := (eA_ti (j := 1) (hF152.2.1 233 (by decide))).trans hR_4.symm
    obtain ⟨i232, i233, sm234, sm235, sm236, sm237, sm238, sm239⟩ := q227
    have w231 := i232 (by rw [ek241]; exact pk3)
    clear i232 i233
    have f242 := congrArg Int32.toInt (hF221.1 1 0 rfl)
    have f243 := congrArg Int32.toInt (hF221.1 1 12 rfl)
    have f244 := congrArg Int32.toInt (hF221.1 1 10 rfl)
    have f245 := congrArg Int32.toInt (hF221.1 1 11 rfl)
    have f246 := congrArg Int32.toInt (hF221.1 1 4 rfl)
    have f247 := congrArg Int32.toInt (hF221.1 1 6 rfl)
    have f248 := congrArg Int32.toInt (hF221.1 1 9 rfl)
    have f249 := congrArg Int32.toInt (hF221.1 59 0 rfl)
    have f250 := congrArg Int32.toInt (hF221.1 59 12 rfl)
    have f251 := congrArg Int32.toInt (hF221.1 59 10 rfl)
    have f252 := congrArg Int32.toInt (hF221.1 59 11 rfl)
    have f253 := congrArg Int32.toInt (hF221.1 59 4 rfl)
    have f254 := congrArg Int32.toInt (hF221.1 59 6 rfl)
    have f255 := congrArg Int32.toInt (hF221.1 59 9 rfl)
    have f256 := congrArg Int32.toInt (hF221.1 116 0 rfl)
    have f257 := congrArg Int32.toInt (hF221.1 116 12 rfl)
    have f258 := congrArg Int32.toInt (hF221.1 116 10 rfl)
    have f259 := congrArg Int32.toInt (hF221.1 116 11 rfl)
    have f260 := congrArg Int32.toInt (hF221.1 116 4 rfl)
    have f261 := congrArg Int32.toInt (hF221.1 116 6 rfl)
    have f262 := congrArg Int32.toInt (hF221.1 116 9 rfl)
    have f263 := congrArg Int32.toInt (eA_c (j := 0) (hF221.2.1 173 rfl))
    have f264 := congrArg Int32.toInt (eA_c (j := 1) (hF221.2.1 173 rfl))
    have f265 := congrArg Int32.toInt (hF221.1 174 1 rfl)
    have f266 := congrArg Int32.toInt (hF221.1 0 16 rfl)
    have f267 := congrArg Int32.toInt (hF221.1 176 2 rfl)
    have f268 := congrArg Int32.toInt (hF221.1 0 17 rfl)
    have f276 := congrArg Int32.toInt (eA_c (j := 0) (hF221.2.1 234 rfl))
    have f277 := congrArg Int32.toInt (eA_c (j := 4) (hF221.2.1 234 rfl))
    have f278 := congrArg Int32.toInt (eA_c (j := 5) (hF221.2.1 234 rfl))
    have f279 := congrArg Int32.toInt (eA_c (j := 6) (hF221.2.1 234 rfl))
    have f280 := congrArg Int32.toInt (eA_c (j := 1) (hF221.2.1 234 rfl))
    have f281 := congrArg Int32.toInt (eA_c (j := 2) (hF221.2.1 234 rfl))
    have f282 := congrArg Int32.toInt (eA_c (j := 3) (hF221.2.1 234 rfl))
    have f283 := congrArg Int32.toInt (eA_c (j := 5510) (hF221.2.1 234 rfl))
    have f284 := congrArg Int32.toInt (eA_c (j := 5514) (hF221.2.1 234 rfl))
    have f285 := congrArg Int32.toInt (eA_c (j := 5515) (hF221.2.1 234 rfl))
    have f286 := congrArg Int32.toInt (eA_c (j := 5516) (hF221.2.1 234 rfl))
    have f287 := congrArg Int32.toInt (eA_c (j := 5511) (hF221.2.1 234 rfl))
    have f288 := congrArg Int32.toInt (eA_c (j := 5512) (hF221.2.1 234 rfl))
    have f289 := congrArg Int32.toInt (eA_c (j := 5513) (hF221.2.1 234 rfl))
    have f290 := congrArg Int32.toInt (eA_c (j := 0) (hF221.2.1 235 rfl))
    have f291 := congrArg Int32.toInt (eA_c (j := 1) (hF221.2.1 235 rfl))
    have f292 := congrArg Int32.toInt (hF221.1 231 8 rfl)
    have f293 := congrArg Int32.toInt (hF221.1 231 6 rfl)
    have f294 := congrArg Int32.toInt (hF221.1 231 13 rfl)
    refine At.enter rfl ?_
    refine r_pop rfl ?_
    refine r_goto ?_
    have zr : v153.toInt = v222.toInt := by
      apply Decidable.byContradiction
      intro hne
      exfalso
      omega
    have zsu := SU.eq su156 su225 zr
    exact K _ hI220 (show LwR _ from ⟨by first | (clear f164 f165 f166 f168 f169 f170 f171 f172 f173 f174 f175 f176 f177 f178 f179 f180 f181 f182 f183 f184 f185 f186 f187 f188 f191 f192 f193 f194 f195 f196 f197 f198 f199 f200 f201 f202 f203 f204 f205 f206 f207 f208 f209 f210 f211 f212 f213 f214 f215 f216 f243 f244 f245 f246 f247 f248 f249 f250 f251 f252 f253 f254 f255 f256 f257 f258 f259 f260 f261 f262 f263 f264 f265 f266 f267 f268 f276 f277 f278 f279 f280 f281 f282 f283 f284 f285 f286 f287 f288 f289 f290 f291 f292 f293 f294; omega) | omega, by first | (clear f163 f165 f166 f168 f169 f170 f171 f172 f173 f174 f175 f176 f177 f178 f179 f180 f181 f182 f183 f184 f185 f186 f187 f188 f190 f192 f193 f194 f195 f196 f197 f198 f199 f200 f201 f202 f203 f204 f205 f206 f207 f208 f209 f210 f211 f212 f213 f214 f215 f216 f242 f244 f245 f246 f247 f248 f249 f250 f251 f252 f253 f254 f255 f256 f257 f258 f259 f260 f261 f262 f263 f264 f265 f266 f267 f268 f276 f277 f278 f279 f280 f281 f282 f283 f284 f285 f286 f287 f288 f289 f290 f291 f292 f293 f294; omega) | omega, by first | (clear f163 f164 f166 f168 f169 f170 f171 f172 f173 f174 f175 f176 f177 f178 f179 f180 f181 f182 f183 f184 f185 f186 f187 f188 f190 f191 f193 f194 f195 f196 f197 f198 f199 f200 f201 f202 f203 f204 f205 f206 f207 f208 f209 f210 f211 f212 f213 f214 f215 f216 f242 f243 f245 f246 f247 f248 f249 f250 f251 f252 f253 f254 f255 f256 f257 f258 f259 f260 f261 f262 f263 f264 f265 f266 f267 f268 f276 f277 f278 f279 f280 f281 f282 f283 f284 f285 f286 f287 f288 f289 f290 f291 f292 f293 f294; omega) | omega, by first | (clear f163 f164 f165 f168 f169 f170 f171 f172 f173 f174 f175 f176 f177 f178 f179 f180 f181 f182 f183 f184 f185 f186 f187 f188 f190 f191 f192 f194 f195 f196 f197 f198 f199 f200 f201 f202 f203 f204 f205 f206 f207 f208 f209 f210 f211 f212 f213 f214 f215 f216 f242 f243 f244 f246 f247 f248 f249 f250 f251 f252 f253 f254 f255 f256 f257 f258 f259 f260 f261 f262 f263 f264 f265 f266 f267 f268 f276 f277 f278 f279 f280 f281 f282 f283 f284 f285 f286 f287 f288 f289 f290 f291 f292 f293 f294; omega) | omega, by first | (clear f163 f164 f165 f166 f168 f169 f170 f171 f172 f173 f174 f175 f176 f177 f178 f179 f180 f181 f182 f183 f184 f185 f186 f187 f188 f190 f191 f192 f193 f195 f196 f197 f198 f199 f200 f201 f202 f203 f204 f205 f206 f207 f208 f209 f210 f211 f212 f213 f214 f215 f216 f242 f243 f244 f245 f247 f248 f249 f250 f251 f252 f253 f254 f255 f256 f257 f258 f259 f260 f261 f262 f263 f264 f265 f266 f267 f268 f276 f277 f278 f279 f280 f281 f282 f283 f284 f285 f286 f287 f288 f289 f290 f291 f292 f293 f294; omega) | omega, by first | (clear f163 f164 f165 f166 f169 f170 f171 f172 f173 f174 f175 f176 f177 f178 f179 f180 f181 f182 f183 f184 f185 f186 f187 f188 f190 f191 f192 f193 f194 f196 f197 f198 f199 f200 f201 f202 f203 f204 f205 f206 f207 f208 f209 f210 f211 f212 f213 f214 f215 f216 f242 f243 f244 f245 f246 f248 f249 f250 f251 f252 f253 f254 f255 f256 f257 f258 f259 f260 f261 f262 f263 f264 f265 f266 f267 f268 f276 f277 f278 f279 f280 f281 f282 f283 f284 f285 f286 f287 f288 f289 f290 f291 f292 f293 f294; omega) | omega, by first | (clear f163 f164 f165 f166 f168 f170 f171 f172 f173 f174 f175 f176 f177 f178 f179 f180 f181 f182 f183 f184 f185 f186 f187 f188 f190 f191 f192 f193 f194 f195 f197 f198 f199 f200 f201 f202 f203 f204 f205 f206 f207 f208 f209 f210 f211 f212 f213 f214 f215 f216 f242 f243 f244 f245 f246 f247 f249 f250 f251 f252 f253 f254 f255 f256 f257 f258 f259 f260 f261 f262 f263 f264 f265 f266 f267 f268 f276 f277 f278 f279 f280 f281 f282 f283 f284 f285 f286 f287 f288 f289 f290 f291 f292 f293 f294; omega) | omega, (eA_ti (j := 0) (((hF221.2.1 173 (by decide)).trans (hF152.2.1 173 (by decide))))).trans (hR_7.trans (eA_ti (j := 0) (((hF221.2.1 235 (by decide)).trans (hF152.2.1 235 (by decide))))).symm), (eA_ti (j := 1) (((hF221.2.1 173 (by decide)).trans (hF152.2.1 173 (by decide))))).trans (hR_8.trans (eA_ti (j := 1) (((hF221.2.1 235 (by decide)).trans (hF152.2.1 235 (by decide))))).symm), (congrArg Int32.toInt (((hF221.1 174 1 (by decide)).trans (hF152.1 174 1 (by decide))))).trans (hR_9.trans (congrArg Int32.toInt (((hF221.1 231 8 (by decide)).trans (hF152.1 231 8 (by decide))))).symm), (congrArg Int32.toInt (((hF221.1 0 16 (by decide)).trans (hF152.1 0 16 (by decide))))).trans (hR_10.trans (congrArg Int32.toInt (((hF221.1 231 6 (by decide)).trans (hF152.1 231 6 (by decide))))).symm), (congrArg Int32.toInt (((hF221.1 176 2 (by decide)).trans (hF152.1 176 2 (by decide))))).trans (hR_11.trans (congrArg Int32.toInt (((hF221.1 231 13 (by decide)).trans (hF152.1 231 13 (by decide))))).symm), by first | (clear f163 f164 f165 f166 f168 f169 f170 f171 f172 f173 f174 f175 f176 f177 f178 f179 f180 f181 f182 f183 f184 f185 f186 f187 f188 f190 f191 f192 f193 f194 f195 f196 f197 f198 f199 f200 f201 f202 f203 f204 f205 f206 f207 f208 f209 f210 f211 f212 f213 f214 f215 f242 f243 f244 f245 f246 f247 f248 f249 f250 f251 f252 f253 f254 f255 f256 f257 f258 f259 f260 f261 f262 f263 f264 f265 f266 f267 f276 f277 f278 f279 f280 f281 f282 f283 f284 f285 f286 f287 f288 f289 f290 f291 f292 f293 f294; omega) | omega, IM0.cong hR_13 (eA_ti (j := 0) (((hF221.2.1 173 (by decide)).trans (hF152.2.1 173 (by decide))))) (congrArg Int32.toInt (((hF221.1 59 0 (by decide)).trans (hF152.1 59 0 (by decide))))) (eA_ti (j := 0) (((hF221.2.1 234 (by decide)).trans (hF152.2.1 234 (by decide))))) (congrArg Int32.toInt (((hF221.1 59 12 (by decide)).trans (hF152.1 59 12 (by decide))))) (eA_ti (j := 4) (((hF221.2.1 234 (by decide)).trans (hF152.2.1 234 (by decide))))) (congrArg Int32.toInt (((hF221.1 59 10 (by decide)).trans (hF152.1 59 10 (by decide))))) (eA_ti (j := 5) (((hF221.2.1 234 (by decide)).trans (hF152.2.1 234 (by decide))))) (congrArg Int32.toInt (((hF221.1 59 11 (by decide)).trans (hF152.1 59 11 (by decide))))) (eA_ti (j := 6) (((hF221.2.1 234 (by decide)).trans (hF152.2.1 234 (by decide))))) (congrArg Int32.toInt (((hF221.1 59 4 (by decide)).trans (hF152.1 59 4 (by decide))))) (eA_ti (j := 1) (((hF221.2.1 234 (by decide)).trans (hF152.2.1 234 (by decide))))) (congrArg Int32.toInt (((hF221.1 59 6 (by decide)).trans (hF152.1 59 6 (by decide))))) (eA_ti (j := 2) (((hF221.2.1 234 (by decide)).trans (hF152.2.1 234 (by decide))))) (congrArg Int32.toInt (((hF221.1 59 9 (by decide)).trans (hF152.1 59 9 (by decide))))) (eA_ti (j := 3) (((hF221.2.1 234 (by decide)).trans (hF152.2.1 234 (by decide))))), IM1.cong hR_14 (eA_ti (j := 1) (((hF221.2.1 173 (by decide)).trans (hF152.2.1 173 (by decide))))) (congrArg Int32.toInt (((hF221.1 116 0 (by decide)).trans (hF152.1 116 0 (by decide))))) (eA_ti (j := 5510) (((hF221.2.1 234 (by decide)).trans (hF152.2.1 234 (by decide))))) (congrArg Int32.toInt (((hF221.1 116 12 (by decide)).trans (hF152.1 116 12 (by decide))))) (eA_ti (j := 5514) (((hF221.2.1 234 (by decide)).trans (hF152.2.1 234 (by decide))))) (congrArg Int32.toInt (((hF221.1 116 10 (by decide)).trans (hF152.1 116 10 (by decide))))) (eA_ti (j := 5515) (((hF221.2.1 234 (by decide)).trans (hF152.2.1 234 (by decide))))) (congrArg Int32.toInt (((hF221.1 116 11 (by decide)).trans (hF152.1 116 11 (by decide))))) (eA_ti (j := 5516) (((hF221.2.1 234 (by decide)).trans (hF152.2.1 234 (by decide))))) (congrArg Int32.toInt (((hF221.1 116 4 (by decide)).trans (hF152.1 116 4 (by decide))))) (eA_ti (j := 5511) (((hF221.2.1 234 (by decide)).trans (hF152.2.1 234 (by decide))))) (congrArg Int32.toInt (((hF221.1 116 6 (by decide)).trans (hF152.1 116 6 (by decide))))) (eA_ti (j := 5512) (((hF221.2.1 234 (by decide)).trans (hF152.2.1 234 (by decide))))) (congrArg Int32.toInt (((hF221.1 116 9 (by decide)).trans (hF152.1 116 9 (by decide))))) (eA_ti (j := 5513) (((hF221.2.1 234 (by decide)).trans (hF152.2.1 234 (by decide))))), (show CT _ from ⟨fun i i0 i1 => ⟨(by first | (clear f170 f171 f172 f173 f174 f175 f176 f177 f178 f179 f180 f181 f182 f183 f186 f187 f188 f197 f198 f199 f200 f201 f202 f203 f204 f205 f206 f207 f208 f209 f210 f213 f214 f215 f216 f249 f250 f251 f252 f253 f254 f255 f256 f257 f258 f259 f260 f261 f262 f265 f266 f267 f268 f276 f277 f278 f279 f280 f281 f282 f283 f284 f285 f286 f287 f288 f289 f292 f293 f294; have t0_ := hI0.t0; have t1_ := hI0.t1; have o := (hR_15.1 i i0 i1).1; have x := eA_ti (j := i) (((hF221.2.1 2 (by decide)).trans (hF152.2.1 2 (by decide)))); have m := q228 (10 + 3 * i) (by omega) (by omega); have y1 := eA_ti (j := ((10 + 3 * i))) (hF152.2.1 233 (by decide)); first | exact x.trans (o.trans (m.trans y1).symm) | omega) | (have t0_ := hI0.t0; have t1_ := hI0.t1; have o := (hR_15.1 i i0 i1).1; have x := eA_ti (j := i) (((hF221.2.1 2 (by decide)).trans (hF152.2.1 2 (by decide)))); have m := q228 (10 + 3 * i) (by omega) (by omega); have y1 := eA_ti (j := ((10 + 3 * i))) (hF152.2.1 233 (by decide)); first | exact x.trans (o.trans (m.trans y1).symm) | omega)), (by first | (clear f170 f171 f172 f173 f174 f175 f176 f177 f178 f179 f180 f181 f182 f183 f186 f187 f188 f197 f198 f199 f200 f201 f202 f203 f204 f205 f206 f207 f208 f209 f210 f213 f214 f215 f216 f249 f250 f251 f252 f253 f254 f255 f256 f257 f258 f259 f260 f261 f262 f265 f266 f267 f268 f276 f277 f278 f279 f280 f281 f282 f283 f284 f285 f286 f287 f288 f289 f292 f293 f294; have t0_ := hI0.t0; have t1_ := hI0.t1; have o := (hR_15.1 i i0 i1).2.1; have x := eA_ti (j := i) (((hF221.2.1 3 (by decide)).trans (hF152.2.1 3 (by decide)))); have m := q228 (10 + 3 * i + 1) (by omega) (by omega); have y1 := eA_ti (j := ((10 + 3 * i + 1))) (hF152.2.1 233 (by decide)); first | exact x.trans (o.trans (m.trans y1).symm) | omega) | (have t0_ := hI0.t0; have t1_ := hI0.t1; have o := (hR_15.1 i i0 i1).2.1; have x := eA_ti (j := i) (((hF221.2.1 3 (by decide)).trans (hF152.2.1 3 (by decide)))); have m := q228 (10 + 3 * i + 1) (by omega) (by omega); have y1 := eA_ti (j := ((10 + 3 * i + 1))) (hF152.2.1 233 (by decide)); first | exact x.trans (o.trans (m.trans y1).symm) | omega)), (by first | (clear f170 f171 f172 f173 f174 f175 f176 f177 f178 f179 f180 f181 f182 f183 f186 f187 f188 f197 f198 f199 f200 f201 f202 f203 f204 f205 f206 f207 f208 f209 f210 f213 f214 f215 f216 f249 f250 f251 f252 f253 f254 f255 f256 f257 f258 f259 f260 f261 f262 f265 f266 f267 f268 f276 f277 f278 f279 f280 f281 f282 f283 f284 f285 f286 f287 f288 f289 f292 f293 f294; have t0_ := hI0.t0; have t1_ := hI0.t1; have o := (hR_15.1 i i0 i1).2.2; have x := eA_ti (j := i) (((hF221.2.1 4 (by decide)).trans (hF152.2.1 4 (by decide)))); have m := q228 (10 + 3 * i + 2) (by omega) (by omega); have y1 := eA_ti (j := ((10 + 3 * i + 2))) (hF152.2.1 233 (by decide)); first | exact x.trans (o.trans (m.trans y1).symm) | omega) | (have t0_ := hI0.t0; have t1_ := hI0.t1; have o := (hR_15.1 i i0 i1).2.2; have x := eA_ti (j := i) (((hF221.2.1 4 (by decide)).trans (hF152.2.1 4 (by decide)))); have m := q228 (10 + 3 * i + 2) (by omega) (by omega); have y1 := eA_ti (j := ((10 + 3 * i + 2))) (hF152.2.1 233 (by decide)); first | exact x.trans (o.trans (m.trans y1).symm) | omega))⟩, fun i i0 i1 => ⟨(by first | (clear f170 f171 f172 f173 f174 f175 f176 f177 f178 f179 f180 f181 f182 f183 f186 f187 f188 f197 f198 f199 f200 f201 f202 f203 f204 f205 f206 f207 f208 f209 f210 f213 f214 f215 f216 f249 f250 f251 f252 f253 f254 f255 f256 f257 f258 f259 f260 f261 f262 f265 f266 f267 f268 f276 f277 f278 f279 f280 f281 f282 f283 f284 f285 f286 f287 f288 f289 f292 f293 f294; have t0_ := hI0.t0; have t1_ := hI0.t1; have o := (hR_15.2.1 i i0 i1).1; have x := eA_ti (j := i) (((hF221.2.1 14 (by decide)).trans (hF152.2.1 14 (by decide)))); have m := q229 (94 + 2 * i) (by omega) (by omega); have y1 := eA_ti (j := ((94 + 2 * i))) (hF152.2.1 233 (by decide)); first | exact x.trans (o.trans (m.trans y1).symm) | omega) | (have t0_ := hI0.t0; have t1_ := hI0.t1; have o := (hR_15.2.1 i i0 i1).1; have x := eA_ti (j := i) (((hF221.2.1 14 (by decide)).trans (hF152.2.1 14 (by decide)))); have m := q229 (94 + 2 * i) (by omega) (by omega); have y1 := eA_ti (j := ((94 + 2 * i))) (hF152.2.1 233 (by decide)); first | exact x.trans (o.trans (m.trans y1).symm) | omega)), (by first | (clear f170 f171 f172 f173 f174 f175 f176 f177 f178 f179 f180 f181 f182 f183 f186 f187 f188 f197 f198 f199 f200 f201 f202 f203 f204 f205 f206 f207 f208 f209 f210 f213 f214 f215 f216 f249 f250 f251 f252 f253 f254 f255 f256 f257 f258 f259 f260 f261 f262 f265 f266 f267 f268 f276 f277 f278 f279 f280 f281 f282 f283 f284 f285 f286 f287 f288 f289 f292 f293 f294; have t0_ := hI0.t0; have t1_ := hI0.t1; have o := (hR_15.2.1 i i0 i1).2; have x := eA_ti (j := i) (((hF221.2.1 15 (by decide)).trans (hF152.2.1 15 (by decide)))); have m := q229 (94 + 2 * i + 1) (by omega) (by omega); have y1 := eA_ti (j := ((94 + 2 * i + 1))) (hF152.2.1 233 (by decide)); first | exact x.trans (o.trans (m.trans y1).symm) | omega) | (have t0_ := hI0.t0; have t1_ := hI0.t1; have o := (hR_15.2.1 i i0 i1).2; have x := eA_ti (j := i) (((hF221.2.1 15 (by decide)).trans (hF152.2.1 15 (by decide)))); have m := q229 (94 + 2 * i + 1) (by omega) (by omega); have y1 := eA_ti (j := ((94 + 2 * i + 1))) (hF152.2.1 233 (by decide)); first | exact x.trans (o.trans (m.trans y1).symm) | omega))⟩, fun i i0 i1 => (by first | (clear f170 f171 f172 f173 f174 f175 f176 f177 f178 f179 f180 f181 f182 f183 f186 f187 f188 f197 f198 f199 f200 f201 f202 f203 f204 f205 f206 f207 f208 f209 f210 f213 f214 f215 f216 f249 f250 f251 f252 f253 f254 f255 f256 f257 f258 f259 f260 f261 f262 f265 f266 f267 f268 f276 f277 f278 f279 f280 f281 f282 f283 f284 f285 f286 f287 f288 f289 f292 f293 f294; have t0_ := hI0.t0; have t1_ := hI0.t1; have o : i < 6 * (gI g0 1 4).toInt → _ := fun hz => hR_15.2.2 i i0 hz; have o6 : i + 6 < 6 * (gI g0 1 4).toInt → _ := fun hz => hR_15.2.2 (i + 6) (by omega) hz; have x6 := eA_ix (g := g0) (p := 233) (show 46 + i + 6 = 46 + (i + 6) from by omega); have kd : (0 ≤ v2.toInt ∧ v2.toInt < (gI g0 1 4).toInt) := pk3; have t9_ := RgF.at hI220.2.1 (p := 1) (b := 4) rfl; dsimp only at t9_; have i9_ : i < 48 := (by omega); have x := (eA_ti (j := i) (hF221.2.1 5 (by decide))).trans (q159 i i0 i9_); have m := q230 (46 + i) (by omega) (by omega); have y1 := eA_ti (j := ((46 + i) + 6)) (hF152.2.1 233 (by decide)); have y2 := eA_ti (j := ((46 + i))) (hF152.2.1 233 (by decide)); (try split at x) <;> (try split at m) <;> omega) | (have t0_ := hI0.t0; have t1_ := hI0.t1; have o : i < 6 * (gI g0 1 4).toInt → _ := fun hz => hR_15.2.2 i i0 hz; have o6 : i + 6 < 6 * (gI g0 1 4).toInt → _ := fun hz => hR_15.2.2 (i + 6) (by omega) hz; have x6 := eA_ix (g := g0) (p := 233) (show 46 + i + 6 = 46 + (i + 6) from by omega); have kd : (0 ≤ v2.toInt ∧ v2.toInt < (gI g0 1 4).toInt) := pk3; have t9_ := RgF.at hI220.2.1 (p := 1) (b := 4) rfl; dsimp only at t9_; have i9_ : i < 48 := (by omega); have x := (eA_ti (j := i) (hF221.2.1 5 (by decide))).trans (q159 i i0 i9_); have m := q230 (46 + i) (by omega) (by omega); have y1 := eA_ti (j := ((46 + i) + 6)) (hF152.2.1 233 (by decide)); have y2 := eA_ti (j := ((46 + i))) (hF152.2.1 233 (by decide)); (try split at x) <;> (try split at m) <;> omega))⟩), CI0.cong hR_16 (((hF221.2.1 60 (by decide)).trans (hF152.2.1 60 (by decide)))) (((hF221.2.1 61 (by decide)).trans (hF152.2.1 61 (by decide)))) (((hF221.2.1 62 (by decide)).trans (hF152.2.1 62 (by decide)))) (((hF221.2.1 72 (by decide)).trans (hF152.2.1 72 (by decide)))) (((hF221.2.1 73 (by decide)).trans (hF152.2.1 73 (by decide)))) (((hF221.2.1 63 (by decide)).trans (hF152.2.1 63 (by decide)))) (((hF221.2.1 234 (by decide)).trans (hF152.2.1 234 (by decide)))) (congrArg Int32.toInt (((hF221.1 59 4 (by decide)).trans (hF152.1 59 4 (by decide))))), CI1.cong hR_17 (((hF221.2.1 117 (by decide)).trans (hF152.2.1 117 (by decide)))) (((hF221.2.1 118 (by decide)).trans (hF152.2.1 118 (by decide)))) (((hF221.2.1 119 (by decide)).trans (hF152.2.1 119 (by decide)))) (((hF221.2.1 129 (by decide)).trans (hF152.2.1 129 (by decide)))) (((hF221.2.1 130 (by decide)).trans (hF152.2.1 130 (by decide)))) (((hF221.2.1 120 (by decide)).trans (hF152.2.1 120 (by decide)))) (((hF221.2.1 234 (by decide)).trans (hF152.2.1 234 (by decide)))) (congrArg Int32.toInt (((hF221.1 116 4 (by decide)).trans (hF152.1 116 4 (by decide))))), (show RT _ from fun i i0 i1 => (eA_ti (((hF221.2.1 175 (by decide)).trans (hF152.2.1 175 (by decide))))).trans ((hR_18 i i0 (by omega)).trans (eA_ti (((hF221.2.1 236 (by decide)).trans (hF152.2.1 236 (by decide))))).symm)), (show BYX _ from fun i i0 i1 => by rw [TX.c (((hF221.2.1 175 (by decide)).trans (hF152.2.1 175 (by decide))))]; exact hR_19 i i0 (by have i2 : i < (gI _ 174 1).toInt := i1; show i < (gI g0 174 1).toInt; omega))⟩)
